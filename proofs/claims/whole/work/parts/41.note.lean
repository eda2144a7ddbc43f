/-! the class: a state, a note as they are made, and the acts on a note -/
theorem zf_01 {x : Int32} (h : x = 0 ∨ x = 1) : fits .boolean (.int x) = true := by rcases h with h | h <;> rw [h] <;> rfl
set_option maxHeartbeats 4000000 in
set_option maxRecDepth 100000 in
theorem k_T_init_n (l : Launch) (G : va_G) (tys : List (ClassId × FieldType)) (w : Nat → Option va_E) {a : Nat} (ha : w a = some (.inr (5, [.int 0, .int 0, .int 0, .null]))) (f v z : Int32) (hz : z = 0 ∨ z = 1) (sz : Nat) : Met l y_T_init (wm y_T_init c_T_init 5 none) ({ frames := 1, cells := 0, slots := 0, locals := 12 }) (pZ G tys w sz [.ref a, .int f, .int v, .int z, .null]) (va_Qv (fun (u : Unit) => True) (fun _ t => mw G ncl (mA w sz) (va_up w a (some (.inr (5, [.int f, .int v, .int z, .null])))) t.heap ∧ va_K G ncl tys t) (mA w sz)) 0 0 (mA w sz) := by
  refine Met.ofW (cc := c_T_init) (maxL := 5) (ret := none) (by decide) rfl ?_
  intro p e s m args below meth c s₁ B hml hv
  obtain ⟨rfl, hsz, hM0, hK⟩ := hv
  have hx := B.exec
  have hb := B.bytes
  have hr := B.returns
  have hts := atoms_spec (ws := (wm y_T_init c_T_init 5 none)) B.pre
  have hta : ∀ w ∈ AL, w.before _ s = true := fun w h => hts w (List.mem_cons_of_mem _ h)
  have hown : s.vm.findClass nR_T = some m.cls := findClass_of_methodNamed B.named
  have hlocks := B.notSynchronized
  have hl := lv_entry ([.ref a, .int f, .int v, .int z, .null]) (n := 5) (Nat.le_of_ble_eq_true rfl)
  rw [lg_entry_eq]
  generalize (lg_sl ([.ref a, .int f, .int v, .int z, .null]) ++ List.replicate (5 - (lg_sl ([.ref a, .int f, .int v, .int z, .null])).length) Slot.unset).toArray = ls at hl ⊢
  have hl : lv_has ls 5 [(0, .ref a), (1, .int f), (2, .int v), (3, .int z), (4, .null)] := hl
  subst hsz
  have hM := mw_self (sz := s.heap.size) hM0
  clear hM0
  generalize hAe : mA w s.heap.size = A at hM ⊢
  have hA : ∀ q : Nat, s.heap.size ≤ q → A q := fun q h => by rw [← hAe]; exact Or.inr h
  have hS : va_S A s.heap s.heap [] := va_S.rf
  have hin : meth.name = "<init>" := (name_of_methodNamed B.named B.method).1
  refine lv_aload_n hx hb d_T_init_0 rfl (lv_at hl 0 rfl) ?_
  refine W.objInit hx hb hown (hta _ aw_250) (hta _ aw_22) (hta _ aw_23) rfl (by rw [hml]; exact hl.1) rfl d_T_init_1 (Nat.le_of_ble_eq_true rfl) (Nat.le_of_ble_eq_true rfl) ?_
  refine lv_aload_n hx hb d_T_init_4 rfl (lv_at hl 0 rfl) ?_
  refine lv_iload_n hx hb d_T_init_5 rfl (lv_at hl 1 rfl) ?_
  refine m_putF (D := G) (ci := 5) (v := .int f) (ty := .int) (C := nR_T) (T := nT_T) (N := 4) hx hb hta in_T nt_T nt_T_ok nn_T hown hK hM hS ha rfl 0 (by decide) (hta _ aw_251) (fun _ h9 => h9) rfl hin rfl (by decide +kernel) rfl rfl (Nat.le_of_ble_eq_true rfl) d_T_init_6 (fs' := [.int f, .int 0, .int 0, .null]) rfl (fun H locs hM hS => ?_)
  obtain ⟨w_1, hw_1⟩ : ∃ z9 : Nat → Option va_E, z9 = va_up w a (some (.inr (5, [.int f, .int 0, .int 0, .null]))) := ⟨_, rfl⟩
  rw [← hw_1] at hM
  have k_2 : w_1 a = some (.inr (5, [.int f, .int 0, .int 0, .null])) := by rw [hw_1, va_up_self]
  refine lv_aload_n hx hb d_T_init_9 rfl (lv_at hl 0 rfl) ?_
  refine lv_iload_n hx hb d_T_init_10 rfl (lv_at hl 2 rfl) ?_
  refine m_putF (D := G) (ci := 5) (v := .int v) (ty := .int) (C := nR_T) (T := nT_T) (N := 4) hx hb hta in_T nt_T nt_T_ok nn_T hown hK hM hS k_2 rfl 1 (by decide) (hta _ aw_255) (fun _ h9 => h9) rfl hin rfl (by decide +kernel) rfl rfl (Nat.le_of_ble_eq_true rfl) d_T_init_11 (fs' := [.int f, .int v, .int 0, .null]) rfl (fun H locs hM hS => ?_)
  obtain ⟨w_3, hw_3⟩ : ∃ z9 : Nat → Option va_E, z9 = va_up w_1 a (some (.inr (5, [.int f, .int v, .int 0, .null]))) := ⟨_, rfl⟩
  rw [← hw_3] at hM
  have k_4 : w_3 a = some (.inr (5, [.int f, .int v, .int 0, .null])) := by rw [hw_3, va_up_self]
  refine lv_aload_n hx hb d_T_init_14 rfl (lv_at hl 0 rfl) ?_
  refine lv_iload_n hx hb d_T_init_15 rfl (lv_at hl 3 rfl) ?_
  refine m_putF (D := G) (ci := 5) (v := .int z) (ty := .boolean) (C := nR_T) (T := nT_T) (N := 4) hx hb hta in_T nt_T nt_T_ok nn_T hown hK hM hS k_4 rfl 2 (by decide) (hta _ aw_259) (fun _ h9 => h9) rfl hin rfl (by decide +kernel) (z_01 hz) (zf_01 hz) (Nat.le_of_ble_eq_true rfl) d_T_init_16 (fs' := [.int f, .int v, .int z, .null]) rfl (fun H locs hM hS => ?_)
  obtain ⟨w_5, hw_5⟩ : ∃ z9 : Nat → Option va_E, z9 = va_up w_3 a (some (.inr (5, [.int f, .int v, .int z, .null]))) := ⟨_, rfl⟩
  rw [← hw_5] at hM
  have k_6 : w_5 a = some (.inr (5, [.int f, .int v, .int z, .null])) := by rw [hw_5, va_up_self]
  refine lv_aload_n hx hb d_T_init_19 rfl (lv_at hl 0 rfl) ?_
  refine lv_aloadN hx hb d_T_init_20 (lv_at hl 4 rfl) ?_
  refine m_putF (D := G) (ci := 5) (v := .null) (ty := .object "SceneTimes$State") (C := nR_T) (T := nT_T) (N := 4) hx hb hta in_T nt_T nt_T_ok nn_T hown hK hM hS k_6 rfl 3 (by decide) (hta _ aw_264) (fun _ h9 => h9) rfl hin rfl (by decide +kernel) rfl rfl (Nat.le_of_ble_eq_true rfl) d_T_init_22 (fs' := [.int f, .int v, .int z, .null]) rfl (fun H locs hM hS => ?_)
  obtain ⟨w_7, hw_7⟩ : ∃ z9 : Nat → Option va_E, z9 = va_up w_5 a (some (.inr (5, [.int f, .int v, .int z, .null]))) := ⟨_, rfl⟩
  rw [← hw_7] at hM
  have k_8 : w_7 a = some (.inr (5, [.int f, .int v, .int z, .null])) := by rw [hw_7, va_up_self]
  have hfin : w_7 = va_up w a (some (.inr (5, [.int f, .int v, .int z, .null]))) := by
    rw [hw_7, hw_5, hw_3, hw_1]
    funext z9
    simp only [va_up]
    by_cases y0 : z9 = a
    · first | (simp only [if_pos y0]; done) | (simp only [if_pos y0]; rfl)
    · first | (simp only [if_neg y0]; done) | (simp only [if_neg y0]; rfl)
  rw [hfin] at hM
  exact W.vret hx hb hr (fun t ht hW => ⟨⟨(), rfl, trivial, by rw [ht]; exact hM, va_K.moved hW.alike hK⟩, hS.F ht⟩) hS.2.2 d_T_init_25
set_option maxHeartbeats 4000000 in
set_option maxRecDepth 100000 in
theorem k_T_init_r (l : Launch) (G : va_G) (tys : List (ClassId × FieldType)) (w : Nat → Option va_E) {a : Nat} (ha : w a = some (.inr (5, [.int 0, .int 0, .int 0, .null]))) (f v z : Int32) (hz : z = 0 ∨ z = 1) (b : Nat) (sz : Nat) : Met l y_T_init (wm y_T_init c_T_init 5 none) ({ frames := 1, cells := 0, slots := 0, locals := 12 }) (pZ G tys w sz [.ref a, .int f, .int v, .int z, .ref b]) (va_Qv (fun (u : Unit) => True) (fun _ t => mw G ncl (mA w sz) (va_up w a (some (.inr (5, [.int f, .int v, .int z, .ref b])))) t.heap ∧ va_K G ncl tys t) (mA w sz)) 0 0 (mA w sz) := by
  refine Met.ofW (cc := c_T_init) (maxL := 5) (ret := none) (by decide) rfl ?_
  intro p e s m args below meth c s₁ B hml hv
  obtain ⟨rfl, hsz, hM0, hK⟩ := hv
  have hx := B.exec
  have hb := B.bytes
  have hr := B.returns
  have hts := atoms_spec (ws := (wm y_T_init c_T_init 5 none)) B.pre
  have hta : ∀ w ∈ AL, w.before _ s = true := fun w h => hts w (List.mem_cons_of_mem _ h)
  have hown : s.vm.findClass nR_T = some m.cls := findClass_of_methodNamed B.named
  have hlocks := B.notSynchronized
  have hl := lv_entry ([.ref a, .int f, .int v, .int z, .ref b]) (n := 5) (Nat.le_of_ble_eq_true rfl)
  rw [lg_entry_eq]
  generalize (lg_sl ([.ref a, .int f, .int v, .int z, .ref b]) ++ List.replicate (5 - (lg_sl ([.ref a, .int f, .int v, .int z, .ref b])).length) Slot.unset).toArray = ls at hl ⊢
  have hl : lv_has ls 5 [(0, .ref a), (1, .int f), (2, .int v), (3, .int z), (4, .ref b)] := hl
  subst hsz
  have hM := mw_self (sz := s.heap.size) hM0
  clear hM0
  generalize hAe : mA w s.heap.size = A at hM ⊢
  have hA : ∀ q : Nat, s.heap.size ≤ q → A q := fun q h => by rw [← hAe]; exact Or.inr h
  have hS : va_S A s.heap s.heap [] := va_S.rf
  have hin : meth.name = "<init>" := (name_of_methodNamed B.named B.method).1
  refine lv_aload_n hx hb d_T_init_0 rfl (lv_at hl 0 rfl) ?_
  refine W.objInit hx hb hown (hta _ aw_250) (hta _ aw_22) (hta _ aw_23) rfl (by rw [hml]; exact hl.1) rfl d_T_init_1 (Nat.le_of_ble_eq_true rfl) (Nat.le_of_ble_eq_true rfl) ?_
  refine lv_aload_n hx hb d_T_init_4 rfl (lv_at hl 0 rfl) ?_
  refine lv_iload_n hx hb d_T_init_5 rfl (lv_at hl 1 rfl) ?_
  refine m_putF (D := G) (ci := 5) (v := .int f) (ty := .int) (C := nR_T) (T := nT_T) (N := 4) hx hb hta in_T nt_T nt_T_ok nn_T hown hK hM hS ha rfl 0 (by decide) (hta _ aw_251) (fun _ h9 => h9) rfl hin rfl (by decide +kernel) rfl rfl (Nat.le_of_ble_eq_true rfl) d_T_init_6 (fs' := [.int f, .int 0, .int 0, .null]) rfl (fun H locs hM hS => ?_)
  obtain ⟨w_1, hw_1⟩ : ∃ z9 : Nat → Option va_E, z9 = va_up w a (some (.inr (5, [.int f, .int 0, .int 0, .null]))) := ⟨_, rfl⟩
  rw [← hw_1] at hM
  have k_2 : w_1 a = some (.inr (5, [.int f, .int 0, .int 0, .null])) := by rw [hw_1, va_up_self]
  refine lv_aload_n hx hb d_T_init_9 rfl (lv_at hl 0 rfl) ?_
  refine lv_iload_n hx hb d_T_init_10 rfl (lv_at hl 2 rfl) ?_
  refine m_putF (D := G) (ci := 5) (v := .int v) (ty := .int) (C := nR_T) (T := nT_T) (N := 4) hx hb hta in_T nt_T nt_T_ok nn_T hown hK hM hS k_2 rfl 1 (by decide) (hta _ aw_255) (fun _ h9 => h9) rfl hin rfl (by decide +kernel) rfl rfl (Nat.le_of_ble_eq_true rfl) d_T_init_11 (fs' := [.int f, .int v, .int 0, .null]) rfl (fun H locs hM hS => ?_)
  obtain ⟨w_3, hw_3⟩ : ∃ z9 : Nat → Option va_E, z9 = va_up w_1 a (some (.inr (5, [.int f, .int v, .int 0, .null]))) := ⟨_, rfl⟩
  rw [← hw_3] at hM
  have k_4 : w_3 a = some (.inr (5, [.int f, .int v, .int 0, .null])) := by rw [hw_3, va_up_self]
  refine lv_aload_n hx hb d_T_init_14 rfl (lv_at hl 0 rfl) ?_
  refine lv_iload_n hx hb d_T_init_15 rfl (lv_at hl 3 rfl) ?_
  refine m_putF (D := G) (ci := 5) (v := .int z) (ty := .boolean) (C := nR_T) (T := nT_T) (N := 4) hx hb hta in_T nt_T nt_T_ok nn_T hown hK hM hS k_4 rfl 2 (by decide) (hta _ aw_259) (fun _ h9 => h9) rfl hin rfl (by decide +kernel) (z_01 hz) (zf_01 hz) (Nat.le_of_ble_eq_true rfl) d_T_init_16 (fs' := [.int f, .int v, .int z, .null]) rfl (fun H locs hM hS => ?_)
  obtain ⟨w_5, hw_5⟩ : ∃ z9 : Nat → Option va_E, z9 = va_up w_3 a (some (.inr (5, [.int f, .int v, .int z, .null]))) := ⟨_, rfl⟩
  rw [← hw_5] at hM
  have k_6 : w_5 a = some (.inr (5, [.int f, .int v, .int z, .null])) := by rw [hw_5, va_up_self]
  refine lv_aload_n hx hb d_T_init_19 rfl (lv_at hl 0 rfl) ?_
  refine lv_aload hx hb d_T_init_20 (lv_at hl 4 rfl) ?_
  refine m_putF (D := G) (ci := 5) (v := .ref b) (ty := .object "SceneTimes$State") (C := nR_T) (T := nT_T) (N := 4) hx hb hta in_T nt_T nt_T_ok nn_T hown hK hM hS k_6 rfl 3 (by decide) (hta _ aw_264) (fun _ h9 => h9) rfl hin rfl (by decide +kernel) rfl rfl (Nat.le_of_ble_eq_true rfl) d_T_init_22 (fs' := [.int f, .int v, .int z, .ref b]) rfl (fun H locs hM hS => ?_)
  obtain ⟨w_7, hw_7⟩ : ∃ z9 : Nat → Option va_E, z9 = va_up w_5 a (some (.inr (5, [.int f, .int v, .int z, .ref b]))) := ⟨_, rfl⟩
  rw [← hw_7] at hM
  have k_8 : w_7 a = some (.inr (5, [.int f, .int v, .int z, .ref b])) := by rw [hw_7, va_up_self]
  have hfin : w_7 = va_up w a (some (.inr (5, [.int f, .int v, .int z, .ref b]))) := by
    rw [hw_7, hw_5, hw_3, hw_1]
    funext z9
    simp only [va_up]
    by_cases y0 : z9 = a
    · first | (simp only [if_pos y0]; done) | (simp only [if_pos y0]; rfl)
    · first | (simp only [if_neg y0]; done) | (simp only [if_neg y0]; rfl)
  rw [hfin] at hM
  exact W.vret hx hb hr (fun t ht hW => ⟨⟨(), rfl, trivial, by rw [ht]; exact hM, va_K.moved hW.alike hK⟩, hS.F ht⟩) hS.2.2 d_T_init_25
set_option maxHeartbeats 4000000 in
set_option maxRecDepth 100000 in
theorem k_N_init (l : Launch) (G : va_G) (tys : List (ClassId × FieldType)) (w : Nat → Option va_E) {a : Nat} (ha : w a = some (.inr (4, [.int 0, .int 0, .int 0, .int 0, .int 0, .null, .null, .int 0, .int 0, .int 0]))) (nu wr kd sc se va kn : Int32) (sz : Nat) : Met l y_N_init (wm y_N_init c_N_init 8 none) ({ frames := 2, cells := 1, slots := 4, locals := 36 }) (pZ G tys w sz [.ref a, .int nu, .int wr, .int kd, .int sc, .int se, .int va, .int kn]) (va_Qv (fun (u : Nat) => w u = none) (fun u t => mw G ncl (mA w sz) (va_up (va_up w u (some (eT kn va 0 none))) a (some (eN nu wr kd sc se u u 0 0 (mixv (mixv (mixv (mixv (mixv 7 wr) kd) sc) se) va)))) t.heap ∧ va_K G ncl tys t) (mA w sz)) 1 4 (mA w sz) := by
  refine Met.ofW (cc := c_N_init) (maxL := 8) (ret := none) (by decide) rfl ?_
  intro p e s m args below meth c s₁ B hml hv
  obtain ⟨rfl, hsz, hM0, hK⟩ := hv
  have hx := B.exec
  have hb := B.bytes
  have hr := B.returns
  have hts := atoms_spec (ws := (wm y_N_init c_N_init 8 none)) B.pre
  have hta : ∀ w ∈ AL, w.before _ s = true := fun w h => hts w (List.mem_cons_of_mem _ h)
  have hown : s.vm.findClass nR_N = some m.cls := findClass_of_methodNamed B.named
  have hlocks := B.notSynchronized
  have hl := lv_entry ([.ref a, .int nu, .int wr, .int kd, .int sc, .int se, .int va, .int kn]) (n := 8) (Nat.le_of_ble_eq_true rfl)
  rw [lg_entry_eq]
  generalize (lg_sl ([.ref a, .int nu, .int wr, .int kd, .int sc, .int se, .int va, .int kn]) ++ List.replicate (8 - (lg_sl ([.ref a, .int nu, .int wr, .int kd, .int sc, .int se, .int va, .int kn])).length) Slot.unset).toArray = ls at hl ⊢
  have hl : lv_has ls 8 [(0, .ref a), (1, .int nu), (2, .int wr), (3, .int kd), (4, .int sc), (5, .int se), (6, .int va), (7, .int kn)] := hl
  subst hsz
  have hM := mw_self (sz := s.heap.size) hM0
  clear hM0
  generalize hAe : mA w s.heap.size = A at hM ⊢
  have hA : ∀ q : Nat, s.heap.size ≤ q → A q := fun q h => by rw [← hAe]; exact Or.inr h
  have hS : va_S A s.heap s.heap [] := va_S.rf
  have hin : meth.name = "<init>" := (name_of_methodNamed B.named B.method).1
  refine lv_aload_n hx hb d_N_init_0 rfl (lv_at hl 0 rfl) ?_
  refine W.objInit hx hb hown (hta _ aw_244) (hta _ aw_22) (hta _ aw_23) rfl (by rw [hml]; exact hl.1) rfl d_N_init_1 (Nat.le_of_ble_eq_true rfl) (Nat.le_of_ble_eq_true rfl) ?_
  refine lv_aload_n hx hb d_N_init_4 rfl (lv_at hl 0 rfl) ?_
  refine lv_iload_n hx hb d_N_init_5 rfl (lv_at hl 1 rfl) ?_
  refine m_putF (D := G) (ci := 4) (v := .int nu) (ty := .int) (C := nR_N) (T := nT_N) (N := 10) hx hb hta in_N nt_N nt_N_ok nn_N hown hK hM hS ha rfl 0 (by decide) (hta _ aw_278) (fun _ h9 => h9) rfl hin rfl (by decide +kernel) rfl rfl (Nat.le_of_ble_eq_true rfl) d_N_init_6 (fs' := [.int nu, .int 0, .int 0, .int 0, .int 0, .null, .null, .int 0, .int 0, .int 0]) rfl (fun H locs hM hS => ?_)
  obtain ⟨w_1, hw_1⟩ : ∃ z9 : Nat → Option va_E, z9 = va_up w a (some (.inr (4, [.int nu, .int 0, .int 0, .int 0, .int 0, .null, .null, .int 0, .int 0, .int 0]))) := ⟨_, rfl⟩
  rw [← hw_1] at hM
  have k_2 : w_1 a = some (.inr (4, [.int nu, .int 0, .int 0, .int 0, .int 0, .null, .null, .int 0, .int 0, .int 0])) := by rw [hw_1, va_up_self]
  refine lv_aload_n hx hb d_N_init_9 rfl (lv_at hl 0 rfl) ?_
  refine lv_iload_n hx hb d_N_init_10 rfl (lv_at hl 2 rfl) ?_
  refine m_putF (D := G) (ci := 4) (v := .int wr) (ty := .int) (C := nR_N) (T := nT_N) (N := 10) hx hb hta in_N nt_N nt_N_ok nn_N hown hK hM hS k_2 rfl 1 (by decide) (hta _ aw_280) (fun _ h9 => h9) rfl hin rfl (by decide +kernel) rfl rfl (Nat.le_of_ble_eq_true rfl) d_N_init_11 (fs' := [.int nu, .int wr, .int 0, .int 0, .int 0, .null, .null, .int 0, .int 0, .int 0]) rfl (fun H locs hM hS => ?_)
  obtain ⟨w_3, hw_3⟩ : ∃ z9 : Nat → Option va_E, z9 = va_up w_1 a (some (.inr (4, [.int nu, .int wr, .int 0, .int 0, .int 0, .null, .null, .int 0, .int 0, .int 0]))) := ⟨_, rfl⟩
  rw [← hw_3] at hM
  have k_4 : w_3 a = some (.inr (4, [.int nu, .int wr, .int 0, .int 0, .int 0, .null, .null, .int 0, .int 0, .int 0])) := by rw [hw_3, va_up_self]
  refine lv_aload_n hx hb d_N_init_14 rfl (lv_at hl 0 rfl) ?_
  refine lv_iload_n hx hb d_N_init_15 rfl (lv_at hl 3 rfl) ?_
  refine m_putF (D := G) (ci := 4) (v := .int kd) (ty := .int) (C := nR_N) (T := nT_N) (N := 10) hx hb hta in_N nt_N nt_N_ok nn_N hown hK hM hS k_4 rfl 2 (by decide) (hta _ aw_283) (fun _ h9 => h9) rfl hin rfl (by decide +kernel) rfl rfl (Nat.le_of_ble_eq_true rfl) d_N_init_16 (fs' := [.int nu, .int wr, .int kd, .int 0, .int 0, .null, .null, .int 0, .int 0, .int 0]) rfl (fun H locs hM hS => ?_)
  obtain ⟨w_5, hw_5⟩ : ∃ z9 : Nat → Option va_E, z9 = va_up w_3 a (some (.inr (4, [.int nu, .int wr, .int kd, .int 0, .int 0, .null, .null, .int 0, .int 0, .int 0]))) := ⟨_, rfl⟩
  rw [← hw_5] at hM
  have k_6 : w_5 a = some (.inr (4, [.int nu, .int wr, .int kd, .int 0, .int 0, .null, .null, .int 0, .int 0, .int 0])) := by rw [hw_5, va_up_self]
  refine lv_aload_n hx hb d_N_init_19 rfl (lv_at hl 0 rfl) ?_
  refine lv_iload hx hb d_N_init_20 (lv_at hl 4 rfl) ?_
  refine m_putF (D := G) (ci := 4) (v := .int sc) (ty := .int) (C := nR_N) (T := nT_N) (N := 10) hx hb hta in_N nt_N nt_N_ok nn_N hown hK hM hS k_6 rfl 3 (by decide) (hta _ aw_285) (fun _ h9 => h9) rfl hin rfl (by decide +kernel) rfl rfl (Nat.le_of_ble_eq_true rfl) d_N_init_22 (fs' := [.int nu, .int wr, .int kd, .int sc, .int 0, .null, .null, .int 0, .int 0, .int 0]) rfl (fun H locs hM hS => ?_)
  obtain ⟨w_7, hw_7⟩ : ∃ z9 : Nat → Option va_E, z9 = va_up w_5 a (some (.inr (4, [.int nu, .int wr, .int kd, .int sc, .int 0, .null, .null, .int 0, .int 0, .int 0]))) := ⟨_, rfl⟩
  rw [← hw_7] at hM
  have k_8 : w_7 a = some (.inr (4, [.int nu, .int wr, .int kd, .int sc, .int 0, .null, .null, .int 0, .int 0, .int 0])) := by rw [hw_7, va_up_self]
  refine lv_aload_n hx hb d_N_init_25 rfl (lv_at hl 0 rfl) ?_
  refine lv_iload hx hb d_N_init_26 (lv_at hl 5 rfl) ?_
  refine m_putF (D := G) (ci := 4) (v := .int se) (ty := .int) (C := nR_N) (T := nT_N) (N := 10) hx hb hta in_N nt_N nt_N_ok nn_N hown hK hM hS k_8 rfl 4 (by decide) (hta _ aw_287) (fun _ h9 => h9) rfl hin rfl (by decide +kernel) rfl rfl (Nat.le_of_ble_eq_true rfl) d_N_init_28 (fs' := [.int nu, .int wr, .int kd, .int sc, .int se, .null, .null, .int 0, .int 0, .int 0]) rfl (fun H locs hM hS => ?_)
  obtain ⟨w_9, hw_9⟩ : ∃ z9 : Nat → Option va_E, z9 = va_up w_7 a (some (.inr (4, [.int nu, .int wr, .int kd, .int sc, .int se, .null, .null, .int 0, .int 0, .int 0]))) := ⟨_, rfl⟩
  rw [← hw_9] at hM
  have k_10 : w_9 a = some (.inr (4, [.int nu, .int wr, .int kd, .int sc, .int se, .null, .null, .int 0, .int 0, .int 0])) := by rw [hw_9, va_up_self]
  refine lv_aload_n hx hb d_N_init_31 rfl (lv_at hl 0 rfl) ?_
  refine m_new (D := G) (ci := 5) (fs := [.int 0, .int 0, .int 0, .null]) (C := nR_T) (T := nT_T) (N := 4) hx hb hta in_T nt_T nt_T_ok hown (hta _ aw_245) (hta _ aw_246) (hta _ aw_13) hK hM hS hA rfl (fun j hj => by rcases (show j = 0 ∨ j = 1 ∨ j = 2 ∨ j = 3 by omega) with rfl | rfl | rfl | rfl <;> rfl) (Nat.le_of_ble_eq_true rfl) (Nat.le_of_ble_eq_true rfl) d_N_init_32 (fun q_11 H nq_11 hM hS => ?_)
  obtain ⟨w_12, hw_12⟩ : ∃ z9 : Nat → Option va_E, z9 = va_up w_9 q_11 (some (.inr (5, [.int 0, .int 0, .int 0, .null]))) := ⟨_, rfl⟩
  rw [← hw_12] at hM
  have k_13 : w_12 a = some (.inr (4, [.int nu, .int wr, .int kd, .int sc, .int se, .null, .null, .int 0, .int 0, .int 0])) := by rw [hw_12, va_up_ne _ _ (m_newne k_10 nq_11)]; exact k_10
  have k_14 : w_12 q_11 = some (.inr (5, [.int 0, .int 0, .int 0, .null])) := by rw [hw_12, va_up_self]
  refine lv_dup hx hb d_N_init_35 rfl ?_
  refine lv_iload hx hb d_N_init_36 (lv_at hl 7 rfl) ?_
  refine lv_iload hx hb d_N_init_38 (lv_at hl 6 rfl) ?_
  refine lv_iconst (v := 0) hx hb d_N_init_40 (by decide) ?_
  refine lv_null hx hb d_N_init_41 ?_
  have hF := mw_free hM hS hA
  refine va_callv (va_runI (As := [.int kn, .int va, .int 0, .null]) (rest := [.ref q_11, .ref a]) ⟨hx, hb, hml, hown, hta⟩ (k_T_init_n l G tys w_12 k_14 kn va 0 (Or.inl rfl) _) (cI 4 hta aw_249 aw_13 aw_247 aw_248 rfl rfl rfl (by decide +kernel) ⟨Nat.le_of_ble_eq_true rfl, Nat.le_of_ble_eq_true rfl⟩) (pZ_S hK hM) rfl rfl hl.1 rfl (lv_room (Nat.le_of_ble_eq_true rfl)) d_N_init_42 ⟨Nat.le_of_ble_eq_true rfl, Nat.le_of_ble_eq_true rfl⟩) hS (fun q _ h => hF q h) hF (fun u_r_15 t H locs ht hvm hr_15 hB hz1 hk1 hS => ?_)
  obtain ⟨hM1, hK1⟩ := hB
  rw [ht] at hM1
  have hM := mw_weaken hM1 hF
  clear hM1 hK1 hF hk1 hz1
  obtain ⟨w_16, hw_16⟩ : ∃ z9 : Nat → Option va_E, z9 = va_up w_12 q_11 (some (.inr (5, [.int kn, .int va, .int 0, .null]))) := ⟨_, rfl⟩
  rw [← hw_16] at hM
  have k_17 : w_16 a = some (.inr (4, [.int nu, .int wr, .int kd, .int sc, .int se, .null, .null, .int 0, .int 0, .int 0])) := by rw [hw_16, va_up_ne _ _ (m_newne k_10 nq_11)]; exact k_13
  have k_18 : w_16 q_11 = some (.inr (5, [.int kn, .int va, .int 0, .null])) := by rw [hw_16, va_up_self]
  refine m_putF (D := G) (ci := 4) (v := .ref q_11) (ty := .object "SceneTimes$State") (C := nR_N) (T := nT_N) (N := 10) hx hb hta in_N nt_N nt_N_ok nn_N hown hK hM hS k_17 rfl 5 (by decide) (hta _ aw_291) (fun _ h9 => h9) rfl hin rfl (by decide +kernel) rfl rfl (Nat.le_of_ble_eq_true rfl) d_N_init_45 (fs' := [.int nu, .int wr, .int kd, .int sc, .int se, .ref q_11, .null, .int 0, .int 0, .int 0]) rfl (fun H locs hM hS => ?_)
  obtain ⟨w_19, hw_19⟩ : ∃ z9 : Nat → Option va_E, z9 = va_up w_16 a (some (.inr (4, [.int nu, .int wr, .int kd, .int sc, .int se, .ref q_11, .null, .int 0, .int 0, .int 0]))) := ⟨_, rfl⟩
  rw [← hw_19] at hM
  have k_20 : w_19 a = some (.inr (4, [.int nu, .int wr, .int kd, .int sc, .int se, .ref q_11, .null, .int 0, .int 0, .int 0])) := by rw [hw_19, va_up_self]
  have k_21 : w_19 q_11 = some (.inr (5, [.int kn, .int va, .int 0, .null])) := by rw [hw_19, va_up_ne _ _ (Ne.symm (m_newne k_10 nq_11))]; exact k_18
  refine lv_aload_n hx hb d_N_init_48 rfl (lv_at hl 0 rfl) ?_
  refine lv_aload_n hx hb d_N_init_49 rfl (lv_at hl 0 rfl) ?_
  refine m_get (D := G) (ci := 4) (v := .ref q_11) (C := nR_N) (T := nT_N) (N := 10) hx hb hta in_N hown hK hM k_20 rfl 5 (by decide) (hta _ aw_291) (fun _ h9 => h9) rfl d_N_init_50 ?_
  refine m_put (D := G) (ci := 4) (v := .ref q_11) (ty := .object "SceneTimes$State") (C := nR_N) (T := nT_N) (N := 10) hx hb hta in_N nt_N nt_N_ok nn_N hown hK hM hS k_20 rfl 6 (by decide) (hta _ aw_294) (fun _ h9 => h9) rfl (by decide +kernel) rfl rfl (Nat.le_of_ble_eq_true rfl) d_N_init_53 (fs' := [.int nu, .int wr, .int kd, .int sc, .int se, .ref q_11, .ref q_11, .int 0, .int 0, .int 0]) rfl (fun H locs hM hS => ?_)
  obtain ⟨w_22, hw_22⟩ : ∃ z9 : Nat → Option va_E, z9 = va_up w_19 a (some (.inr (4, [.int nu, .int wr, .int kd, .int sc, .int se, .ref q_11, .ref q_11, .int 0, .int 0, .int 0]))) := ⟨_, rfl⟩
  rw [← hw_22] at hM
  have k_23 : w_22 a = some (.inr (4, [.int nu, .int wr, .int kd, .int sc, .int se, .ref q_11, .ref q_11, .int 0, .int 0, .int 0])) := by rw [hw_22, va_up_self]
  have k_24 : w_22 q_11 = some (.inr (5, [.int kn, .int va, .int 0, .null])) := by rw [hw_22, va_up_ne _ _ (Ne.symm (m_newne k_10 nq_11))]; exact k_21
  refine lv_aload_n hx hb d_N_init_56 rfl (lv_at hl 0 rfl) ?_
  refine lv_bipush (v := 7) hx hb d_N_init_57 (by decide) ?_
  refine lv_iload_n hx hb d_N_init_59 rfl (lv_at hl 2 rfl) ?_
  refine vp_callSi (W.runS (As := [.int 7, .int wr]) (rest := [.ref a]) ⟨hx, hb, hml, hown, hta⟩ (k_N_mix l 7 wr) (cS 2 hta aw_277 aw_12 aw_275 aw_276 rfl rfl (by decide +kernel) ⟨Nat.le_of_ble_eq_true rfl, Nat.le_of_ble_eq_true rfl⟩) ⟨fun a U g mk q => q, fun U hU hW => ⟨rfl, trivial⟩⟩ rfl rfl hl.1 rfl (lv_room (Nat.le_of_ble_eq_true rfl)) d_N_init_60 ⟨Nat.le_of_ble_eq_true rfl, Nat.le_of_ble_eq_true rfl⟩) (fun r_25 hr_25 => ?_)
  subst hr_25
  refine lv_iload_n hx hb d_N_init_63 rfl (lv_at hl 3 rfl) ?_
  refine vp_callSi (W.runS (As := [.int (mixv 7 wr), .int kd]) (rest := [.ref a]) ⟨hx, hb, hml, hown, hta⟩ (k_N_mix l (mixv 7 wr) kd) (cS 2 hta aw_277 aw_12 aw_275 aw_276 rfl rfl (by decide +kernel) ⟨Nat.le_of_ble_eq_true rfl, Nat.le_of_ble_eq_true rfl⟩) ⟨fun a U g mk q => q, fun U hU hW => ⟨rfl, trivial⟩⟩ rfl rfl hl.1 rfl (lv_room (Nat.le_of_ble_eq_true rfl)) d_N_init_64 ⟨Nat.le_of_ble_eq_true rfl, Nat.le_of_ble_eq_true rfl⟩) (fun r_26 hr_26 => ?_)
  subst hr_26
  refine lv_iload hx hb d_N_init_67 (lv_at hl 4 rfl) ?_
  refine vp_callSi (W.runS (As := [.int (mixv (mixv 7 wr) kd), .int sc]) (rest := [.ref a]) ⟨hx, hb, hml, hown, hta⟩ (k_N_mix l (mixv (mixv 7 wr) kd) sc) (cS 2 hta aw_277 aw_12 aw_275 aw_276 rfl rfl (by decide +kernel) ⟨Nat.le_of_ble_eq_true rfl, Nat.le_of_ble_eq_true rfl⟩) ⟨fun a U g mk q => q, fun U hU hW => ⟨rfl, trivial⟩⟩ rfl rfl hl.1 rfl (lv_room (Nat.le_of_ble_eq_true rfl)) d_N_init_69 ⟨Nat.le_of_ble_eq_true rfl, Nat.le_of_ble_eq_true rfl⟩) (fun r_27 hr_27 => ?_)
  subst hr_27
  refine lv_iload hx hb d_N_init_72 (lv_at hl 5 rfl) ?_
  refine vp_callSi (W.runS (As := [.int (mixv (mixv (mixv 7 wr) kd) sc), .int se]) (rest := [.ref a]) ⟨hx, hb, hml, hown, hta⟩ (k_N_mix l (mixv (mixv (mixv 7 wr) kd) sc) se) (cS 2 hta aw_277 aw_12 aw_275 aw_276 rfl rfl (by decide +kernel) ⟨Nat.le_of_ble_eq_true rfl, Nat.le_of_ble_eq_true rfl⟩) ⟨fun a U g mk q => q, fun U hU hW => ⟨rfl, trivial⟩⟩ rfl rfl hl.1 rfl (lv_room (Nat.le_of_ble_eq_true rfl)) d_N_init_74 ⟨Nat.le_of_ble_eq_true rfl, Nat.le_of_ble_eq_true rfl⟩) (fun r_28 hr_28 => ?_)
  subst hr_28
  refine lv_iload hx hb d_N_init_77 (lv_at hl 6 rfl) ?_
  refine vp_callSi (W.runS (As := [.int (mixv (mixv (mixv (mixv 7 wr) kd) sc) se), .int va]) (rest := [.ref a]) ⟨hx, hb, hml, hown, hta⟩ (k_N_mix l (mixv (mixv (mixv (mixv 7 wr) kd) sc) se) va) (cS 2 hta aw_277 aw_12 aw_275 aw_276 rfl rfl (by decide +kernel) ⟨Nat.le_of_ble_eq_true rfl, Nat.le_of_ble_eq_true rfl⟩) ⟨fun a U g mk q => q, fun U hU hW => ⟨rfl, trivial⟩⟩ rfl rfl hl.1 rfl (lv_room (Nat.le_of_ble_eq_true rfl)) d_N_init_79 ⟨Nat.le_of_ble_eq_true rfl, Nat.le_of_ble_eq_true rfl⟩) (fun r_29 hr_29 => ?_)
  subst hr_29
  refine m_put (D := G) (ci := 4) (v := .int (mixv (mixv (mixv (mixv (mixv 7 wr) kd) sc) se) va)) (ty := .int) (C := nR_N) (T := nT_N) (N := 10) hx hb hta in_N nt_N nt_N_ok nn_N hown hK hM hS k_23 rfl 9 (by decide) (hta _ aw_301) (fun _ h9 => h9) rfl (by decide +kernel) rfl rfl (Nat.le_of_ble_eq_true rfl) d_N_init_82 (fs' := [.int nu, .int wr, .int kd, .int sc, .int se, .ref q_11, .ref q_11, .int 0, .int 0, .int (mixv (mixv (mixv (mixv (mixv 7 wr) kd) sc) se) va)]) rfl (fun H locs hM hS => ?_)
  obtain ⟨w_30, hw_30⟩ : ∃ z9 : Nat → Option va_E, z9 = va_up w_22 a (some (.inr (4, [.int nu, .int wr, .int kd, .int sc, .int se, .ref q_11, .ref q_11, .int 0, .int 0, .int (mixv (mixv (mixv (mixv (mixv 7 wr) kd) sc) se) va)]))) := ⟨_, rfl⟩
  rw [← hw_30] at hM
  have k_31 : w_30 a = some (.inr (4, [.int nu, .int wr, .int kd, .int sc, .int se, .ref q_11, .ref q_11, .int 0, .int 0, .int (mixv (mixv (mixv (mixv (mixv 7 wr) kd) sc) se) va)])) := by rw [hw_30, va_up_self]
  have k_32 : w_30 q_11 = some (.inr (5, [.int kn, .int va, .int 0, .null])) := by rw [hw_30, va_up_ne _ _ (Ne.symm (m_newne k_10 nq_11))]; exact k_24
  have nq0 : w q_11 = none := by
    have z := nq_11
    rw [hw_9, hw_7, hw_5, hw_3, hw_1] at z
    by_cases y : q_11 = a
    · subst y; simp [va_up] at z
    · simp only [va_up, if_neg y] at z; exact z
  have hne : a ≠ q_11 := m_newne ha nq0
  have hfin : w_30 = va_up (va_up w q_11 (some (eT kn va 0 none))) a (some (eN nu wr kd sc se q_11 q_11 0 0 (mixv (mixv (mixv (mixv (mixv 7 wr) kd) sc) se) va))) := by
    rw [hw_30, hw_22, hw_19, hw_16, hw_12, hw_9, hw_7, hw_5, hw_3, hw_1]
    funext z9
    simp only [va_up]
    by_cases y0 : z9 = a
    · by_cases y1 : z9 = q_11
      · exact absurd (y0.symm.trans y1) hne
      · first | (simp only [if_pos y0, if_neg y1]; done) | (simp only [if_pos y0, if_neg y1]; rfl)
    · by_cases y1 : z9 = q_11
      · first | (simp only [if_neg y0, if_pos y1]; done) | (simp only [if_neg y0, if_pos y1]; rfl)
      · first | (simp only [if_neg y0, if_neg y1]; done) | (simp only [if_neg y0, if_neg y1]; rfl)
  rw [hfin] at hM
  exact W.vret hx hb hr (fun t ht hW => ⟨⟨q_11, rfl, nq0, by rw [ht]; exact hM, va_K.moved hW.alike hK⟩, hS.F ht⟩) hS.2.2 d_N_init_85
set_option maxHeartbeats 4000000 in
set_option maxRecDepth 100000 in
theorem k_N_takeValue (l : Launch) (G : va_G) (tys : List (ClassId × FieldType)) (w : Nat → Option va_E) {a : Nat} {nu wr kd sc se : Int32} {fi la : Nat} {ac co mx : Int32} (hn : w a = some (eN nu wr kd sc se fi la ac co mx)) {fr va z : Int32} {ea : Option Nat} (hs : w la = some (eT fr va z ea)) (hz : z = 0 ∨ z = 1) (now x : Int32) (sz : Nat) : Met l y_N_takeValue (wm y_N_takeValue c_N_takeValue 3 none) ({ frames := 2, cells := 1, slots := 4, locals := 36 }) (pZ G tys w sz [.ref a, .int now, .int x]) (va_Qv (fun (u : Nat) => w u = none) (fun u t => mw G ncl (mA w sz) (va_up (va_up w u (some (eT now x z (some la)))) a (some (eN nu wr kd sc se fi u (ac + 1) (co + 1) (mixv mx x)))) t.heap ∧ va_K G ncl tys t) (mA w sz)) 1 4 (mA w sz) := by
  refine Met.ofW (cc := c_N_takeValue) (maxL := 3) (ret := none) (by decide) rfl ?_
  intro p e s m args below meth c s₁ B hml hv
  obtain ⟨rfl, hsz, hM0, hK⟩ := hv
  have hx := B.exec
  have hb := B.bytes
  have hr := B.returns
  have hts := atoms_spec (ws := (wm y_N_takeValue c_N_takeValue 3 none)) B.pre
  have hta : ∀ w ∈ AL, w.before _ s = true := fun w h => hts w (List.mem_cons_of_mem _ h)
  have hown : s.vm.findClass nR_N = some m.cls := findClass_of_methodNamed B.named
  have hlocks := B.notSynchronized
  have hl := lv_entry ([.ref a, .int now, .int x]) (n := 3) (Nat.le_of_ble_eq_true rfl)
  rw [lg_entry_eq]
  generalize (lg_sl ([.ref a, .int now, .int x]) ++ List.replicate (3 - (lg_sl ([.ref a, .int now, .int x])).length) Slot.unset).toArray = ls at hl ⊢
  have hl : lv_has ls 3 [(0, .ref a), (1, .int now), (2, .int x)] := hl
  subst hsz
  have hM := mw_self (sz := s.heap.size) hM0
  clear hM0
  generalize hAe : mA w s.heap.size = A at hM ⊢
  have hA : ∀ q : Nat, s.heap.size ≤ q → A q := fun q h => by rw [← hAe]; exact Or.inr h
  have hS : va_S A s.heap s.heap [] := va_S.rf
  refine lv_aload_n hx hb d_N_takeValue_0 rfl (lv_at hl 0 rfl) ?_
  refine m_new (D := G) (ci := 5) (fs := [.int 0, .int 0, .int 0, .null]) (C := nR_T) (T := nT_T) (N := 4) hx hb hta in_T nt_T nt_T_ok hown (hta _ aw_245) (hta _ aw_246) (hta _ aw_13) hK hM hS hA rfl (fun j hj => by rcases (show j = 0 ∨ j = 1 ∨ j = 2 ∨ j = 3 by omega) with rfl | rfl | rfl | rfl <;> rfl) (Nat.le_of_ble_eq_true rfl) (Nat.le_of_ble_eq_true rfl) d_N_takeValue_1 (fun q_1 H nq_1 hM hS => ?_)
  obtain ⟨w_2, hw_2⟩ : ∃ z9 : Nat → Option va_E, z9 = va_up w q_1 (some (.inr (5, [.int 0, .int 0, .int 0, .null]))) := ⟨_, rfl⟩
  rw [← hw_2] at hM
  have k_3 : w_2 a = some (.inr (4, [.int nu, .int wr, .int kd, .int sc, .int se, .ref fi, .ref la, .int ac, .int co, .int mx])) := by rw [hw_2, va_up_ne _ _ (m_newne hn nq_1)]; exact hn
  have k_4 : w_2 la = some (.inr (5, [.int fr, .int va, .int z, va_rf ea])) := by rw [hw_2, va_up_ne _ _ (m_newne hs nq_1)]; exact hs
  have k_5 : w_2 q_1 = some (.inr (5, [.int 0, .int 0, .int 0, .null])) := by rw [hw_2, va_up_self]
  refine lv_dup hx hb d_N_takeValue_4 rfl ?_
  refine lv_iload_n hx hb d_N_takeValue_5 rfl (lv_at hl 1 rfl) ?_
  refine lv_iload_n hx hb d_N_takeValue_6 rfl (lv_at hl 2 rfl) ?_
  refine lv_aload_n hx hb d_N_takeValue_7 rfl (lv_at hl 0 rfl) ?_
  refine m_get (D := G) (ci := 4) (v := .ref la) (C := nR_N) (T := nT_N) (N := 10) hx hb hta in_N hown hK hM k_3 rfl 6 (by decide) (hta _ aw_294) (fun _ h9 => h9) rfl d_N_takeValue_8 ?_
  refine m_get (D := G) (ci := 5) (v := .int z) (C := nR_T) (T := nT_T) (N := 4) hx hb hta in_T hown hK hM k_4 rfl 2 (by decide) (hta _ aw_260) (fun _ h9 => h9) rfl d_N_takeValue_11 ?_
  refine lv_aload_n hx hb d_N_takeValue_14 rfl (lv_at hl 0 rfl) ?_
  refine m_get (D := G) (ci := 4) (v := .ref la) (C := nR_N) (T := nT_N) (N := 10) hx hb hta in_N hown hK hM k_3 rfl 6 (by decide) (hta _ aw_294) (fun _ h9 => h9) rfl d_N_takeValue_15 ?_
  have hF := mw_free hM hS hA
  refine va_callv (va_runI (As := [.int now, .int x, .int z, .ref la]) (rest := [.ref q_1, .ref a]) ⟨hx, hb, hml, hown, hta⟩ (k_T_init_r l G tys w_2 k_5 now x z hz la _) (cI 4 hta aw_249 aw_13 aw_247 aw_248 rfl rfl rfl (by decide +kernel) ⟨Nat.le_of_ble_eq_true rfl, Nat.le_of_ble_eq_true rfl⟩) (pZ_S hK hM) rfl rfl hl.1 rfl (lv_room (Nat.le_of_ble_eq_true rfl)) d_N_takeValue_18 ⟨Nat.le_of_ble_eq_true rfl, Nat.le_of_ble_eq_true rfl⟩) hS (fun q _ h => hF q h) hF (fun u_r_6 t H locs ht hvm hr_6 hB hz1 hk1 hS => ?_)
  obtain ⟨hM1, hK1⟩ := hB
  rw [ht] at hM1
  have hM := mw_weaken hM1 hF
  clear hM1 hK1 hF hk1 hz1
  obtain ⟨w_7, hw_7⟩ : ∃ z9 : Nat → Option va_E, z9 = va_up w_2 q_1 (some (.inr (5, [.int now, .int x, .int z, .ref la]))) := ⟨_, rfl⟩
  rw [← hw_7] at hM
  have k_8 : w_7 a = some (.inr (4, [.int nu, .int wr, .int kd, .int sc, .int se, .ref fi, .ref la, .int ac, .int co, .int mx])) := by rw [hw_7, va_up_ne _ _ (m_newne hn nq_1)]; exact k_3
  have k_9 : w_7 la = some (.inr (5, [.int fr, .int va, .int z, va_rf ea])) := by rw [hw_7, va_up_ne _ _ (m_newne hs nq_1)]; exact k_4
  have k_10 : w_7 q_1 = some (.inr (5, [.int now, .int x, .int z, .ref la])) := by rw [hw_7, va_up_self]
  refine m_put (D := G) (ci := 4) (v := .ref q_1) (ty := .object "SceneTimes$State") (C := nR_N) (T := nT_N) (N := 10) hx hb hta in_N nt_N nt_N_ok nn_N hown hK hM hS k_8 rfl 6 (by decide) (hta _ aw_294) (fun _ h9 => h9) rfl (by decide +kernel) rfl rfl (Nat.le_of_ble_eq_true rfl) d_N_takeValue_21 (fs' := [.int nu, .int wr, .int kd, .int sc, .int se, .ref fi, .ref q_1, .int ac, .int co, .int mx]) rfl (fun H locs hM hS => ?_)
  obtain ⟨w_11, hw_11⟩ : ∃ z9 : Nat → Option va_E, z9 = va_up w_7 a (some (.inr (4, [.int nu, .int wr, .int kd, .int sc, .int se, .ref fi, .ref q_1, .int ac, .int co, .int mx]))) := ⟨_, rfl⟩
  rw [← hw_11] at hM
  have k_12 : w_11 a = some (.inr (4, [.int nu, .int wr, .int kd, .int sc, .int se, .ref fi, .ref q_1, .int ac, .int co, .int mx])) := by rw [hw_11, va_up_self]
  have k_13 : w_11 la = some (.inr (5, [.int fr, .int va, .int z, va_rf ea])) := by rw [hw_11, va_up_ne _ _ (m_ne k_9 k_8 (by intro h; cases h))]; exact k_9
  have k_14 : w_11 q_1 = some (.inr (5, [.int now, .int x, .int z, .ref la])) := by rw [hw_11, va_up_ne _ _ (Ne.symm (m_newne hn nq_1))]; exact k_10
  refine lv_aload_n hx hb d_N_takeValue_24 rfl (lv_at hl 0 rfl) ?_
  refine lv_aload_n hx hb d_N_takeValue_25 rfl (lv_at hl 0 rfl) ?_
  refine m_get (D := G) (ci := 4) (v := .int mx) (C := nR_N) (T := nT_N) (N := 10) hx hb hta in_N hown hK hM k_12 rfl 9 (by decide) (hta _ aw_301) (fun _ h9 => h9) rfl d_N_takeValue_26 ?_
  refine lv_iload_n hx hb d_N_takeValue_29 rfl (lv_at hl 2 rfl) ?_
  refine vp_callSi (W.runS (As := [.int mx, .int x]) (rest := [.ref a]) ⟨hx, hb, hml, hown, hta⟩ (k_N_mix l mx x) (cS 2 hta aw_277 aw_12 aw_275 aw_276 rfl rfl (by decide +kernel) ⟨Nat.le_of_ble_eq_true rfl, Nat.le_of_ble_eq_true rfl⟩) ⟨fun a U g mk q => q, fun U hU hW => ⟨rfl, trivial⟩⟩ rfl rfl hl.1 rfl (lv_room (Nat.le_of_ble_eq_true rfl)) d_N_takeValue_30 ⟨Nat.le_of_ble_eq_true rfl, Nat.le_of_ble_eq_true rfl⟩) (fun r_15 hr_15 => ?_)
  subst hr_15
  refine m_put (D := G) (ci := 4) (v := .int (mixv mx x)) (ty := .int) (C := nR_N) (T := nT_N) (N := 10) hx hb hta in_N nt_N nt_N_ok nn_N hown hK hM hS k_12 rfl 9 (by decide) (hta _ aw_301) (fun _ h9 => h9) rfl (by decide +kernel) rfl rfl (Nat.le_of_ble_eq_true rfl) d_N_takeValue_33 (fs' := [.int nu, .int wr, .int kd, .int sc, .int se, .ref fi, .ref q_1, .int ac, .int co, .int (mixv mx x)]) rfl (fun H locs hM hS => ?_)
  obtain ⟨w_16, hw_16⟩ : ∃ z9 : Nat → Option va_E, z9 = va_up w_11 a (some (.inr (4, [.int nu, .int wr, .int kd, .int sc, .int se, .ref fi, .ref q_1, .int ac, .int co, .int (mixv mx x)]))) := ⟨_, rfl⟩
  rw [← hw_16] at hM
  have k_17 : w_16 a = some (.inr (4, [.int nu, .int wr, .int kd, .int sc, .int se, .ref fi, .ref q_1, .int ac, .int co, .int (mixv mx x)])) := by rw [hw_16, va_up_self]
  have k_18 : w_16 la = some (.inr (5, [.int fr, .int va, .int z, va_rf ea])) := by rw [hw_16, va_up_ne _ _ (m_ne k_13 k_12 (by intro h; cases h))]; exact k_13
  have k_19 : w_16 q_1 = some (.inr (5, [.int now, .int x, .int z, .ref la])) := by rw [hw_16, va_up_ne _ _ (Ne.symm (m_newne hn nq_1))]; exact k_14
  refine lv_aload_n hx hb d_N_takeValue_36 rfl (lv_at hl 0 rfl) ?_
  refine lv_dup hx hb d_N_takeValue_37 rfl ?_
  refine m_get (D := G) (ci := 4) (v := .int co) (C := nR_N) (T := nT_N) (N := 10) hx hb hta in_N hown hK hM k_17 rfl 8 (by decide) (hta _ aw_299) (fun _ h9 => h9) rfl d_N_takeValue_38 ?_
  refine lv_iconst (v := 1) hx hb d_N_takeValue_41 (by decide) ?_
  refine lv_iadd hx hb d_N_takeValue_42 ?_
  refine m_put (D := G) (ci := 4) (v := .int (co + 1)) (ty := .int) (C := nR_N) (T := nT_N) (N := 10) hx hb hta in_N nt_N nt_N_ok nn_N hown hK hM hS k_17 rfl 8 (by decide) (hta _ aw_299) (fun _ h9 => h9) rfl (by decide +kernel) rfl rfl (Nat.le_of_ble_eq_true rfl) d_N_takeValue_43 (fs' := [.int nu, .int wr, .int kd, .int sc, .int se, .ref fi, .ref q_1, .int ac, .int (co + 1), .int (mixv mx x)]) rfl (fun H locs hM hS => ?_)
  obtain ⟨w_20, hw_20⟩ : ∃ z9 : Nat → Option va_E, z9 = va_up w_16 a (some (.inr (4, [.int nu, .int wr, .int kd, .int sc, .int se, .ref fi, .ref q_1, .int ac, .int (co + 1), .int (mixv mx x)]))) := ⟨_, rfl⟩
  rw [← hw_20] at hM
  have k_21 : w_20 a = some (.inr (4, [.int nu, .int wr, .int kd, .int sc, .int se, .ref fi, .ref q_1, .int ac, .int (co + 1), .int (mixv mx x)])) := by rw [hw_20, va_up_self]
  have k_22 : w_20 la = some (.inr (5, [.int fr, .int va, .int z, va_rf ea])) := by rw [hw_20, va_up_ne _ _ (m_ne k_18 k_17 (by intro h; cases h))]; exact k_18
  have k_23 : w_20 q_1 = some (.inr (5, [.int now, .int x, .int z, .ref la])) := by rw [hw_20, va_up_ne _ _ (Ne.symm (m_newne hn nq_1))]; exact k_19
  refine lv_aload_n hx hb d_N_takeValue_46 rfl (lv_at hl 0 rfl) ?_
  refine lv_dup hx hb d_N_takeValue_47 rfl ?_
  refine m_get (D := G) (ci := 4) (v := .int ac) (C := nR_N) (T := nT_N) (N := 10) hx hb hta in_N hown hK hM k_21 rfl 7 (by decide) (hta _ aw_297) (fun _ h9 => h9) rfl d_N_takeValue_48 ?_
  refine lv_iconst (v := 1) hx hb d_N_takeValue_51 (by decide) ?_
  refine lv_iadd hx hb d_N_takeValue_52 ?_
  refine m_put (D := G) (ci := 4) (v := .int (ac + 1)) (ty := .int) (C := nR_N) (T := nT_N) (N := 10) hx hb hta in_N nt_N nt_N_ok nn_N hown hK hM hS k_21 rfl 7 (by decide) (hta _ aw_297) (fun _ h9 => h9) rfl (by decide +kernel) rfl rfl (Nat.le_of_ble_eq_true rfl) d_N_takeValue_53 (fs' := [.int nu, .int wr, .int kd, .int sc, .int se, .ref fi, .ref q_1, .int (ac + 1), .int (co + 1), .int (mixv mx x)]) rfl (fun H locs hM hS => ?_)
  obtain ⟨w_24, hw_24⟩ : ∃ z9 : Nat → Option va_E, z9 = va_up w_20 a (some (.inr (4, [.int nu, .int wr, .int kd, .int sc, .int se, .ref fi, .ref q_1, .int (ac + 1), .int (co + 1), .int (mixv mx x)]))) := ⟨_, rfl⟩
  rw [← hw_24] at hM
  have k_25 : w_24 a = some (.inr (4, [.int nu, .int wr, .int kd, .int sc, .int se, .ref fi, .ref q_1, .int (ac + 1), .int (co + 1), .int (mixv mx x)])) := by rw [hw_24, va_up_self]
  have k_26 : w_24 la = some (.inr (5, [.int fr, .int va, .int z, va_rf ea])) := by rw [hw_24, va_up_ne _ _ (m_ne k_22 k_21 (by intro h; cases h))]; exact k_22
  have k_27 : w_24 q_1 = some (.inr (5, [.int now, .int x, .int z, .ref la])) := by rw [hw_24, va_up_ne _ _ (Ne.symm (m_newne hn nq_1))]; exact k_23
  have hne : a ≠ q_1 := m_newne hn nq_1
  have hfin : w_24 = va_up (va_up w q_1 (some (eT now x z (some la)))) a (some (eN nu wr kd sc se fi q_1 (ac + 1) (co + 1) (mixv mx x))) := by
    rw [hw_24, hw_20, hw_16, hw_11, hw_7, hw_2]
    funext z9
    simp only [va_up]
    by_cases y0 : z9 = a
    · by_cases y1 : z9 = q_1
      · exact absurd (y0.symm.trans y1) hne
      · first | (simp only [if_pos y0, if_neg y1]; done) | (simp only [if_pos y0, if_neg y1]; rfl)
    · by_cases y1 : z9 = q_1
      · first | (simp only [if_neg y0, if_pos y1]; done) | (simp only [if_neg y0, if_pos y1]; rfl)
      · first | (simp only [if_neg y0, if_neg y1]; done) | (simp only [if_neg y0, if_neg y1]; rfl)
  rw [hfin] at hM
  exact W.vret hx hb hr (fun t ht hW => ⟨⟨q_1, rfl, nq_1, by rw [ht]; exact hM, va_K.moved hW.alike hK⟩, hS.F ht⟩) hS.2.2 d_N_takeValue_56
set_option maxHeartbeats 4000000 in
set_option maxRecDepth 100000 in
theorem k_N_takeStrike (l : Launch) (G : va_G) (tys : List (ClassId × FieldType)) (w : Nat → Option va_E) {a : Nat} {nu wr kd sc se : Int32} {fi la : Nat} {ac co mx : Int32} (hn : w a = some (eN nu wr kd sc se fi la ac co mx)) {fr va z : Int32} {ea : Option Nat} (hs : w la = some (eT fr va z ea)) (now x : Int32) (hz : x = 0 ∨ x = 1) (sz : Nat) : Met l y_N_takeStrike (wm y_N_takeStrike c_N_takeStrike 3 none) ({ frames := 2, cells := 1, slots := 4, locals := 36 }) (pZ G tys w sz [.ref a, .int now, .int x]) (va_Qv (fun (u : Nat) => w u = none) (fun u t => mw G ncl (mA w sz) (va_up (va_up w u (some (eT now va x (some la)))) a (some (eN nu wr kd sc se fi u (ac + 1) co mx))) t.heap ∧ va_K G ncl tys t) (mA w sz)) 1 4 (mA w sz) := by
  refine Met.ofW (cc := c_N_takeStrike) (maxL := 3) (ret := none) (by decide) rfl ?_
  intro p e s m args below meth c s₁ B hml hv
  obtain ⟨rfl, hsz, hM0, hK⟩ := hv
  have hx := B.exec
  have hb := B.bytes
  have hr := B.returns
  have hts := atoms_spec (ws := (wm y_N_takeStrike c_N_takeStrike 3 none)) B.pre
  have hta : ∀ w ∈ AL, w.before _ s = true := fun w h => hts w (List.mem_cons_of_mem _ h)
  have hown : s.vm.findClass nR_N = some m.cls := findClass_of_methodNamed B.named
  have hlocks := B.notSynchronized
  have hl := lv_entry ([.ref a, .int now, .int x]) (n := 3) (Nat.le_of_ble_eq_true rfl)
  rw [lg_entry_eq]
  generalize (lg_sl ([.ref a, .int now, .int x]) ++ List.replicate (3 - (lg_sl ([.ref a, .int now, .int x])).length) Slot.unset).toArray = ls at hl ⊢
  have hl : lv_has ls 3 [(0, .ref a), (1, .int now), (2, .int x)] := hl
  subst hsz
  have hM := mw_self (sz := s.heap.size) hM0
  clear hM0
  generalize hAe : mA w s.heap.size = A at hM ⊢
  have hA : ∀ q : Nat, s.heap.size ≤ q → A q := fun q h => by rw [← hAe]; exact Or.inr h
  have hS : va_S A s.heap s.heap [] := va_S.rf
  refine lv_aload_n hx hb d_N_takeStrike_0 rfl (lv_at hl 0 rfl) ?_
  refine m_new (D := G) (ci := 5) (fs := [.int 0, .int 0, .int 0, .null]) (C := nR_T) (T := nT_T) (N := 4) hx hb hta in_T nt_T nt_T_ok hown (hta _ aw_245) (hta _ aw_246) (hta _ aw_13) hK hM hS hA rfl (fun j hj => by rcases (show j = 0 ∨ j = 1 ∨ j = 2 ∨ j = 3 by omega) with rfl | rfl | rfl | rfl <;> rfl) (Nat.le_of_ble_eq_true rfl) (Nat.le_of_ble_eq_true rfl) d_N_takeStrike_1 (fun q_1 H nq_1 hM hS => ?_)
  obtain ⟨w_2, hw_2⟩ : ∃ z9 : Nat → Option va_E, z9 = va_up w q_1 (some (.inr (5, [.int 0, .int 0, .int 0, .null]))) := ⟨_, rfl⟩
  rw [← hw_2] at hM
  have k_3 : w_2 a = some (.inr (4, [.int nu, .int wr, .int kd, .int sc, .int se, .ref fi, .ref la, .int ac, .int co, .int mx])) := by rw [hw_2, va_up_ne _ _ (m_newne hn nq_1)]; exact hn
  have k_4 : w_2 la = some (.inr (5, [.int fr, .int va, .int z, va_rf ea])) := by rw [hw_2, va_up_ne _ _ (m_newne hs nq_1)]; exact hs
  have k_5 : w_2 q_1 = some (.inr (5, [.int 0, .int 0, .int 0, .null])) := by rw [hw_2, va_up_self]
  refine lv_dup hx hb d_N_takeStrike_4 rfl ?_
  refine lv_iload_n hx hb d_N_takeStrike_5 rfl (lv_at hl 1 rfl) ?_
  refine lv_aload_n hx hb d_N_takeStrike_6 rfl (lv_at hl 0 rfl) ?_
  refine m_get (D := G) (ci := 4) (v := .ref la) (C := nR_N) (T := nT_N) (N := 10) hx hb hta in_N hown hK hM k_3 rfl 6 (by decide) (hta _ aw_294) (fun _ h9 => h9) rfl d_N_takeStrike_7 ?_
  refine m_get (D := G) (ci := 5) (v := .int va) (C := nR_T) (T := nT_T) (N := 4) hx hb hta in_T hown hK hM k_4 rfl 1 (by decide) (hta _ aw_257) (fun _ h9 => h9) rfl d_N_takeStrike_10 ?_
  refine lv_iload_n hx hb d_N_takeStrike_13 rfl (lv_at hl 2 rfl) ?_
  refine lv_aload_n hx hb d_N_takeStrike_14 rfl (lv_at hl 0 rfl) ?_
  refine m_get (D := G) (ci := 4) (v := .ref la) (C := nR_N) (T := nT_N) (N := 10) hx hb hta in_N hown hK hM k_3 rfl 6 (by decide) (hta _ aw_294) (fun _ h9 => h9) rfl d_N_takeStrike_15 ?_
  have hF := mw_free hM hS hA
  refine va_callv (va_runI (As := [.int now, .int va, .int x, .ref la]) (rest := [.ref q_1, .ref a]) ⟨hx, hb, hml, hown, hta⟩ (k_T_init_r l G tys w_2 k_5 now va x hz la _) (cI 4 hta aw_249 aw_13 aw_247 aw_248 rfl rfl rfl (by decide +kernel) ⟨Nat.le_of_ble_eq_true rfl, Nat.le_of_ble_eq_true rfl⟩) (pZ_S hK hM) rfl rfl hl.1 rfl (lv_room (Nat.le_of_ble_eq_true rfl)) d_N_takeStrike_18 ⟨Nat.le_of_ble_eq_true rfl, Nat.le_of_ble_eq_true rfl⟩) hS (fun q _ h => hF q h) hF (fun u_r_6 t H locs ht hvm hr_6 hB hz1 hk1 hS => ?_)
  obtain ⟨hM1, hK1⟩ := hB
  rw [ht] at hM1
  have hM := mw_weaken hM1 hF
  clear hM1 hK1 hF hk1 hz1
  obtain ⟨w_7, hw_7⟩ : ∃ z9 : Nat → Option va_E, z9 = va_up w_2 q_1 (some (.inr (5, [.int now, .int va, .int x, .ref la]))) := ⟨_, rfl⟩
  rw [← hw_7] at hM
  have k_8 : w_7 a = some (.inr (4, [.int nu, .int wr, .int kd, .int sc, .int se, .ref fi, .ref la, .int ac, .int co, .int mx])) := by rw [hw_7, va_up_ne _ _ (m_newne hn nq_1)]; exact k_3
  have k_9 : w_7 la = some (.inr (5, [.int fr, .int va, .int z, va_rf ea])) := by rw [hw_7, va_up_ne _ _ (m_newne hs nq_1)]; exact k_4
  have k_10 : w_7 q_1 = some (.inr (5, [.int now, .int va, .int x, .ref la])) := by rw [hw_7, va_up_self]
  refine m_put (D := G) (ci := 4) (v := .ref q_1) (ty := .object "SceneTimes$State") (C := nR_N) (T := nT_N) (N := 10) hx hb hta in_N nt_N nt_N_ok nn_N hown hK hM hS k_8 rfl 6 (by decide) (hta _ aw_294) (fun _ h9 => h9) rfl (by decide +kernel) rfl rfl (Nat.le_of_ble_eq_true rfl) d_N_takeStrike_21 (fs' := [.int nu, .int wr, .int kd, .int sc, .int se, .ref fi, .ref q_1, .int ac, .int co, .int mx]) rfl (fun H locs hM hS => ?_)
  obtain ⟨w_11, hw_11⟩ : ∃ z9 : Nat → Option va_E, z9 = va_up w_7 a (some (.inr (4, [.int nu, .int wr, .int kd, .int sc, .int se, .ref fi, .ref q_1, .int ac, .int co, .int mx]))) := ⟨_, rfl⟩
  rw [← hw_11] at hM
  have k_12 : w_11 a = some (.inr (4, [.int nu, .int wr, .int kd, .int sc, .int se, .ref fi, .ref q_1, .int ac, .int co, .int mx])) := by rw [hw_11, va_up_self]
  have k_13 : w_11 la = some (.inr (5, [.int fr, .int va, .int z, va_rf ea])) := by rw [hw_11, va_up_ne _ _ (m_ne k_9 k_8 (by intro h; cases h))]; exact k_9
  have k_14 : w_11 q_1 = some (.inr (5, [.int now, .int va, .int x, .ref la])) := by rw [hw_11, va_up_ne _ _ (Ne.symm (m_newne hn nq_1))]; exact k_10
  refine lv_aload_n hx hb d_N_takeStrike_24 rfl (lv_at hl 0 rfl) ?_
  refine lv_dup hx hb d_N_takeStrike_25 rfl ?_
  refine m_get (D := G) (ci := 4) (v := .int ac) (C := nR_N) (T := nT_N) (N := 10) hx hb hta in_N hown hK hM k_12 rfl 7 (by decide) (hta _ aw_297) (fun _ h9 => h9) rfl d_N_takeStrike_26 ?_
  refine lv_iconst (v := 1) hx hb d_N_takeStrike_29 (by decide) ?_
  refine lv_iadd hx hb d_N_takeStrike_30 ?_
  refine m_put (D := G) (ci := 4) (v := .int (ac + 1)) (ty := .int) (C := nR_N) (T := nT_N) (N := 10) hx hb hta in_N nt_N nt_N_ok nn_N hown hK hM hS k_12 rfl 7 (by decide) (hta _ aw_297) (fun _ h9 => h9) rfl (by decide +kernel) rfl rfl (Nat.le_of_ble_eq_true rfl) d_N_takeStrike_31 (fs' := [.int nu, .int wr, .int kd, .int sc, .int se, .ref fi, .ref q_1, .int (ac + 1), .int co, .int mx]) rfl (fun H locs hM hS => ?_)
  obtain ⟨w_15, hw_15⟩ : ∃ z9 : Nat → Option va_E, z9 = va_up w_11 a (some (.inr (4, [.int nu, .int wr, .int kd, .int sc, .int se, .ref fi, .ref q_1, .int (ac + 1), .int co, .int mx]))) := ⟨_, rfl⟩
  rw [← hw_15] at hM
  have k_16 : w_15 a = some (.inr (4, [.int nu, .int wr, .int kd, .int sc, .int se, .ref fi, .ref q_1, .int (ac + 1), .int co, .int mx])) := by rw [hw_15, va_up_self]
  have k_17 : w_15 la = some (.inr (5, [.int fr, .int va, .int z, va_rf ea])) := by rw [hw_15, va_up_ne _ _ (m_ne k_13 k_12 (by intro h; cases h))]; exact k_13
  have k_18 : w_15 q_1 = some (.inr (5, [.int now, .int va, .int x, .ref la])) := by rw [hw_15, va_up_ne _ _ (Ne.symm (m_newne hn nq_1))]; exact k_14
  have hne : a ≠ q_1 := m_newne hn nq_1
  have hfin : w_15 = va_up (va_up w q_1 (some (eT now va x (some la)))) a (some (eN nu wr kd sc se fi q_1 (ac + 1) co mx)) := by
    rw [hw_15, hw_11, hw_7, hw_2]
    funext z9
    simp only [va_up]
    by_cases y0 : z9 = a
    · by_cases y1 : z9 = q_1
      · exact absurd (y0.symm.trans y1) hne
      · first | (simp only [if_pos y0, if_neg y1]; done) | (simp only [if_pos y0, if_neg y1]; rfl)
    · by_cases y1 : z9 = q_1
      · first | (simp only [if_neg y0, if_pos y1]; done) | (simp only [if_neg y0, if_pos y1]; rfl)
      · first | (simp only [if_neg y0, if_neg y1]; done) | (simp only [if_neg y0, if_neg y1]; rfl)
  rw [hfin] at hM
  exact W.vret hx hb hr (fun t ht hW => ⟨⟨q_1, rfl, nq_1, by rw [ht]; exact hM, va_K.moved hW.alike hK⟩, hS.F ht⟩) hS.2.2 d_N_takeStrike_34
