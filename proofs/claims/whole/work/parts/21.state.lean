/-! readers with loops: a note at a second, the line -/
/-- a note's states, the latest first: where they lie, from when, value, struck -/
abbrev cS4 : Type := Nat × Int32 × Int32 × Int32
def ch (w : Nat → Option va_E) : List cS4 → Prop
  | [] => True
  | c :: r => w c.1 = some (eT c.2.1 c.2.2.1 c.2.2.2 (r.head?.map Prod.fst)) ∧ ch w r
def stAt (k : Int32) : List cS4 → cS4
  | [] => (0, 0, 0, 0)
  | [c] => c
  | c :: d :: r => if c.2.1 ≤ k then c else stAt k (d :: r)
set_option maxHeartbeats 4000000 in
set_option maxRecDepth 100000 in
theorem k_N_stateAt (l : Launch) (G : va_G) (tys : List (ClassId × FieldType)) (w : Nat → Option va_E) {a : Nat} {nu wr kd sc se : Int32} {fi la : Nat} {ac co mx : Int32} (hn : w a = some (eN nu wr kd sc se fi la ac co mx)) (k : Int32) {cf cv cz : Int32} {cr : List cS4} (hc : ch w ((la, cf, cv, cz) :: cr)) : Met l y_N_stateAt (wm y_N_stateAt c_N_stateAt 3 (some (.object "SceneTimes$State"))) ({ frames := 0, cells := 0, slots := 0, locals := 0 }) (pW G tys w [.ref a, .int k]) (va_Sq (fun r => r = some (stAt k ((la, cf, cv, cz) :: cr)).1)) 0 0 (fun _ => False) := by
  refine Met.ofW (cc := c_N_stateAt) (maxL := 3) (ret := (some (.object "SceneTimes$State"))) (by decide) rfl ?_
  intro p e s m args below meth c s₁ B hml hv
  obtain ⟨rfl, hM, hK⟩ := hv
  have hx := B.exec
  have hb := B.bytes
  have hr := B.returns
  have hts := atoms_spec (ws := (wm y_N_stateAt c_N_stateAt 3 (some (.object "SceneTimes$State")))) B.pre
  have hta : ∀ w ∈ AL, w.before _ s = true := fun w h => hts w (List.mem_cons_of_mem _ h)
  have hown : s.vm.findClass nR_N = some m.cls := findClass_of_methodNamed B.named
  have hlocks := B.notSynchronized
  have hl := lv_entry ([.ref a, .int k]) (n := 3) (Nat.le_of_ble_eq_true rfl)
  rw [lg_entry_eq]
  generalize (lg_sl ([.ref a, .int k]) ++ List.replicate (3 - (lg_sl ([.ref a, .int k])).length) Slot.unset).toArray = ls at hl ⊢
  have hl : lv_has ls 3 [(0, .ref a), (1, .int k)] := hl
  have loop : ∀ (r : List cS4) (b : Nat) (f v z : Int32) (ls : Array Slot), ch w ((b, f, v, z) :: r) → stAt k ((b, f, v, z) :: r) = stAt k ((la, cf, cv, cz) :: cr) → lv_has ls 3 [(0, .ref a), (1, .int k), (2, .ref b)] → W p l e (headSpec (wm y_N_stateAt c_N_stateAt 3 (some (.object "SceneTimes$State"))) ({ frames := 0, cells := 0, slots := 0, locals := 0 })).room s m ([.ref a, .int k] : List Value).toArray below meth c s.heap [] 0 0 (MQ below (va_Sq (fun r => r = some (stAt k ((la, cf, cv, cz) :: cr)).1)) ([.ref a, .int k] : List Value).toArray s 0 0 (fun _ => False)) (F0 m 5 ls []) := by
    intro r
    induction r with
    | nil =>
      intro b f v z ls hb2 hst hl
      have hs := hb2.1
      refine lv_aload_n hx hb d_N_stateAt_5 rfl (lv_at hl 2 rfl) ?_
      refine m_get (D := G) (ci := 5) (v := .int f) (C := nR_T) (T := nT_T) (N := 4) hx hb hta in_T hown hK hM hs rfl 0 (by decide) (hta _ aw_252) (fun _ h9 => h9) rfl d_N_stateAt_6 ?_
      refine lv_iload_n hx hb d_N_stateAt_9 rfl (lv_at hl 1 rfl) ?_
      refine lv_icmp_le (tgt := 28) hx hb d_N_stateAt_10 (by decide) (fun c_1 => ?_) (fun c_1 => ?_)
      · refine lv_aload_n hx hb d_N_stateAt_28 rfl (lv_at hl 2 rfl) ?_
        exact W.aret (v := .ref b) (rt := .object "SceneTimes$State") hx hb hr (Or.inl ⟨_, rfl⟩) (Or.inr ⟨_, rfl⟩) (fun t ht hW => ⟨some b, rfl, by rw [← hst]; simp [stAt, c_1], ht⟩) (fun q h => nomatch h) d_N_stateAt_29
      · refine lv_aload_n hx hb d_N_stateAt_13 rfl (lv_at hl 2 rfl) ?_
        refine m_get (D := G) (ci := 5) (v := .null) (C := nR_T) (T := nT_T) (N := 4) hx hb hta in_T hown hK hM hs rfl 3 (by decide) (hta _ aw_265) (fun _ h9 => h9) rfl d_N_stateAt_14 ?_
        refine lv_ifnullN (tgt := 28) hx hb d_N_stateAt_17 (by decide) ?_
        refine lv_aload_n hx hb d_N_stateAt_28 rfl (lv_at hl 2 rfl) ?_
        exact W.aret (v := .ref b) (rt := .object "SceneTimes$State") hx hb hr (Or.inl ⟨_, rfl⟩) (Or.inr ⟨_, rfl⟩) (fun t ht hW => ⟨some b, rfl, by rw [← hst]; simp [stAt, c_1], ht⟩) (fun q h => nomatch h) d_N_stateAt_29
    | cons d r ih =>
      intro b f v z ls hb2 hst hl
      have hs := hb2.1
      refine lv_aload_n hx hb d_N_stateAt_5 rfl (lv_at hl 2 rfl) ?_
      refine m_get (D := G) (ci := 5) (v := .int f) (C := nR_T) (T := nT_T) (N := 4) hx hb hta in_T hown hK hM hs rfl 0 (by decide) (hta _ aw_252) (fun _ h9 => h9) rfl d_N_stateAt_6 ?_
      refine lv_iload_n hx hb d_N_stateAt_9 rfl (lv_at hl 1 rfl) ?_
      refine lv_icmp_le (tgt := 28) hx hb d_N_stateAt_10 (by decide) (fun c_2 => ?_) (fun c_2 => ?_)
      · refine lv_aload_n hx hb d_N_stateAt_28 rfl (lv_at hl 2 rfl) ?_
        exact W.aret (v := .ref b) (rt := .object "SceneTimes$State") hx hb hr (Or.inl ⟨_, rfl⟩) (Or.inr ⟨_, rfl⟩) (fun t ht hW => ⟨some b, rfl, by rw [← hst]; simp [stAt, c_2], ht⟩) (fun q h => nomatch h) d_N_stateAt_29
      · refine lv_aload_n hx hb d_N_stateAt_13 rfl (lv_at hl 2 rfl) ?_
        refine m_get (D := G) (ci := 5) (v := .ref d.1) (C := nR_T) (T := nT_T) (N := 4) hx hb hta in_T hown hK hM hs rfl 3 (by decide) (hta _ aw_265) (fun _ h9 => h9) rfl d_N_stateAt_14 ?_
        refine lv_ifnull hx hb d_N_stateAt_17 ?_
        refine lv_aload_n hx hb d_N_stateAt_20 rfl (lv_at hl 2 rfl) ?_
        refine m_get (D := G) (ci := 5) (v := .ref d.1) (C := nR_T) (T := nT_T) (N := 4) hx hb hta in_T hown hK hM hs rfl 3 (by decide) (hta _ aw_265) (fun _ h9 => h9) rfl d_N_stateAt_21 ?_
        refine lv_astore_n (lv' := [(2, .ref d.1), (0, .ref a), (1, .int k)]) hx hb d_N_stateAt_24 rfl hl (by decide) rfl (fun ls hl => ?_)
        refine lv_goto (tgt := 5) hx hb d_N_stateAt_25 (by decide) ?_
        exact ih d.1 d.2.1 d.2.2.1 d.2.2.2 ls hb2.2 (by rw [← hst]; simp [stAt, c_2]) (lv_sub hl [1, 2, 0] rfl)
  refine lv_aload_n hx hb d_N_stateAt_0 rfl (lv_at hl 0 rfl) ?_
  refine m_get (D := G) (ci := 4) (v := .ref la) (C := nR_N) (T := nT_N) (N := 10) hx hb hta in_N hown hK hM hn rfl 6 (by decide) (hta _ aw_294) (fun _ h9 => h9) rfl d_N_stateAt_1 ?_
  refine lv_astore_n (lv' := [(2, .ref la), (0, .ref a), (1, .int k)]) hx hb d_N_stateAt_4 rfl hl (by decide) rfl (fun ls hl => ?_)
  exact loop cr la cf cv cz ls hc rfl (lv_sub hl [1, 2, 0] rfl)
