/-! WORLDS AS MAPS: what lies at an address, by a function; the kit's lists of cells stand behind it -/
def mw (D : va_G) (cl : List vw_C) (A : Nat → Prop) (w : Nat → Option va_E) (H : Heap) : Prop := ∀ (a : Nat) (e : va_E), w a = some e → va_at D cl (a, e) H ∧ A a
def mA (w : Nat → Option va_E) (sz : Nat) : Nat → Prop := fun q => w q ≠ none ∨ sz ≤ q
theorem mw_weaken {D : va_G} {cl : List vw_C} {A B : Nat → Prop} {w : Nat → Option va_E} {H : Heap} (h : mw D cl A w H) (hAB : ∀ q, A q → B q) : mw D cl B w H := fun a e he => ⟨(h a e he).1, hAB a (h a e he).2⟩
theorem mw_self {D : va_G} {cl : List vw_C} {A : Nat → Prop} {w : Nat → Option va_E} {H : Heap} {sz : Nat} (h : mw D cl A w H) : mw D cl (mA w sz) w H := fun a e he => ⟨(h a e he).1, Or.inl (by rw [he]; exact fun q => nomatch q)⟩
theorem mw_lt {D : va_G} {cl : List vw_C} {A : Nat → Prop} {w : Nat → Option va_E} {H : Heap} (h : mw D cl A w H) {a : Nat} {e : va_E} (he : w a = some e) : a < H.size := (h a e he).1.lt
theorem mw_lt' {D : va_G} {cl : List vw_C} {A : Nat → Prop} {w : Nat → Option va_E} {H : Heap} (h : mw D cl A w H) {a : Nat} (he : w a ≠ none) : a < H.size := by
  cases hw : w a with
  | none => exact absurd hw he
  | some e => exact mw_lt h hw
/-- a heap in which the cells of w are as they were -/
theorem mw_frame {D : va_G} {cl : List vw_C} {A A1 : Nat → Prop} {w : Nat → Option va_E} {H H1 : Heap} (h : mw D cl A w H) (hq : ∀ q : Nat, q < H.size → ¬ A1 q → H1[q]? = H[q]?) (hd : ∀ q, w q ≠ none → ¬ A1 q) : mw D cl A w H1 := fun a e he =>
  ⟨(h a e he).1.kept (hq a (mw_lt h he) (hd a (by rw [he]; exact fun q => nomatch q))), (h a e he).2⟩
theorem mw_kept {D : va_G} {cl : List vw_C} {A : Nat → Prop} {w : Nat → Option va_E} {H H1 : Heap} (h : mw D cl A w H) (hq : ∀ q : Nat, q < H.size → H1[q]? = H[q]?) : mw D cl A w H1 := fun a e he => ⟨(h a e he).1.kept (hq a (mw_lt h he)), (h a e he).2⟩
theorem mw_free {D : va_G} {cl : List vw_C} {A : Nat → Prop} {w : Nat → Option va_E} {H H0 : Heap} {locs : List Loc} (h : mw D cl A w H) (hS : va_S A H0 H locs) (hA : ∀ q, H0.size ≤ q → A q) : ∀ q, mA w H.size q → A q := by
  intro q hq
  rcases hq with h1 | h1
  · cases hw : w q with
    | none => exact absurd hw h1
    | some e => exact (h q e hw).2
  · exact hA q (Nat.le_trans hS.1 h1)
/-- the cells below n, as a list -/
def mL (w : Nat → Option va_E) : Nat → va_W
  | 0 => []
  | n + 1 => match w n with
    | some e => (n, e) :: mL w n
    | none => mL w n
theorem mL_in {w : Nat → Option va_E} : ∀ (n k : Nat) (q : Nat × va_E), (mL w n)[k]? = some q → q.1 < n ∧ w q.1 = some q.2 := by
  intro n
  induction n with
  | zero => intro k q h; simp [mL] at h
  | succ n ih =>
    intro k q h
    unfold mL at h
    cases hw : w n with
    | none =>
      rw [hw] at h
      exact ⟨Nat.lt_succ_of_lt (ih k q h).1, (ih k q h).2⟩
    | some e =>
      rw [hw] at h
      cases k with
      | zero =>
        rw [List.getElem?_cons_zero] at h
        cases h
        exact ⟨Nat.lt_succ_self n, hw⟩
      | succ k =>
        rw [List.getElem?_cons_succ] at h
        exact ⟨Nat.lt_succ_of_lt (ih k q h).1, (ih k q h).2⟩
theorem mL_has {w : Nat → Option va_E} : ∀ (n a : Nat) (e : va_E), a < n → w a = some e → ∃ k : Nat, (mL w n)[k]? = some (a, e) := by
  intro n
  induction n with
  | zero => intro a e h; exact absurd h (Nat.not_lt_zero a)
  | succ n ih =>
    intro a e h he
    unfold mL
    by_cases ha : a = n
    · subst ha
      rw [he]
      exact ⟨0, rfl⟩
    · obtain ⟨k, hk⟩ := ih a e (by omega) he
      cases hw : w n with
      | none => exact ⟨k, hk⟩
      | some e2 => exact ⟨k + 1, hk⟩
theorem mL_inj {w : Nat → Option va_E} : ∀ (n i j : Nat) (p q : Nat × va_E), (mL w n)[i]? = some p → (mL w n)[j]? = some q → p.1 = q.1 → i = j := by
  intro n
  induction n with
  | zero => intro i j p q h; simp [mL] at h
  | succ n ih =>
    intro i j p q h1 h2 hpq
    unfold mL at h1 h2
    cases hw : w n with
    | none =>
      rw [hw] at h1 h2
      exact ih i j p q h1 h2 hpq
    | some e =>
      rw [hw] at h1 h2
      cases i with
      | zero =>
        rw [List.getElem?_cons_zero] at h1
        cases h1
        cases j with
        | zero => rfl
        | succ j =>
          rw [List.getElem?_cons_succ] at h2
          have := (mL_in n j q h2).1
          have hpq : n = q.1 := hpq
          omega
      | succ i =>
        rw [List.getElem?_cons_succ] at h1
        have h3 := (mL_in n i p h1).1
        cases j with
        | zero =>
          rw [List.getElem?_cons_zero] at h2
          cases h2
          have hpq : p.1 = n := hpq
          omega
        | succ j =>
          rw [List.getElem?_cons_succ] at h2
          rw [ih i j p q h1 h2 hpq]
theorem mw_list {D : va_G} {cl : List vw_C} {A : Nat → Prop} {w : Nat → Option va_E} {H : Heap} (h : mw D cl A w H) : ∃ ws : va_W, va_P D cl ws H ∧ va_D A ws ∧ ∀ (a : Nat) (e : va_E), w a = some e → ∃ k : Nat, ws[k]? = some (a, e) :=
  ⟨mL w H.size, fun k q hk => (h q.1 q.2 (mL_in _ k q hk).2).1, ⟨fun i j p q h1 h2 h3 => mL_inj _ i j p q h1 h2 h3, fun k q hk => (h q.1 q.2 (mL_in _ k q hk).2).2⟩, fun a e he => mL_has _ a e (mw_lt h he) he⟩
theorem mw_upd {D : va_G} {cl : List vw_C} {A : Nat → Prop} {w : Nat → Option va_E} {ws : va_W} {H1 : Heap} {k a : Nat} {e0 e1 : va_E} (hall : ∀ (a : Nat) (e : va_E), w a = some e → ∃ k : Nat, ws[k]? = some (a, e)) (hk : ws[k]? = some (a, e0)) (hP : va_P D cl (ws.set k (a, e1)) H1) (hD : va_D A (ws.set k (a, e1))) : mw D cl A (va_up w a (some e1)) H1 := by
  intro b e hb
  by_cases hba : b = a
  · subst hba
    rw [va_up_self] at hb
    cases hb
    have h9 : (ws.set k (b, e1))[k]? = some (b, e1) := by
      have hl : k < ws.length := (List.getElem?_eq_some_iff.mp hk).1
      simp [List.getElem?_set, hl]
    exact ⟨hP k _ h9, hD.2 k _ h9⟩
  · rw [va_up_ne _ _ hba] at hb
    obtain ⟨j, hj⟩ := hall b e hb
    have hjk : k ≠ j := by
      intro q
      subst q
      rw [hj] at hk
      cases hk
      exact hba rfl
    have h9 : (ws.set k (a, e1))[j]? = some (b, e) := by
      rw [List.getElem?_set_ne hjk]
      exact hj
    exact ⟨hP j _ h9, hD.2 j _ h9⟩
theorem mw_push {D : va_G} {cl : List vw_C} {A : Nat → Prop} {w : Nat → Option va_E} {ws : va_W} {H1 : Heap} {a : Nat} {e1 : va_E} (hall : ∀ (a : Nat) (e : va_E), w a = some e → ∃ k : Nat, ws[k]? = some (a, e)) (hP : va_P D cl (ws ++ [(a, e1)]) H1) (hD : va_D A (ws ++ [(a, e1)])) : mw D cl A (va_up w a (some e1)) H1 ∧ w a = none := by
  have hl : (ws ++ [(a, e1)])[ws.length]? = some (a, e1) := by simp
  constructor
  · intro b e hb
    by_cases hba : b = a
    · subst hba
      rw [va_up_self] at hb
      cases hb
      exact ⟨hP _ _ hl, hD.2 _ _ hl⟩
    · rw [va_up_ne _ _ hba] at hb
      obtain ⟨j, hj⟩ := hall b e hb
      have h9 : (ws ++ [(a, e1)])[j]? = some (b, e) := by
        rw [List.getElem?_append_left (List.getElem?_eq_some_iff.mp hj).1]
        exact hj
      exact ⟨hP j _ h9, hD.2 j _ h9⟩
  · cases hw : w a with
    | none => rfl
    | some e =>
      obtain ⟨j, hj⟩ := hall a e hw
      have hjl := (List.getElem?_eq_some_iff.mp hj).1
      have h9 : (ws ++ [(a, e1)])[j]? = some (a, e) := by
        rw [List.getElem?_append_left hjl]
        exact hj
      have := hD.1 j ws.length _ _ h9 hl rfl
      omega
section MW
variable {p : Program} {l : Launch} {e : Env} {R : Room} {s : State} {m : MethodId} {args : Array Value} {below : List Frame} {meth : Method} {c : Code} {H : Heap} {locs : List Loc} {cells slots : Nat} {Q : State → Prop}
variable {cc : ByteArray} {pc : Nat} {ls : Array Slot} {rest : List Value} {D : va_G} {cl : List vw_C} {A : Nat → Prop} {a : Nat} {tys : List (ClassId × FieldType)} {w : Nat → Option va_E} {H0 : Heap}
theorem m_get (hexec : p.tables.exec = Jvm.exec) (hb : c.code = cc) {own ref C : String} {T : u_T} {N ci index : Nat} {Ts : List Cond} (hts : ∀ w ∈ Ts, w.before args s = true) (hin : ∀ w ∈ u_ws C T N, w ∈ Ts) (hown : s.vm.findClass own = some m.cls) (hK : va_K D cl tys s) (hM : mw D cl A w H) {fs : List Value} (he : w a = some (.inr (ci, fs))) (hc : cl[ci]? = some (C, T, N)) (k : Nat) (hk : k < N) (hlink : (Cond.fieldLink own index ref (T k).2.1 (T k).2.2.1).before args s = true) (hsame : ∀ x, s.fieldFound? (T k).1 (T k).2.1 (T k).2.2.1 = some x → s.fieldFound? ref (T k).2.1 (T k).2.2.1 = some x) {v : Value} (hv : fs[k]? = some v) (hdg : decode cc pc = .ok (.getfield index, 3))
    (kk : W p l e R s m args below meth c H locs cells slots Q (F0 m (pc + 3) ls (v :: rest))) : W p l e R s m args below meth c H locs cells slots Q (F0 m pc ls (.ref a :: rest)) :=
  va_get (ws := [(a, .inr (ci, fs))]) hexec hb hts hin hown hK (fun k q hk => by
    have hz : k < 1 := (List.getElem?_eq_some_iff.mp hk).1
    rw [show k = 0 by omega] at hk
    cases hk
    exact (hM _ _ he).1) 0 rfl hc k hk hlink hsame hv hdg kk
theorem m_put (hexec : p.tables.exec = Jvm.exec) (hb : c.code = cc) {own ref C : String} {T : u_T} {N ci index : Nat} {Ts : List Cond} (hts : ∀ w ∈ Ts, w.before args s = true) (hin : ∀ w ∈ u_ws C T N, w ∈ Ts) (ty0 : Nat → FieldType) (hty : ∀ k, k < N → parseFieldDescriptor (T k).2.2.1 = some (ty0 k)) (hnm : ∀ a, a < N → ∀ b, b < N → a ≠ b → (T a).2.1 ≠ (T b).2.1) (hown : s.vm.findClass own = some m.cls) (hK : va_K D cl tys s) (hM : mw D cl A w H) (hS : va_S A H0 H locs) {fs : List Value} (he : w a = some (.inr (ci, fs))) (hc : cl[ci]? = some (C, T, N)) (k : Nat) (hk : k < N) (hlink : (Cond.fieldLink own index ref (T k).2.1 (T k).2.2.1).before args s = true) (hsame : ∀ x, s.fieldFound? (T k).1 (T k).2.1 (T k).2.2.1 = some x → s.fieldFound? ref (T k).2.1 (T k).2.2.1 = some x) (hfin : (T k).2.2.2 = false) {ty : FieldType} {v : Value} (hd : parseFieldDescriptor (T k).2.2.1 = some ty) (hn : narrow ty v = v) (hfit : fits ty v = true) (hl : k < fs.length) (hdg : decode cc pc = .ok (.putfield index, 3)) {fs' : List Value} (hfs : fs.set k v = fs')
    (kk : ∀ (H : Heap) (locs : List Loc), mw D cl A (va_up w a (some (.inr (ci, fs')))) H → va_S A H0 H locs → W p l e R s m args below meth c H locs cells slots Q (F0 m (pc + 3) ls rest)) : W p l e R s m args below meth c H locs cells slots Q (F0 m pc ls (v :: .ref a :: rest)) := by
  obtain ⟨ws, hP, hD, hall⟩ := mw_list hM
  obtain ⟨q0, hq0⟩ := hall _ _ he
  subst hfs
  exact va_put hexec hb hts hin ty0 hty hnm hown hK hP hD hS q0 hq0 hc k hk hlink hsame hfin hd hn hfit hl hdg (fun H1 locs1 hP1 hD1 hS1 => kk H1 locs1 (mw_upd hall hq0 hP1 hD1) hS1)
theorem m_putF (hexec : p.tables.exec = Jvm.exec) (hb : c.code = cc) {own ref C : String} {T : u_T} {N ci index : Nat} {Ts : List Cond} (hts : ∀ w ∈ Ts, w.before args s = true) (hin : ∀ w ∈ u_ws C T N, w ∈ Ts) (ty0 : Nat → FieldType) (hty : ∀ k, k < N → parseFieldDescriptor (T k).2.2.1 = some (ty0 k)) (hnm : ∀ a, a < N → ∀ b, b < N → a ≠ b → (T a).2.1 ≠ (T b).2.1) (hown : s.vm.findClass own = some m.cls) (hK : va_K D cl tys s) (hM : mw D cl A w H) (hS : va_S A H0 H locs) {fs : List Value} (he : w a = some (.inr (ci, fs))) (hc : cl[ci]? = some (C, T, N)) (k : Nat) (hk : k < N) (hlink : (Cond.fieldLink own index ref (T k).2.1 (T k).2.2.1).before args s = true) (hsame : ∀ x, s.fieldFound? (T k).1 (T k).2.1 (T k).2.2.1 = some x → s.fieldFound? ref (T k).2.1 (T k).2.2.1 = some x) (hfin : (T k).2.2.2 = true) (hin2 : meth.name = "<init>") (hdecl : (T k).1 = own) {ty : FieldType} {v : Value} (hd : parseFieldDescriptor (T k).2.2.1 = some ty) (hn : narrow ty v = v) (hfit : fits ty v = true) (hl : k < fs.length) (hdg : decode cc pc = .ok (.putfield index, 3)) {fs' : List Value} (hfs : fs.set k v = fs')
    (kk : ∀ (H : Heap) (locs : List Loc), mw D cl A (va_up w a (some (.inr (ci, fs')))) H → va_S A H0 H locs → W p l e R s m args below meth c H locs cells slots Q (F0 m (pc + 3) ls rest)) : W p l e R s m args below meth c H locs cells slots Q (F0 m pc ls (v :: .ref a :: rest)) := by
  obtain ⟨ws, hP, hD, hall⟩ := mw_list hM
  obtain ⟨q0, hq0⟩ := hall _ _ he
  subst hfs
  exact va_putF hexec hb hts hin ty0 hty hnm hown hK hP hD hS q0 hq0 hc k hk hlink hsame hfin hin2 hdecl hd hn hfit hl hdg (fun H1 locs1 hP1 hD1 hS1 => kk H1 locs1 (mw_upd hall hq0 hP1 hD1) hS1)
theorem m_aald (hexec : p.tables.exec = Jvm.exec) (hb : c.code = cc) (hK : va_K D cl tys s) (hM : mw D cl A w H) (t0 : Nat) {cA : ClassId} {C : String} {n : Nat} {f : Nat → Option Nat} (ha : w a = some (.inl (cA, n, .inr (.inr (.inr (.inr f)))))) (ht : tys[t0]? = some (cA, .object C)) {i : Int32} (hin : vp_in i n) {v : Value} (hv : va_rf (f i.toNatClampNeg) = v) (hdg : decode cc pc = .ok (.aaload, 1))
    (kk : W p l e R s m args below meth c H locs cells slots Q (F0 m (pc + 1) ls (v :: rest))) : W p l e R s m args below meth c H locs cells slots Q (F0 m pc ls (.int i :: .ref a :: rest)) := by
  obtain ⟨ws, hP, hD, hall⟩ := mw_list hM
  obtain ⟨q0, hq0⟩ := hall _ _ ha
  subst hv
  exact va_aldq hexec hb hK hP q0 t0 hq0 ht hin hdg kk
theorem m_iald (hexec : p.tables.exec = Jvm.exec) (hb : c.code = cc) (hK : va_K D cl tys s) (hM : mw D cl A w H) (t0 : Nat) {cA : ClassId} {n : Nat} {f : Nat → Int32} (ha : w a = some (.inl (cA, n, .inl f))) (ht : tys[t0]? = some (cA, .int)) {i : Int32} (hin : vp_in i n) (hdg : decode cc pc = .ok (.iaload, 1))
    (kk : W p l e R s m args below meth c H locs cells slots Q (F0 m (pc + 1) ls (.int (f i.toNatClampNeg) :: rest))) : W p l e R s m args below meth c H locs cells slots Q (F0 m pc ls (.int i :: .ref a :: rest)) := by
  obtain ⟨ws, hP, hD, hall⟩ := mw_list hM
  obtain ⟨q0, hq0⟩ := hall _ _ ha
  exact va_iald hexec hb hK hP q0 t0 hq0 ht hin hdg kk
theorem m_bald (hexec : p.tables.exec = Jvm.exec) (hb : c.code = cc) (hK : va_K D cl tys s) (hM : mw D cl A w H) (t0 : Nat) {cA : ClassId} {n : Nat} {f : Nat → Int32} (ha : w a = some (.inl (cA, n, .inl f))) (ht : tys[t0]? = some (cA, .byte)) {i : Int32} (hin : vp_in i n) (hdg : decode cc pc = .ok (.baload, 1))
    (kk : W p l e R s m args below meth c H locs cells slots Q (F0 m (pc + 1) ls (.int (f i.toNatClampNeg) :: rest))) : W p l e R s m args below meth c H locs cells slots Q (F0 m pc ls (.int i :: .ref a :: rest)) := by
  obtain ⟨ws, hP, hD, hall⟩ := mw_list hM
  obtain ⟨q0, hq0⟩ := hall _ _ ha
  exact va_bald hexec hb hK hP q0 t0 hq0 ht hin hdg kk
theorem m_zald (hexec : p.tables.exec = Jvm.exec) (hb : c.code = cc) (hK : va_K D cl tys s) (hM : mw D cl A w H) (t0 : Nat) {cA : ClassId} {n : Nat} {f : Nat → Int32} (ha : w a = some (.inl (cA, n, .inl f))) (ht : tys[t0]? = some (cA, .boolean)) {i : Int32} (hin : vp_in i n) (hdg : decode cc pc = .ok (.baload, 1))
    (kk : W p l e R s m args below meth c H locs cells slots Q (F0 m (pc + 1) ls (.int (f i.toNatClampNeg) :: rest))) : W p l e R s m args below meth c H locs cells slots Q (F0 m pc ls (.int i :: .ref a :: rest)) := by
  obtain ⟨ws, hP, hD, hall⟩ := mw_list hM
  obtain ⟨q0, hq0⟩ := hall _ _ ha
  exact va_zald hexec hb hK hP q0 t0 hq0 ht hin hdg kk
theorem m_lald (hexec : p.tables.exec = Jvm.exec) (hb : c.code = cc) (hK : va_K D cl tys s) (hM : mw D cl A w H) (t0 : Nat) {cA : ClassId} {n : Nat} {f : Nat → Int64} (ha : w a = some (.inl (cA, n, .inr (.inl f)))) (ht : tys[t0]? = some (cA, .long)) {i : Int32} (hin : vp_in i n) (hdg : decode cc pc = .ok (.laload, 1))
    (kk : W p l e R s m args below meth c H locs cells slots Q (F0 m (pc + 1) ls (.long (f i.toNatClampNeg) :: rest))) : W p l e R s m args below meth c H locs cells slots Q (F0 m pc ls (.int i :: .ref a :: rest)) := by
  obtain ⟨ws, hP, hD, hall⟩ := mw_list hM
  obtain ⟨q0, hq0⟩ := hall _ _ ha
  exact va_lald hexec hb hK hP q0 t0 hq0 ht hin hdg kk
theorem m_iast (hexec : p.tables.exec = Jvm.exec) (hb : c.code = cc) (hK : va_K D cl tys s) (hM : mw D cl A w H) (hS : va_S A H0 H locs) (t0 : Nat) {cA : ClassId} {n : Nat} {f : Nat → Int32} (ha : w a = some (.inl (cA, n, .inl f))) (ht : tys[t0]? = some (cA, .int)) {i x : Int32} (hin : vp_in i n) (hdg : decode cc pc = .ok (.iastore, 1))
    (kk : ∀ (H : Heap) (locs : List Loc), mw D cl A (va_up w a (some (.inl (cA, n, .inl (upd f i.toNatClampNeg x))))) H → va_S A H0 H locs → W p l e R s m args below meth c H locs cells slots Q (F0 m (pc + 1) ls rest)) : W p l e R s m args below meth c H locs cells slots Q (F0 m pc ls (.int x :: .int i :: .ref a :: rest)) := by
  obtain ⟨ws, hP, hD, hall⟩ := mw_list hM
  obtain ⟨q0, hq0⟩ := hall _ _ ha
  exact va_iast hexec hb hK hP hD hS q0 t0 hq0 ht hin hdg (fun H1 locs1 hP1 hD1 hS1 => kk H1 locs1 (mw_upd hall hq0 hP1 hD1) hS1)
theorem m_bast (hexec : p.tables.exec = Jvm.exec) (hb : c.code = cc) (hK : va_K D cl tys s) (hM : mw D cl A w H) (hS : va_S A H0 H locs) (t0 : Nat) {cA : ClassId} {n : Nat} {f : Nat → Int32} (ha : w a = some (.inl (cA, n, .inl f))) (ht : tys[t0]? = some (cA, .byte)) {i x : Int32} (hin : vp_in i n) (hdg : decode cc pc = .ok (.bastore, 1))
    (kk : ∀ (H : Heap) (locs : List Loc), mw D cl A (va_up w a (some (.inl (cA, n, .inl (upd f i.toNatClampNeg (vp_nar .byte x)))))) H → va_S A H0 H locs → W p l e R s m args below meth c H locs cells slots Q (F0 m (pc + 1) ls rest)) : W p l e R s m args below meth c H locs cells slots Q (F0 m pc ls (.int x :: .int i :: .ref a :: rest)) := by
  obtain ⟨ws, hP, hD, hall⟩ := mw_list hM
  obtain ⟨q0, hq0⟩ := hall _ _ ha
  exact va_bast hexec hb hK hP hD hS q0 t0 hq0 ht hin hdg (fun H1 locs1 hP1 hD1 hS1 => kk H1 locs1 (mw_upd hall hq0 hP1 hD1) hS1)
theorem m_zast (hexec : p.tables.exec = Jvm.exec) (hb : c.code = cc) (hK : va_K D cl tys s) (hM : mw D cl A w H) (hS : va_S A H0 H locs) (t0 : Nat) {cA : ClassId} {n : Nat} {f : Nat → Int32} (ha : w a = some (.inl (cA, n, .inl f))) (ht : tys[t0]? = some (cA, .boolean)) {i x : Int32} (hin : vp_in i n) (hdg : decode cc pc = .ok (.bastore, 1))
    (kk : ∀ (H : Heap) (locs : List Loc), mw D cl A (va_up w a (some (.inl (cA, n, .inl (upd f i.toNatClampNeg (vp_nar .boolean x)))))) H → va_S A H0 H locs → W p l e R s m args below meth c H locs cells slots Q (F0 m (pc + 1) ls rest)) : W p l e R s m args below meth c H locs cells slots Q (F0 m pc ls (.int x :: .int i :: .ref a :: rest)) := by
  obtain ⟨ws, hP, hD, hall⟩ := mw_list hM
  obtain ⟨q0, hq0⟩ := hall _ _ ha
  exact va_zast hexec hb hK hP hD hS q0 t0 hq0 ht hin hdg (fun H1 locs1 hP1 hD1 hS1 => kk H1 locs1 (mw_upd hall hq0 hP1 hD1) hS1)
theorem m_last (hexec : p.tables.exec = Jvm.exec) (hb : c.code = cc) (hK : va_K D cl tys s) (hM : mw D cl A w H) (hS : va_S A H0 H locs) (t0 : Nat) {cA : ClassId} {n : Nat} {f : Nat → Int64} (ha : w a = some (.inl (cA, n, .inr (.inl f)))) (ht : tys[t0]? = some (cA, .long)) {i : Int32} {x : Int64} (hin : vp_in i n) (hdg : decode cc pc = .ok (.lastore, 1))
    (kk : ∀ (H : Heap) (locs : List Loc), mw D cl A (va_up w a (some (.inl (cA, n, .inr (.inl (vp_updL f i.toNatClampNeg x)))))) H → va_S A H0 H locs → W p l e R s m args below meth c H locs cells slots Q (F0 m (pc + 1) ls rest)) : W p l e R s m args below meth c H locs cells slots Q (F0 m pc ls (.long x :: .int i :: .ref a :: rest)) := by
  obtain ⟨ws, hP, hD, hall⟩ := mw_list hM
  obtain ⟨q0, hq0⟩ := hall _ _ ha
  exact va_last hexec hb hK hP hD hS q0 t0 hq0 ht hin hdg (fun H1 locs1 hP1 hD1 hS1 => kk H1 locs1 (mw_upd hall hq0 hP1 hD1) hS1)
theorem m_aast (hexec : p.tables.exec = Jvm.exec) (hb : c.code = cc) (hK : va_K D cl tys s) (hM : mw D cl A w H) (hS : va_S A H0 H locs) (t0 ci : Nat) {cA : ClassId} {r : vw_C} {n v : Nat} {vs : List Value} {f : Nat → Option Nat} (ha : w a = some (.inl (cA, n, .inr (.inr (.inr (.inr f)))))) (ht : tys[t0]? = some (cA, .object r.1)) (hv : w v = some (.inr (ci, vs))) (hc : cl[ci]? = some r) {i : Int32} (hin : vp_in i n) (hdg : decode cc pc = .ok (.aastore, 1))
    (kk : ∀ (H : Heap) (locs : List Loc), mw D cl A (va_up w a (some (.inl (cA, n, .inr (.inr (.inr (.inr (va_up f i.toNatClampNeg (some v))))))))) H → va_S A H0 H locs → W p l e R s m args below meth c H locs cells slots Q (F0 m (pc + 1) ls rest)) : W p l e R s m args below meth c H locs cells slots Q (F0 m pc ls (.ref v :: .int i :: .ref a :: rest)) := by
  obtain ⟨ws, hP, hD, hall⟩ := mw_list hM
  obtain ⟨q0, hq0⟩ := hall _ _ ha
  obtain ⟨qk, hqk⟩ := hall _ _ hv
  exact va_astq hexec hb hK hP hD hS q0 t0 qk ci hq0 ht hqk hc hin hdg (fun H1 locs1 hP1 hD1 hS1 => kk H1 locs1 (mw_upd hall hq0 hP1 hD1) hS1)
theorem m_alen (hexec : p.tables.exec = Jvm.exec) (hb : c.code = cc) (hK : va_K D cl tys s) (hM : mw D cl A w H) (t0 : Nat) {cA : ClassId} {x : vp_A} (ha : w a = some (.inl (cA, x))) {ty : FieldType} (ht : tys[t0]? = some (cA, ty)) {v : Int32} (hv : Int32.ofNat x.1 = v) (hdg : decode cc pc = .ok (.arraylength, 1))
    (kk : W p l e R s m args below meth c H locs cells slots Q (F0 m (pc + 1) ls (.int v :: rest))) : W p l e R s m args below meth c H locs cells slots Q (F0 m pc ls (.ref a :: rest)) := by
  obtain ⟨ws, hP, hD, hall⟩ := mw_list hM
  obtain ⟨q0, hq0⟩ := hall _ _ ha
  exact va_alen hexec hb hK hP q0 t0 hq0 ht hv hdg kk
theorem m_new (hexec : p.tables.exec = Jvm.exec) (hb : c.code = cc) {own C : String} {T : u_T} {N ci index : Nat} {Ts : List Cond} (hts : ∀ w ∈ Ts, w.before args s = true) (hin : ∀ w ∈ u_ws C T N, w ∈ Ts) (ty : Nat → FieldType) (hty : ∀ k, k < N → parseFieldDescriptor (T k).2.2.1 = some (ty k)) (hown : s.vm.findClass own = some m.cls) (hcl : (Cond.classLink own index C).before args s = true) (hinst : (Cond.instantiable C N).before args s = true) (hini : (Cond.initialized C).before args s = true)
    (hK : va_K D cl tys s) (hM : mw D cl A w H) (hS : va_S A H0 H locs) (hA : ∀ q, H0.size ≤ q → A q) (hc : cl[ci]? = some (C, T, N)) {fs : List Value} (hfs : ∀ j, j < N → defaultValue (ty j) = vp_V fs j) (hcells : cells + 1 ≤ R.cells) (hslots : slots + N ≤ R.slots) (hdg : decode cc pc = .ok (.new index, 3))
    (kk : ∀ (q : Nat) (H : Heap), w q = none → mw D cl A (va_up w q (some (.inr (ci, fs)))) H → va_S A H0 H locs → W p l e R s m args below meth c H locs (cells + 1) (slots + N) Q (F0 m (pc + 3) ls (.ref q :: rest))) : W p l e R s m args below meth c H locs cells slots Q (F0 m pc ls rest) := by
  obtain ⟨ws, hP, hD, hall⟩ := mw_list hM
  exact va_new hexec hb hts hin ty hty hown hcl hinst hini hK hP hD hS hA hc hfs hcells hslots hdg (fun q H1 hP1 hD1 hS1 => kk q H1 (mw_push hall hP1 hD1).2 (mw_push hall hP1 hD1).1 hS1)
theorem m_newa (hexec : p.tables.exec = Jvm.exec) (hb : c.code = cc) {atype : ArrayType} (harr : (Cond.arrayClass (newarray.typeOf atype)).before args s = true) {ty : FieldType} (hty : newarray.typeOf atype = ty) (hK : va_K D cl tys s) (hM : mw D cl A w H) (hS : va_S A H0 H locs) (hA : ∀ q, H0.size ≤ q → A q) {n : Int32} {N' : Nat} {a0 : vp_A} (ha : ∀ cA : ClassId, vp_cell cA a0 = arrV cA N' (fun _ => defaultValue ty)) (hn : ¬ n < 0) (hN : n.toNatClampNeg = N') (hbytes : N' * componentBytes ty ≤ 536870912) (hcells : cells + 1 ≤ R.cells) (hslots : slots + N' ≤ R.slots) (hdg : decode cc pc = .ok (.newarray atype, 2))
    (kk : ∀ (q : Nat) (cA : ClassId) (H : Heap), va_K D cl (tys ++ [(cA, ty)]) s → w q = none → mw D cl A (va_up w q (some (.inl (cA, a0)))) H → va_S A H0 H locs → W p l e R s m args below meth c H locs (cells + 1) (slots + N') Q (F0 m (pc + 2) ls (.ref q :: rest))) : W p l e R s m args below meth c H locs cells slots Q (F0 m pc ls (.int n :: rest)) := by
  obtain ⟨ws, hP, hD, hall⟩ := mw_list hM
  exact va_newa hexec hb harr hty hK hP hD hS hA ha hn hN hbytes hcells hslots hdg (fun q cA H1 hK1 hP1 hD1 hS1 => kk q cA H1 hK1 (mw_push hall hP1 hD1).2 (mw_push hall hP1 hD1).1 hS1)
theorem m_newq (hexec : p.tables.exec = Jvm.exec) (hb : c.code = cc) {own C : String} {index : Nat} (hown : s.vm.findClass own = some m.cls) (hclink : (Cond.classLink own index C).before args s = true) (hover : va_AO C s) (hK : va_K D cl tys s) (hM : mw D cl A w H) (hS : va_S A H0 H locs) (hA : ∀ q, H0.size ≤ q → A q) {n : Int32} {N' : Nat} (hn : ¬ n < 0) (hN : n.toNatClampNeg = N') (hbytes : N' * 4 ≤ 536870912) (hcells : cells + 1 ≤ R.cells) (hslots : slots + N' ≤ R.slots) (hdg : decode cc pc = .ok (.anewarray index, 3))
    (kk : ∀ (q : Nat) (cA : ClassId) (H : Heap), va_K D cl (tys ++ [(cA, .object C)]) s → w q = none → mw D cl A (va_up w q (some (.inl (cA, N', .inr (.inr (.inr (.inr (fun _ => none)))))))) H → va_S A H0 H locs → W p l e R s m args below meth c H locs (cells + 1) (slots + N') Q (F0 m (pc + 3) ls (.ref q :: rest))) : W p l e R s m args below meth c H locs cells slots Q (F0 m pc ls (.int n :: rest)) := by
  obtain ⟨ws, hP, hD, hall⟩ := mw_list hM
  exact va_newq hexec hb hown hclink hover hK hP hD hS hA hn hN hbytes hcells hslots hdg (fun q cA H1 hK1 hP1 hD1 hS1 => kk q cA H1 hK1 (mw_push hall hP1 hD1).2 (mw_push hall hP1 hD1).1 hS1)
theorem m_recv (hK : va_K D cl tys s) (hM : mw D cl A w H) {ci : Nat} {q : vw_C} {fs : List Value} (hc : cl[ci]? = some q) (he : w a = some (.inr (ci, fs))) : ∃ cell : Cell, H[a]? = some cell ∧ cell.vm.isStatics = false ∧ s.vm.findClass q.1 = some cell.cls := by
  obtain ⟨ws, hP, hD, hall⟩ := mw_list hM
  obtain ⟨q0, hq0⟩ := hall _ _ he
  exact va_recv hK hP hc hq0
end MW
/-- two addresses with different things are two -/
theorem m_ne {w : Nat → Option va_E} {a b : Nat} {x y : va_E} (h1 : w a = some x) (h2 : w b = some y) (h : x ≠ y) : a ≠ b := by
  intro q
  subst q
  rw [h1] at h2
  exact h (Option.some.inj h2)
theorem m_newne {w : Nat → Option va_E} {a b : Nat} {x : va_E} (h1 : w a = some x) (h2 : w b = none) : a ≠ b := by
  intro q
  subst q
  rw [h1] at h2
  cases h2
