/-! pure: the floor, reading's answer, gap, print -/
theorem msb_neg (x : Int32) : x.toInt < 0 ↔ x.toBitVec.msb = true := by
  rw [BitVec.msb_eq_toInt, decide_eq_true_iff]; exact Iff.rfl
theorem xor_nn {x y : Int32} (hy : 0 < y) : 0 ≤ x ^^^ y ↔ 0 ≤ x := by
  have h0 : (0 : Int32).toInt = 0 := rfl
  rw [i_lt, h0] at hy
  rw [i_le, i_le, h0]
  have e1 := msb_neg (x ^^^ y)
  have e2 := msb_neg x
  have e3 := msb_neg y
  have hy2 : y.toBitVec.msb = false := Bool.eq_false_iff.mpr (fun q => by have := e3.mpr q; omega)
  rw [Int32.toBitVec_xor, BitVec.msb_xor, hy2, Bool.xor_false] at e1
  constructor
  · intro h; exact Int.not_lt.mp (fun q => by have := e1.mpr (e2.mp q); omega)
  · intro h; exact Int.not_lt.mp (fun q => by have := e2.mpr (e1.mp q); omega)
theorem flr_eq {x y : Int32} (hy : 0 < y) : flrd x y = flrv x y := by
  have h0 : (0 : Int32).toInt = 0 := rfl
  have hx1 := Int32.minValue_le_toInt x
  have hx2 := Int32.toInt_lt x
  have hx3 := Int32.le_toInt x
  have hY := hy
  rw [i_lt, h0] at hY
  obtain ⟨X, eX⟩ : ∃ z9 : Int, z9 = x.toInt := ⟨_, rfl⟩
  obtain ⟨Y, eY⟩ : ∃ z9 : Int, z9 = y.toInt := ⟨_, rfl⟩
  rw [← eX] at hx2 hx3
  rw [← eY] at hY
  have key : ∃ q : Int, q = X.tdiv Y ∧ (0 ≤ X → 0 ≤ q ∧ q * Y ≤ X ∧ q ≤ X) ∧ (X < 0 → q ≤ 0 ∧ X ≤ q * Y ∧ X ≤ q ∧ q * Y ≤ 0) := by
    refine ⟨_, rfl, fun h => ?_, fun h => ?_⟩
    · have e := Int.tdiv_eq_ediv_of_nonneg h (b := Y)
      rw [e]
      have a1 := Int.ediv_nonneg h (Int.le_of_lt hY)
      have a2 := Int.ediv_mul_le X (show Y ≠ 0 by omega)
      have a3 := Int.ediv_le_self Y h
      exact ⟨a1, a2, a3⟩
    · have e : X.tdiv Y = -((-X) / Y) := by
        have := Int.neg_tdiv (a := -X) (b := Y)
        rw [Int.neg_neg] at this
        rw [this, Int.tdiv_eq_ediv_of_nonneg (by omega)]
      rw [e]
      have a1 := Int.ediv_nonneg (show 0 ≤ -X by omega) (Int.le_of_lt hY)
      have a2 := Int.ediv_mul_le (-X) (show Y ≠ 0 by omega)
      have a3 := Int.ediv_le_self Y (show 0 ≤ -X by omega)
      have a4 := Int.mul_nonneg a1 (Int.le_of_lt hY)
      rw [Int.neg_mul]
      exact ⟨by omega, by omega, by omega, by omega⟩
  obtain ⟨q, eq, k1, k2⟩ := key
  have d1 : (x / y).toInt = q := by
    rw [Int32.toInt_div, ← eX, ← eY, ← eq]
    rcases Int.lt_or_le X 0 with c | c
    · have := k2 c; exact bm (by omega) (by omega)
    · have := k1 c; exact bm (by omega) (by omega)
  have d2 : (x / y * y).toInt = q * Y := by
    have hr : -2147483648 ≤ q * Y ∧ q * Y < 2147483648 := by
      rcases Int.lt_or_le X 0 with c | c
      · have := k2 c; exact ⟨by omega, by omega⟩
      · have := k1 c; have := Int.mul_nonneg this.1 (Int.le_of_lt hY); exact ⟨by omega, by omega⟩
    rw [i_mul (by rw [d1, ← eY]; exact hr.1) (by rw [d1, ← eY]; exact hr.2), d1, ← eY]
  unfold flrd flrv
  by_cases c : 0 ≤ x ^^^ y
  · have c1 := (xor_nn hy).mp c
    rw [i_le, h0, ← eX] at c1
    rw [if_pos c, if_pos (by rw [i_le, d2, ← eX]; exact (k1 c1).2.1)]
  · have c1 : X < 0 := Int.not_le.mp (fun z => c ((xor_nn hy).mpr (by rw [i_le, h0, ← eX]; exact z)))
    have hk := k2 c1
    rw [if_neg c]
    by_cases c2 : x / y * y = x
    · rw [if_pos c2, if_pos (by rw [c2]; exact Int32.le_refl x)]
    · rw [if_neg c2, if_neg (fun z => c2 (by
        rw [i_le, d2, ← eX] at z
        rw [i_eq, d2, ← eX]; omega))]
section RP
variable {v : Nat → nV} {od ro : Nat → Nat} {bs : Nat → Int32} {se wr : Int32} {n ka rn sn : Nat} {z : Int32} {f : Nat → Nat → Int32}
theorem an_reading (h : rl v od ro bs se wr n ka rn sn z f) {x1 x2 : Int32} (hC : gC (if ¬ x1 < 0 ∧ ¬ 10 ≤ x1 then 1 else 0) (if ¬ x2 < 0 ∧ ¬ se < x2 then 1 else 0) (if (lastP (fun i => decide (¬ x2 < nT (v (od i))) && isRd x1 (v (od i))) n).isSome = true ∧ (firstP (fun i => decide (¬ nT (v (od i)) < x2) && isRd x1 (v (od i))) n 0).isSome = true then 1 else 0) 1 = 0) :
    rdC (fun i => v (od i)) x2 (lastP (fun i => decide (¬ x2 < nT (v (od i))) && isRd x1 (v (od i))) n) (firstP (fun i => decide (¬ nT (v (od i)) < x2) && isRd x1 (v (od i))) n 0) = rdV f x2 se ka (rdB f x2 none (if ¬ x1 < 0 ∧ ¬ 9 < x1 then (odL od n).filter (filM f none 0 2 x1 se se ka) else [])) (rdH f x2 none (if ¬ x1 < 0 ∧ ¬ 9 < x1 then (odL od n).filter (filM f none 0 2 x1 se se ka) else [])) := by
  have g1 := of_gC1 hC
  have g2 := of_gC2 hC
  have g3 := of_gC3 hC
  have p : ¬ x1 < 0 ∧ ¬ 9 < x1 := by
    simp only [i_lt, i_le, show (0 : Int32).toInt = 0 from rfl, show (9 : Int32).toInt = 9 from rfl, show (10 : Int32).toInt = 10 from rfl] at g1 ⊢
    omega
  rw [if_pos p, rd_last h p.1, rd_first h p.1]
  cases e1 : lastP (fun i => decide (¬ x2 < nT (v (od i))) && isRd x1 (v (od i))) n with
  | none => rw [e1] at g3; exact absurd g3.1 (by decide)
  | some i =>
    cases e2 : firstP (fun i => decide (¬ nT (v (od i)) < x2) && isRd x1 (v (od i))) n 0 with
    | none => rw [e2] at g3; exact absurd g3.2 (by decide)
    | some k =>
      obtain ⟨hi, hPi⟩ := lastP_lt e1
      obtain ⟨-, hk, hPk⟩ := firstP_lt n 0 e2
      have hk : k < n := by omega
      have hoi := h.2.2.2.2.1.1 i hi
      have hok := h.2.2.2.2.1.1 k hk
      have hti := (h.2.1 (od i) hoi).2.1.2.2.2.1
      have htk := (h.2.1 (od k) hok).2.1.2.2.2.1
      have hgi := (h.2.1 (od i) hoi).2.2.2.2.2.1
      have hgk := (h.2.1 (od k) hok).2.2.2.2.2.1
      have hse := h.1.2.2.2.2.2.1
      rw [Bool.and_eq_true, decide_eq_true_iff] at hPi hPk
      show vbt (v (od i)) (v (od k)) x2 = if f 3 (od i) = x2 then valM f se (od i) ka else valM f se (od i) ka + flrv ((valM f se (od k) ka - valM f se (od i) ka) * (x2 - f 3 (od i))) (f 3 (od k) - f 3 (od i))
      unfold vbt hv9
      rw [hti] at hPi
      rw [htk] at hPk
      rw [hti, htk, (rl_head h hoi).1, (rl_head h hok).1]
      have hz : (0 : Int32).toInt = 0 := rfl
      have hsub : (f 3 (od k) - f 3 (od i)).toInt = (f 3 (od k)).toInt - (f 3 (od i)).toInt := i_sub (by omega) (by omega)
      have hp1 := hPi.1
      have hp2 := hPk.1
      rw [i_lt] at hp1 hp2
      by_cases c : f 3 (od i) = x2
      · have c' := (i_eq _ _).mp c
        rw [if_pos c, if_neg ?_]
        have hki : k ≤ i := Nat.le_of_not_lt (fun q => by
          have z1 := firstP_min n 0 k e2 i (Nat.zero_le i) q
          have z2 : (decide (¬ nT (v (od i)) < x2) && isRd x1 (v (od i))) = true := by
            rw [Bool.and_eq_true, decide_eq_true_iff, hti, c]
            exact ⟨Int32.lt_irrefl, hPi.2⟩
          rw [z2] at z1
          cases z1)
        have h3 : (f 3 (od k)).toInt ≤ (f 3 (od i)).toInt := by
          by_cases hke : k = i
          · rw [hke]; exact Int.le_refl _
          · have := (bef_iff f (od k) (od i)).mp (h.2.2.2.2.1.2.1 k i (by omega) hi)
            omega
        rw [i_lt, hz, hsub]
        omega
      · have c' : ¬ (f 3 (od i)).toInt = x2.toInt := fun q => c ((i_eq _ _).mpr q)
        have hpos : 0 < f 3 (od k) - f 3 (od i) := by rw [i_lt, hz, hsub]; omega
        rw [if_neg c, if_pos hpos, flr_eq hpos]
theorem gap_f (h : rl v od ro bs se wr n ka rn sn z f) {j : Nat} (hj : j < n) : (filM f none 0 (-1) (-1) se se ka j = true ↔ (hd (nC (v j))).2.2.2 = 0) := by
  have e5 : ¬ se < f 5 j := by rw [i_lt]; have := (h.2.1 j hj).2.2.2.2.2.2.2; omega
  unfold filM
  rw [(rl_head h hj).2]
  simp only [Bool.and_eq_true, decide_eq_true_eq, show lsB f none j = true from rfl, and_true]
  constructor
  · rintro ⟨-, c⟩; exact c.elim (fun q => absurd trivial q) id
  · intro c; exact ⟨⟨⟨e5, Or.inl (by decide)⟩, Or.inl (by decide)⟩, Or.inr c⟩
theorem gap_od (h : rl v od ro bs se wr n ka rn sn z f) (len : Int32) : ∀ (m i : Nat) (k : Int32), i + m ≤ n → gapN (fun i => v (od i)) len m i none k = gapF f len k (((List.range' i m).map od).filter (filM f none 0 (-1) (-1) se se ka)) ∧ ∀ p, p < n → gapN (fun i => v (od i)) len m i (some p) k = gapF f len k (od p :: ((List.range' i m).map od).filter (filM f none 0 (-1) (-1) se se ka)) := by
  intro m
  induction m with
  | zero => intro i k _; exact ⟨rfl, fun p _ => rfl⟩
  | succ m ih =>
    intro i k him
    have hoi := h.2.2.2.2.1.1 i (by omega)
    have hti := (h.2.1 (od i) hoi).2.1.2.2.2.1
    rw [List.range'_succ, List.map_cons, List.filter_cons]
    by_cases hs : (hd (nC (v (od i)))).2.2.2 = 0
    · rw [if_pos ((gap_f h hoi).mpr hs)]
      refine ⟨?_, fun p hp => ?_⟩
      · rw [gapN, if_pos hs]; exact (ih (i + 1) k (by omega)).2 i (by omega)
      · have hop := h.2.2.2.2.1.1 p hp
        have htp := (h.2.1 (od p) hop).2.1.2.2.2.1
        rw [gapN, if_pos hs, gapF]
        show (if nT (v (od i)) - nT (v (od p)) ≤ len then gapN (fun i => v (od i)) len m (i + 1) (some i) k else if k = 0 then nN (v (od p)) else gapN (fun i => v (od i)) len m (i + 1) (some i) (k + (-1))) = _
        rw [hti, htp, (h.2.1 (od p) hop).1.1, (ih (i + 1) k (by omega)).2 i (by omega), (ih (i + 1) (k + (-1)) (by omega)).2 i (by omega)]
    · rw [if_neg (fun q => hs ((gap_f h hoi).mp q))]
      refine ⟨?_, fun p hp => ?_⟩
      · rw [gapN, if_neg hs]; exact (ih (i + 1) k (by omega)).1
      · rw [gapN, if_neg hs]; exact (ih (i + 1) k (by omega)).2 p hp
theorem an_gap (h : rl v od ro bs se wr n ka rn sn z f) (x1 x2 : Int32) : gapN (fun i => v (od i)) x1 n 0 none x2 = gapF f x1 x2 ((odL od n).filter (filM f none 0 (-1) (-1) se se ka)) := by
  rw [odL_r]
  exact (gap_od h x1 n 0 x2 (by omega)).1
/-! print -/
theorem nb_1 {x : Int32} (h1 : 0 ≤ x.toInt) (h2 : x.toInt ≤ 9) : (numB x).length = 1 := by
  rw [numB_nn (by rw [i_lt]; show ¬ x.toInt < 0; omega), dgL_len]
  unfold kdg
  rw [if_pos (by omega)]
theorem nb_5 {x : Int32} (h1 : 0 ≤ x.toInt) (h2 : x.toInt ≤ 99999) : (numB x).length ≤ 5 := by
  rw [numB_nn (by rw [i_lt]; show ¬ x.toInt < 0; omega), dgL_len]
  have := kdg_le x.toInt.natAbs
  omega
theorem nb_3 {x : Int32} (h1 : 0 ≤ x.toInt) (h2 : x.toInt ≤ 100) : (numB x).length ≤ 3 := by
  rw [numB_nn (by rw [i_lt]; show ¬ x.toInt < 0; omega), dgL_len]
  unfold kdg
  (repeat' split) <;> omega
theorem nb_v {x : Int32} (h1 : -9999 ≤ x.toInt) (h2 : x.toInt ≤ 9999) : (numB x).length ≤ 5 := by
  unfold numB
  rw [List.length_append, dgL_len]
  have : kdg x.toInt.natAbs ≤ 3 := by
    unfold kdg
    (repeat' split) <;> omega
  split
  · rw [List.length_singleton]; omega
  · rw [List.length_nil]; omega
theorem rowC_eq (h : rl v od ro bs se wr n ka rn sn z f) (kn : Int32) {i : Nat} (hi : i < rn) : rowB f kn ka (f 10 i).toNatClampNeg = rowC (v (ro i)) kn := by
  obtain ⟨r1, r2⟩ := h.2.2.2.2.2.1 i hi
  obtain ⟨o1, o2, o3⟩ := h.2.1 (ro i) r1
  have hn := h.1.1
  rw [r2, nI_clamp (by omega)]
  unfold rowB rowC rowL
  rw [(rl_st h r1 kn).1, (rl_st h r1 kn).2, o2.1, o2.2.1, o2.2.2.1, o2.2.2.2.1]
theorem rowsC_eq (h : rl v od ro bs se wr n ka rn sn z f) (kn : Int32) : ∀ (m i : Nat), i + m ≤ rn → rowsB f kn ka m i = rowsC (fun i => v (ro i)) kn m i := by
  intro m
  induction m with
  | zero => intro i _; rfl
  | succ m ih => intro i hi; rw [rowsB, rowsC, rowC_eq h kn (by omega), ih (i + 1) (by omega)]
theorem sht_eq (h : rl v od ro bs se wr n ka rn sn z f) (kn : Int32) : shtB f kn ka rn = shtC (fun i => v (ro i)) kn rn := by
  unfold shtB shtC
  rw [rowsC_eq h kn rn 0 (by omega)]
theorem row_ok (h : rl v od ro bs se wr n ka rn sn z f) (kn : Int32) {i : Nat} (hi : i < rn) : rowOk (v (ro i)) kn ∧ (rowC (v (ro i)) kn).length ≤ 20 := by
  obtain ⟨r1, r2⟩ := h.2.2.2.2.2.1 i hi
  obtain ⟨o1, o2, o3⟩ := h.2.1 (ro i) r1
  obtain ⟨g0, g1, g2, g3, g4, g5⟩ := o3
  have hv := rl_val h r1 kn
  have hse := h.1.2.2.2.2.2.1
  have z0 : (0 : Int32).toInt = 0 := rfl
  unfold rowOk rowC rowL
  rw [(rl_st h r1 kn).1, (rl_st h r1 kn).2, o2.1, o2.2.1, o2.2.2.1, o2.2.2.2.1]
  refine ⟨⟨⟨by rw [i_lt, z0]; omega, by omega⟩, ⟨by rw [i_lt, z0]; omega, by omega⟩, ⟨by rw [i_lt, z0]; omega, by omega⟩, ⟨by rw [i_lt, z0]; omega, by omega⟩, by omega⟩, ?_⟩
  have l0 := nb_1 g0.1 g0.2
  have l1 := nb_1 g1.1 (by omega)
  have l2 := nb_1 g2.1 g2.2
  have l3 := nb_5 g3.1 (by omega)
  have l4 := nb_v hv.1 hv.2
  have l5 : (if strM f kn (ro i) ka = 0 then ([] : List Int32) else [120]).length ≤ 1 := by split <;> decide
  simp only [List.length_append, List.length_cons, List.length_nil]
  omega
theorem rows_len (h : rl v od ro bs se wr n ka rn sn z f) (kn : Int32) : ∀ (m i : Nat), i + m ≤ rn → (rowsC (fun i => v (ro i)) kn m i).length ≤ 20 * m := by
  intro m
  induction m with
  | zero => intro i _; exact Nat.le_refl 0
  | succ m ih =>
    intro i hi
    rw [rowsC, List.length_append]
    have a := (row_ok h kn (show i < rn by omega)).2
    have b := ih (i + 1) (by omega)
    omega
theorem sht_len (h : rl v od ro bs se wr n ka rn sn z f) (kn : Int32) : (shtC (fun i => v (ro i)) kn rn).length ≤ 2005 := by
  unfold shtC
  have hr := h.1.2.2.1
  have a := rows_len h kn rn 0 (by omega)
  have e : (nI rn).toInt = (rn : Int) := nI_toInt (by omega)
  have b := nb_3 (x := nI rn) (by omega) (by omega)
  simp only [List.length_append, List.length_cons]
  omega
theorem apF_lo : ∀ (L : List Int32) (g : Nat → Int32) (p i : Nat), i < p → apF g p L i = g i := by
  intro L
  induction L with
  | nil => intro g p i _; rfl
  | cons a r ih => intro g p i hi; rw [apF, ih _ _ i (by omega), upd_ne _ _ (by omega)]
theorem apF_get : ∀ (L : List Int32) (g : Nat → Int32) (p i : Nat), i < L.length → apF g p L (p + i) = L.getD i 0 := by
  intro L
  induction L with
  | nil => intro g p i hi; exact absurd hi (Nat.not_lt_zero i)
  | cons a r ih =>
    intro g p i hi
    rw [apF]
    cases i with
    | zero =>
      show apF (upd g p a) (p + 1) r p = a
      rw [apF_lo r _ (p + 1) p (by omega), upd_eq]
    | succ i =>
      rw [show p + (i + 1) = (p + 1) + i by omega, ih _ (p + 1) i (by rw [List.length_cons] at hi; omega)]; rfl
theorem nx_print (h : rl v od ro bs se wr n ka rn sn z f) (kn : Int32) : rl v od ro (apF bs 0 (shtC (fun i => v (ro i)) kn rn)) se wr n ka rn (shtC (fun i => v (ro i)) kn rn).length z (va_up f 11 (apF (f 11) 0 (shtB f kn ka rn))) := by
  have hl := sht_len h kn
  rw [sht_eq h kn]
  obtain ⟨⟨b1, b2, b3, b4, b5, b6, b7, b8, b9⟩, h2, h3, h4, h5, h6, h7⟩ := h
  refine ⟨⟨b1, b2, b3, hl, b5, b6, b7, b8, b9⟩, fun i hi => ⟨(h2 i hi).1, nR_g (smN_11 _ i) (smA_11 _ ka) (h2 i hi).2.1, (h2 i hi).2.2⟩, h3, h4, h5, h6, fun i hi => ?_⟩
  rw [up_eq]
  have a := apF_get _ bs 0 i hi
  have b := apF_get _ (f 11) 0 i hi
  rw [Nat.zero_add] at a b
  rw [a, b]
end RP
