/-! pure: the class's state beside the reference's -/
theorem bm {x : Int} (h1 : -2147483648 ≤ x) (h2 : x < 2147483648) : x.bmod (2 ^ 32) = x := Int.bmod_eq_of_le (by omega) (by omega)
theorem i_sub {a b : Int32} (h1 : -2147483648 ≤ a.toInt - b.toInt) (h2 : a.toInt - b.toInt < 2147483648) : (a - b).toInt = a.toInt - b.toInt := by rw [Int32.toInt_sub]; exact bm h1 h2
theorem i_add {a b : Int32} (h1 : -2147483648 ≤ a.toInt + b.toInt) (h2 : a.toInt + b.toInt < 2147483648) : (a + b).toInt = a.toInt + b.toInt := by rw [Int32.toInt_add]; exact bm h1 h2
theorem i_mul {a b : Int32} (h1 : -2147483648 ≤ a.toInt * b.toInt) (h2 : a.toInt * b.toInt < 2147483648) : (a * b).toInt = a.toInt * b.toInt := by rw [Int32.toInt_mul]; exact bm h1 h2
theorem if_10 {P Q : Prop} [Decidable P] [Decidable Q] (h : P ↔ Q) : (if P then (1 : Int32) else 0) = if Q then 1 else 0 := by
  by_cases p : P
  · rw [if_pos p, if_pos (h.mp p)]
  · rw [if_neg p, if_neg (fun q => p (h.mpr q))]
theorem if_01 {P Q : Prop} [Decidable P] [Decidable Q] (h : ¬ P ↔ Q) : (if P then (0 : Int32) else 1) = if Q then 1 else 0 := by
  by_cases p : P
  · rw [if_pos p, if_neg (fun q => h.mpr q p)]
  · rw [if_neg p, if_pos (h.mp p)]
def nR (f : Nat → Nat → Int32) (ka : Nat) (v : nV) (i : Nat) : Prop := nW v = f 0 i ∧ nK v = f 1 i ∧ nS v = f 2 i ∧ nT v = f 3 i ∧ (nC v).map Prod.snd = chM f i ka ∧ nAc v = nI (manM f 1 i ka) ∧ nCo v = nI (manM f 0 i ka) ∧ nMx v = digM f i ka
def nG (f : Nat → Nat → Int32) (se : Int32) (i : Nat) : Prop := (0 ≤ (f 0 i).toInt ∧ (f 0 i).toInt ≤ 9) ∧ (0 ≤ (f 1 i).toInt ∧ (f 1 i).toInt ≤ 5) ∧ (0 ≤ (f 2 i).toInt ∧ (f 2 i).toInt ≤ 9) ∧ (0 ≤ (f 3 i).toInt ∧ (f 3 i).toInt ≤ se.toInt) ∧ (-9999 ≤ (f 4 i).toInt ∧ (f 4 i).toInt ≤ 9999) ∧ (f 5 i).toInt ≤ se.toInt
def aG (f : Nat → Nat → Int32) (se : Int32) (n a : Nat) : Prop := (f 9 a).toInt ≤ se.toInt ∧ (-9999 ≤ (f 8 a).toInt ∧ (f 8 a).toInt ≤ 9999) ∧ ∃ j, j < n ∧ f 6 a = nI j
def rB (se wr : Int32) (n ka rn sn : Nat) (z : Int32) : Prop := n ≤ 100 ∧ ka ≤ 200 ∧ rn ≤ 100 ∧ sn ≤ 2005 ∧ 0 ≤ se.toInt ∧ se.toInt ≤ 99999 ∧ 0 ≤ wr.toInt ∧ wr.toInt ≤ 10 ∧ (z = 0 ∨ z = 1)
def rl (v : Nat → nV) (od ro : Nat → Nat) (bs : Nat → Int32) (se wr : Int32) (n ka rn sn : Nat) (z : Int32) (f : Nat → Nat → Int32) : Prop :=
  rB se wr n ka rn sn z ∧ (∀ i, i < n → nOk (v i) i ∧ nR f ka (v i) i ∧ nG f se i) ∧ (∀ a, a < ka → aG f se n a) ∧ (∀ a b, a ≤ b → b < ka → (f 9 a).toInt ≤ (f 9 b).toInt) ∧ oG f od n ∧ (∀ i, i < rn → ro i < n ∧ f 10 i = nI (ro i)) ∧ ∀ i, i < sn → bs i = f 11 i
section RL
variable {v : Nat → nV} {od ro : Nat → Nat} {bs : Nat → Int32} {se wr : Int32} {n ka rn sn : Nat} {z : Int32} {f : Nat → Nat → Int32}
theorem rl_cok (h : rl v od ro bs se wr n ka rn sn z f) : cOk v od ro n rn sn := ⟨h.1.1, h.1.2.2.1, h.1.2.2.2.1, h.2.2.2.2.1.1, fun i hi => (h.2.2.2.2.2.1 i hi).1, fun i hi => (h.2.1 i hi).1⟩
/-- a note's latest value, whether it is struck -/
theorem rl_head (h : rl v od ro bs se wr n ka rn sn z f) {i : Nat} (hi : i < n) : (hd (nC (v i))).2.2.1 = valM f se i ka ∧ (hd (nC (v i))).2.2.2 = strM f se i ka := by
  have e : (hd (nC (v i))).2 = chd (chM f i ka) := by rw [hd_map, (h.2.1 i hi).2.1.2.2.2.2.1]
  have e2 := chM_head (f := f) (j := i) (t := se) ka (fun a ha => (h.2.2.1 a ha).1)
  rw [show (hd (nC (v i))).2.2.1 = (hd (nC (v i))).2.2.1 from rfl, e]
  exact e2
theorem rl_st (h : rl v od ro bs se wr n ka rn sn z f) {i : Nat} (hi : i < n) (t : Int32) : (stAt t (nC (v i))).2.2.1 = valM f t i ka ∧ (stAt t (nC (v i))).2.2.2 = strM f t i ka := by
  have e : (stAt t (nC (v i))).2 = stM t (chM f i ka) := by rw [stAt_map, (h.2.1 i hi).2.1.2.2.2.2.1]
  rw [e]
  exact stM_val ka h.2.2.2.1
theorem rl_la (h : rl v od ro bs se wr n ka rn sn z f) {i : Nat} (hi : i < n) : (la (v i)).2 = (f 5 i, f 4 i, 0) := by
  unfold la
  rw [last_map, (h.2.1 i hi).2.1.2.2.2.2.1, chM_last]
theorem valM_b {t : Int32} {j : Nat} (h4 : -9999 ≤ (f 4 j).toInt ∧ (f 4 j).toInt ≤ 9999) : ∀ (k : Nat), (∀ a, a < k → -9999 ≤ (f 8 a).toInt ∧ (f 8 a).toInt ≤ 9999) → -9999 ≤ (valM f t j k).toInt ∧ (valM f t j k).toInt ≤ 9999 := by
  intro k
  induction k with
  | zero => intro _; exact h4
  | succ k ih =>
    intro h
    unfold valM
    split
    · exact h k (Nat.lt_succ_self k)
    · exact ih (fun a ha => h a (Nat.lt_succ_of_lt ha))
theorem rl_val (h : rl v od ro bs se wr n ka rn sn z f) {i : Nat} (hi : i < n) (t : Int32) : -9999 ≤ (valM f t i ka).toInt ∧ (valM f t i ka).toInt ≤ 9999 := valM_b (h.2.1 i hi).2.2.2.2.2.2.1 ka (fun a ha => (h.2.2.1 a ha).2.1)
theorem nIt {k : Nat} (h : k ≤ 2005) : (nI k).toInt = (k : Int) := nI_toInt (by omega)
/-- the reference's test of a number against the class's -/
theorem in_n {x : Int32} (hn : n ≤ 2005) : (¬ x < 0 ∧ ¬ nI n - 1 < x) ↔ (¬ x < 0 ∧ x < nI n) := by
  have e1 : (nI n - 1).toInt = (n : Int) - 1 := by rw [i_sub (by rw [nIt hn]; show _ ≤ (n : Int) - 1; omega) (by rw [nIt hn]; show (n : Int) - 1 < _; omega), nIt hn]; rfl
  rw [i_lt, i_lt, i_lt, e1, nIt hn, Int32.toInt_zero]
  omega
/-! the refusals are the same -/
theorem cd_writer : gC 1 1 1 (if wr < 10 then 1 else 0) = gC 1 1 1 (if 10 ≤ wr then 0 else 1) := by rw [if_01 (P := 10 ≤ wr) (Q := wr < 10) Int32.not_le]
theorem cd_tick (x1 : Int32) : gC 1 (if (¬ x1 < 1 ∧ ¬ 5000 < x1) ∧ x1 ≤ 99999 - se then 1 else 0) 1 1 = gC 1 (if (¬ x1 < 1 ∧ ¬ 5000 < x1) ∧ ¬ 99999 - se < x1 then 1 else 0) 1 1 := by
  rw [if_10 (P := (¬ x1 < 1 ∧ ¬ 5000 < x1) ∧ x1 ≤ 99999 - se) (Q := (¬ x1 < 1 ∧ ¬ 5000 < x1) ∧ ¬ 99999 - se < x1) (by rw [Int32.not_lt (a := 99999 - se)])]
theorem cd_at (x1 : Int32) : gC 1 (if 0 ≤ x1 then 1 else 0) 1 1 = gC 1 (if x1 < 0 then 0 else 1) 1 1 := by rw [if_01 (P := x1 < 0) (Q := 0 ≤ x1) Int32.not_lt]
theorem cd_gap (x1 x2 : Int32) : gC 1 (if (¬ x1 < 0 ∧ ¬ 99999 < x1) ∧ 0 ≤ x2 then 1 else 0) 1 1 = gC 1 (if (¬ x1 < 0 ∧ ¬ 99999 < x1) ∧ ¬ x2 < 0 then 1 else 0) 1 1 := by
  rw [if_10 (P := (¬ x1 < 0 ∧ ¬ 99999 < x1) ∧ 0 ≤ x2) (Q := (¬ x1 < 0 ∧ ¬ 99999 < x1) ∧ ¬ x2 < 0) (by rw [Int32.not_lt (a := x2)])]
theorem cd_digest (h : rl v od ro bs se wr n ka rn sn z f) (x1 : Int32) : gC (if ¬ x1 < 0 ∧ x1 < nI n then 1 else 0) 1 1 1 = gC (if ¬ x1 < 0 ∧ ¬ nI n - 1 < x1 then 1 else 0) 1 1 1 := by rw [if_10 (in_n (x := x1) (show n ≤ 2005 by have := h.1.1; omega))]
theorem cd_noteAt (h : rl v od ro bs se wr n ka rn sn z f) (x1 x2 : Int32) : gC (if (¬ x1 < 0 ∧ x1 < nI n) ∧ (¬ x2 < 0 ∧ ¬ 4 < x2) then 1 else 0) 1 1 1 = gC (if (¬ x1 < 0 ∧ ¬ nI n - 1 < x1) ∧ (¬ x2 < 0 ∧ ¬ 4 < x2) then 1 else 0) 1 1 1 := by
  rw [if_10 (P := (¬ x1 < 0 ∧ x1 < nI n) ∧ (¬ x2 < 0 ∧ ¬ 4 < x2)) (Q := (¬ x1 < 0 ∧ ¬ nI n - 1 < x1) ∧ (¬ x2 < 0 ∧ ¬ 4 < x2)) (and_congr_left' (in_n (x := x1) (show n ≤ 2005 by have := h.1.1; omega)).symm)]
theorem cd_row (h : rl v od ro bs se wr n ka rn sn z f) (x1 x2 : Int32) : gC (if (¬ x1 < 0 ∧ x1 < nI rn) ∧ (¬ x2 < 0 ∧ ¬ 4 < x2) then 1 else 0) 1 1 1 = gC (if (¬ x1 < 0 ∧ ¬ nI rn - 1 < x1) ∧ (¬ x2 < 0 ∧ ¬ 4 < x2) then 1 else 0) 1 1 1 := by
  rw [if_10 (P := (¬ x1 < 0 ∧ x1 < nI rn) ∧ (¬ x2 < 0 ∧ ¬ 4 < x2)) (Q := (¬ x1 < 0 ∧ ¬ nI rn - 1 < x1) ∧ (¬ x2 < 0 ∧ ¬ 4 < x2)) (and_congr_left' (in_n (x := x1) (show rn ≤ 2005 by have := h.1.2.2.1; omega)).symm)]
theorem cd_print (h : rl v od ro bs se wr n ka rn sn z f) : gC 1 1 (if z = 0 then 0 else 1) 1 = gC 1 1 z 1 := by
  rcases h.1.2.2.2.2.2.2.2.2 with e | e <;> rw [e] <;> rfl
/-! the answers are the same -/
theorem of_gC1 {P : Prop} [Decidable P] {b c d : Int32} (h : gC (if P then 1 else 0) b c d = 0) : P := i1_t (gC_room h).1
theorem of_gC2 {P : Prop} [Decidable P] {a c d : Int32} (h : gC a (if P then 1 else 0) c d = 0) : P := i1_t (gC_room h).2.1
theorem of_gC3 {P : Prop} [Decidable P] {a b d : Int32} (h : gC a b (if P then 1 else 0) d = 0) : P := i1_t (gC_room h).2.2.1
theorem of_gC4 {P : Prop} [Decidable P] {a b c : Int32} (h : gC a b c (if P then 1 else 0) = 0) : P := i1_t (gC_room h).2.2.2
theorem an_digest (h : rl v od ro bs se wr n ka rn sn z f) {x1 : Int32} (hC : gC (if ¬ x1 < 0 ∧ x1 < nI n then 1 else 0) 1 1 1 = 0) : nMx (v x1.toNatClampNeg) = digM f x1.toNatClampNeg ka := by
  obtain ⟨j, hj, e⟩ := nt_of (by have := h.1.1; omega) (of_gC1 hC)
  rw [e, nI_clamp (by have := h.1.1; omega)]
  exact (h.2.1 j hj).2.1.2.2.2.2.2.2.2
theorem an_noteAt (h : rl v od ro bs se wr n ka rn sn z f) {x1 x2 : Int32} (hC : gC (if (¬ x1 < 0 ∧ x1 < nI n) ∧ (¬ x2 < 0 ∧ ¬ 4 < x2) then 1 else 0) 1 1 1 = 0) :
    (if x2 = 0 then (la (v x1.toNatClampNeg)).2.1 else if x2 = 1 then nAc (v x1.toNatClampNeg) else if x2 = 2 then (if (hd (nC (v x1.toNatClampNeg))).2.2.2 = 0 then 0 else 1) else if x2 = 3 then (hd (nC (v x1.toNatClampNeg))).2.2.1 else (la (v x1.toNatClampNeg)).2.2.1)
    = (if x2 = 0 then f 5 x1.toNatClampNeg else if x2 = 1 then nI (manM f 1 x1.toNatClampNeg ka) else if x2 = 2 then (if strM f se x1.toNatClampNeg ka = 0 then 0 else 1) else if x2 = 3 then valM f se x1.toNatClampNeg ka else f 4 x1.toNatClampNeg) := by
  obtain ⟨j, hj, e⟩ := nt_of (by have := h.1.1; omega) (of_gC1 hC).1
  rw [e, nI_clamp (by have := h.1.1; omega), (rl_head h hj).1, (rl_head h hj).2, rl_la h hj, (h.2.1 j hj).2.1.2.2.2.2.2.1]
theorem an_row (h : rl v od ro bs se wr n ka rn sn z f) {x1 x2 kn : Int32} (hC : gC (if (¬ x1 < 0 ∧ x1 < nI rn) ∧ (¬ x2 < 0 ∧ ¬ 4 < x2) then 1 else 0) 1 1 1 = 0) :
    (if x2 = 0 then nN (v (ro x1.toNatClampNeg)) else if x2 = 1 then nT (v (ro x1.toNatClampNeg)) else if x2 = 2 then (stAt kn (nC (v (ro x1.toNatClampNeg)))).2.2.1 else if x2 = 3 then (if (stAt kn (nC (v (ro x1.toNatClampNeg)))).2.2.2 = 0 then 0 else 1) else nW (v (ro x1.toNatClampNeg)))
    = (if x2 = 0 then f 10 x1.toNatClampNeg else if x2 = 1 then f 3 (f 10 x1.toNatClampNeg).toNatClampNeg else if x2 = 2 then valM f kn (f 10 x1.toNatClampNeg).toNatClampNeg ka else if x2 = 3 then (if strM f kn (f 10 x1.toNatClampNeg).toNatClampNeg ka = 0 then 0 else 1) else f 0 (f 10 x1.toNatClampNeg).toNatClampNeg) := by
  obtain ⟨j, hj, e⟩ := nt_of (by have := h.1.2.2.1; omega) (of_gC1 hC).1
  have hn := h.1.1
  obtain ⟨hr1, hr2⟩ := h.2.2.2.2.2.1 j hj
  obtain ⟨o1, o2, o3⟩ := h.2.1 (ro j) hr1
  rw [e, nI_clamp (by have := h.1.2.2.1; omega), hr2, nI_clamp (by omega), (rl_st h hr1 kn).1, (rl_st h hr1 kn).2, o1.1, o2.2.2.2.1, o2.1]
theorem an_at (h : rl v od ro bs se wr n ka rn sn z f) {x1 : Int32} (hC : gC 1 (if 0 ≤ x1 then 1 else 0) 1 1 = 0) : (if nI sn ≤ x1 then (-1) else bs x1.toNatClampNeg) = (if nI sn ≤ x1 then (-1) else f 11 x1.toNatClampNeg) := by
  by_cases c : nI sn ≤ x1
  · rw [if_pos c, if_pos c]
  · rw [if_neg c, if_neg c]
    obtain ⟨j, hj, e⟩ := nt_of (x := x1) (n := sn) h.1.2.2.2.1 ⟨Int32.not_lt.mpr (of_gC2 hC), Int32.not_le.mp c⟩
    rw [e, nI_clamp (by have := h.1.2.2.2.1; omega)]
    exact h.2.2.2.2.2.2 j hj
theorem cntP_g {P Q : Nat → Bool} : ∀ (n : Nat), (∀ i, i < n → P i = Q i) → cntP P n = cntP Q n := by
  intro n
  induction n with
  | zero => intro _; rfl
  | succ n ih => intro h; unfold cntP; rw [h n (Nat.lt_succ_self n), ih (fun i hi => h i (Nat.lt_succ_of_lt hi))]
theorem an_count (h : rl v od ro bs se wr n ka rn sn z f) (x1 ac : Int32) (hac : ac = nI ka) :
    (if x1 = 0 then wr else if x1 = 1 then nI n else if x1 = 2 then ac else if x1 = 3 then nI (cntP (fun i => decide (¬ (hd (nC (v i))).2.2.2 = 0)) n) else nI (cntP (fun i => decide (¬ (la (v i)).2.1 ≤ nT (v i))) n))
    = (if x1 = 0 then wr else if x1 = 1 then nI n else if x1 = 2 then nI ka else if x1 = 3 then nI (cntP (fun i => decide (¬ strM f se i ka = 0)) n) else nI (cntP (fun i => decide (¬ f 5 i ≤ f 3 i)) n)) := by
  rw [hac, cntP_g (P := fun i => decide (¬ (hd (nC (v i))).2.2.2 = 0)) (Q := fun i => decide (¬ strM f se i ka = 0)) n (fun i hi => by rw [(rl_head h hi).2]), cntP_g (P := fun i => decide (¬ (la (v i)).2.1 ≤ nT (v i))) (Q := fun i => decide (¬ f 5 i ≤ f 3 i)) n (fun i hi => by rw [rl_la h hi, (h.2.1 i hi).2.1.2.2.2.1])]
/-! writer, tick -/
theorem nx_writer (h : rl v od ro bs se wr n ka rn sn z f) (hC : gC 1 1 1 (if wr < 10 then 1 else 0) = 0) : rl v od ro bs se (wr + 1) n ka rn sn z f := by
  have hw := of_gC4 hC
  obtain ⟨⟨b1, b2, b3, b4, b5, b6, b7, b8, b9⟩, h2⟩ := h
  rw [i_lt] at hw
  have e10 : (10 : Int32).toInt = 10 := rfl
  have e1 : (1 : Int32).toInt = 1 := rfl
  have e : (wr + 1).toInt = wr.toInt + 1 := by rw [i_add (by rw [e1]; omega) (by rw [e1]; omega), e1]
  exact ⟨⟨b1, b2, b3, b4, b5, b6, by omega, by omega, b9⟩, h2⟩
theorem nx_tick (h : rl v od ro bs se wr n ka rn sn z f) {x1 : Int32} (hC : gC 1 (if (¬ x1 < 1 ∧ ¬ 5000 < x1) ∧ x1 ≤ 99999 - se then 1 else 0) 1 1 = 0) : rl v od ro bs (se + x1) wr n ka rn sn z f := by
  obtain ⟨⟨c1, c2⟩, c3⟩ := of_gC2 hC
  obtain ⟨⟨b1, b2, b3, b4, b5, b6, b7, b8, b9⟩, h2, h3, h4⟩ := h
  have e1 : (1 : Int32).toInt = 1 := rfl
  have e5 : (5000 : Int32).toInt = 5000 := rfl
  have e9 : (99999 : Int32).toInt = 99999 := rfl
  rw [i_lt, e1] at c1
  rw [i_lt, e5] at c2
  rw [i_le, i_sub (by rw [e9]; omega) (by rw [e9]; omega), e9] at c3
  have e : (se + x1).toInt = se.toInt + x1.toInt := i_add (by omega) (by omega)
  refine ⟨⟨b1, b2, b3, b4, by omega, by omega, b7, b8, b9⟩, fun i hi => ?_, fun a ha => ?_, h4⟩
  · obtain ⟨q1, q2, q3⟩ := h2 i hi
    refine ⟨q1, q2, ?_⟩
    unfold nG at q3 ⊢
    omega
  · obtain ⟨q1, q2, q3⟩ := h3 a ha
    exact ⟨by omega, q2, q3⟩
end RL
