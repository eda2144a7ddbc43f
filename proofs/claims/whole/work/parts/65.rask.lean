/-! pure: ask, reading, gap -/
theorem askR_eq (W : Nat → Bool) (od : Nat → Nat) : ∀ (m i : Nat), askR W od m i = ((List.range' i m).map od).filter W := by
  intro m
  induction m with
  | zero => intro i; rfl
  | succ m ih =>
    intro i
    rw [List.range'_succ, List.map_cons, List.filter_cons, askR, ih (i + 1)]
theorem odL_r (od : Nat → Nat) (n : Nat) : odL od n = (List.range' 0 n).map od := by unfold odL; rw [List.range_eq_range']
theorem askF_n (W : Nat → Bool) : ∀ (L : List Nat) (g : Nat → Int32) (c : Nat), (askF W g c L).2 = c + (L.filter W).length := by
  intro L
  induction L with
  | nil => intro g c; rfl
  | cons a r ih =>
    intro g c
    rw [List.filter_cons, askF]
    by_cases h : W a = true
    · rw [if_pos h, if_pos h, ih, List.length_cons]; omega
    · rw [if_neg h, if_neg h, ih]
theorem askF_b (W : Nat → Bool) : ∀ (L : List Nat) (g : Nat → Int32) (c i : Nat), i < c → (askF W g c L).1 i = g i := by
  intro L
  induction L with
  | nil => intro g c i _; rfl
  | cons a r ih =>
    intro g c i hi
    rw [askF]
    split
    · rw [ih _ _ i (by omega), upd_ne _ _ (by omega)]
    · exact ih g c i hi
theorem askF_g (W : Nat → Bool) : ∀ (L : List Nat) (g : Nat → Int32) (c i : Nat), i < (L.filter W).length → (askF W g c L).1 (c + i) = nI ((L.filter W).getD i 0) := by
  intro L
  induction L with
  | nil => intro g c i hi; exact absurd hi (Nat.not_lt_zero i)
  | cons a r ih =>
    intro g c i hi
    rw [List.filter_cons] at hi ⊢
    rw [askF]
    by_cases h : W a = true
    · rw [if_pos h] at hi
      rw [if_pos h, if_pos h]
      cases i with
      | zero =>
        show (askF W (upd g c (nI a)) (c + 1) r).1 c = nI a
        rw [askF_b W r _ (c + 1) c (by omega), upd_eq]
      | succ i =>
        rw [show c + (i + 1) = (c + 1) + i by omega, ih _ (c + 1) i (by rw [List.length_cons] at hi; omega)]; rfl
    · rw [if_neg h] at hi
      rw [if_neg h, if_neg h]
      exact ih g c i hi
theorem filt_g {P Q : Nat → Bool} : ∀ (L : List Nat), (∀ a ∈ L, P a = Q a) → L.filter P = L.filter Q := by
  intro L
  induction L with
  | nil => intro _; rfl
  | cons a r ih => intro h; rw [List.filter_cons, List.filter_cons, h a List.mem_cons_self, ih (fun b hb => h b (List.mem_cons_of_mem a hb))]
section RK
variable {v : Nat → nV} {od ro : Nat → Nat} {bs : Nat → Int32} {se wr : Int32} {n ka rn sn : Nat} {z : Int32} {f : Nat → Nat → Int32}
theorem rl_ne (h : rl v od ro bs se wr n ka rn sn z f) : ∀ i, i < n → nC (v i) ≠ [] := fun i hi q => by
  have := (h.2.1 i hi).2.1.2.2.2.2.1
  rw [q] at this
  exact chM_ne f i ka this.symm
theorem odL_len (od : Nat → Nat) (n : Nat) : (odL od n).length = n := by unfold odL; rw [List.length_map, List.length_range]
theorem filt_len (P : Nat → Bool) (h : n ≤ 100) : ((odL od n).filter P).length ≤ 100 := Nat.le_trans (List.length_filter_le _ _) (by rw [odL_len]; exact h)
theorem filt_mem (h : rl v od ro bs se wr n ka rn sn z f) (P : Nat → Bool) : ∀ a ∈ (odL od n).filter P, a < n := fun a ha => (od_mem h.2.2.2.2.1 a).mp (List.mem_filter.mp ha).1
theorem cd_ask (h : rl v od ro bs se wr n ka rn sn z f) (x3 x4 x5 : Int32) : gC (if (x3 = (-1) ∨ (¬ x3 < 0 ∧ ¬ 6 ≤ x3)) ∧ (x4 = (-1) ∨ (¬ x4 < 0 ∧ ¬ 10 ≤ x4)) then 1 else 0) (if ¬ x5 < 0 ∧ ¬ se < x5 then 1 else 0) 1 1 = gC (if (¬ x3 < (-1) ∧ ¬ 5 < x3) ∧ (¬ x4 < (-1) ∧ ¬ 9 < x4) then 1 else 0) (if ¬ x5 < 0 ∧ ¬ se < x5 then 1 else 0) 1 1 := by
  rw [if_10 (P := (x3 = (-1) ∨ (¬ x3 < 0 ∧ ¬ 6 ≤ x3)) ∧ (x4 = (-1) ∨ (¬ x4 < 0 ∧ ¬ 10 ≤ x4))) (Q := (¬ x3 < (-1) ∧ ¬ 5 < x3) ∧ (¬ x4 < (-1) ∧ ¬ 9 < x4)) (by
    simp only [i_lt, i_le, i_eq, show (0 : Int32).toInt = 0 from rfl, show (-1 : Int32).toInt = -1 from rfl, show (5 : Int32).toInt = 5 from rfl, show (6 : Int32).toInt = 6 from rfl, show (9 : Int32).toInt = 9 from rfl, show (10 : Int32).toInt = 10 from rfl]
    omega)]
theorem ask_rows (h : rl v od ro bs se wr n ka rn sn z f) {x1 x2 x3 x4 x5 : Int32} (hC : gC (if (x3 = (-1) ∨ (¬ x3 < 0 ∧ ¬ 6 ≤ x3)) ∧ (x4 = (-1) ∨ (¬ x4 < 0 ∧ ¬ 10 ≤ x4)) then 1 else 0) (if ¬ x5 < 0 ∧ ¬ se < x5 then 1 else 0) 1 1 = 0) :
    askR (askW v x1 x2 x3 x4 x5) od n 0 = ((odL od n).filter (filM f none 1 x3 x4 x5 se ka)).filter (inW f x1 x2) := by
  have g1 := of_gC1 hC
  rw [askR_eq, ← odL_r, List.filter_filter]
  refine filt_g _ (fun j hj => ?_)
  have hjn := (od_mem h.2.2.2.2.1 j).mp hj
  obtain ⟨o1, o2, o3⟩ := h.2.1 j hjn
  unfold askW filM inW
  rw [rl_la h hjn, o2.2.2.2.1, o2.2.1, o2.2.2.1]
  have e3 : (x3 = (-1) ∨ x3 = f 1 j) ↔ (x3 < 0 ∨ f 1 j = x3) := by
    have := o3.2.1
    simp only [i_lt, i_le, i_eq, show (0 : Int32).toInt = 0 from rfl, show (-1 : Int32).toInt = -1 from rfl, show (6 : Int32).toInt = 6 from rfl, show (10 : Int32).toInt = 10 from rfl] at g1 ⊢
    omega
  have e4 : (x4 = (-1) ∨ x4 = f 2 j) ↔ (x4 < 0 ∨ f 2 j = x4) := by
    have := o3.2.2.1
    simp only [i_lt, i_le, i_eq, show (0 : Int32).toInt = 0 from rfl, show (-1 : Int32).toInt = -1 from rfl, show (6 : Int32).toInt = 6 from rfl, show (10 : Int32).toInt = 10 from rfl] at g1 ⊢
    omega
  rw [Bool.eq_iff_iff]
  simp only [Bool.and_eq_true, decide_eq_true_eq, show lsB f none j = true from rfl, e3, e4, true_and, and_true]
  constructor
  · rintro ⟨a, b, c, d⟩; exact ⟨b, ⟨⟨a, c⟩, d⟩, Or.inl (by decide)⟩
  · rintro ⟨b, ⟨⟨a, c⟩, d⟩, -⟩; exact ⟨a, b, c, d⟩
theorem smN_10 (g : Nat → Int32) (j : Nat) : smN f (va_up f 10 g) j := ⟨rfl, rfl, rfl, rfl, rfl, rfl⟩
theorem smA_10 (g : Nat → Int32) (k : Nat) : smA f (va_up f 10 g) k := fun _ _ => ⟨rfl, rfl, rfl, rfl⟩
theorem smN_11 (g : Nat → Int32) (j : Nat) : smN f (va_up f 11 g) j := ⟨rfl, rfl, rfl, rfl, rfl, rfl⟩
theorem smA_11 (g : Nat → Int32) (k : Nat) : smA f (va_up f 11 g) k := fun _ _ => ⟨rfl, rfl, rfl, rfl⟩
theorem nR_g {g : Nat → Nat → Int32} {k i : Nat} {u : nV} (h1 : smN f g i) (h2 : smA f g k) (h : nR f k u i) : nR g k u i := by
  unfold nR
  rw [chM_g h1 k h2, manM_g k h2, manM_g k h2, digM_g h1 k h2, h1.1, h1.2.1, h1.2.2.1, h1.2.2.2.1]
  exact h
theorem nx_ask (h : rl v od ro bs se wr n ka rn sn z f) {x1 x2 x3 x4 x5 : Int32} (hC : gC (if (x3 = (-1) ∨ (¬ x3 < 0 ∧ ¬ 6 ≤ x3)) ∧ (x4 = (-1) ∨ (¬ x4 < 0 ∧ ¬ 10 ≤ x4)) then 1 else 0) (if ¬ x5 < 0 ∧ ¬ se < x5 then 1 else 0) 1 1 = 0) {L0 : List Nat} (hL : L0 = (odL od n).filter (filM f none 1 x3 x4 x5 se ka)) :
    (askR (askW v x1 x2 x3 x4 x5) od n 0).length = (askF (inW f x1 x2) (f 10) 0 L0).2 ∧ rl v od (fun i => (askR (askW v x1 x2 x3 x4 x5) od n 0).getD i 0) bs se wr n ka (askR (askW v x1 x2 x3 x4 x5) od n 0).length sn 1 (va_up f 10 (askF (inW f x1 x2) (f 10) 0 L0).1) := by
  have hr := ask_rows h (x1 := x1) (x2 := x2) hC
  rw [hr, ← hL]
  have hm : ∀ a ∈ L0.filter (inW f x1 x2), a < n := fun a ha => filt_mem h _ a (by rw [← hL]; exact (List.mem_filter.mp ha).1)
  have hl : (L0.filter (inW f x1 x2)).length ≤ 100 := Nat.le_trans (List.length_filter_le _ _) (by rw [hL]; exact filt_len _ h.1.1)
  obtain ⟨⟨b1, b2, b3, b4, b5, b6, b7, b8, b9⟩, h2, h3, h4, h5, h6, h7⟩ := h
  refine ⟨by rw [askF_n, Nat.zero_add], ⟨b1, b2, hl, b4, b5, b6, b7, b8, Or.inr rfl⟩, fun i hi => ⟨(h2 i hi).1, nR_g (smN_10 _ i) (smA_10 _ ka) (h2 i hi).2.1, (h2 i hi).2.2⟩, h3, h4, h5, fun i hi => ⟨?_, ?_⟩, h7⟩
  · refine hm _ ?_
    show (L0.filter (inW f x1 x2)).getD i 0 ∈ L0.filter (inW f x1 x2)
    rw [List.getD_eq_getElem?_getD, List.getElem?_eq_getElem hi]
    exact List.getElem_mem hi
  · rw [up_eq]
    have := askF_g (inW f x1 x2) L0 (f 10) 0 i hi
    rw [Nat.zero_add] at this
    exact this
/-! reading -/
theorem rdB_app (t : Int32) : ∀ (L M : List Nat) (b : Option Nat), rdB f t b (L ++ M) = rdB f t (rdB f t b L) M := by
  intro L
  induction L with
  | nil => intro M b; rfl
  | cons a r ih => intro M b; exact ih M _
theorem rdB_od (F : Nat → Bool) (t : Int32) : ∀ (n : Nat), rdB f t none ((odL od n).filter F) = (lastP (fun i => decide (¬ t < f 3 (od i)) && F (od i)) n).map od := by
  intro n
  induction n with
  | zero => rfl
  | succ n ih =>
    unfold odL at ih ⊢
    rw [List.range_succ, List.map_append, List.filter_append, rdB_app, ih, List.map_cons, List.map_nil, List.filter_cons, List.filter_nil, lastP]
    by_cases hF : F (od n) = true
    · rw [if_pos hF]
      by_cases ht : t < f 3 (od n)
      · rw [if_neg (by rw [decide_eq_false (fun q => q ht), Bool.false_and]; decide)]
        show (if ¬ t < f 3 (od n) then some (od n) else _) = _
        rw [if_neg (fun q => q ht)]
      · rw [if_pos (by rw [decide_eq_true ht, hF]; rfl)]
        show (if ¬ t < f 3 (od n) then some (od n) else _) = _
        rw [if_pos ht]; rfl
    · rw [if_neg hF, if_neg (by rw [Bool.eq_false_iff.mpr hF, Bool.and_false]; decide)]; rfl
theorem rdH_some (t : Int32) : ∀ (L : List Nat) (b : Nat), rdH f t (some b) L = some b := by
  intro L
  induction L with
  | nil => intro b; rfl
  | cons a r ih =>
    intro b
    show rdH f t (if ¬ f 3 a < t ∧ some b = none then some a else some b) r = some b
    rw [if_neg (fun q => nomatch q.2)]
    exact ih b
theorem rdH_od (F : Nat → Bool) (t : Int32) : ∀ (m i : Nat), rdH f t none (((List.range' i m).map od).filter F) = (firstP (fun i => decide (¬ f 3 (od i) < t) && F (od i)) m i).map od := by
  intro m
  induction m with
  | zero => intro i; rfl
  | succ m ih =>
    intro i
    rw [List.range'_succ, List.map_cons, List.filter_cons, firstP]
    by_cases hF : F (od i) = true
    · rw [if_pos hF]
      show rdH f t (if ¬ f 3 (od i) < t ∧ (none : Option Nat) = none then some (od i) else none) _ = _
      by_cases ht : f 3 (od i) < t
      · rw [if_neg (fun q => q.1 ht), if_neg (by rw [decide_eq_false (fun q => q ht), Bool.false_and]; decide)]
        exact ih (i + 1)
      · rw [if_pos ⟨ht, rfl⟩, if_pos (by rw [decide_eq_true ht, hF]; rfl), rdH_some]; rfl
    · rw [if_neg hF, if_neg (by rw [Bool.eq_false_iff.mpr hF, Bool.and_false]; decide)]
      exact ih (i + 1)
theorem lastP_g {P Q : Nat → Bool} : ∀ (n : Nat), (∀ i, i < n → P i = Q i) → lastP P n = lastP Q n := by
  intro n
  induction n with
  | zero => intro _; rfl
  | succ n ih => intro h; rw [lastP, lastP, h n (Nat.lt_succ_self n), ih (fun i hi => h i (Nat.lt_succ_of_lt hi))]
theorem firstP_g {P Q : Nat → Bool} : ∀ (m i : Nat), (∀ k, i ≤ k → k < i + m → P k = Q k) → firstP P m i = firstP Q m i := by
  intro m
  induction m with
  | zero => intro i _; rfl
  | succ m ih => intro i h; rw [firstP, firstP, h i (Nat.le_refl i) (by omega), ih (i + 1) (fun k h1 h2 => h k (by omega) (by omega))]
theorem firstP_min {P : Nat → Bool} : ∀ (m i k : Nat), firstP P m i = some k → ∀ j, i ≤ j → j < k → P j = false := by
  intro m
  induction m with
  | zero => intro i k h; cases h
  | succ m ih =>
    intro i k h j hj hk
    rw [firstP] at h
    by_cases hP : P i = true
    · rw [if_pos hP] at h; cases h; omega
    · rw [if_neg hP] at h
      by_cases hij : j = i
      · rw [hij]; exact Bool.eq_false_iff.mpr hP
      · exact ih (i + 1) k h j (by omega) hk
/-- whether a note is a reading of a sector that stands -/
theorem rd_f (h : rl v od ro bs se wr n ka rn sn z f) {j : Nat} (hj : j < n) {x1 : Int32} (hx : ¬ x1 < 0) : isRd x1 (v j) = filM f none 0 2 x1 se se ka j := by
  obtain ⟨o1, o2, o3⟩ := h.2.1 j hj
  unfold isRd filM
  rw [(rl_head h hj).2, o2.2.1, o2.2.2.1, Bool.eq_iff_iff]
  have e5 : ¬ se < f 5 j := by rw [i_lt]; have := o3.2.2.2.2.2; omega
  simp only [Bool.and_eq_true, decide_eq_true_eq, show lsB f none j = true from rfl, true_and, and_true]
  constructor
  · rintro ⟨a, b, c⟩; exact ⟨⟨⟨e5, Or.inr a⟩, Or.inr b⟩, Or.inr c⟩
  · rintro ⟨⟨⟨-, a⟩, b⟩, c⟩
    exact ⟨a.elim (fun q => absurd q (by decide)) id, b.elim (fun q => absurd q hx) id, c.elim (fun q => absurd trivial q) id⟩
theorem rd_last (h : rl v od ro bs se wr n ka rn sn z f) {x1 x2 : Int32} (hx : ¬ x1 < 0) : rdB f x2 none ((odL od n).filter (filM f none 0 2 x1 se se ka)) = (lastP (fun i => decide (¬ x2 < nT (v (od i))) && isRd x1 (v (od i))) n).map od := by
  rw [rdB_od, lastP_g (P := fun i => decide (¬ x2 < nT (v (od i))) && isRd x1 (v (od i))) (Q := fun i => decide (¬ x2 < f 3 (od i)) && filM f none 0 2 x1 se se ka (od i)) n (fun i hi => by
    have ho := h.2.2.2.2.1.1 i hi
    rw [rd_f h ho hx, (h.2.1 (od i) ho).2.1.2.2.2.1])]
theorem rd_first (h : rl v od ro bs se wr n ka rn sn z f) {x1 x2 : Int32} (hx : ¬ x1 < 0) : rdH f x2 none ((odL od n).filter (filM f none 0 2 x1 se se ka)) = (firstP (fun i => decide (¬ nT (v (od i)) < x2) && isRd x1 (v (od i))) n 0).map od := by
  rw [odL_r, rdH_od, firstP_g (P := fun i => decide (¬ nT (v (od i)) < x2) && isRd x1 (v (od i))) (Q := fun i => decide (¬ f 3 (od i) < x2) && filM f none 0 2 x1 se se ka (od i)) n 0 (fun i _ hi => by
    have ho := h.2.2.2.2.1.1 i (by omega)
    rw [rd_f h ho hx, (h.2.1 (od i) ho).2.1.2.2.2.1])]
theorem map_some {o : Option Nat} {g : Nat → Nat} : (o.map g).isSome = o.isSome := by cases o <;> rfl
theorem cd_reading (h : rl v od ro bs se wr n ka rn sn z f) (x1 x2 : Int32) : gC (if ¬ x1 < 0 ∧ ¬ 10 ≤ x1 then 1 else 0) (if ¬ x2 < 0 ∧ ¬ se < x2 then 1 else 0) (if (lastP (fun i => decide (¬ x2 < nT (v (od i))) && isRd x1 (v (od i))) n).isSome = true ∧ (firstP (fun i => decide (¬ nT (v (od i)) < x2) && isRd x1 (v (od i))) n 0).isSome = true then 1 else 0) 1
    = gC (if ¬ x1 < 0 ∧ ¬ 9 < x1 then 1 else 0) (if ¬ x2 < 0 ∧ ¬ se < x2 then 1 else 0) (if (rdB f x2 none (if ¬ x1 < 0 ∧ ¬ 9 < x1 then (odL od n).filter (filM f none 0 2 x1 se se ka) else [])).isSome = true ∧ (rdH f x2 none (if ¬ x1 < 0 ∧ ¬ 9 < x1 then (odL od n).filter (filM f none 0 2 x1 se se ka) else [])).isSome = true then 1 else 0) 1 := by
  have e : (¬ x1 < 0 ∧ ¬ 10 ≤ x1) ↔ (¬ x1 < 0 ∧ ¬ 9 < x1) := by
    simp only [i_lt, i_le, show (0 : Int32).toInt = 0 from rfl, show (9 : Int32).toInt = 9 from rfl, show (10 : Int32).toInt = 10 from rfl]
    omega
  rw [if_10 e]
  by_cases p : ¬ x1 < 0 ∧ ¬ 9 < x1
  · simp only [if_pos p, rd_last h p.1, rd_first h p.1, map_some]
  · simp only [if_neg p]; rfl
end RK
