/-! pure: a note's states, by the reference's acts -/
abbrev c3 : Type := Int32 × Int32 × Int32
def chd (c : List c3) : c3 := c.headD (0, 0, 0)
def chM (f : Nat → Nat → Int32) (j : Nat) : Nat → List c3
  | 0 => [(f 5 j, f 4 j, 0)]
  | a + 1 => if f 6 a = nI j then (f 9 a, (if f 7 a = 2 then f 8 a else (chd (chM f j a)).2.1), (if f 7 a = 2 then (chd (chM f j a)).2.2 else if f 7 a = 0 then 1 else 0)) :: chM f j a else chM f j a
def stM (t : Int32) : List c3 → c3
  | [] => (0, 0, 0)
  | [c] => c
  | c :: d :: r => if c.1 ≤ t then c else stM t (d :: r)
theorem stAt_map (k : Int32) : ∀ (c : List cS4), (stAt k c).2 = stM k (c.map Prod.snd) := by
  intro c
  induction c with
  | nil => rfl
  | cons a r ih =>
    cases r with
    | nil => rfl
    | cons b r =>
      show (if a.2.1 ≤ k then a else stAt k (b :: r)).2 = (if a.2.1 ≤ k then a.2 else stM k ((b :: r).map Prod.snd))
      split
      · rfl
      · exact ih
theorem hd_map (c : List cS4) : (hd c).2 = chd (c.map Prod.snd) := by cases c <;> rfl
theorem last_map : ∀ (c : List cS4), (c.getLastD (0, 0, 0, 0)).2 = (c.map Prod.snd).getLastD (0, 0, 0) := by
  intro c
  induction c with
  | nil => rfl
  | cons a r ih =>
    cases r with
    | nil => rfl
    | cons b r => exact ih
theorem chM_ne (f : Nat → Nat → Int32) (j k : Nat) : chM f j k ≠ [] := by
  induction k with
  | zero => intro h; cases h
  | succ k ih =>
    unfold chM
    split
    · intro h; cases h
    · exact ih
theorem chM_last (f : Nat → Nat → Int32) (j k : Nat) : (chM f j k).getLastD (0, 0, 0) = (f 5 j, f 4 j, 0) := by
  induction k with
  | zero => rfl
  | succ k ih =>
    unfold chM
    split
    · rw [← ih]
      cases h : chM f j k with
      | nil => exact absurd h (chM_ne f j k)
      | cons a r => rfl
    · exact ih
theorem chM_head {f : Nat → Nat → Int32} {j : Nat} {t : Int32} : ∀ (k : Nat), (∀ a, a < k → (f 9 a).toInt ≤ t.toInt) → (chd (chM f j k)).2.1 = valM f t j k ∧ (chd (chM f j k)).2.2 = strM f t j k := by
  intro k
  induction k with
  | zero => intro _; exact ⟨rfl, rfl⟩
  | succ k ih =>
    intro h
    obtain ⟨i1, i2⟩ := ih (fun a ha => h a (Nat.lt_succ_of_lt ha))
    have ht : ¬ t < f 9 k := by rw [i_lt]; have := h k (Nat.lt_succ_self k); omega
    unfold chM valM strM
    by_cases h6 : f 6 k = nI j
    · rw [if_pos h6]
      by_cases h7 : f 7 k = 2
      · rw [if_pos h7, if_pos h7, if_pos ⟨h6, h7, ht⟩, if_neg (fun q => q.2.1 h7)]
        exact ⟨rfl, i2⟩
      · rw [if_neg h7, if_neg h7, if_neg (show ¬ (f 6 k = nI j ∧ f 7 k = 2 ∧ ¬ t < f 9 k) from fun q => h7 q.2.1), if_pos (show f 6 k = nI j ∧ ¬ f 7 k = 2 ∧ ¬ t < f 9 k from ⟨h6, h7, ht⟩)]
        exact ⟨i1, rfl⟩
    · rw [if_neg h6, if_neg (fun q => h6 q.1), if_neg (fun q => h6 q.1)]
      exact ⟨i1, i2⟩
theorem stM_cons {t : Int32} {c : c3} {r : List c3} (h : r ≠ []) : stM t (c :: r) = if c.1 ≤ t then c else stM t r := by
  cases r with
  | nil => exact absurd rfl h
  | cons d r => rfl
theorem stM_val {f : Nat → Nat → Int32} {j : Nat} {t : Int32} : ∀ (k : Nat), (∀ a b, a ≤ b → b < k → (f 9 a).toInt ≤ (f 9 b).toInt) → (stM t (chM f j k)).2.1 = valM f t j k ∧ (stM t (chM f j k)).2.2 = strM f t j k := by
  intro k
  induction k with
  | zero => intro _; exact ⟨rfl, rfl⟩
  | succ k ih =>
    intro h
    obtain ⟨i1, i2⟩ := ih (fun a b hab hb => h a b hab (Nat.lt_succ_of_lt hb))
    by_cases h6 : f 6 k = nI j
    · by_cases h9 : f 9 k ≤ t
      · have ht : ¬ t < f 9 k := Int32.not_lt.mpr h9
        obtain ⟨e1, e2⟩ := chM_head (f := f) (j := j) (t := t) k (fun a ha => by have := h a k (by omega) (by omega); rw [i_le] at h9; omega)
        unfold chM valM strM
        rw [if_pos h6, stM_cons (chM_ne f j k), if_pos h9]
        by_cases h7 : f 7 k = 2
        · rw [if_pos h7, if_pos h7, if_pos ⟨h6, h7, ht⟩, if_neg (fun q => q.2.1 h7)]
          exact ⟨rfl, e2⟩
        · rw [if_neg h7, if_neg h7, if_neg (show ¬ (f 6 k = nI j ∧ f 7 k = 2 ∧ ¬ t < f 9 k) from fun q => h7 q.2.1), if_pos (show f 6 k = nI j ∧ ¬ f 7 k = 2 ∧ ¬ t < f 9 k from ⟨h6, h7, ht⟩)]
          exact ⟨e1, rfl⟩
      · have ht : t < f 9 k := Int32.not_le.mp h9
        unfold chM valM strM
        rw [if_pos h6, stM_cons (chM_ne f j k), if_neg h9, if_neg (fun q => q.2.2 ht), if_neg (fun q => q.2.2 ht)]
        exact ⟨i1, i2⟩
    · unfold chM valM strM
      rw [if_neg h6, if_neg (fun q => h6 q.1), if_neg (fun q => h6 q.1)]
      exact ⟨i1, i2⟩
/-- two states of the reference that agree on the first k acts, and on the note j -/
def smA (f g : Nat → Nat → Int32) (k : Nat) : Prop := ∀ a, a < k → g 6 a = f 6 a ∧ g 7 a = f 7 a ∧ g 8 a = f 8 a ∧ g 9 a = f 9 a
def smN (f g : Nat → Nat → Int32) (j : Nat) : Prop := g 0 j = f 0 j ∧ g 1 j = f 1 j ∧ g 2 j = f 2 j ∧ g 3 j = f 3 j ∧ g 4 j = f 4 j ∧ g 5 j = f 5 j
theorem smA_s {f g : Nat → Nat → Int32} {k : Nat} (h : smA f g (k + 1)) : smA f g k := fun a ha => h a (Nat.lt_succ_of_lt ha)
theorem chM_g {f g : Nat → Nat → Int32} {j : Nat} (hn : smN f g j) : ∀ (k : Nat), smA f g k → chM g j k = chM f j k := by
  intro k
  induction k with
  | zero => intro _; unfold chM; rw [hn.2.2.2.2.1, hn.2.2.2.2.2]
  | succ k ih => intro h; obtain ⟨a, b, c, d⟩ := h k (Nat.lt_succ_self k); unfold chM; rw [a, b, c, d, ih (smA_s h)]
theorem manM_g {f g : Nat → Nat → Int32} {j : Nat} {al : Int32} : ∀ (k : Nat), smA f g k → manM g al j k = manM f al j k := by
  intro k
  induction k with
  | zero => intro _; rfl
  | succ k ih => intro h; obtain ⟨a, b, c, d⟩ := h k (Nat.lt_succ_self k); unfold manM; rw [a, b, ih (smA_s h)]
theorem digM_g {f g : Nat → Nat → Int32} {j : Nat} (hn : smN f g j) : ∀ (k : Nat), smA f g k → digM g j k = digM f j k := by
  intro k
  induction k with
  | zero => intro _; unfold digM; rw [hn.1, hn.2.1, hn.2.2.1, hn.2.2.2.1, hn.2.2.2.2.1]
  | succ k ih => intro h; obtain ⟨a, b, c, d⟩ := h k (Nat.lt_succ_self k); unfold digM; rw [a, b, c, ih (smA_s h)]
theorem manM_le (f : Nat → Nat → Int32) (al : Int32) (j : Nat) : ∀ (k : Nat), manM f al j k ≤ k := by
  intro k
  induction k with
  | zero => exact Nat.le_refl 0
  | succ k ih => unfold manM; split <;> omega
