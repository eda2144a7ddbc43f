/-! pure: the line's order, and the reference's search along it -/
theorem i_lt (a b : Int32) : a < b ↔ a.toInt < b.toInt := Int32.lt_iff_toInt_lt
theorem i_le (a b : Int32) : a ≤ b ↔ a.toInt ≤ b.toInt := Int32.le_iff_toInt_le
theorem i_eq (a b : Int32) : a = b ↔ a.toInt = b.toInt := Int32.toInt_inj.symm
theorem bef_iff (f : Nat → Nat → Int32) (a b : Nat) : befN f a b = true ↔ ((f 3 a).toInt < (f 3 b).toInt ∨ ((f 3 a).toInt = (f 3 b).toInt ∧ ((f 0 a).toInt < (f 0 b).toInt ∨ ((f 0 a).toInt = (f 0 b).toInt ∧ a < b)))) := by
  unfold befN
  by_cases h1 : f 3 a = f 3 b
  · rw [if_pos h1]
    have e1 := (i_eq _ _).mp h1
    by_cases h2 : f 0 a = f 0 b
    · rw [if_pos h2, decide_eq_true_iff]
      have e2 := (i_eq _ _).mp h2
      omega
    · rw [if_neg h2, decide_eq_true_iff, i_le]
      have e2 : ¬ (f 0 a).toInt = (f 0 b).toInt := fun q => h2 ((i_eq _ _).mpr q)
      omega
  · rw [if_neg h1, decide_eq_true_iff, i_le]
    have e1 : ¬ (f 3 a).toInt = (f 3 b).toInt := fun q => h1 ((i_eq _ _).mpr q)
    omega
theorem bef_irr (f : Nat → Nat → Int32) (a : Nat) : ¬ befN f a a = true := by rw [bef_iff]; omega
theorem bef_tr {f : Nat → Nat → Int32} {a b c : Nat} (h1 : befN f a b = true) (h2 : befN f b c = true) : befN f a c = true := by rw [bef_iff] at *; omega
theorem bef_tot (f : Nat → Nat → Int32) {a b : Nat} (h : a ≠ b) : befN f a b = true ∨ befN f b a = true := by rw [bef_iff, bef_iff]; omega
theorem bef_as {f : Nat → Nat → Int32} {a b : Nat} (h : befN f a b = true) : ¬ befN f b a = true := by rw [bef_iff] at *; omega
/-- the search finds the first -/
theorem folM_none {F : Nat → Bool} {B : Nat → Nat → Bool} : ∀ (n : Nat), (∀ i, i < n → F i = false) → folM F B n = none := by
  intro n
  induction n with
  | zero => intro _; rfl
  | succ n ih => intro h; unfold folM; rw [h n (Nat.lt_succ_self n), if_neg (by decide)]; exact ih (fun i hi => h i (Nat.lt_succ_of_lt hi))
theorem folM_isn {F : Nat → Bool} {B : Nat → Nat → Bool} : ∀ (n : Nat), folM F B n = none → ∀ i, i < n → F i = false := by
  intro n
  induction n with
  | zero => intro _ i hi; exact absurd hi (Nat.not_lt_zero i)
  | succ n ih =>
    intro h i hi
    unfold folM at h
    by_cases hF : F n = true
    · rw [if_pos hF] at h
      split at h
      · cases h
      · split at h <;> cases h
    · rw [if_neg hF] at h
      by_cases hin : i = n
      · subst hin; exact Bool.eq_false_iff.mpr hF
      · exact ih h i (by omega)
theorem folM_min {f : Nat → Nat → Int32} {F : Nat → Bool} : ∀ (n b : Nat), folM F (befN f) n = some b → ∀ i, i < n → F i = true → i = b ∨ befN f b i = true := by
  intro n
  induction n with
  | zero => intro b _ i hi; exact absurd hi (Nat.not_lt_zero i)
  | succ n ih =>
    intro b h i hi hFi
    unfold folM at h
    by_cases hF : F n = true
    · rw [if_pos hF] at h
      split at h
      · rename_i hn
        cases h
        by_cases hin : i = n
        · exact Or.inl hin
        · exact absurd hFi (by rw [folM_isn n hn i (by omega)]; decide)
      · rename_i b2 hb2
        split at h
        · rename_i hB
          cases h
          by_cases hin : i = n
          · exact Or.inl hin
          · rcases ih b2 hb2 i (by omega) hFi with e | e
            · rw [e]; exact Or.inr hB
            · exact Or.inr (bef_tr hB e)
        · rename_i hB
          cases h
          by_cases hin : i = n
          · rw [hin]
            by_cases hnb : n = b
            · exact Or.inl hnb
            · rcases bef_tot f hnb with e | e
              · exact absurd e hB
              · exact Or.inr e
          · exact ih b hb2 i (by omega) hFi
    · rw [if_neg hF] at h
      by_cases hin : i = n
      · rw [hin] at hFi; exact absurd hFi hF
      · exact ih b h i (by omega) hFi
theorem folM_eq {f : Nat → Nat → Int32} {F : Nat → Bool} {n a : Nat} (ha : a < n) (hFa : F a = true) (hm : ∀ i, i < n → F i = true → i = a ∨ befN f a i = true) : folM F (befN f) n = some a := by
  cases h : folM F (befN f) n with
  | none => exact absurd hFa (by rw [folM_isn n h a ha]; decide)
  | some b =>
    obtain ⟨hb, hFb⟩ := folM_lt h
    rcases folM_min n b h a ha hFa with e | e
    · rw [e]
    · rcases hm b hb hFb with e2 | e2
      · rw [e2]
      · exact absurd e2 (bef_as e)
/-- the reference's search, one behind the other, gives a sorted list of all that the filter takes -/
theorem fol_list {f : Nat → Nat → Int32} {F : Nat → Bool} {n : Nat} : ∀ (L : List Nat) (lo : Option Nat), (∀ i, (i < n ∧ F i = true ∧ lsB f lo i = true) ↔ i ∈ L) → L.Pairwise (fun a b => befN f a b = true) → folL (fun lo => folM (fun i => F i && lsB f lo i) (befN f) n) lo L := by
  intro L
  induction L with
  | nil =>
    intro lo h _
    refine folM_none n (fun i hi => ?_)
    show (F i && lsB f lo i) = false
    cases hF : F i with
    | false => rfl
    | true =>
      cases hl : lsB f lo i with
      | false => rfl
      | true => exact absurd ((h i).mp ⟨hi, hF, hl⟩) List.not_mem_nil
  | cons a r ih =>
    intro lo h hp
    obtain ⟨hp1, hp2⟩ := List.pairwise_cons.mp hp
    obtain ⟨ha, hFa, hla⟩ := (h a).mpr List.mem_cons_self
    refine ⟨folM_eq ha (by show (F a && lsB f lo a) = true; rw [hFa, hla]; rfl) (fun i hi hFi => ?_), ih (some a) (fun i => ⟨fun q => ?_, fun q => ?_⟩) hp2⟩
    · have h2 : F i = true ∧ lsB f lo i = true := (Bool.and_eq_true _ _).mp hFi
      rcases List.mem_cons.mp ((h i).mp ⟨hi, h2.1, h2.2⟩) with e | e
      · exact Or.inl e
      · exact Or.inr (hp1 i e)
    · obtain ⟨q1, q2, q3⟩ := q
      have q3 : befN f a i = true := q3
      have hl : lsB f lo i = true := by
        cases lo with
        | none => rfl
        | some c => exact bef_tr (show befN f c a = true from hla) q3
      rcases List.mem_cons.mp ((h i).mp ⟨q1, q2, hl⟩) with e | e
      · rw [e] at q3; exact absurd q3 (bef_irr f a)
      · exact e
    · have := (h i).mpr (List.mem_cons_of_mem a q)
      exact ⟨this.1, this.2.1, hp1 i q⟩
theorem filM_lo (f : Nat → Nat → Int32) (lo : Option Nat) (sk k z t no : Int32) (ka i : Nat) : filM f lo sk k z t no ka i = (filM f none sk k z t no ka i && lsB f lo i) := by
  unfold filM
  cases lsB f lo i with
  | false => simp only [Bool.and_false, Bool.false_and]
  | true => simp only [Bool.and_true, show lsB f none i = true from rfl]
/-- the order as a list of numbers -/
def odL (od : Nat → Nat) (n : Nat) : List Nat := (List.range n).map od
def oG (f : Nat → Nat → Int32) (od : Nat → Nat) (n : Nat) : Prop := (∀ i, i < n → od i < n) ∧ (∀ i j, i < j → j < n → befN f (od i) (od j) = true) ∧ ∀ j, j < n → ∃ i, i < n ∧ od i = j
theorem od_pw {f : Nat → Nat → Int32} {od : Nat → Nat} {n : Nat} (h : oG f od n) : (odL od n).Pairwise (fun a b => befN f a b = true) := by
  unfold odL
  rw [List.pairwise_map]
  have h2 : (List.range n).Pairwise (· < ·) := List.pairwise_lt_range
  refine List.Pairwise.imp_of_mem ?_ h2
  intro a b ha hb hab
  exact h.2.1 a b hab (List.mem_range.mp hb)
theorem od_mem {f : Nat → Nat → Int32} {od : Nat → Nat} {n : Nat} (h : oG f od n) (j : Nat) : j ∈ odL od n ↔ j < n := by
  unfold odL
  rw [List.mem_map]
  constructor
  · rintro ⟨i, hi, rfl⟩; exact h.1 i (List.mem_range.mp hi)
  · intro hj
    obtain ⟨i, hi, e⟩ := h.2.2 j hj
    exact ⟨i, List.mem_range.mpr hi, e⟩
/-- the list that the reference walks -/
theorem fol_od {f : Nat → Nat → Int32} {od : Nat → Nat} {n : Nat} (h : oG f od n) (sk k z t no : Int32) (ka : Nat) : folL (folS f sk k z t no ka n) none ((odL od n).filter (filM f none sk k z t no ka)) := by
  have h2 := fol_list (f := f) (F := filM f none sk k z t no ka) (n := n) ((odL od n).filter (filM f none sk k z t no ka)) none (fun i => by
    rw [List.mem_filter, od_mem h]
    exact ⟨fun q => ⟨q.1, q.2.1⟩, fun q => ⟨q.1, q.2, rfl⟩⟩) ((od_pw h).filter _)
  have h3 : folS f sk k z t no ka n = (fun lo => folM (fun i => filM f none sk k z t no ka i && lsB f lo i) (befN f) n) := by
    funext lo
    unfold folS
    congr 1
    funext i
    exact filM_lo f lo sk k z t no ka i
  rw [h3]
  exact h2
