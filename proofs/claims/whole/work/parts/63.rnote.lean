/-! pure: note, correct, strike -/
theorem up_ne {f : Nat → Nat → Int32} {k i : Nat} {g : Nat → Int32} (h : i ≠ k) : va_up f k g i = f i := va_up_ne _ _ h
theorem up_eq {f : Nat → Nat → Int32} {k : Nat} {g : Nat → Int32} : va_up f k g k = g := va_up_self _ _ _
theorem upd_eq (g : Nat → Int32) (k : Nat) (x : Int32) : upd g k x k = x := by unfold upd; rw [if_pos rfl]
theorem upd_ne (g : Nat → Int32) {k i : Nat} (x : Int32) (h : i ≠ k) : upd g k x i = g i := by unfold upd; rw [if_neg h]
/-- the reference with a note more -/
def fNote (f : Nat → Nat → Int32) (n : Nat) (x1 x2 x3 x4 x5 no : Int32) : Nat → Nat → Int32 := va_up (va_up (va_up (va_up (va_up (va_up f 0 (upd (f 0) n x1)) 1 (upd (f 1) n x2)) 2 (upd (f 2) n x3)) 3 (upd (f 3) n x4)) 4 (upd (f 4) n x5)) 5 (upd (f 5) n no)
section FN
variable {f : Nat → Nat → Int32} {n : Nat} {x1 x2 x3 x4 x5 no : Int32}
theorem fN_0 : fNote f n x1 x2 x3 x4 x5 no 0 = upd (f 0) n x1 := rfl
theorem fN_1 : fNote f n x1 x2 x3 x4 x5 no 1 = upd (f 1) n x2 := rfl
theorem fN_2 : fNote f n x1 x2 x3 x4 x5 no 2 = upd (f 2) n x3 := rfl
theorem fN_3 : fNote f n x1 x2 x3 x4 x5 no 3 = upd (f 3) n x4 := rfl
theorem fN_4 : fNote f n x1 x2 x3 x4 x5 no 4 = upd (f 4) n x5 := rfl
theorem fN_5 : fNote f n x1 x2 x3 x4 x5 no 5 = upd (f 5) n no := rfl
theorem fN_o {i : Nat} (h : 6 ≤ i) : fNote f n x1 x2 x3 x4 x5 no i = f i := by unfold fNote; rw [up_ne (by omega), up_ne (by omega), up_ne (by omega), up_ne (by omega), up_ne (by omega), up_ne (by omega)]
theorem fN_smN {i : Nat} (h : i ≠ n) : smN f (fNote f n x1 x2 x3 x4 x5 no) i := by
  unfold smN
  rw [fN_0, fN_1, fN_2, fN_3, fN_4, fN_5, upd_ne _ _ h, upd_ne _ _ h, upd_ne _ _ h, upd_ne _ _ h, upd_ne _ _ h, upd_ne _ _ h]
  exact ⟨rfl, rfl, rfl, rfl, rfl, rfl⟩
theorem fN_smA (k : Nat) : smA f (fNote f n x1 x2 x3 x4 x5 no) k := fun a _ => by rw [fN_o (by omega), fN_o (by omega), fN_o (by omega), fN_o (by omega)]; exact ⟨rfl, rfl, rfl, rfl⟩
end FN
theorem chM_0 {f : Nat → Nat → Int32} {j : Nat} : ∀ (k : Nat), (∀ a, a < k → ¬ f 6 a = nI j) → chM f j k = [(f 5 j, f 4 j, 0)] := by
  intro k
  induction k with
  | zero => intro _; rfl
  | succ k ih => intro h; unfold chM; rw [if_neg (h k (Nat.lt_succ_self k))]; exact ih (fun a ha => h a (Nat.lt_succ_of_lt ha))
theorem manM_0 {f : Nat → Nat → Int32} {j : Nat} {al : Int32} : ∀ (k : Nat), (∀ a, a < k → ¬ f 6 a = nI j) → manM f al j k = 0 := by
  intro k
  induction k with
  | zero => intro _; rfl
  | succ k ih => intro h; unfold manM; rw [if_neg (fun q => h k (Nat.lt_succ_self k) q.1), ih (fun a ha => h a (Nat.lt_succ_of_lt ha))]
theorem digM_0 {f : Nat → Nat → Int32} {j : Nat} : ∀ (k : Nat), (∀ a, a < k → ¬ f 6 a = nI j) → digM f j k = digM f j 0 := by
  intro k
  induction k with
  | zero => intro _; rfl
  | succ k ih => intro h; unfold digM; rw [if_neg (fun q => h k (Nat.lt_succ_self k) q.1), ih (fun a ha => h a (Nat.lt_succ_of_lt ha))]; rfl
/-- the note's place in the line -/
theorem insP_hi {P : Nat → Bool} : ∀ (n i : Nat), insP P n ≤ i → i < n → P i = true := by
  intro n
  induction n with
  | zero => intro i _ h; exact absurd h (Nat.not_lt_zero i)
  | succ n ih =>
    intro i h1 h2
    unfold insP at h1
    by_cases hP : P n = true
    · rw [if_pos hP] at h1
      by_cases hin : i = n
      · rw [hin]; exact hP
      · exact ih i h1 (by omega)
    · rw [if_neg hP] at h1; omega
theorem insP_lo {P : Nat → Bool} : ∀ (n k : Nat), insP P n = k + 1 → P k = false := by
  intro n
  induction n with
  | zero => intro k h; cases h
  | succ n ih =>
    intro k h
    unfold insP at h
    by_cases hP : P n = true
    · rw [if_pos hP] at h; exact ih k h
    · rw [if_neg hP] at h
      have : k = n := by omega
      rw [this]; exact Bool.eq_false_iff.mpr hP
theorem oG_ins {f : Nat → Nat → Int32} {od : Nat → Nat} {n : Nat} (h : oG f od n) {P : Nat → Bool} (hP : ∀ i, i < n → (P i = true ↔ befN f n (od i) = true)) : oG f (odI od (insP P n) n) (n + 1) := by
  obtain ⟨o1, o2, o3⟩ := h
  have hp := insP_le P n
  obtain ⟨p, ep⟩ : ∃ z9 : Nat, z9 = insP P n := ⟨_, rfl⟩
  have hlo : ∀ i, i < p → befN f (od i) n = true := by
    intro i hi
    obtain ⟨k, ek⟩ : ∃ k : Nat, p = k + 1 := ⟨p - 1, by omega⟩
    have hk := insP_lo (P := P) n k (by omega)
    have hnk : ¬ befN f n (od k) = true := fun q => by rw [(hP k (by omega)).mpr q] at hk; cases hk
    have hni : ¬ befN f n (od i) = true := by
      by_cases hik : i = k
      · rw [hik]; exact hnk
      · exact fun q => hnk (bef_tr q (o2 i k (by omega) (by omega)))
    have hoi := o1 i (by omega)
    rcases bef_tot f (show od i ≠ n by omega) with e | e
    · exact e
    · exact absurd e hni
  have hhi : ∀ i, p ≤ i → i < n → befN f n (od i) = true := fun i h1 h2 => (hP i h2).mp (insP_hi (P := P) n i (by omega) h2)
  rw [← ep]
  rw [← ep] at hp
  refine ⟨fun i hi => ?_, fun i j hij hj => ?_, fun j hj => ?_⟩
  · unfold odI
    by_cases c1 : i < p
    · rw [if_pos c1]; have := o1 i (by omega); omega
    · rw [if_neg c1]
      by_cases c2 : i = p
      · rw [if_pos c2]; omega
      · rw [if_neg c2]; have := o1 (i - 1) (by omega); omega
  · unfold odI
    by_cases c1 : i < p
    · rw [if_pos c1]
      by_cases d1 : j < p
      · rw [if_pos d1]; exact o2 i j hij (by omega)
      · rw [if_neg d1]
        by_cases d2 : j = p
        · rw [if_pos d2]; exact hlo i c1
        · rw [if_neg d2]; exact o2 i (j - 1) (by omega) (by omega)
    · rw [if_neg c1, if_neg (show ¬ j < p by omega), if_neg (show ¬ j = p by omega)]
      by_cases c2 : i = p
      · rw [if_pos c2]; exact hhi (j - 1) (by omega) (by omega)
      · rw [if_neg c2]; exact o2 (i - 1) (j - 1) (by omega) (by omega)
  · by_cases c : j = n
    · exact ⟨p, by omega, by unfold odI; rw [if_neg (Nat.lt_irrefl p), if_pos rfl, c]⟩
    · obtain ⟨i, hi, e⟩ := o3 j (by omega)
      by_cases c1 : i < p
      · exact ⟨i, by omega, by unfold odI; rw [if_pos c1]; exact e⟩
      · exact ⟨i + 1, by omega, by unfold odI; rw [if_neg (by omega), if_neg (by omega)]; exact e⟩
section RN
variable {v : Nat → nV} {od ro : Nat → Nat} {bs : Nat → Int32} {se wr : Int32} {n ka rn sn : Nat} {z : Int32} {f : Nat → Nat → Int32}
theorem cd_note (h : rl v od ro bs se wr n ka rn sn z f) (x1 x2 x3 x4 x5 : Int32) : gC (if (¬ x1 < 0 ∧ ¬ wr ≤ x1) ∧ (¬ x2 < 0 ∧ ¬ 6 ≤ x2) ∧ (¬ x3 < 0 ∧ ¬ 10 ≤ x3) then 1 else 0) (if (¬ x4 < 0 ∧ ¬ se < x4) ∧ (¬ x5 < (-9999) ∧ ¬ 9999 < x5) then 1 else 0) 1 (if nI n < 100 then 1 else 0)
    = gC (if (¬ x1 < 0 ∧ ¬ wr - 1 < x1) ∧ (¬ x2 < 0 ∧ ¬ 5 < x2) ∧ (¬ x3 < 0 ∧ ¬ 9 < x3) then 1 else 0) (if (¬ x4 < 0 ∧ ¬ se < x4) ∧ (¬ x5 < (-9999) ∧ ¬ 9999 < x5) then 1 else 0) 1 (if 100 ≤ nI n then 0 else 1) := by
  obtain ⟨⟨b1, b2, b3, b4, b5, b6, b7, b8, b9⟩, -⟩ := h
  have e1 : (1 : Int32).toInt = 1 := rfl
  have e : (wr - 1).toInt = wr.toInt - 1 := by rw [i_sub (by rw [e1]; omega) (by rw [e1]; omega), e1]
  rw [if_01 (P := 100 ≤ nI n) (Q := nI n < 100) Int32.not_le]
  rw [if_10 (P := (¬ x1 < 0 ∧ ¬ wr ≤ x1) ∧ (¬ x2 < 0 ∧ ¬ 6 ≤ x2) ∧ (¬ x3 < 0 ∧ ¬ 10 ≤ x3)) (Q := (¬ x1 < 0 ∧ ¬ wr - 1 < x1) ∧ (¬ x2 < 0 ∧ ¬ 5 < x2) ∧ (¬ x3 < 0 ∧ ¬ 9 < x3)) (by
    simp only [i_lt, i_le, e, show (0 : Int32).toInt = 0 from rfl, show (5 : Int32).toInt = 5 from rfl, show (6 : Int32).toInt = 6 from rfl, show (9 : Int32).toInt = 9 from rfl, show (10 : Int32).toInt = 10 from rfl]
    omega)]
theorem nx_note (h : rl v od ro bs se wr n ka rn sn z f) {x1 x2 x3 x4 x5 : Int32} (hC : gC (if (¬ x1 < 0 ∧ ¬ wr ≤ x1) ∧ (¬ x2 < 0 ∧ ¬ 6 ≤ x2) ∧ (¬ x3 < 0 ∧ ¬ 10 ≤ x3) then 1 else 0) (if (¬ x4 < 0 ∧ ¬ se < x4) ∧ (¬ x5 < (-9999) ∧ ¬ 9999 < x5) then 1 else 0) 1 (if nI n < 100 then 1 else 0) = 0) (q1 q2 : Nat) :
    rl (va_up v n (nNew q1 q2 n x1 x2 x3 x4 x5 se)) (odI od (insP (fun i => behB (nT (v (od i))) (nW (v (od i))) (nN (v (od i))) x4 x1 (nI n)) n) n) ro bs se wr (n + 1) ka rn sn z (fNote f n x1 x2 x3 x4 x5 se) := by
  have g1 := of_gC1 hC
  have g2 := of_gC2 hC
  have g4 := of_gC4 hC
  obtain ⟨⟨b1, b2, b3, b4, b5, b6, b7, b8, b9⟩, h2, h3, h4, h5, h6, h7⟩ := h
  have hn : n < 100 := (nI_ltI (by omega) (by decide)).mp (show nI n < nI 100 from g4)
  simp only [i_lt, i_le, show (0 : Int32).toInt = 0 from rfl, show (6 : Int32).toInt = 6 from rfl, show (10 : Int32).toInt = 10 from rfl, show (9999 : Int32).toInt = 9999 from rfl, show (-9999 : Int32).toInt = -9999 from rfl] at g1 g2
  have ha6 : ∀ a, a < ka → ¬ fNote f n x1 x2 x3 x4 x5 se 6 a = nI n := fun a ha q => by
    rw [fN_o (by omega)] at q
    obtain ⟨j, hj, e⟩ := (h3 a ha).2.2
    rw [e] at q
    have := (nI_eq (by omega) (by omega)).mp q
    omega
  refine ⟨⟨by omega, b2, b3, b4, b5, b6, b7, b8, b9⟩, fun i hi => ?_, fun a ha => ?_, fun a b hab hb => ?_, ?_, fun i hi => ?_, fun i hi => ?_⟩
  · by_cases hin : i = n
    · subst hin
      rw [va_up_self]
      refine ⟨⟨rfl, rfl, fun c hc => ?_⟩, ⟨?_, ?_, ?_, ?_, ?_, ?_, ?_, ?_⟩, ?_⟩
      · have hc : c = (q2, se, x5, 0) := List.mem_singleton.mp hc
        rw [hc]; exact Or.inl rfl
      · rw [fN_0, upd_eq]; rfl
      · rw [fN_1, upd_eq]; rfl
      · rw [fN_2, upd_eq]; rfl
      · rw [fN_3, upd_eq]; rfl
      · rw [chM_0 ka ha6, fN_5, fN_4, upd_eq, upd_eq]; rfl
      · rw [manM_0 ka ha6]; rfl
      · rw [manM_0 ka ha6]; rfl
      · rw [digM_0 ka ha6]; unfold digM; rw [fN_0, fN_1, fN_2, fN_3, fN_4, upd_eq, upd_eq, upd_eq, upd_eq, upd_eq]; rfl
      · unfold nG
        rw [fN_0, fN_1, fN_2, fN_3, fN_4, fN_5, upd_eq, upd_eq, upd_eq, upd_eq, upd_eq, upd_eq]
        omega
    · rw [va_up_ne _ _ hin]
      obtain ⟨o1, o2, o3⟩ := h2 i (by omega)
      have hs := fN_smN (f := f) (x1 := x1) (x2 := x2) (x3 := x3) (x4 := x4) (x5 := x5) (no := se) hin
      refine ⟨o1, ?_, ?_⟩
      · unfold nR
        rw [chM_g hs ka (fN_smA ka), manM_g ka (fN_smA ka), manM_g ka (fN_smA ka), digM_g hs ka (fN_smA ka), hs.1, hs.2.1, hs.2.2.1, hs.2.2.2.1]
        exact o2
      · unfold nG
        rw [hs.1, hs.2.1, hs.2.2.1, hs.2.2.2.1, hs.2.2.2.2.1, hs.2.2.2.2.2]
        exact o3
  · obtain ⟨q1, q2, j, hj, e⟩ := h3 a ha
    unfold aG
    rw [fN_o (by omega), fN_o (by omega), fN_o (by omega)]
    exact ⟨q1, q2, j, by omega, e⟩
  · rw [fN_o (by omega)]; exact h4 a b hab hb
  · have hf : ∀ a b, a < n → b < n → befN (fNote f n x1 x2 x3 x4 x5 se) a b = befN f a b := fun a b ha hb => by
      unfold befN
      rw [fN_3, fN_0, upd_ne _ _ (show a ≠ n by omega), upd_ne _ _ (show b ≠ n by omega), upd_ne _ _ (show a ≠ n by omega), upd_ne _ _ (show b ≠ n by omega)]
    have h5' : oG (fNote f n x1 x2 x3 x4 x5 se) od n := ⟨h5.1, fun i j hij hj => by rw [hf _ _ (h5.1 i (by omega)) (h5.1 j hj)]; exact h5.2.1 i j hij hj, h5.2.2⟩
    refine oG_ins h5' (fun i hi => ?_)
    have ho := h5.1 i hi
    obtain ⟨o1, o2, o3⟩ := h2 (od i) ho
    rw [behB_iff, o2.2.2.2.1, o2.1, o1.1, bef_iff, fN_3, fN_0, upd_eq, upd_eq, upd_ne _ _ (show od i ≠ n by omega), upd_ne _ _ (show od i ≠ n by omega)]
    have ei : (nI (od i)).toInt = (od i : Int) := nI_toInt (by omega)
    have en : (nI n).toInt = (n : Int) := nI_toInt (by omega)
    unfold behind
    by_cases k1 : f 3 (od i) = x4
    · rw [if_pos k1]
      have k1' := (i_eq _ _).mp k1
      by_cases k2 : f 0 (od i) = x1
      · rw [if_pos k2, i_le, ei, en]
        have k2' := (i_eq _ _).mp k2
        omega
      · rw [if_neg k2, i_le]
        have k2' : ¬ (f 0 (od i)).toInt = x1.toInt := fun q => k2 ((i_eq _ _).mpr q)
        omega
    · rw [if_neg k1, i_le]
      have k1' : ¬ (f 3 (od i)).toInt = x4.toInt := fun q => k1 ((i_eq _ _).mpr q)
      omega
  · obtain ⟨r1, r2⟩ := h6 i hi
    rw [fN_o (by omega)]
    exact ⟨by omega, r2⟩
  · rw [fN_o (by omega)]; exact h7 i hi
end RN
