/-! pure: correct, strike -/
section FA
variable {f : Nat → Nat → Int32} {ka : Nat} {x a v no : Int32}
theorem fA_6 : fAct f ka x a v no 6 = upd (f 6) ka x := rfl
theorem fA_7 : fAct f ka x a v no 7 = upd (f 7) ka a := rfl
theorem fA_8 : fAct f ka x a v no 8 = upd (f 8) ka v := rfl
theorem fA_9 : fAct f ka x a v no 9 = upd (f 9) ka no := rfl
theorem fA_o {i : Nat} (h : i < 6 ∨ 9 < i) : fAct f ka x a v no i = f i := by unfold fAct; rw [up_ne (by omega), up_ne (by omega), up_ne (by omega), up_ne (by omega)]
theorem fA_smN (j : Nat) : smN f (fAct f ka x a v no) j := by
  unfold smN
  rw [fA_o (by omega), fA_o (by omega), fA_o (by omega), fA_o (by omega), fA_o (by omega), fA_o (by omega)]
  exact ⟨rfl, rfl, rfl, rfl, rfl, rfl⟩
theorem fA_smA : smA f (fAct f ka x a v no) ka := fun b hb => by
  rw [fA_6, fA_7, fA_8, fA_9, upd_ne _ _ (show b ≠ ka by omega), upd_ne _ _ (show b ≠ ka by omega), upd_ne _ _ (show b ≠ ka by omega), upd_ne _ _ (show b ≠ ka by omega)]
  exact ⟨rfl, rfl, rfl, rfl⟩
end FA
section RA
variable {v : Nat → nV} {od ro : Nat → Nat} {bs : Nat → Int32} {se wr : Int32} {n ka rn sn : Nat} {z : Int32} {f : Nat → Nat → Int32}
theorem a200 (h : rl v od ro bs se wr n ka rn sn z f) : ¬ 200 ≤ nI ka ↔ nI ka < 200 := Int32.not_le
theorem cd_correct (h : rl v od ro bs se wr n ka rn sn z f) (x1 x2 : Int32) : gC (if ¬ x1 < 0 ∧ x1 < nI n then 1 else 0) (if ¬ x2 < (-9999) ∧ ¬ 9999 < x2 then 1 else 0) (if (hd (nC (v x1.toNatClampNeg))).2.2.2 = 0 then 1 else 0) (if nI ka < 200 then 1 else 0)
    = gC (if ¬ x1 < 0 ∧ ¬ nI n - 1 < x1 then 1 else 0) (if ¬ x2 < (-9999) ∧ ¬ 9999 < x2 then 1 else 0) (if (¬ x1 < 0 ∧ ¬ nI n - 1 < x1) ∧ strM f se x1.toNatClampNeg ka = 0 then 1 else 0) (if 200 ≤ nI ka then 0 else 1) := by
  have hb := in_n (x := x1) (show n ≤ 2005 by have := h.1.1; omega)
  rw [if_01 (a200 h), if_10 hb]
  by_cases p : ¬ x1 < 0 ∧ x1 < nI n
  · obtain ⟨j, hj, e⟩ := nt_of (by have := h.1.1; omega) p
    have ej : x1.toNatClampNeg = j := by rw [e, nI_clamp (by have := h.1.1; omega)]
    rw [ej, (rl_head h hj).2, if_10 (P := (¬ x1 < 0 ∧ ¬ nI n - 1 < x1) ∧ strM f se j ka = 0) (Q := strM f se j ka = 0) ⟨fun q => q.2, fun q => ⟨hb.mpr p, q⟩⟩]
  · rw [if_neg p]; rfl
theorem cd_strike (h : rl v od ro bs se wr n ka rn sn z f) (x1 x2 : Int32) : gC (if ¬ x1 < 0 ∧ x1 < nI n then 1 else 0) 1 (if ¬ (hd (nC (v x1.toNatClampNeg))).2.2.2 = x2 then 1 else 0) (if nI ka < 200 then 1 else 0)
    = gC (if ¬ x1 < 0 ∧ ¬ nI n - 1 < x1 then 1 else 0) 1 (if (¬ x1 < 0 ∧ ¬ nI n - 1 < x1) ∧ ¬ strM f se x1.toNatClampNeg ka = x2 then 1 else 0) (if 200 ≤ nI ka then 0 else 1) := by
  have hb := in_n (x := x1) (show n ≤ 2005 by have := h.1.1; omega)
  rw [if_01 (a200 h), if_10 hb]
  by_cases p : ¬ x1 < 0 ∧ x1 < nI n
  · obtain ⟨j, hj, e⟩ := nt_of (by have := h.1.1; omega) p
    have ej : x1.toNatClampNeg = j := by rw [e, nI_clamp (by have := h.1.1; omega)]
    rw [ej, (rl_head h hj).2, if_10 (P := (¬ x1 < 0 ∧ ¬ nI n - 1 < x1) ∧ ¬ strM f se j ka = x2) (Q := ¬ strM f se j ka = x2) ⟨fun q => q.2, fun q => ⟨hb.mpr p, q⟩⟩]
  · rw [if_neg p]; rfl
theorem la_cons {c : cS4} {r : List cS4} (h : r ≠ []) : (c :: r).getLastD (0, 0, 0, 0) = r.getLastD (0, 0, 0, 0) := by
  cases r with
  | nil => exact absurd rfl h
  | cons d r => rfl
/-- one act more on the note j -/
theorem nx_act (h : rl v od ro bs se wr n ka rn sn z f) {j : Nat} (hj : j < n) (hka : ka < 200) (k9 x9 : Int32) (hx9 : -9999 ≤ x9.toInt ∧ x9.toInt ≤ 9999) (v2 : nV) (c : cS4) (hok : nOk v2 j) (h2 : nW v2 = nW (v j) ∧ nK v2 = nK (v j) ∧ nS v2 = nS (v j) ∧ nT v2 = nT (v j)) (hc : nC v2 = c :: nC (v j)) (hc2 : c.2 = (se, (if k9 = 2 then x9 else (hd (nC (v j))).2.2.1), (if k9 = 2 then (hd (nC (v j))).2.2.2 else if k9 = 0 then 1 else 0)))
    (hAc : nAc v2 = nAc (v j) + 1) (hCo : nCo v2 = if k9 = 2 then nCo (v j) + 1 else nCo (v j)) (hMx : nMx v2 = if k9 = 2 then mixv (nMx (v j)) x9 else nMx (v j)) :
    rl (va_up v j v2) od ro bs se wr n (ka + 1) rn sn z (fAct f ka (nI j) k9 x9 se) := by
  have hh := h
  obtain ⟨⟨b1, b2, b3, b4, b5, b6, b7, b8, b9⟩, h2', h3, h4, h5, h6, h7⟩ := h
  refine ⟨⟨b1, by omega, b3, b4, b5, b6, b7, b8, b9⟩, fun i hi => ?_, fun a ha => ?_, fun a b hab hb => ?_, ?_, fun i hi => ?_, fun i hi => ?_⟩
  · have hs := fA_smN (f := f) (ka := ka) (x := nI j) (a := k9) (v := x9) (no := se) i
    have hsa := fA_smA (f := f) (ka := ka) (x := nI j) (a := k9) (v := x9) (no := se)
    obtain ⟨o1, o2, o3⟩ := h2' i hi
    have g3 : nG (fAct f ka (nI j) k9 x9 se) se i := by
      unfold nG
      rw [hs.1, hs.2.1, hs.2.2.1, hs.2.2.2.1, hs.2.2.2.2.1, hs.2.2.2.2.2]
      exact o3
    by_cases hij : i = j
    · subst hij
      rw [va_up_self]
      refine ⟨hok, ?_, g3⟩
      obtain ⟨p1, p2, p3, p4, p5, p6, p7, p8⟩ := o2
      have hd2 : (hd (nC (v i))).2 = chd (chM f i ka) := by rw [hd_map, p5]
      unfold nR
      refine ⟨h2.1.trans (p1.trans hs.1.symm), h2.2.1.trans (p2.trans hs.2.1.symm), h2.2.2.1.trans (p3.trans hs.2.2.1.symm), h2.2.2.2.trans (p4.trans hs.2.2.2.1.symm), ?_, ?_, ?_, ?_⟩
      · unfold chM
        rw [fA_6, fA_7, fA_8, fA_9, upd_eq, upd_eq, upd_eq, upd_eq, if_pos rfl, chM_g hs ka hsa, hc, List.map_cons, p5, hc2, hd2]
      · unfold manM
        rw [fA_6, fA_7, upd_eq, upd_eq, if_pos ⟨rfl, Or.inl (by decide)⟩, manM_g ka hsa, hAc, p6, nI_1]
      · unfold manM
        rw [fA_6, fA_7, upd_eq, upd_eq, manM_g ka hsa, hCo]
        by_cases k2 : k9 = 2
        · rw [if_pos k2, if_pos ⟨rfl, Or.inr k2⟩, p7, nI_1]
        · rw [if_neg k2, if_neg (fun q => q.2.elim (fun w => w rfl) k2), p7]; rfl
      · unfold digM
        rw [fA_6, fA_7, fA_8, upd_eq, upd_eq, upd_eq, digM_g hs ka hsa, hMx]
        by_cases k2 : k9 = 2
        · rw [if_pos k2, if_pos ⟨rfl, k2⟩, p8]
        · rw [if_neg k2, if_neg (fun q => k2 q.2), p8]
    · rw [va_up_ne _ _ hij]
      refine ⟨o1, ?_, g3⟩
      have hne : ¬ nI j = nI i := fun q => hij ((nI_eq (by omega) (by omega)).mp q).symm
      have c1 : chM (fAct f ka (nI j) k9 x9 se) i (ka + 1) = chM f i ka := by
        rw [chM, fA_6, upd_eq, if_neg hne, chM_g hs ka hsa]
      have c2 : ∀ al, manM (fAct f ka (nI j) k9 x9 se) al i (ka + 1) = manM f al i ka := fun al => by
        rw [manM, fA_6, upd_eq, if_neg (fun q => hne q.1), manM_g ka hsa, Nat.add_zero]
      have c3 : digM (fAct f ka (nI j) k9 x9 se) i (ka + 1) = digM f i ka := by
        rw [digM, fA_6, upd_eq, if_neg (fun q => hne q.1), digM_g hs ka hsa]
      unfold nR
      rw [c1, c2, c2, c3, hs.1, hs.2.1, hs.2.2.1, hs.2.2.2.1]
      exact o2
  · unfold aG
    by_cases hak : a = ka
    · subst hak
      rw [fA_9, fA_8, fA_6, upd_eq, upd_eq, upd_eq]
      exact ⟨Int.le_refl _, hx9, j, hj, rfl⟩
    · rw [fA_9, fA_8, fA_6, upd_ne _ _ hak, upd_ne _ _ hak, upd_ne _ _ hak]
      exact h3 a (by omega)
  · rw [fA_9]
    by_cases hbk : b = ka
    · subst hbk
      rw [upd_eq]
      by_cases hak : a = b
      · rw [hak, upd_eq]; exact Int.le_refl _
      · rw [upd_ne _ _ hak]; exact (h3 a (by omega)).1
    · rw [upd_ne _ _ hbk, upd_ne _ _ (show a ≠ ka by omega)]; exact h4 a b hab (by omega)
  · have hf : ∀ a b, befN (fAct f ka (nI j) k9 x9 se) a b = befN f a b := fun a b => by
      unfold befN
      rw [fA_o (by omega), fA_o (by omega)]
    exact ⟨h5.1, fun i k hik hk => by rw [hf]; exact h5.2.1 i k hik hk, h5.2.2⟩
  · rw [fA_o (by omega)]; exact h6 i hi
  · rw [fA_o (by omega)]; exact h7 i hi
theorem nx_correct (h : rl v od ro bs se wr n ka rn sn z f) {x1 x2 : Int32} (hC : gC (if ¬ x1 < 0 ∧ x1 < nI n then 1 else 0) (if ¬ x2 < (-9999) ∧ ¬ 9999 < x2 then 1 else 0) (if (hd (nC (v x1.toNatClampNeg))).2.2.2 = 0 then 1 else 0) (if nI ka < 200 then 1 else 0) = 0) (hNn : ∀ i, i < n → nC (v i) ≠ []) (q9 : Nat) :
    nCo (v x1.toNatClampNeg) + 1 = nI (manM (fAct f ka x1 2 x2 se) 0 x1.toNatClampNeg (ka + 1)) ∧ rl (va_up v x1.toNatClampNeg (nCor (v x1.toNatClampNeg) q9 se x2)) od ro bs se wr n (ka + 1) rn sn z (fAct f ka x1 2 x2 se) := by
  obtain ⟨j, hj, e⟩ := nt_of (by have := h.1.1; omega) (of_gC1 hC)
  have g2 := of_gC2 hC
  have hka : ka < 200 := (nI_ltI (by have := h.1.2.1; omega) (by decide)).mp (show nI ka < nI 200 from of_gC4 hC)
  rw [e, nI_clamp (by have := h.1.1; omega)]
  simp only [i_lt, show (9999 : Int32).toInt = 9999 from rfl, show (-9999 : Int32).toInt = -9999 from rfl] at g2
  have ok := (h.2.1 j hj).1
  refine ⟨?_, nx_act h hj hka 2 x2 (by omega) (nCor (v j) q9 se x2) (q9, se, x2, (hd (nC (v j))).2.2.2) ⟨ok.1, ?_, fun c hc => ?_⟩ ⟨rfl, rfl, rfl, rfl⟩ rfl (by rw [if_pos rfl, if_pos rfl]) rfl (by rw [if_pos rfl]; rfl) (by rw [if_pos rfl]; rfl)⟩
  · have hsa := fA_smA (f := f) (ka := ka) (x := nI j) (a := 2) (v := x2) (no := se)
    rw [manM, fA_6, fA_7, upd_eq, upd_eq, if_pos ⟨rfl, Or.inr rfl⟩, manM_g ka hsa, ← nI_1, (h.2.1 j hj).2.1.2.2.2.2.2.2.1]
  · show nF (v j) = (((q9, se, x2, (hd (nC (v j))).2.2.2) :: nC (v j)).getLastD (0, 0, 0, 0)).1
    rw [la_cons (hNn j hj)]; exact ok.2.1
  · rcases List.mem_cons.mp hc with q | q
    · rw [q]; exact ok.2.2 (hd (nC (v j))) (hd_in (hNn j hj))
    · exact ok.2.2 c q
theorem nx_strike (h : rl v od ro bs se wr n ka rn sn z f) {x1 x2 : Int32} (hx2 : x2 = 0 ∨ x2 = 1) (hC : gC (if ¬ x1 < 0 ∧ x1 < nI n then 1 else 0) 1 (if ¬ (hd (nC (v x1.toNatClampNeg))).2.2.2 = x2 then 1 else 0) (if nI ka < 200 then 1 else 0) = 0) (hNn : ∀ i, i < n → nC (v i) ≠ []) (q9 : Nat) :
    rl (va_up v x1.toNatClampNeg (nStr (v x1.toNatClampNeg) q9 se x2)) od ro bs se wr n (ka + 1) rn sn z (fAct f ka x1 (if x2 = 0 then 1 else 0) 0 se) := by
  obtain ⟨j, hj, e⟩ := nt_of (by have := h.1.1; omega) (of_gC1 hC)
  have hka : ka < 200 := (nI_ltI (by have := h.1.2.1; omega) (by decide)).mp (show nI ka < nI 200 from of_gC4 hC)
  rw [e, nI_clamp (by have := h.1.1; omega)]
  have ok := (h.2.1 j hj).1
  have k2 : ¬ (if x2 = 0 then (1 : Int32) else 0) = 2 := by rcases hx2 with q | q <;> rw [q] <;> decide
  have k0 : (if (if x2 = 0 then (1 : Int32) else 0) = 0 then (1 : Int32) else 0) = x2 := by rcases hx2 with q | q <;> rw [q] <;> rfl
  refine nx_act h hj hka (if x2 = 0 then 1 else 0) 0 ⟨by decide, by decide⟩ (nStr (v j) q9 se x2) (q9, se, (hd (nC (v j))).2.2.1, x2) ⟨ok.1, ?_, fun c hc => ?_⟩ ⟨rfl, rfl, rfl, rfl⟩ rfl (by rw [if_neg k2, if_neg k2, k0]) rfl (by rw [if_neg k2]; rfl) (by rw [if_neg k2]; rfl)
  · show nF (v j) = (((q9, se, (hd (nC (v j))).2.2.1, x2) :: nC (v j)).getLastD (0, 0, 0, 0)).1
    rw [la_cons (hNn j hj)]; exact ok.2.1
  · rcases List.mem_cons.mp hc with q | q
    · rw [q]; exact hx2
    · exact ok.2.2 c q
end RA
