/-! small things: switches, refusals by number, the state of the class -/
theorem i_of {x : Int32} {k : Int} (h : x.toInt = k) : x = Int32.ofInt k := by rw [← h]; exact (Int32.ofInt_toInt x).symm
theorem sw_5 (x : Int32) : x = 0 ∨ x = 1 ∨ x = 2 ∨ x = 3 ∨ x = 4 ∨ (x.toInt < 0 ∨ 4 < x.toInt) := by
  by_cases h : x.toInt < 0 ∨ 4 < x.toInt
  · exact Or.inr (Or.inr (Or.inr (Or.inr (Or.inr h))))
  · have h1 : x.toInt = 0 ∨ x.toInt = 1 ∨ x.toInt = 2 ∨ x.toInt = 3 ∨ x.toInt = 4 := by omega
    rcases h1 with h | h | h | h | h
    · exact Or.inl (i_of h)
    · exact Or.inr (Or.inl (i_of h))
    · exact Or.inr (Or.inr (Or.inl (i_of h)))
    · exact Or.inr (Or.inr (Or.inr (Or.inl (i_of h))))
    · exact Or.inr (Or.inr (Or.inr (Or.inr (Or.inl (i_of h)))))
/-- the refusals: 1 unknown number, 2 out of range, 3 not in this state, 4 no room -/
def exN (k : Nat) : String := if k = 1 then "java/lang/IllegalArgumentException" else if k = 2 then "java/lang/IndexOutOfBoundsException" else if k = 3 then "java/lang/IllegalStateException" else "java/lang/UnsupportedOperationException"
