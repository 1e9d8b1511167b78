/-! What the calls answer on a new object. -/
section Answers
def pAns (x1 x2 x3 x4 x5 : Int32) : Int32 := if (x1 = 0 ∧ x2 = 0) ∨ isW x3 1 255 = 0 ∨ isW x4 0 24 = 0 ∨ isW x5 1 24 = 0 then -1 else 0
def tAns (x1 x2 : Int32) : Int32 := if isW x1 1 1000 = 0 ∨ isW x2 0 100 = 0 then 0 else 1
theorem eq_of_toInt {x : Int32} {k : Int32} {n : Int} (hk : k.toInt = n) (h : x.toInt = n) : x = k := Int32.toInt_inj.mp (h.trans hk.symm)
theorem sw13 (x : Int32) : (x.toInt < 0 ∨ 12 < x.toInt) ∨ x = 0 ∨ x = 1 ∨ x = 2 ∨ x = 3 ∨ x = 4 ∨ x = 5 ∨ x = 6 ∨ x = 7 ∨ x = 8 ∨ x = 9 ∨ x = 10 ∨ x = 11 ∨ x = 12 := by
  rcases (show (x.toInt < 0 ∨ 12 < x.toInt) ∨ x.toInt = 0 ∨ x.toInt = 1 ∨ x.toInt = 2 ∨ x.toInt = 3 ∨ x.toInt = 4 ∨ x.toInt = 5 ∨ x.toInt = 6 ∨ x.toInt = 7 ∨ x.toInt = 8 ∨ x.toInt = 9 ∨ x.toInt = 10 ∨ x.toInt = 11 ∨ x.toInt = 12 by omega) with h | h | h | h | h | h | h | h | h | h | h | h | h | h
  · exact Or.inl h
  · exact Or.inr (Or.inl (eq_of_toInt (by decide) h))
  · exact Or.inr (Or.inr (Or.inl (eq_of_toInt (by decide) h)))
  · exact Or.inr (Or.inr (Or.inr (Or.inl (eq_of_toInt (by decide) h))))
  · exact Or.inr (Or.inr (Or.inr (Or.inr (Or.inl (eq_of_toInt (by decide) h)))))
  · exact Or.inr (Or.inr (Or.inr (Or.inr (Or.inr (Or.inl (eq_of_toInt (by decide) h))))))
  · exact Or.inr (Or.inr (Or.inr (Or.inr (Or.inr (Or.inr (Or.inl (eq_of_toInt (by decide) h)))))))
  · exact Or.inr (Or.inr (Or.inr (Or.inr (Or.inr (Or.inr (Or.inr (Or.inl (eq_of_toInt (by decide) h))))))))
  · exact Or.inr (Or.inr (Or.inr (Or.inr (Or.inr (Or.inr (Or.inr (Or.inr (Or.inl (eq_of_toInt (by decide) h)))))))))
  · exact Or.inr (Or.inr (Or.inr (Or.inr (Or.inr (Or.inr (Or.inr (Or.inr (Or.inr (Or.inl (eq_of_toInt (by decide) h))))))))))
  · exact Or.inr (Or.inr (Or.inr (Or.inr (Or.inr (Or.inr (Or.inr (Or.inr (Or.inr (Or.inr (Or.inl (eq_of_toInt (by decide) h)))))))))))
  · exact Or.inr (Or.inr (Or.inr (Or.inr (Or.inr (Or.inr (Or.inr (Or.inr (Or.inr (Or.inr (Or.inr (Or.inl (eq_of_toInt (by decide) h))))))))))))
  · exact Or.inr (Or.inr (Or.inr (Or.inr (Or.inr (Or.inr (Or.inr (Or.inr (Or.inr (Or.inr (Or.inr (Or.inr (Or.inl (eq_of_toInt (by decide) h)))))))))))))
  · exact Or.inr (Or.inr (Or.inr (Or.inr (Or.inr (Or.inr (Or.inr (Or.inr (Or.inr (Or.inr (Or.inr (Or.inr (Or.inr (eq_of_toInt (by decide) h)))))))))))))
theorem cOut {x : Int32} (h : x.toInt < 0 ∨ 12 < x.toInt) : (-1 : Int32) = isW x 0 12 - 1 := by
  have : isW x 0 12 = 0 := by
    unfold isW
    rw [if_neg]
    rintro ⟨h1, h2⟩
    have h1 := Int32.le_iff_toInt_le.mp h1
    have h2 := Int32.le_iff_toInt_le.mp h2
    have e1 : (0 : Int32).toInt = 0 := by decide
    have e2 : (12 : Int32).toInt = 12 := by decide
    omega
  rw [this]; decide
end Answers
