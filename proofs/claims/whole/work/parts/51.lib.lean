/-! a table written out -/
def lf (l : List Int32) (j : Nat) : Int32 := l.getD j 0
theorem lf_snoc {l l' : List Int32} {i v : Int32} (h : i.toNatClampNeg = l.length) (e : l ++ [v] = l') : upd (lf l) i.toNatClampNeg v = lf l' := by
  subst e
  rw [h]
  funext j
  unfold upd lf
  rw [List.getD_eq_getElem?_getD, List.getD_eq_getElem?_getD]
  by_cases q : j = l.length
  · subst q; rw [if_pos rfl]; simp
  · rw [if_neg q]
    by_cases q2 : j < l.length
    · rw [List.getElem?_append_left q2]
    · rw [List.getElem?_eq_none (by omega), List.getElem?_eq_none (by simp; omega)]
