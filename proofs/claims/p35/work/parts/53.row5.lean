section
variable {S : gSt} {f : Nat → Int32}
theorem wq_app {W : List Nat} {x k : Nat} : wq (W ++ [x]) k = if k = W.length then x else wq W k := by
  unfold wq
  by_cases c : k = W.length
  · rw [if_pos c, c]
    simp
  · rw [if_neg c, List.getD_eq_getElem?_getD, List.getD_eq_getElem?_getD]
    rcases Nat.lt_or_ge k W.length with q | q
    · rw [List.getElem?_append_left q]
    · rw [List.getElem?_eq_none (by simp; omega), List.getElem?_eq_none q]
end
