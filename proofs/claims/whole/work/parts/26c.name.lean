theorem ok_bitsOfName {st : SA} (h : okA st) : okA (f_bitsOfName st).2 := by
  have h1 : ∀ v : Int32, okA (upd st.1 3 v, st.2) := fun v => h
  have h2 := ok_bitsOfOthers h
  unfold f_bitsOfName
  dsimp only
  repeat' first | with_reducible exact h | with_reducible exact h1 _ | with_reducible exact h2 | with_reducible refine okA_ite2 ?_ ?_
