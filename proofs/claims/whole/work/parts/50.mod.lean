theorem ov_returns {st : SD} {a : Int32} (h : okV st) : okV (m_returns st a) := by
  unfold m_returns
  dsimp only
  exact okV_ite (okV_ite ⟨b3_in _, h.2.2, h.2.2⟩ h) h
theorem ov_reckons {st : SD} {a b c d : Int32} (h : okV st) : okV (m_reckons st a b c d) := by
  have h7 : ∀ v : Int32, okV (upd st.1 7 v, st.2.1, st.2.2.1, st.2.2.2.1, st.2.2.2.2.1, st.2.2.2.2.2) := fun v => h
  unfold m_reckons
  dsimp only
  repeat' first | with_reducible exact ov_adds h | with_reducible exact ov_takes h | with_reducible exact ov_divides h | with_reducible exact ov_gives (okV_ite h (ov_flags h)) | with_reducible exact ov_gives (okV_ite (h7 _) (ov_flags (h7 _))) | with_reducible refine okV_ite ?_ ?_
  all_goals exact h
