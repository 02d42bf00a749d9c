/-- what every word of the reference keeps: a predicate closed under what qwords do -/
def clQ (Q : SD → Prop) : Prop :=
  (∀ (d : SD) (i : Nat) (v : Int32), Q d → 4 ≤ i → i ≠ 6 → i ≠ 17 → i ≠ 18 → Q (upd d.1 i v, d.2.1, d.2.2.1, d.2.2.2.1, d.2.2.2.2.1, d.2.2.2.2.2)) ∧
  (∀ (d : SD) (v : Int32), Q d → vp_in v 4 → Q (upd d.1 6 v, d.2.1, d.2.2.1, d.2.2.2.1, d.2.2.2.2.1, d.2.2.2.2.2)) ∧
  (∀ (d : SD) (v : Int32), Q d → zB v → Q (upd d.1 17 v, d.2.1, d.2.2.1, d.2.2.2.1, d.2.2.2.2.1, d.2.2.2.2.2)) ∧
  (∀ (d : SD) (v : Int32), Q d → zB v → Q (upd d.1 18 v, d.2.1, d.2.2.1, d.2.2.2.1, d.2.2.2.2.1, d.2.2.2.2.2)) ∧
  (∀ (d : SD) (gl ou lo : Nat → Int32), Q d → Q (d.1, d.2.1, d.2.2.1, gl, ou, lo)) ∧
  (∀ (d : SD) (mm : Nat → Int32), Q d → Q (d.1, d.2.1, mm, d.2.2.2.1, d.2.2.2.2.1, d.2.2.2.2.2)) ∧
  (∀ d : SD, Q d → zB (d.1 17) ∧ zB (d.1 18))
section
variable {Q : SD → Prop}
theorem cl_if {c : Prop} {q : Decidable c} {a b : SD} (ha : Q a) (hb : Q b) : Q (@ite _ c q a b) := by
  by_cases k : c
  · rw [if_pos k]; exact ha
  · rw [if_neg k]; exact hb
theorem cl_u (h : clQ Q) {d : SD} {i : Nat} {v : Int32} (hd : Q d) (h1 : 4 ≤ i := by decide) (h2 : i ≠ 6 := by decide) (h3 : i ≠ 17 := by decide) (h4 : i ≠ 18 := by decide) : Q (upd d.1 i v, d.2.1, d.2.2.1, d.2.2.2.1, d.2.2.2.2.1, d.2.2.2.2.2) := h.1 d i v hd h1 h2 h3 h4
theorem cl_traps (h : clQ Q) {d : SD} {b t : Int32} (hd : Q d) : Q (m_traps d b t) := by
  unfold m_traps
  dsimp only
  exact cl_if hd (cl_if hd (cl_u h hd))
theorem cl_gives (h : clQ Q) {d : SD} {r w v : Int32} (hd : Q d) : Q (m_gives d r w v) := by
  unfold m_gives
  dsimp only
  exact cl_if hd (cl_if (cl_if (cl_if (h.2.2.2.2.1 d _ _ _ hd) (h.2.2.2.2.1 d _ _ _ hd)) (h.2.2.2.2.1 d _ _ _ hd)) (h.2.2.2.2.1 d _ _ _ hd))
theorem cl_flags (h : clQ Q) {d : SD} {r : Int64} {o c : Int32} (hd : Q d) : Q (m_flags d r o c) := by
  unfold m_flags
  dsimp only
  exact cl_u h (d := (_, _)) (cl_u h (d := (_, _)) (cl_u h (d := (_, _)) (cl_u h hd)))
theorem cl_branch (h : clQ Q) {d : SD} {w : Int32} (hd : Q d) : Q (m_branch d w) := by
  unfold m_branch
  dsimp only
  exact cl_u h (cl_if hd (cl_u h hd))
theorem cl_low (h : clQ Q) {d : SD} {w : Int32} (hd : Q d) : Q (m_low d w) := by
  unfold m_low
  dsimp only
  exact cl_if (cl_gives h hd) (cl_if (cl_branch h hd) (cl_u h hd))
theorem cl_adds (h : clQ Q) {d : SD} {a b c e t : Int32} (hd : Q d) : Q (m_adds d a b c e t) := by
  unfold m_adds
  dsimp only
  exact cl_gives h (cl_if hd (cl_flags h hd))
theorem cl_takes (h : clQ Q) {d : SD} {a b c e t : Int32} (hd : Q d) : Q (m_takes d a b c e t) := by
  unfold m_takes
  dsimp only
  exact cl_gives h (cl_if hd (cl_flags h hd))
theorem cl_divides (h : clQ Q) {d : SD} {a b c e t : Int32} (hd : Q d) : Q (m_divides d a b c e t) := by
  unfold m_divides
  dsimp only
  have h4 : ∀ x : Int32, Q (m_traps d x (42 : Int32)) := fun x => cl_traps h hd
  exact cl_if (cl_if (cl_gives h (cl_if (h4 _) (cl_flags h (h4 _)))) (cl_gives h (cl_if (h4 _) (cl_flags h (h4 _))))) (h4 _)
theorem cl_reckons (h : clQ Q) {d : SD} {a b c e : Int32} (hd : Q d) : Q (m_reckons d a b c e) := by
  have g : ∀ (X rd v : Int32) (r : Int64), Q (m_gives (if X = (0 : Int32) then d else m_flags d r (0 : Int32) (0 : Int32)) rd ((if X = (0 : Int32) then d else m_flags d r (0 : Int32) (0 : Int32)).1 6) v) := fun X rd v r => cl_gives h (cl_if hd (cl_flags h hd))
  unfold m_reckons
  dsimp only
  with_reducible exact (cl_if (cl_adds h hd) (cl_if (g _ _ _ _) (cl_if (g _ _ _ _) (cl_if (g _ _ _ _) (cl_if (cl_takes h hd) (cl_if (g _ _ _ _) (cl_if (g _ _ _ _) (cl_if (g _ _ _ _) (cl_if (cl_adds h hd) (cl_if (cl_gives h (cl_if (cl_u h hd) (cl_flags h (cl_u h hd)))) (cl_if (cl_gives h (cl_if (cl_u h hd) (cl_flags h (cl_u h hd)))) (cl_if (cl_takes h hd) (cl_if (cl_divides h hd) (cl_if (cl_divides h hd) (cl_u h hd)))))))))))))))
theorem cl_returns (h : clQ Q) {d : SD} {t : Int32} (hd : Q d) : Q (m_returns d t) := by
  unfold m_returns
  dsimp only
  have z := (h.2.2.2.2.2.2 d hd).2
  refine cl_if (cl_if ?_ (cl_u h hd)) (cl_u h hd)
  exact cl_u h (d := (_, _)) (h.2.2.1 (_, _) _ (h.2.1 (_, _) _ (cl_u h hd) (v3_in _)) z)
theorem cl_special (h : clQ Q) {d : SD} {a b c e t : Int32} (hd : Q d) : Q (m_special d a b c e t) := by
  unfold m_special
  dsimp only
  generalize hu : m_traps (m_traps (m_traps d _ (2 : Int32)) _ (3 : Int32)) _ (2 : Int32) = u
  have qu : Q u := by rw [← hu]; exact cl_traps h (cl_traps h (cl_traps h hd))
  refine cl_if (cl_if (cl_gives h qu) (cl_if (cl_u h qu) (cl_if (cl_u h qu) (cl_if (cl_u h qu) ?_)))) qu
  exact h.2.1 (_, _) _ (cl_u h (d := (_, _)) (h.2.2.2.1 (_, _) _ (h.2.2.1 (_, _) _ (cl_u h (d := (_, _)) (cl_u h (d := (_, _)) (cl_u h (d := (_, _)) (cl_u h qu)))) zB_10) zB_10)) (v3_in _)
theorem cl_store (h : clQ Q) {s : SD} {a n w : Int32} : ∀ f i (d : SD), Q d → Q (fl_D_store_3 s a n w f i d) := by
  intro f
  induction f with
  | zero => intro i d hd; exact hd
  | succ f ih =>
    intro i d hd
    rw [fl_D_store_3]
    exact cl_if hd (ih (i + 1) _ (h.2.2.2.2.2.1 d _ hd))
theorem cl_sto (h : clQ Q) {d : SD} {a n w : Int32} (hd : Q d) : Q (m_store d a n w) := cl_store h 10 0 d hd
theorem cl_middle (h : clQ Q) {d : SD} {a b c e : Int32} (hd : Q d) : Q (m_middle d a b c e) := by
  unfold m_middle
  dsimp only
  have t7 : ∀ x t : Int32, Q (m_traps d x t) := fun x t => cl_traps h hd
  refine cl_if (cl_if (cl_adds h (cl_u h hd)) (cl_if (cl_gives h hd) (cl_if (cl_gives h hd) (cl_if (cl_gives h hd) ?_)))) (cl_reckons h hd)
  have sp : ∀ o r s x y : Int32, Q (m_special d o r s x y) := fun o r s x y => cl_special h hd
  refine cl_if (sp _ _ _ _ _) (cl_if (sp _ _ _ _ _) (cl_if (sp _ _ _ _ _) (cl_if (sp _ _ _ _ _) (cl_if (sp _ _ _ _ _) (cl_if (sp _ _ _ _ _) (cl_if (sp _ _ _ _ _) (cl_if (sp _ _ _ _ _) ?_)))))))
  refine cl_if (cl_if (cl_gives h (cl_u h (t7 _ _))) (t7 _ _)) (cl_if (cl_returns h hd) (cl_if (t7 _ _) ?_))
  have w3 : ∀ (k : Prop) (q : Decidable k), vp_in (@ite _ k q (((d.1 6) + (3 : Int32)) &&& (3 : Int32)) (((d.1 6) + (1 : Int32)) &&& (3 : Int32))) 4 := by
    intro k q
    by_cases z : k
    · rw [if_pos z]; exact v3_in _
    · rw [if_neg z]; exact v3_in _
  refine cl_if (cl_if (cl_gives h (h.2.1 _ _ (t7 _ _) (w3 _ _))) (t7 _ _)) (cl_if (cl_if (cl_gives h (h.2.1 _ _ (t7 _ _) (w3 _ _))) (t7 _ _)) (cl_u h hd))
end
theorem okV_cl : clQ okV := by
  refine ⟨?_, ?_, ?_, ?_, ?_, ?_, ?_⟩
  · intro d i v h h4 h6 h17 h18
    exact ⟨by show vp_in (upd d.1 i v 6) 4; rw [upd_ne (by omega)]; exact h.1, by show zB (upd d.1 i v 17); rw [upd_ne (by omega)]; exact h.2.1, by show zB (upd d.1 i v 18); rw [upd_ne (by omega)]; exact h.2.2⟩
  · intro d v h hv
    exact ⟨hv, h.2⟩
  · intro d v h hv
    exact ⟨h.1, hv, h.2.2⟩
  · intro d v h hv
    exact ⟨h.1, h.2.1, hv⟩
  · intro d gl ou lo h
    exact h
  · intro d mm h
    exact h
  · intro d h
    exact h.2
theorem ov_special {st : SD} {a b c d t : Int32} (h : okV st) : okV (m_special st a b c d t) := cl_special okV_cl h
theorem ov_middle {st : SD} {a b c d : Int32} (h : okV st) : okV (m_middle st a b c d) := cl_middle okV_cl h
