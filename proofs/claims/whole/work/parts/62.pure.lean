def qAL (ln : Nat → Nat) (L : Nat) (a0 : SA) (d0 : SD) : Prop := L ≤ 40 ∧ a0.1 0 = nI L ∧ d0.1 1 = nI L ∧ ∀ i, i < L → a0.2 i = nI (ln i) ∧ d0.2.1 i = nI (ln i) ∧ 32 ≤ ln i ∧ ln i ≤ 126
def SF (a0 : SA) (d0 : SD) (a : SA) (d : SD) : Prop := (∀ j, j ≠ 1 → j ≠ 2 → a.1 j = a0.1 j) ∧ a.2 = a0.2 ∧ (∀ j, j ≠ 2 → j ≠ 3 → d.1 j = d0.1 j) ∧ d.2 = d0.2
def GD (a0 : SA) (d0 : SD) (L t : Nat) (a : SA) (d : SD) : Prop := SF a0 d0 a d ∧ t ≤ L ∧ a.1 2 = (-1 : Int32) ∧ d.1 2 = (-1 : Int32) ∧ a.1 1 = nI t ∧ d.1 3 = nI t
def qBD (a0 : SA) (d0 : SD) (q : Nat) (a : SA) (d : SD) : Prop := SF a0 d0 a d ∧ q ≤ 41 ∧ a.1 2 = nI q ∧ d.1 2 = nI q
def qPV (a0 : SA) (d0 : SD) (L : Nat) (g : Int32 → Int32) (f : Int32 × SA) (m : Int32 × SD) : Prop := (∃ t, GD a0 d0 L t f.2 m.2 ∧ f.1 = g m.1) ∨ (∃ q, qBD a0 d0 q f.2 m.2)
theorem sf_a1 {a0 a : SA} {d0 d : SD} (h : SF a0 d0 a d) (v : Int32) : SF a0 d0 (upd a.1 1 v, a.2) d := ⟨fun j h1 h2 => (upd_ne h1).trans (h.1 j h1 h2), h.2⟩
theorem sf_a2 {a0 a : SA} {d0 d : SD} (h : SF a0 d0 a d) (v : Int32) : SF a0 d0 (upd a.1 2 v, a.2) d := ⟨fun j h1 h2 => (upd_ne h2).trans (h.1 j h1 h2), h.2⟩
theorem sf_d2 {a0 a : SA} {d0 d : SD} (h : SF a0 d0 a d) (v : Int32) : SF a0 d0 a (upd d.1 2 v, d.2.1, d.2.2.1, d.2.2.2.1, d.2.2.2.2.1, d.2.2.2.2.2) := ⟨h.1, h.2.1, fun j h1 h2 => (upd_ne h1).trans (h.2.2.1 j h1 h2), h.2.2.2⟩
theorem sf_d3 {a0 a : SA} {d0 d : SD} (h : SF a0 d0 a d) (v : Int32) : SF a0 d0 a (upd d.1 3 v, d.2.1, d.2.2.1, d.2.2.2.1, d.2.2.2.2.1, d.2.2.2.2.2) := ⟨h.1, h.2.1, fun j h1 h2 => (upd_ne h2).trans (h.2.2.1 j h1 h2), h.2.2.2⟩
theorem q_ne {q : Nat} (h : q ≤ 41) : ¬ nI q = (-1 : Int32) := by
  have f : ∀ q, q < 42 → ¬ nI q = (-1 : Int32) := by decide +kernel
  exact f q (by omega)
theorem q_ge {q : Nat} (h : q ≤ 41) : (0 : Int32) ≤ nI q := nI_pos' (by omega)
theorem c_ne0 {c : Nat} (h1 : 32 ≤ c) (h2 : c ≤ 126) : ¬ (0 : Int32) = nI c := fun z => nI_ne0 (n := c) (by omega) (by omega) z.symm
theorem nI_inj {a b : Nat} (ha : a < 2 ^ 31) (hb : b < 2 ^ 31) : nI a = nI b ↔ a = b := by
  constructor
  · intro h
    have := congrArg Int32.toInt h
    rw [nI_toInt ha, nI_toInt hb] at this
    omega
  · intro h; rw [h]
theorem qnI_leI {a b : Nat} (ha : a < 2 ^ 31) (hb : b < 2 ^ 31) : nI a ≤ nI b ↔ a ≤ b := by
  rw [Int32.le_iff_toInt_le, nI_toInt ha, nI_toInt hb]
  omega
theorem qnI_ltI {a b : Nat} (ha : a < 2 ^ 31) (hb : b < 2 ^ 31) : nI a < nI b ↔ a < b := by
  rw [Int32.lt_iff_toInt_lt, nI_toInt ha, nI_toInt hb]
  omega
section
variable {ln : Nat → Nat} {L : Nat} {a0 : SA} {d0 : SD}
theorem gd_a0 (H : qAL ln L a0 d0) {t : Nat} {a : SA} {d : SD} (h : GD a0 d0 L t a d) : a.1 0 = nI L := (h.1.1 0 (by decide) (by decide)).trans H.2.1
theorem gd_d1 (H : qAL ln L a0 d0) {t : Nat} {a : SA} {d : SD} (h : GD a0 d0 L t a d) : d.1 1 = nI L := (h.1.2.2.1 1 (by decide) (by decide)).trans H.2.2.1
theorem gd_al (H : qAL ln L a0 d0) {t : Nat} {a : SA} {d : SD} (h : GD a0 d0 L t a d) {i : Nat} (hi : i < L) : a.2 i = nI (ln i) := by rw [h.1.2.1]; exact (H.2.2.2 i hi).1
theorem gd_dl (H : qAL ln L a0 d0) {t : Nat} {a : SA} {d : SD} (h : GD a0 d0 L t a d) {i : Nat} (hi : i < L) : d.2.1 i = nI (ln i) := by rw [h.1.2.2.2]; exact (H.2.2.2 i hi).2.1
theorem gd_good {t : Nat} {a : SA} {d : SD} (h : GD a0 d0 L t a d) : f_isGood a = (1 : Int32) := by
  unfold f_isGood
  dsimp only
  rw [if_pos h.2.2.1]
theorem bd_good {q : Nat} {a : SA} {d : SD} (h : qBD a0 d0 q a d) : f_isGood a = (0 : Int32) := by
  unfold f_isGood
  dsimp only
  rw [h.2.2.1, if_neg (q_ne h.2.1)]
theorem gd_w {t : Nat} {a : SA} {d : SD} (h : GD a0 d0 L t a d) : ¬ (0 : Int32) ≤ d.1 2 := by rw [h.2.2.2.1]; decide
theorem bd_w {q : Nat} {a : SA} {d : SD} (h : qBD a0 d0 q a d) : (0 : Int32) ≤ d.1 2 := by rw [h.2.2.2]; exact q_ge h.2.1
theorem here_eq (H : qAL ln L a0 d0) {t : Nat} {a : SA} {d : SD} (h : GD a0 d0 L t a d) : m_here d = (if t < L then nI (ln t) else (0 : Int32)) := by
  have hL := H.1
  have ht := h.2.1
  unfold m_here
  dsimp only
  rw [gd_d1 H h, h.2.2.2.2.2]
  by_cases c : t < L
  · rw [if_pos c, if_neg (nI_ge c (by omega)), nI_clamp (by omega), gd_dl H h c]
  · rw [if_neg c, if_pos (nI_le (by omega) (by omega))]
theorem wrong_gd {t : Nat} {a : SA} {d : SD} (h : GD a0 d0 L t a d) (p : Int32) : m_wrong d p = (upd d.1 2 p, d.2.1, d.2.2.1, d.2.2.2.1, d.2.2.2.2.1, d.2.2.2.2.2) := by
  unfold m_wrong
  dsimp only
  rw [if_neg (gd_w h)]
theorem wrong_bd {d : SD} (h : (0 : Int32) ≤ d.1 2) (p : Int32) : m_wrong d p = d := by
  unfold m_wrong
  dsimp only
  rw [if_pos h]
/-- a letter expected -/
theorem ex_pd (H : qAL ln L a0 d0) {t c : Nat} (h1 : 32 ≤ c) (h2 : c ≤ 126) {a : SA} {d : SD} (h : GD a0 d0 L t a d) :
    (t < L ∧ ln t = c ∧ GD a0 d0 L (t + 1) (f_expect a (nI c)) (m_must d (nI c))) ∨ qBD a0 d0 t (f_expect a (nI c)) (m_must d (nI c)) := by
  have hL := H.1
  have ht := h.2.1
  unfold f_expect m_must
  dsimp only
  rw [here_eq H h, gd_good h, if_neg n10, gd_a0 H h, h.2.2.2.2.1]
  by_cases c1 : t < L
  · have hl := H.2.2.2 t c1
    rw [if_pos c1, if_neg (nI_ge c1 (by omega)), nI_clamp (by omega), gd_al H h c1]
    by_cases c2 : ln t = c
    · refine Or.inl ⟨c1, c2, ?_⟩
      have e : nI (ln t) = nI c := by rw [c2]
      rw [if_pos e, if_pos e, h.2.2.2.2.2, show nI t + (1 : Int32) = nI (t + 1) from (nI_succ t).symm]
      exact ⟨sf_d3 (sf_a1 h.1 _) _, c1, h.2.2.1, h.2.2.2.1, rfl, rfl⟩
    · have e : ¬ nI (ln t) = nI c := fun z => c2 ((nI_inj (by omega) (by omega)).mp z)
      rw [if_neg e, if_neg e, wrong_gd h, h.2.2.2.2.2]
      exact Or.inr ⟨sf_d3 (sf_d2 (sf_a2 h.1 _) _) _, by omega, rfl, rfl⟩
  · rw [if_neg c1, if_pos (nI_le (by omega) (by omega)), if_neg (c_ne0 h1 h2), wrong_gd h, h.2.2.2.2.2]
    exact Or.inr ⟨sf_d3 (sf_d2 (sf_a2 h.1 _) _) _, by omega, rfl, rfl⟩
theorem ex_bd {q : Nat} {a : SA} {d : SD} (h : qBD a0 d0 q a d) (c : Int32) : f_expect a c = a := by
  unfold f_expect
  rw [bd_good h, if_pos rfl]
/-- digits from t on, at most n: where they end, and their number -/
def dgs (ln : Nat → Nat) (L : Nat) : Nat → Nat → Nat → Nat × Nat
  | 0, t, v => (t, v)
  | n + 1, t, v => if t < L ∧ 48 ≤ ln t ∧ ln t ≤ 57 then dgs ln L n (t + 1) (10 * v + (ln t - 48)) else (t, v)
theorem dgs_le : ∀ n t v, t ≤ L → t ≤ (dgs ln L n t v).1 ∧ (dgs ln L n t v).1 ≤ L ∧ (dgs ln L n t v).1 ≤ t + n ∧ ((dgs ln L n t v).1 = t → (dgs ln L n t v).2 = v) := by
  intro n
  induction n with
  | zero => intro t v h; exact ⟨Nat.le_refl _, h, Nat.le_refl _, fun _ => rfl⟩
  | succ n ih =>
    intro t v h
    rw [dgs]
    by_cases c : t < L ∧ 48 ≤ ln t ∧ ln t ≤ 57
    · rw [if_pos c]
      obtain ⟨q1, q2, q3, q4⟩ := ih (t + 1) (10 * v + (ln t - 48)) (by omega)
      exact ⟨by omega, q2, by omega, fun z => by omega⟩
    · rw [if_neg c]
      exact ⟨Nat.le_refl _, h, by omega, fun _ => rfl⟩
theorem dgs_lt : ∀ n t v k, v < 10 ^ k → (dgs ln L n t v).2 < 10 ^ (k + n) := by
  intro n
  induction n with
  | zero => intro t v k h; exact h
  | succ n ih =>
    intro t v k h
    rw [dgs]
    by_cases c : t < L ∧ 48 ≤ ln t ∧ ln t ≤ 57
    · rw [if_pos c, show k + (n + 1) = k + 1 + n by omega]
      refine ih _ _ _ ?_
      rw [Nat.pow_succ]
      omega
    · rw [if_neg c]
      exact Nat.lt_of_lt_of_le h (Nat.pow_le_pow_right (by decide) (by omega))
theorem dig_eq (H : qAL ln L a0 d0) {t : Nat} {a : SA} {d : SD} (h : GD a0 d0 L t a d) : (m_isDigit d = (0 : Int32) ↔ ¬ (t < L ∧ 48 ≤ ln t ∧ ln t ≤ 57)) := by
  unfold m_isDigit
  dsimp only
  rw [here_eq H h, in_eq]
  by_cases c : t < L
  · have hl := H.2.2.2 t c
    rw [if_pos c]
    have e : ((48 : Int64) ≤ (nI (ln t)).toInt64 ∧ (nI (ln t)).toInt64 ≤ (57 : Int64)) ↔ (48 ≤ ln t ∧ ln t ≤ 57) := by
      rw [Int64.le_iff_toInt_le, Int64.le_iff_toInt_le, Int32.toInt_toInt64, nI_toInt (by omega), show (48 : Int64).toInt = 48 by decide, show (57 : Int64).toInt = 57 by decide]
      omega
    by_cases k : (48 : Int64) ≤ (nI (ln t)).toInt64 ∧ (nI (ln t)).toInt64 ≤ (57 : Int64)
    · rw [if_pos k]
      exact ⟨fun z => absurd z n10, fun z => absurd ⟨c, e.mp k⟩ z⟩
    · rw [if_neg k]
      exact ⟨fun _ z => k (e.mpr z.2), fun _ => rfl⟩
  · rw [if_neg c]
    exact ⟨fun _ z => c z.1, fun _ => by decide⟩
/-- the class's digits -/
theorem cdig (H : qAL ln L a0 d0) {s : SA} {t0 M : Nat} (hs : s.1 1 = nI t0) (ht0 : t0 ≤ L) (hM : M ≤ 9) : ∀ n t v (a : SA) (d : SD), GD a0 d0 L t a d → t0 ≤ t → t ≤ t0 + M → 41 ≤ n + t → v < 10 ^ (t - t0) →
    ∃ a', fl_A_digits_16 s (nI M) n (nI v) a = (nI (dgs ln L (t0 + M - t) t v).2, a') ∧ (if (dgs ln L (t0 + M - t) t v).1 = t0 then a' = (upd (upd a.1 1 (nI t0)) 2 (nI t0), a.2) else a' = (upd a.1 1 (nI (dgs ln L (t0 + M - t) t v).1), a.2)) := by
  have hL := H.1
  intro n
  induction n with
  | zero => intro t v a d h h1 h2 h3 hv; have := h.2.1; omega
  | succ n ih =>
    intro t v a d h h1 h2 h3 hv
    have ht := h.2.1
    have ea : (upd a.1 1 (nI t), a.2) = a := by
      have : upd a.1 1 (nI t) = a.1 := by
        funext j
        unfold upd
        by_cases e : j = 1
        · rw [if_pos e, e, h.2.2.2.2.1]
        · rw [if_neg e]
      rw [this]
    have stop : dgs ln L (t0 + M - t) t v = (t, v) → ∃ a', (if a.1 1 = s.1 1 then (nI v, ((upd a.1 2 (a.1 1), a.2) : SA)) else (nI v, a)) = (nI (dgs ln L (t0 + M - t) t v).2, a') ∧ (if (dgs ln L (t0 + M - t) t v).1 = t0 then a' = (upd (upd a.1 1 (nI t0)) 2 (nI t0), a.2) else a' = (upd a.1 1 (nI (dgs ln L (t0 + M - t) t v).1), a.2)) := by
      intro e
      rw [e, h.2.2.2.2.1, hs]
      by_cases k : t = t0
      · rw [if_pos (by rw [k])]
        refine ⟨_, rfl, ?_⟩
        rw [if_pos (show (t, v).1 = t0 from k)]
        have e2 : upd a.1 1 (nI t) = a.1 := congrArg Prod.fst ea
        rw [← k, e2]
      · rw [if_neg (fun z => k ((nI_inj (by omega) (by omega)).mp z))]
        refine ⟨_, rfl, ?_⟩
        rw [if_neg (show ¬ (t, v).1 = t0 from k)]
        exact ea.symm
    rw [fl_A_digits_16, gd_a0 H h, h.2.2.2.2.1]
    rw [h.2.2.2.2.1] at stop
    by_cases c1 : t < L
    · have hl := H.2.2.2 t c1
      rw [if_neg (nI_ge c1 (by omega)), nI_clamp (by omega), gd_al H h c1, hs]
      rw [hs] at stop
      have es : nI t - nI t0 = nI (t - t0) := by
        apply Int32.toInt_inj.mp
        have b1 := nI_toInt (n := t) (by omega)
        have b0 := nI_toInt (n := t0) (by omega)
        rw [nI_toInt (by omega), Int32.toInt_sub, b1, b0]
        have : ((t : Int) - (t0 : Int)).bmod (2 ^ 32) = (t : Int) - (t0 : Int) := by
          apply Int.bmod_eq_of_le <;> omega
        rw [this]
        omega
      rw [es]
      by_cases c2 : t0 + M - t = 0
      · rw [if_pos (nI_le (by omega) (by omega))]
        exact stop (by rw [c2]; rfl)
      · rw [if_neg (nI_ge (by omega) (by omega))]
        obtain ⟨r, er⟩ : ∃ r, t0 + M - t = r + 1 := ⟨t0 + M - t - 1, by omega⟩
        by_cases c3 : 48 ≤ ln t ∧ ln t ≤ 57
        · rw [if_neg (show ¬ nI (ln t) < (48 : Int32) from nI_nlt (b := 48) (by omega) (by omega)), if_neg (show ¬ (57 : Int32) < nI (ln t) from nI_nlt (a := 57) (by omega) (by omega))]
          dsimp only
          have hv2 : v < 10 ^ 9 := Nat.lt_of_lt_of_le hv (Nat.pow_le_pow_right (by decide) (by omega))
          have hv3 : 10 * v + (ln t - 48) < 10 ^ (t + 1 - t0) := by
            rw [show t + 1 - t0 = (t - t0) + 1 by omega, Nat.pow_succ]
            omega
          have hv4 : 10 ^ (t + 1 - t0) ≤ 10 ^ 9 := Nat.pow_le_pow_right (by decide) (by omega)
          have ev : (10 : Int32) * nI v + nI (ln t) - (48 : Int32) = nI (10 * v + (ln t - 48)) := by
            have e1 : (10 : Int32) * nI v = nI (10 * v) := by
              show Int32.ofNat 10 * Int32.ofNat v = Int32.ofNat (10 * v)
              rw [Int32.ofNat_mul]
            rw [e1, qnI_add, show 10 * v + ln t = (10 * v + (ln t - 48)) + 48 by omega, ← qnI_add, show (nI 48) = (48 : Int32) from rfl, Int32.add_sub_cancel]
          rw [ev, show nI t + (1 : Int32) = nI (t + 1) from (nI_succ t).symm]
          have g' : GD a0 d0 L (t + 1) (upd a.1 1 (nI (t + 1)), a.2) (upd d.1 3 (nI (t + 1)), d.2.1, d.2.2.1, d.2.2.2.1, d.2.2.2.2.1, d.2.2.2.2.2) := ⟨sf_d3 (sf_a1 h.1 _) _, c1, h.2.2.1, h.2.2.2.1, rfl, rfl⟩
          obtain ⟨a', q1, q2⟩ := ih (t + 1) (10 * v + (ln t - 48)) _ _ g' (by omega) (by omega) (by omega) hv3
          have ed : dgs ln L (t0 + M - t) t v = dgs ln L (t0 + M - (t + 1)) (t + 1) (10 * v + (ln t - 48)) := by
            rw [er, dgs, if_pos ⟨c1, c3⟩, show t0 + M - (t + 1) = r by omega]
          rw [ed]
          refine ⟨a', q1, ?_⟩
          have ne : ¬ (dgs ln L (t0 + M - (t + 1)) (t + 1) (10 * v + (ln t - 48))).1 = t0 := by
            have := (dgs_le (ln := ln) (L := L) (t0 + M - (t + 1)) (t + 1) (10 * v + (ln t - 48)) (by omega)).1
            omega
          rw [if_neg ne] at q2 ⊢
          rw [q2]
          have uu : ∀ x y : Int32, upd (upd a.1 1 x) 1 y = upd a.1 1 y := by
            intro x y
            funext j
            unfold upd
            by_cases e : j = 1
            · rw [if_pos e, if_pos e]
            · rw [if_neg e, if_neg e, if_neg e]
          rw [uu]
        · have st := stop (by rw [er, dgs, if_neg (fun z => c3 z.2)])
          by_cases c4 : nI (ln t) < (48 : Int32)
          · rw [if_pos c4]; exact st
          · rw [if_neg c4, if_pos (show (57 : Int32) < nI (ln t) from by
              have : ¬ ln t < 48 := fun z => c4 (nI_lt (b := 48) z (by omega))
              exact nI_lt (a := 57) (by omega) (by omega))]
            exact st
    · rw [if_pos (nI_le (by omega) (by omega))]
      refine stop ?_
      rcases Nat.eq_zero_or_pos (t0 + M - t) with z | z
      · rw [z]; rfl
      · obtain ⟨r, er⟩ : ∃ r, t0 + M - t = r + 1 := ⟨t0 + M - t - 1, by omega⟩
        rw [er, dgs, if_neg (fun z => c1 z.1)]
end
theorem upd_same {f : Nat → Int32} {k : Nat} {x : Int32} (h : f k = x) : upd f k x = f := by
  funext j
  unfold upd
  by_cases e : j = k
  · rw [if_pos e, e, h]
  · rw [if_neg e]
theorem upd_upd {f : Nat → Int32} {k : Nat} (x y : Int32) : upd (upd f k x) k y = upd f k y := by
  funext j
  unfold upd
  by_cases e : j = k
  · rw [if_pos e, if_pos e]
  · rw [if_neg e, if_neg e, if_neg e]
section
variable {ln : Nat → Nat} {L : Nat} {a0 : SA} {d0 : SD}
theorem d3_same {t : Nat} {a : SA} {d : SD} (h : GD a0 d0 L t a d) : ((upd d.1 3 (nI t), d.2.1, d.2.2.1, d.2.2.2.1, d.2.2.2.2.1, d.2.2.2.2.2) : SD) = d := by
  rw [upd_same h.2.2.2.2.2]
theorem gd_up {t : Nat} {a : SA} {d : SD} (h : GD a0 d0 L t a d) {t' : Nat} (ht : t' ≤ L) : GD a0 d0 L t' (upd a.1 1 (nI t'), a.2) (upd d.1 3 (nI t'), d.2.1, d.2.2.1, d.2.2.2.1, d.2.2.2.2.1, d.2.2.2.2.2) := ⟨sf_d3 (sf_a1 h.1 _) _, ht, h.2.2.1, h.2.2.2.1, rfl, rfl⟩
theorem ndig (H : qAL ln L a0 d0) {s : SD} : ∀ n t v i (a : SA) (d : SD), GD a0 d0 L t a d → i + n = 4 → i ≤ 2 → v < 10 ^ i →
    fl_D_named_15 s n (nI v) i d = fg_D_named_63 s (nI (dgs ln L (2 - i) t v).2) (i + ((dgs ln L (2 - i) t v).1 - t)) (upd d.1 3 (nI (dgs ln L (2 - i) t v).1), d.2.1, d.2.2.1, d.2.2.2.1, d.2.2.2.2.1, d.2.2.2.2.2) := by
  have hL := H.1
  intro n
  induction n with
  | zero => intro t v i a d h h1 h2; omega
  | succ n ih =>
    intro t v i a d h h1 h2 hv
    have stop : dgs ln L (2 - i) t v = (t, v) → fg_D_named_63 s (nI v) i d = fg_D_named_63 s (nI (dgs ln L (2 - i) t v).2) (i + ((dgs ln L (2 - i) t v).1 - t)) (upd d.1 3 (nI (dgs ln L (2 - i) t v).1), d.2.1, d.2.2.1, d.2.2.2.1, d.2.2.2.2.1, d.2.2.2.2.2) := by
      intro e
      rw [e]
      dsimp only
      rw [d3_same h, Nat.sub_self, Nat.add_zero]
    rw [fl_D_named_15, if_neg (gd_w h)]
    dsimp only
    by_cases c : t < L ∧ 48 ≤ ln t ∧ ln t ≤ 57
    · rw [if_neg (fun z => (dig_eq H h).mp z c)]
      by_cases c2 : i = 2
      · subst c2
        rw [if_pos (show (2 : Int32) ≤ nI 2 from by decide)]
        exact stop rfl
      · rw [if_neg (show ¬ (2 : Int32) ≤ nI i from nI_ge (b := 2) (by omega) (by omega)), here_eq H h, if_pos c.1, h.2.2.2.2.2]
        have hv2 : v < 10 ^ 9 := Nat.lt_of_lt_of_le hv (Nat.pow_le_pow_right (by decide) (by omega))
        have ev : (10 : Int32) * nI v + nI (ln t) - (48 : Int32) = nI (10 * v + (ln t - 48)) := by
          have e1 : (10 : Int32) * nI v = nI (10 * v) := by
            show Int32.ofNat 10 * Int32.ofNat v = Int32.ofNat (10 * v)
            rw [Int32.ofNat_mul]
          rw [e1, qnI_add, show 10 * v + ln t = (10 * v + (ln t - 48)) + 48 by omega, ← qnI_add, show (nI 48) = (48 : Int32) from rfl, Int32.add_sub_cancel]
        rw [ev, show nI t + (1 : Int32) = nI (t + 1) from (nI_succ t).symm]
        have hv3 : 10 * v + (ln t - 48) < 10 ^ (i + 1) := by rw [Nat.pow_succ]; omega
        rw [ih (t + 1) _ (i + 1) _ _ (gd_up h (t' := t + 1) c.1) (by omega) (by omega) hv3]
        have ed : dgs ln L (2 - i) t v = dgs ln L (2 - (i + 1)) (t + 1) (10 * v + (ln t - 48)) := by
          rw [show 2 - i = (2 - (i + 1)) + 1 by omega, dgs, if_pos c]
        have le := (dgs_le (ln := ln) (L := L) (2 - (i + 1)) (t + 1) (10 * v + (ln t - 48)) (by omega)).1
        rw [ed]
        dsimp only
        rw [upd_upd, show i + 1 + ((dgs ln L (2 - (i + 1)) (t + 1) (10 * v + (ln t - 48))).1 - (t + 1)) = i + ((dgs ln L (2 - (i + 1)) (t + 1) (10 * v + (ln t - 48))).1 - t) by omega]
    · rw [if_pos ((dig_eq H h).mpr c)]
      refine stop ?_
      rcases Nat.eq_zero_or_pos (2 - i) with z | z
      · rw [z]; rfl
      · rw [show 2 - i = (2 - i - 1) + 1 by omega, dgs, if_neg c]
theorem lev {v t : Nat} (hv : v < 10 ^ 9) (h1 : 48 ≤ ln t) (h2 : ln t ≤ 126) : (10 : Int64) * lN v + (nI (ln t)).toInt64 - (48 : Int64) = lN (10 * v + (ln t - 48)) := by
  rw [nI_i64 (by omega)]
  have e1 : (10 : Int64) * lN v = lN (10 * v) := by
    show Int64.ofNat 10 * Int64.ofNat v = Int64.ofNat (10 * v)
    rw [Int64.ofNat_mul]
  rw [e1, qlN_add, show 10 * v + ln t = (10 * v + (ln t - 48)) + 48 by omega, ← qlN_add, show (lN 48) = (48 : Int64) from rfl, Int64.add_sub_cancel]
theorem mdig (H : qAL ln L a0 d0) {s : SD} {p0 p1 : Int64} {mi : Int32} : ∀ n t v i (a : SA) (d : SD), GD a0 d0 L t a d → i + n = 12 → i ≤ 9 → v < 10 ^ i →
    fl_D_number_43 s p0 p1 n i mi (lN v) d = fg_D_number_91 s p0 p1 (i + ((dgs ln L (9 - i) t v).1 - t)) mi (lN (dgs ln L (9 - i) t v).2) (upd d.1 3 (nI (dgs ln L (9 - i) t v).1), d.2.1, d.2.2.1, d.2.2.2.1, d.2.2.2.2.1, d.2.2.2.2.2) := by
  have hL := H.1
  intro n
  induction n with
  | zero => intro t v i a d h h1 h2; omega
  | succ n ih =>
    intro t v i a d h h1 h2 hv
    have stop : dgs ln L (9 - i) t v = (t, v) → fg_D_number_91 s p0 p1 i mi (lN v) d = fg_D_number_91 s p0 p1 (i + ((dgs ln L (9 - i) t v).1 - t)) mi (lN (dgs ln L (9 - i) t v).2) (upd d.1 3 (nI (dgs ln L (9 - i) t v).1), d.2.1, d.2.2.1, d.2.2.2.1, d.2.2.2.2.1, d.2.2.2.2.2) := by
      intro e
      rw [e]
      dsimp only
      rw [d3_same h, Nat.sub_self, Nat.add_zero]
    rw [fl_D_number_43]
    dsimp only
    by_cases c : t < L ∧ 48 ≤ ln t ∧ ln t ≤ 57
    · rw [if_neg (fun z => (dig_eq H h).mp z c)]
      by_cases c2 : i = 9
      · subst c2
        rw [if_pos (show (9 : Int32) ≤ nI 9 from by decide)]
        exact stop rfl
      · rw [if_neg (show ¬ (9 : Int32) ≤ nI i from nI_ge (b := 9) (by omega) (by omega)), here_eq H h, if_pos c.1, h.2.2.2.2.2]
        have hv2 : v < 10 ^ 9 := Nat.lt_of_lt_of_le hv (Nat.pow_le_pow_right (by decide) (by omega))
        rw [lev hv2 c.2.1 (by omega), show nI t + (1 : Int32) = nI (t + 1) from (nI_succ t).symm]
        have hv3 : 10 * v + (ln t - 48) < 10 ^ (i + 1) := by rw [Nat.pow_succ]; omega
        rw [ih (t + 1) _ (i + 1) _ _ (gd_up h (t' := t + 1) c.1) (by omega) (by omega) hv3]
        have ed : dgs ln L (9 - i) t v = dgs ln L (9 - (i + 1)) (t + 1) (10 * v + (ln t - 48)) := by
          rw [show 9 - i = (9 - (i + 1)) + 1 by omega, dgs, if_pos c]
        have le := (dgs_le (ln := ln) (L := L) (9 - (i + 1)) (t + 1) (10 * v + (ln t - 48)) (by omega)).1
        rw [ed]
        dsimp only
        rw [upd_upd, show i + 1 + ((dgs ln L (9 - (i + 1)) (t + 1) (10 * v + (ln t - 48))).1 - (t + 1)) = i + ((dgs ln L (9 - (i + 1)) (t + 1) (10 * v + (ln t - 48))).1 - t) by omega]
    · rw [if_pos ((dig_eq H h).mpr c)]
      refine stop ?_
      rcases Nat.eq_zero_or_pos (9 - i) with z | z
      · rw [z]; rfl
      · rw [show 9 - i = (9 - i - 1) + 1 by omega, dgs, if_neg c]
theorem fdig (H : qAL ln L a0 d0) {t M : Nat} (hM : M ≤ 9) {a : SA} {d : SD} (h : GD a0 d0 L t a d) :
    ∃ a', f_digits a (nI M) = (nI (dgs ln L M t 0).2, a') ∧ (if (dgs ln L M t 0).1 = t then a' = (upd (upd a.1 1 (nI t)) 2 (nI t), a.2) else a' = (upd a.1 1 (nI (dgs ln L M t 0).1), a.2)) := by
  unfold f_digits
  rw [gd_good h, if_neg n10]
  have r := cdig H (s := a) (t0 := t) (M := M) h.2.2.2.2.1 h.2.1 hM 41 t 0 a d h (Nat.le_refl _) (by omega) (by omega) (Nat.pos_of_ne_zero (by simp))
  rw [show t + M - t = M by omega] at r
  exact r
/-- a register's number -/
theorem named_pv (H : qAL ln L a0 d0) {t : Nat} {a : SA} {d : SD} (h : GD a0 d0 L t a d) :
    (∃ t' n, n < 32 ∧ GD a0 d0 L t' (f_registerNumber a).2 (m_named d).2 ∧ (f_registerNumber a).1 = nI n ∧ (m_named d).1 = nI n) ∨ (∃ q, qBD a0 d0 q (f_registerNumber a).2 (m_named d).2) := by
  have hL := H.1
  have ht := h.2.1
  unfold f_registerNumber m_named
  dsimp only
  rcases ex_pd H (c := 37) (by omega) (by omega) h with ⟨c1, c2, g⟩ | b
  · rw [show (37 : Int32) = nI 37 from rfl]
    generalize f_expect a (nI 37) = u at *
    generalize m_must d (nI 37) = e at *
    obtain ⟨a', q1, q2⟩ := fdig H (M := 2) (by omega) g
    rw [show (2 : Int32) = nI 2 from rfl, q1]
    have r := ndig H (s := d) 4 (t + 1) 0 0 u e g (by omega) (by omega) (by omega)
    rw [show fl_D_named_15 d 4 (0 : Int32) 0 e = _ from r]
    rw [show (2 - 0 : Nat) = 2 from rfl, Nat.zero_add]
    have le := dgs_le (ln := ln) (L := L) 2 (t + 1) 0 c1
    have lt := dgs_lt (ln := ln) (L := L) 2 (t + 1) 0 0 (by omega)
    generalize dgs ln L 2 (t + 1) 0 = D at *
    obtain ⟨T, V⟩ := D
    dsimp only at *
    have hV : V < 100 := by omega
    unfold fg_D_named_63
    dsimp only
    by_cases k : T = t + 1
    · rw [if_pos k] at q2
      have v0 := le.2.2.2 k
      subst k v0
      rw [show t + 1 - (t + 1) = 0 by omega, if_pos (show nI 0 = (0 : Int32) from rfl), if_pos (show nI 0 ≤ (31 : Int32) from by decide), d3_same g, wrong_gd g]
      refine Or.inr ⟨t + 1, ?_⟩
      have e2 : f_checkRange a' (nI 0) (0 : Int32) (31 : Int32) (a.1 1) = a' := by
        unfold f_checkRange f_isGood
        dsimp only
        rw [q2]
        rw [if_neg (show ¬ (upd (upd u.1 1 (nI (t + 1))) 2 (nI (t + 1))) 2 = (-1 : Int32) from q_ne (by omega)), if_pos rfl]
      show qBD a0 d0 (t + 1) (f_checkRange a' (nI 0) (0 : Int32) (31 : Int32) (a.1 1)) _
      rw [e2, q2]
      exact ⟨sf_d2 (sf_a2 (sf_a1 g.1 _) _) _, by omega, rfl, rfl⟩
    · rw [if_neg k] at q2
      rw [if_neg (show ¬ nI (T - (t + 1)) = (0 : Int32) from nI_ne0 (by omega) (by omega))]
      have g2 := gd_up g (t' := T) le.2.1
      rw [q2]
      have eg : f_isGood (upd u.1 1 (nI T), u.2) = (1 : Int32) := gd_good g2
      by_cases k2 : V ≤ 31
      · refine Or.inl ⟨T, V, by omega, ?_, rfl, rfl⟩
        have e2 : f_checkRange (upd u.1 1 (nI T), u.2) (nI V) (0 : Int32) (31 : Int32) (a.1 1) = (upd u.1 1 (nI T), u.2) := by
          unfold f_checkRange
          dsimp only
          rw [eg, if_neg n10, if_neg (nI_pos (by omega)), if_pos (show nI V ≤ (31 : Int32) from nI_le (b := 31) k2 (by omega))]
        show GD a0 d0 L T (f_checkRange (upd u.1 1 (nI T), u.2) (nI V) (0 : Int32) (31 : Int32) (a.1 1)) _
        rw [e2, if_pos (show nI V ≤ (31 : Int32) from nI_le (b := 31) k2 (by omega))]
        exact g2
      · refine Or.inr ⟨t, ?_⟩
        have e2 : f_checkRange (upd u.1 1 (nI T), u.2) (nI V) (0 : Int32) (31 : Int32) (a.1 1) = (upd (upd u.1 1 (nI T)) 2 (nI t), u.2) := by
          unfold f_checkRange
          dsimp only
          rw [eg, if_neg n10, if_neg (nI_pos (by omega)), if_neg (show ¬ nI V ≤ (31 : Int32) from nI_ge (a := 31) (by omega) (by omega)), h.2.2.2.2.1]
        show qBD a0 d0 t (f_checkRange (upd u.1 1 (nI T), u.2) (nI V) (0 : Int32) (31 : Int32) (a.1 1)) _
        rw [e2, if_neg (show ¬ nI V ≤ (31 : Int32) from nI_ge (a := 31) (by omega) (by omega)), wrong_gd g2, h.2.2.2.2.2]
        exact ⟨sf_d2 (sf_a2 g2.1 _) _, by omega, rfl, rfl⟩
  · rw [show (37 : Int32) = nI 37 from rfl]
    generalize f_expect a (nI 37) = u at *
    generalize m_must d (nI 37) = e at *
    refine Or.inr ⟨t, ?_⟩
    have e1 : f_digits u (2 : Int32) = ((0 : Int32), u) := by
      unfold f_digits
      rw [bd_good b, if_pos rfl]
    rw [e1, fl_D_named_15, if_pos (bd_w b)]
    unfold fg_D_named_63 f_checkRange
    dsimp only
    rw [bd_good b, if_pos rfl, if_pos (show nI 0 = (0 : Int32) from rfl), if_pos (show (0 : Int32) ≤ (31 : Int32) from by decide), wrong_bd (bd_w b)]
    exact b
end
theorem neg_i32 {V : Nat} (h : V < 10 ^ 9) : (-nI V).toInt = -(V : Int) := by
  have e := nI_toInt (n := V) (by omega)
  rw [Int32.toInt_neg, e]
  apply Int.bmod_eq_of_le <;> omega
theorem neg_i64 {V : Nat} (h : V < 10 ^ 9) : (-lN V).toInt = -(V : Int) := by
  have e : (lN V).toInt = (V : Int) := lg_ofNat_toInt (by omega)
  rw [Int64.toInt_neg, e]
  apply Int.bmod_eq_of_le <;> omega
/-- the signed number of digits: as int and as long -/
theorem qsgn {V : Nat} (h : V < 10 ^ 9) (mi : Int32) : ∃ z : Int, (if mi = (0 : Int32) then nI V else -nI V).toInt = z ∧ (if mi = (0 : Int32) then lN V else -lN V).toInt = z ∧ (if mi = (0 : Int32) then lN V else -lN V).toInt32 = (if mi = (0 : Int32) then nI V else -nI V) ∧ (V = 0 → z = 0) := by
  by_cases c : mi = (0 : Int32)
  · rw [if_pos c, if_pos c]
    exact ⟨V, nI_toInt (by omega), lg_ofNat_toInt (by omega), lN_i32 V, fun z => by omega⟩
  · rw [if_neg c, if_neg c]
    refine ⟨-(V : Int), neg_i32 h, neg_i64 h, ?_, fun z => by omega⟩
    rw [Int64.toInt32_neg, lN_i32]
section
variable {ln : Nat → Nat} {L : Nat} {a0 : SA} {d0 : SD}
theorem number_pv (H : qAL ln L a0 d0) {t : Nat} {a : SA} {d : SD} (h : GD a0 d0 L t a d) (p0 p1 : Int32) (h0 : p0.toInt ≤ 0) (h1 : 0 ≤ p1.toInt) {P0 P1 : Int64} (e0 : P0.toInt = p0.toInt) (e1 : P1.toInt = p1.toInt) :
    (∃ t', GD a0 d0 L t' (f_number a p0 p1).2 (m_number d P0 P1).2 ∧ (f_number a p0 p1).1 = (m_number d P0 P1).1 &&& (p1 - p0) ∧ p0.toInt ≤ (m_number d P0 P1).1.toInt ∧ (m_number d P0 P1).1.toInt ≤ p1.toInt) ∨ (∃ q, qBD a0 d0 q (f_number a p0 p1).2 (m_number d P0 P1).2) := by
  have hL := H.1
  have ht := h.2.1
  unfold f_number m_number
  dsimp only
  rw [gd_good h, if_neg n10, gd_a0 H h, h.2.2.2.2.1, here_eq H h]
  have em : (if nI L ≤ nI t then (0 : Int32) else (if a.2 (nI t).toNatClampNeg = (45 : Int32) then (1 : Int32) else (0 : Int32))) = (if t < L ∧ ln t = 45 then (1 : Int32) else (0 : Int32)) := by
    by_cases c : t < L
    · have hl := H.2.2.2 t c
      rw [if_neg (nI_ge c (by omega)), nI_clamp (by omega), gd_al H h c]
      by_cases c2 : ln t = 45
      · rw [if_pos (by rw [c2]; rfl), if_pos ⟨c, c2⟩]
      · rw [if_neg (show ¬ nI (ln t) = (45 : Int32) from fun z => c2 ((nI_inj (b := 45) (by omega) (by omega)).mp z)), if_neg (fun z => c2 z.2)]
    · rw [if_pos (nI_le (by omega) (by omega)), if_neg (fun z => c z.1)]
  have en : (if (if t < L then nI (ln t) else (0 : Int32)) = (45 : Int32) then (1 : Int32) else (0 : Int32)) = (if t < L ∧ ln t = 45 then (1 : Int32) else (0 : Int32)) := by
    by_cases c : t < L
    · have hl := H.2.2.2 t c
      rw [if_pos c]
      by_cases c2 : ln t = 45
      · rw [if_pos (by rw [c2]; rfl), if_pos ⟨c, c2⟩]
      · rw [if_neg (show ¬ nI (ln t) = (45 : Int32) from fun z => c2 ((nI_inj (b := 45) (by omega) (by omega)).mp z)), if_neg (fun z => c2 z.2)]
    · rw [if_neg c, if_neg (by decide), if_neg (fun z => c z.1)]
  rw [em, en]
  have hmi : ∃ qt1, qt1 ≤ L ∧ GD a0 d0 L qt1 (if (if t < L ∧ ln t = 45 then (1 : Int32) else (0 : Int32)) = (0 : Int32) then a else (upd a.1 1 (nI t + (1 : Int32)), a.2)) (if (if t < L ∧ ln t = 45 then (1 : Int32) else (0 : Int32)) = (0 : Int32) then d else (upd d.1 3 (d.1 3 + (1 : Int32)), d.2.1, d.2.2.1, d.2.2.2.1, d.2.2.2.2.1, d.2.2.2.2.2)) := by
    by_cases c : t < L ∧ ln t = 45
    · rw [if_pos c, if_neg n10, if_neg n10, h.2.2.2.2.2, show nI t + (1 : Int32) = nI (t + 1) from (nI_succ t).symm]
      exact ⟨t + 1, c.1, gd_up h c.1⟩
    · rw [if_neg c, if_pos rfl, if_pos rfl]
      exact ⟨t, ht, h⟩
  generalize (if t < L ∧ ln t = 45 then (1 : Int32) else (0 : Int32)) = mi at *
  obtain ⟨qt1, l1, g⟩ := hmi
  generalize (if mi = (0 : Int32) then a else (upd a.1 1 (nI t + (1 : Int32)), a.2)) = u at *
  generalize (if mi = (0 : Int32) then d else (upd d.1 3 (d.1 3 + (1 : Int32)), d.2.1, d.2.2.1, d.2.2.2.1, d.2.2.2.2.1, d.2.2.2.2.2)) = e at *
  obtain ⟨a', q1, q2⟩ := fdig H (M := 9) (by omega) g
  rw [show (9 : Int32) = nI 9 from rfl, q1]
  have r := mdig H (s := d) (p0 := P0) (p1 := P1) (mi := mi) 12 qt1 0 0 u e g (by omega) (by omega) (by omega)
  rw [show fl_D_number_43 d P0 P1 12 0 mi (0 : Int64) e = _ from r]
  rw [show (9 - 0 : Nat) = 9 from rfl, Nat.zero_add]
  have le := dgs_le (ln := ln) (L := L) 9 qt1 0 l1
  have lt := dgs_lt (ln := ln) (L := L) 9 qt1 0 0 (by omega)
  generalize dgs ln L 9 qt1 0 = D at *
  obtain ⟨T, V⟩ := D
  dsimp only at *
  have hV : V < 10 ^ 9 := lt
  obtain ⟨z, z1, z2, z3, z4⟩ := qsgn hV mi
  unfold fg_D_number_91
  dsimp only
  have rin : m_in (if mi = (0 : Int32) then lN V else -lN V) P0 P1 = (if p0.toInt ≤ z ∧ z ≤ p1.toInt then (1 : Int32) else (0 : Int32)) := by
    rw [in_eq]
    have e : (P0 ≤ (if mi = (0 : Int32) then lN V else -lN V) ∧ (if mi = (0 : Int32) then lN V else -lN V) ≤ P1) ↔ (p0.toInt ≤ z ∧ z ≤ p1.toInt) := by
      rw [Int64.le_iff_toInt_le, Int64.le_iff_toInt_le, z2, e0, e1]
    by_cases c : p0.toInt ≤ z ∧ z ≤ p1.toInt
    · rw [if_pos c, if_pos (e.mpr c)]
    · rw [if_neg c, if_neg (fun w => c (e.mp w))]
  rw [rin, z3]
  generalize hx : (if mi = (0 : Int32) then nI V else -nI V) = x at *
  have f1 : x < p0 ↔ z < p0.toInt := by rw [Int32.lt_iff_toInt_lt, z1]
  have f2 : x ≤ p1 ↔ z ≤ p1.toInt := by rw [Int32.le_iff_toInt_le, z1]
  by_cases k : T = qt1
  · rw [if_pos k] at q2
    have v0 := z4 (le.2.2.2 k)
    subst k
    rw [show T - T = 0 by omega, if_pos (show nI 0 = (0 : Int32) from rfl), d3_same g, wrong_gd g, if_pos (show p0.toInt ≤ z ∧ z ≤ p1.toInt by omega), if_neg n10]
    refine Or.inr ⟨T, ?_⟩
    have e2 : ∀ w, f_checkRange a' x p0 p1 w = a' := by
      intro w
      unfold f_checkRange f_isGood
      dsimp only
      rw [q2]
      rw [if_neg (show ¬ (upd (upd u.1 1 (nI T)) 2 (nI T)) 2 = (-1 : Int32) from q_ne (by omega)), if_pos rfl]
    show qBD a0 d0 T (f_checkRange a' x p0 p1 _) _
    rw [e2, q2]
    exact ⟨sf_d2 (sf_a2 (sf_a1 g.1 _) _) _, by omega, rfl, rfl⟩
  · rw [if_neg k] at q2
    rw [if_neg (show ¬ nI (T - qt1) = (0 : Int32) from nI_ne0 (by omega) (by omega))]
    have g2 := gd_up g (t' := T) le.2.1
    rw [q2]
    have eg : f_isGood (upd u.1 1 (nI T), u.2) = (1 : Int32) := gd_good g2
    by_cases k2 : p0.toInt ≤ z ∧ z ≤ p1.toInt
    · rw [if_pos k2, if_neg n10]
      refine Or.inl ⟨T, ?_, rfl, by rw [z1]; exact k2.1, by rw [z1]; exact k2.2⟩
      have e2 : ∀ w, f_checkRange (upd u.1 1 (nI T), u.2) x p0 p1 w = (upd u.1 1 (nI T), u.2) := by
        intro w
        unfold f_checkRange
        dsimp only
        rw [eg, if_neg n10, if_neg (fun y => by have := f1.mp y; omega), if_pos (f2.mpr k2.2)]
      show GD a0 d0 L T (f_checkRange (upd u.1 1 (nI T), u.2) x p0 p1 _) _
      rw [e2]
      exact g2
    · rw [if_neg k2, if_pos rfl]
      refine Or.inr ⟨t, ?_⟩
      have e2 : ∀ w, f_checkRange (upd u.1 1 (nI T), u.2) x p0 p1 w = (upd (upd u.1 1 (nI T)) 2 w, u.2) := by
        intro w
        unfold f_checkRange
        dsimp only
        rw [eg, if_neg n10]
        by_cases y : x < p0
        · rw [if_pos y]
        · rw [if_neg y, if_neg (fun s => k2 ⟨by have := mt f1.mpr y; omega, f2.mp s⟩)]
      show qBD a0 d0 t (f_checkRange (upd u.1 1 (nI T), u.2) x p0 p1 _) _
      rw [e2, wrong_gd g2, h.2.2.2.2.2]
      exact ⟨sf_d2 (sf_a2 g2.1 _) _, by omega, rfl, rfl⟩
theorem number_bd {q : Nat} {a : SA} {d : SD} (h : qBD a0 d0 q a d) (p0 p1 : Int32) : (f_number a p0 p1).2 = a := by
  unfold f_number
  dsimp only
  rw [bd_good h, if_pos rfl, if_pos rfl]
  have e1 : f_digits a (9 : Int32) = ((0 : Int32), a) := by
    unfold f_digits
    rw [bd_good h, if_pos rfl]
  rw [e1]
  unfold f_checkRange
  dsimp only
  rw [bd_good h, if_pos rfl]
theorem regn_bd {q : Nat} {a : SA} {d : SD} (h : qBD a0 d0 q a d) : (f_registerNumber a).2 = a := by
  unfold f_registerNumber
  dsimp only
  rw [ex_bd h]
  have e1 : f_digits a (2 : Int32) = ((0 : Int32), a) := by
    unfold f_digits
    rw [bd_good h, if_pos rfl]
  rw [e1]
  unfold f_checkRange
  dsimp only
  rw [bd_good h, if_pos rfl]
end
section
variable {ln : Nat → Nat} {L : Nat} {a0 : SA} {d0 : SD}
/-- good at some place, or wrong at one -/
def qOT (a0 : SA) (d0 : SD) (L : Nat) (a : SA) (d : SD) : Prop := (∃ t, GD a0 d0 L t a d) ∨ (∃ q, qBD a0 d0 q a d)
theorem cm_ot (H : qAL ln L a0 d0) {a : SA} {d : SD} (h : qOT a0 d0 L a d) : qOT a0 d0 L (f_expect a (44 : Int32)) (m_comma d) := by
  unfold m_comma
  dsimp only
  rcases h with ⟨t, g⟩ | ⟨q, b⟩
  · rw [if_neg (gd_w g)]
    rcases ex_pd H (c := 44) (by omega) (by omega) g with ⟨-, -, g2⟩ | b2
    · exact Or.inl ⟨t + 1, g2⟩
    · exact Or.inr ⟨t, b2⟩
  · rw [if_pos (bd_w b), ex_bd b]
    exact Or.inr ⟨q, b⟩
/-- both read the same, or both are wrong -/
def qPE (a0 : SA) (d0 : SD) (L : Nat) (v : Int32) (s : SA) (y : Int32) (e : SD) : Prop := (∃ t, GD a0 d0 L t s e ∧ v = y) ∨ (∃ q, qBD a0 d0 q s e)
theorem qPE.ot {v y : Int32} {s : SA} {e : SD} (h : qPE a0 d0 L v s y e) : qOT a0 d0 L s e := by
  rcases h with ⟨t, g, -⟩ | b
  · exact Or.inl ⟨t, g⟩
  · exact Or.inr b
theorem op_pe (H : qAL ln L a0 d0) {a : SA} {d : SD} (h : qOT a0 d0 L a d) : qPE a0 d0 L (f_registerNumber a).1 (f_registerNumber a).2 (m_operand d).1 (m_operand d).2 := by
  unfold m_operand
  dsimp only
  rcases h with ⟨t, g⟩ | ⟨q, b⟩
  · rw [if_neg (gd_w g)]
    dsimp only
    rcases named_pv H g with ⟨t', n, -, g2, e1, e2⟩ | b2
    · exact Or.inl ⟨t', g2, e1.trans e2.symm⟩
    · exact Or.inr b2
  · rw [if_pos (bd_w b), regn_bd b]
    exact Or.inr ⟨q, b⟩
/-- the second source, as the class reads it behind the comma -/
def snd2 (u : SA) (x : Int32) : Int32 × SA := (if (u.1 0) ≤ (u.1 1) then ((x ||| (8192 : Int32)) ||| (f_number u (-4096 : Int32) (4095 : Int32)).1, (f_number u (-4096 : Int32) (4095 : Int32)).2) else (if (u.2 (u.1 1).toNatClampNeg) = (37 : Int32) then (x ||| (f_registerNumber u).1, (f_registerNumber u).2) else ((x ||| (8192 : Int32)) ||| (f_number u (-4096 : Int32) (4095 : Int32)).1, (f_number u (-4096 : Int32) (4095 : Int32)).2)))
theorem snd2_bd {q : Nat} {a : SA} {d : SD} (b : qBD a0 d0 q a d) (x : Int32) : (snd2 a x).2 = a := by
  have e1 := number_bd b (-4096 : Int32) (4095 : Int32)
  have e2 := regn_bd b
  unfold snd2
  generalize f_number a (-4096 : Int32) (4095 : Int32) = F at *
  generalize f_registerNumber a = R at *
  by_cases c1 : (a.1 0) ≤ (a.1 1)
  · rw [if_pos c1]; exact e1
  · rw [if_neg c1]
    by_cases c2 : (a.2 (a.1 1).toNatClampNeg) = (37 : Int32)
    · rw [if_pos c2]; exact e2
    · rw [if_neg c2]; exact e1
theorem last_pe (H : qAL ln L a0 d0) {a : SA} {d : SD} (h : qOT a0 d0 L a d) (x : Int32) : qPE a0 d0 L (snd2 a x).1 (snd2 a x).2 (x ||| (m_last d).1) (m_last d).2 := by
  have hL := H.1
  rcases h with ⟨t, g⟩ | ⟨q, b⟩
  · have ht := g.2.1
    have nb := number_pv H g (-4096 : Int32) (4095 : Int32) (by decide) (by decide) (P0 := -4096) (P1 := 4095) (by decide) (by decide)
    have nm := named_pv H g
    unfold m_last
    dsimp only
    rw [if_neg (gd_w g)]
    unfold snd2 m_either
    dsimp only
    rw [here_eq H g, gd_a0 H g, g.2.2.2.2.1]
    generalize f_number a (-4096 : Int32) (4095 : Int32) = F at *
    generalize f_registerNumber a = R at *
    generalize m_number d (-4096 : Int64) (4095 : Int64) = M at *
    generalize m_named d = N at *
    have num : qPE a0 d0 L ((x ||| (8192 : Int32)) ||| F.1) F.2 (x ||| ((8192 : Int32) ||| (M.1 &&& (8191 : Int32)))) M.2 := by
      rcases nb with ⟨t', g2, e, -⟩ | b2
      · refine Or.inl ⟨t', g2, ?_⟩
        rw [e, Int32.or_assoc, show (4095 : Int32) - (-4096 : Int32) = 8191 from by decide]
      · exact Or.inr b2
    by_cases c : t < L
    · have hl := H.2.2.2 t c
      rw [if_neg (nI_ge c (by omega)), nI_clamp (by omega), gd_al H g c, if_pos c]
      by_cases k : nI (ln t) = (37 : Int32)
      · rw [if_pos k, if_pos k]
        dsimp only
        rcases nm with ⟨t', n, -, g2, e1, e2⟩ | b2
        · refine Or.inl ⟨t', g2, ?_⟩
          show x ||| R.1 = x ||| N.1
          rw [e1, e2]
        · exact Or.inr b2
      · rw [if_neg k, if_neg k]
        dsimp only
        exact num
    · rw [if_pos (nI_le (by omega) (by omega)), if_neg c, if_neg (by decide)]
      dsimp only
      exact num
  · rw [snd2_bd b]
    unfold m_last
    dsimp only
    rw [if_pos (bd_w b)]
    exact Or.inr ⟨q, b⟩
/-- the sources of the reference: a register, the comma, the second -/
def srcD (d : SD) : Int32 × SD := ((((m_operand d).1) <<< ((14 : Int32) &&& 31)) ||| (m_last (m_comma (m_operand d).2)).1, (m_last (m_comma (m_operand d).2)).2)
theorem src_eq (a : SA) : f_sources a = snd2 (f_expect (f_registerNumber a).2 (44 : Int32)) ((f_registerNumber a).1 <<< ((14 : Int32) &&& 31)) := by
  unfold f_sources f_behind
  dsimp only
  generalize f_registerNumber a = R
  generalize f_expect R.2 (44 : Int32) = E
  unfold snd2
  generalize f_number E (-4096 : Int32) (4095 : Int32) = F
  generalize f_registerNumber E = R2
  with_reducible rfl
theorem src_pe (H : qAL ln L a0 d0) {a : SA} {d : SD} (h : qOT a0 d0 L a d) : qPE a0 d0 L (f_sources a).1 (f_sources a).2 (srcD d).1 (srcD d).2 := by
  rw [src_eq]
  unfold srcD
  dsimp only
  have o := op_pe H h
  have c := cm_ot H o.ot
  have l := last_pe H c ((f_registerNumber a).1 <<< ((14 : Int32) &&& 31))
  generalize f_registerNumber a = R at *
  generalize m_operand d = O at *
  rcases o with ⟨t2, g2, e2⟩ | ⟨q2, b2⟩
  · rw [e2] at l ⊢
    exact l
  · have e3 : (snd2 (f_expect R.2 (44 : Int32)) (R.1 <<< ((14 : Int32) &&& 31))).2 = R.2 := by
      rw [ex_bd b2, snd2_bd b2]
    rcases l with ⟨t, g, e⟩ | b
    · exfalso
      have e4 := g.2.2.1
      rw [e3] at e4
      exact q_ne b2.2.1 (b2.2.2.1.symm.trans e4)
    · exact Or.inr b
end
theorem or_f3 (A C O M T : Int32) : (A ||| C) ||| ((O ||| M) ||| T) = (((A ||| T) ||| C) ||| O) ||| M := by ac_rfl
theorem or_f6 (A C O M T : Int32) : (A ||| C) ||| (T ||| (O ||| M)) = (((A ||| T) ||| C) ||| O) ||| M := by ac_rfl
theorem or_f2 (A C T : Int32) : (A ||| C) ||| T = (A ||| T) ||| C := by ac_rfl
theorem or_f1 (A R C O M : Int32) : ((A ||| R) ||| C) ||| (O ||| M) = (((A ||| R) ||| C) ||| O) ||| M := by ac_rfl
theorem or_fh (K N T : Int32) : K ||| (N ||| T) = (T ||| K) ||| N := by ac_rfl
theorem or_fb1 (K C D A : Int32) : (K ||| C) ||| (D ||| A) = ((A ||| C) ||| K) ||| D := by ac_rfl
theorem or_fb0 (K C D : Int32) : (K ||| C) ||| D = (C ||| K) ||| D := by ac_rfl
section
variable {ln : Nat → Nat} {L : Nat} {a0 : SA} {d0 : SD}
theorem qPE.map {v y v' y' : Int32} {s : SA} {e : SD} (h : qPE a0 d0 L v s y e) (f : v = y → v' = y') : qPE a0 d0 L v' s y' e := by
  rcases h with ⟨t, g, k⟩ | b
  · exact Or.inl ⟨t, g, f k⟩
  · exact Or.inr b
theorem bd_not {q t : Nat} {s : SA} {d e : SD} (b : qBD a0 d0 q s d) (g : GD a0 d0 L t s e) : False := q_ne b.2.1 (b.2.2.1.symm.trans g.2.2.1)
/-- sources, the comma, the target -/
theorem f3_pe (H : qAL ln L a0 d0) {a : SA} {d : SD} (h : qOT a0 d0 L a d) {B c : Int32} (hB : B = ((c >>> ((6 : Int32) &&& 31)) <<< ((30 : Int32) &&& 31)) ||| ((c &&& (63 : Int32)) <<< ((19 : Int32) &&& 31))) :
    qPE a0 d0 L (B ||| ((f_sources a).1 ||| (f_target (f_expect (f_sources a).2 (44 : Int32))).1)) (f_target (f_expect (f_sources a).2 (44 : Int32))).2 (m_formed d (0 : Int32) c).1 (m_formed d (0 : Int32) c).2 := by
  have s := src_pe H h
  have cm := cm_ot H s.ot
  have o := op_pe H cm
  have hbd : ∀ q, qBD a0 d0 q (f_sources a).2 (srcD d).2 → (f_registerNumber (f_expect (f_sources a).2 (44 : Int32))).2 = (f_sources a).2 := fun q b => by
    have e := ex_bd b (44 : Int32)
    have b2 : qBD a0 d0 q (f_expect (f_sources a).2 (44 : Int32)) (srcD d).2 := by rw [e]; exact b
    rw [regn_bd b2, e]
  unfold srcD at s cm o hbd
  dsimp only at s cm o hbd
  unfold m_formed f_target
  dsimp only
  simp only [if_neg (show ¬ (0 : Int32) = 2 from by decide), if_neg (show ¬ (0 : Int32) = 3 from by decide), if_neg (show ¬ (0 : Int32) = 6 from by decide), if_true]
  generalize f_sources a = S at *
  generalize m_operand d = O at *
  generalize m_last (m_comma O.2) = M at *
  generalize f_registerNumber (f_expect S.2 (44 : Int32)) = R at *
  generalize m_operand (m_comma M.2) = O2 at *
  rcases o with ⟨t, g, e⟩ | b
  · refine Or.inl ⟨t, g, ?_⟩
    rcases s with ⟨t2, g2, e2⟩ | ⟨q, b2⟩
    · rw [hB, e, e2]
      exact or_f3 _ _ _ _ _
    · exfalso
      have := hbd q b2
      rw [this] at g
      exact bd_not b2 g
  · exact Or.inr b
/-- the target, the comma, sources -/
theorem f6_pe (H : qAL ln L a0 d0) {a : SA} {d : SD} (h : qOT a0 d0 L a d) {B c : Int32} (hB : B = ((c >>> ((6 : Int32) &&& 31)) <<< ((30 : Int32) &&& 31)) ||| ((c &&& (63 : Int32)) <<< ((19 : Int32) &&& 31))) :
    qPE a0 d0 L (B ||| ((f_target a).1 ||| (f_sources (f_expect (f_target a).2 (44 : Int32))).1)) (f_sources (f_expect (f_target a).2 (44 : Int32))).2 (m_formed d (6 : Int32) c).1 (m_formed d (6 : Int32) c).2 := by
  have o := op_pe H h
  have cm := cm_ot H o.ot
  have s := src_pe H cm
  have hbd : ∀ q, qBD a0 d0 q (f_registerNumber a).2 (m_operand d).2 → (f_sources (f_expect (f_registerNumber a).2 (44 : Int32))).2 = (f_registerNumber a).2 := fun q b => by
    have e := ex_bd b (44 : Int32)
    have b2 : qBD a0 d0 q (f_expect (f_registerNumber a).2 (44 : Int32)) (m_operand d).2 := by rw [e]; exact b
    rw [src_eq]
    have b3 : qBD a0 d0 q (f_registerNumber (f_expect (f_registerNumber a).2 (44 : Int32))).2 (m_operand d).2 := by rw [regn_bd b2]; exact b2
    have b4 : qBD a0 d0 q (f_expect (f_registerNumber (f_expect (f_registerNumber a).2 (44 : Int32))).2 (44 : Int32)) (m_operand d).2 := by rw [ex_bd b3]; exact b3
    rw [snd2_bd b4, ex_bd b3, regn_bd b2, e]
  unfold srcD at s
  dsimp only at s
  unfold m_formed f_target
  dsimp only
  simp only [if_neg (show ¬ (6 : Int32) = 2 from by decide), if_neg (show ¬ (6 : Int32) = 3 from by decide), if_neg (show ¬ (6 : Int32) = 0 from by decide), if_true]
  generalize f_registerNumber a = R at *
  generalize m_operand d = O at *
  generalize f_sources (f_expect R.2 (44 : Int32)) = S at *
  generalize m_operand (m_comma O.2) = O2 at *
  generalize m_last (m_comma O2.2) = M at *
  rcases s with ⟨t, g, e⟩ | b
  · refine Or.inl ⟨t, g, ?_⟩
    rcases o with ⟨t2, g2, e2⟩ | ⟨q, b2⟩
    · rw [hB, e, e2]
      exact or_f6 _ _ _ _ _
    · exfalso
      have := hbd q b2
      rw [this] at g
      exact bd_not b2 g
  · exact Or.inr b
theorem sh0 (k : Int32) (n : Nat) (hk : k = nI n) (hn : n < 32) : (0 : Int32) <<< (k &&& 31) = (0 : Int32) := by
  subst hk
  apply b_ext
  intro i hi
  rw [b_shl n hn _ hi, b_0, b_0]
  simp
/-- one register -/
theorem f2_pe (H : qAL ln L a0 d0) {a : SA} {d : SD} (h : qOT a0 d0 L a d) {B c : Int32} (hB : B = ((2 : Int32) <<< ((30 : Int32) &&& 31)) ||| ((c &&& (63 : Int32)) <<< ((19 : Int32) &&& 31))) :
    qPE a0 d0 L (B ||| (f_target a).1) (f_target a).2 (m_formed d (2 : Int32) c).1 (m_formed d (2 : Int32) c).2 := by
  have o := op_pe H h
  unfold m_formed f_target
  dsimp only
  simp only [if_neg (show ¬ (2 : Int32) = 6 from by decide), if_neg (show ¬ (2 : Int32) = 3 from by decide), if_neg (show ¬ (2 : Int32) = 0 from by decide), if_true]
  generalize f_registerNumber a = R at *
  generalize m_operand d = O at *
  refine o.map (fun e => ?_)
  rw [hB, e, sh0 14 14 rfl (by omega), Int32.or_zero, Int32.or_zero]
  exact or_f2 _ _ _
/-- two sources -/
theorem f1_pe (H : qAL ln L a0 d0) {a : SA} {d : SD} (h : qOT a0 d0 L a d) {B c : Int32} (hB : B = (((2 : Int32) <<< ((30 : Int32) &&& 31)) ||| ((c &&& (31 : Int32)) <<< ((25 : Int32) &&& 31))) ||| ((c >>> ((5 : Int32) &&& 31)) <<< ((19 : Int32) &&& 31))) :
    qPE a0 d0 L (B ||| (f_sources a).1) (f_sources a).2 (m_formed d (3 : Int32) c).1 (m_formed d (3 : Int32) c).2 := by
  have s := src_pe H h
  unfold srcD at s
  dsimp only at s
  unfold m_formed
  dsimp only
  simp only [if_neg (show ¬ (3 : Int32) = 6 from by decide), if_neg (show ¬ (3 : Int32) = 2 from by decide), if_neg (show ¬ (3 : Int32) = 0 from by decide), if_true]
  generalize f_sources a = S at *
  generalize m_operand d = O at *
  generalize m_last (m_comma O.2) = M at *
  refine s.map (fun e => ?_)
  rw [hB, e]
  exact or_f1 _ _ _ _ _
/-- higher bits, the comma, the target -/
theorem fh_pe (H : qAL ln L a0 d0) {t : Nat} {a : SA} {d : SD} (h : GD a0 d0 L t a d) :
    qPE a0 d0 L ((16777216 : Int32) ||| ((f_number a (0 : Int32) (4194303 : Int32)).1 ||| (f_target (f_expect (f_number a (0 : Int32) (4194303 : Int32)).2 (44 : Int32))).1)) (f_target (f_expect (f_number a (0 : Int32) (4194303 : Int32)).2 (44 : Int32))).2
      ((((m_operand (m_comma ((m_number d (0 : Int64) (4194303 : Int64)).2))).1 <<< ((25 : Int32) &&& 31)) ||| (16777216 : Int32)) ||| (m_number d (0 : Int64) (4194303 : Int64)).1) (m_operand (m_comma ((m_number d (0 : Int64) (4194303 : Int64)).2))).2 := by
  have nb := number_pv H h (0 : Int32) (4194303 : Int32) (by decide) (by decide) (P0 := 0) (P1 := 4194303) (by decide) (by decide)
  generalize f_number a (0 : Int32) (4194303 : Int32) = F at *
  generalize m_number d (0 : Int64) (4194303 : Int64) = M at *
  have nt : qOT a0 d0 L F.2 M.2 := by
    rcases nb with ⟨t', g, -⟩ | b
    · exact Or.inl ⟨t', g⟩
    · exact Or.inr b
  have o := op_pe H (cm_ot H nt)
  have hbd : ∀ q, qBD a0 d0 q F.2 M.2 → (f_registerNumber (f_expect F.2 (44 : Int32))).2 = F.2 := fun q b => by
    have e := ex_bd b (44 : Int32)
    have b2 : qBD a0 d0 q (f_expect F.2 (44 : Int32)) M.2 := by rw [e]; exact b
    rw [regn_bd b2, e]
  unfold f_target
  dsimp only
  generalize f_registerNumber (f_expect F.2 (44 : Int32)) = R at *
  generalize m_operand (m_comma M.2) = O at *
  rcases o with ⟨t2, g, e⟩ | b
  · refine Or.inl ⟨t2, g, ?_⟩
    rcases nb with ⟨t', g2, e2, l1, l2⟩ | ⟨q, b2⟩
    · have ez : M.1 &&& ((4194303 : Int32) - (0 : Int32)) = M.1 := by
        have z : (0 : Int32).toInt = 0 := by decide
        have z2 : (4194303 : Int32).toInt = 4194303 := by decide
        obtain ⟨n, hn, en⟩ : ∃ n, n < 2 ^ 22 ∧ M.1 = nI n := ⟨M.1.toInt.toNat, by omega, by
          apply Int32.toInt_inj.mp
          rw [nI_toInt (by omega)]
          omega⟩
        rw [en, pk_andN (k := 22) (by omega) (by decide), Nat.mod_eq_of_lt hn]
      rw [e2, ez, e]
      exact or_fh _ _ _
    · exfalso
      have := hbd q b2
      rw [this] at g
      exact bd_not b2 g
  · exact Or.inr b
/-- a far distance -/
theorem fc_pe (H : qAL ln L a0 d0) {t : Nat} {a : SA} {d : SD} (h : GD a0 d0 L t a d) :
    qPE a0 d0 L ((1073741824 : Int32) ||| (f_number a (-536870912 : Int32) (536870911 : Int32)).1) (f_number a (-536870912 : Int32) (536870911 : Int32)).2
      ((1073741824 : Int32) ||| ((m_number d (-536870912 : Int64) (536870911 : Int64)).1 &&& (1073741823 : Int32))) (m_number d (-536870912 : Int64) (536870911 : Int64)).2 := by
  have nb := number_pv H h (-536870912 : Int32) (536870911 : Int32) (by decide) (by decide) (P0 := -536870912) (P1 := 536870911) (by decide) (by decide)
  generalize f_number a (-536870912 : Int32) (536870911 : Int32) = F at *
  generalize m_number d (-536870912 : Int64) (536870911 : Int64) = M at *
  rcases nb with ⟨t', g, e, -⟩ | b
  · refine Or.inl ⟨t', g, ?_⟩
    rw [e, show (536870911 : Int32) - (-536870912 : Int32) = 1073741823 from by decide]
  · exact Or.inr b
/-- a qnear distance, and the a -/
theorem fb_pe (H : qAL ln L a0 d0) {t : Nat} {a : SA} {d : SD} (h : GD a0 d0 L t a d) {B c : Int32} (hB : B = (8388608 : Int32) ||| (c <<< ((25 : Int32) &&& 31))) :
    qPE a0 d0 L (B ||| (f_distanceAndAnnul a).1) (f_distanceAndAnnul a).2 (m_branches d c).1 (m_branches d c).2 := by
  have hL := H.1
  have nb := number_pv H h (-2097152 : Int32) (2097151 : Int32) (by decide) (by decide) (P0 := -2097152) (P1 := 2097151) (by decide) (by decide)
  unfold f_distanceAndAnnul m_branches
  dsimp only
  generalize f_number a (-2097152 : Int32) (2097151 : Int32) = F at *
  generalize m_number d (-2097152 : Int64) (2097151 : Int64) = M at *
  rw [show (2097151 : Int32) - (-2097152 : Int32) = 4194303 from by decide] at nb
  rcases nb with ⟨t', g, e, -⟩ | ⟨q, b⟩
  · have ht := g.2.1
    rw [gd_good g, if_neg n10, if_neg (gd_w g), gd_a0 H g, g.2.2.2.2.1, gd_d1 H g, g.2.2.2.2.2]
    by_cases c1 : t' < L
    · rw [if_neg (fun z => by have := (nI_inj (by omega) (by omega)).mp z; omega), if_neg (nI_ge c1 (by omega))]
      rcases ex_pd H (c := 44) (by omega) (by omega) g with ⟨-, -, g2⟩ | b2
      · have g2 : GD a0 d0 L (t' + 1) (f_expect F.2 (44 : Int32)) (m_must M.2 (44 : Int32)) := g2
        generalize f_expect F.2 (44 : Int32) = E at *
        generalize m_must M.2 (44 : Int32) = D at *
        rw [if_neg (gd_w g2)]
        rcases ex_pd H (c := 97) (by omega) (by omega) g2 with ⟨-, -, g3⟩ | b3
        · refine Or.inl ⟨t' + 1 + 1, g3, ?_⟩
          rw [hB, e, show (1 : Int32) <<< ((29 : Int32) &&& 31) = 536870912 from by decide]
          exact or_fb1 _ _ _ _
        · exact Or.inr ⟨t' + 1, b3⟩
      · have b2 : qBD a0 d0 t' (f_expect F.2 (44 : Int32)) (m_must M.2 (44 : Int32)) := b2
        rw [if_pos (bd_w b2)]
        have e3 : f_expect (f_expect F.2 (44 : Int32)) (97 : Int32) = f_expect F.2 (44 : Int32) := ex_bd b2 _
        rw [e3]
        exact Or.inr ⟨t', b2⟩
    · rw [if_pos (show nI t' = nI L from by rw [show t' = L by omega]), if_pos (nI_le (by omega) (by omega))]
      refine Or.inl ⟨t', g, ?_⟩
      dsimp only
      rw [hB, e, sh0 29 29 rfl (by omega)]
      rw [show ((0 : Int32) ||| (c <<< ((25 : Int32) &&& 31))) = c <<< ((25 : Int32) &&& 31) from Int32.zero_or ..]
      exact or_fb0 _ _ _
  · rw [bd_good b, if_pos rfl, if_pos (bd_w b)]
    exact Or.inr ⟨q, b⟩
end
