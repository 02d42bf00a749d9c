def qRA (a : SA) (d : SD) : Prop := a.1 0 = d.1 1 ∧ a.1 2 = d.1 2 ∧ halQ (d.1 2) ∧ (∃ L, L ≤ 40 ∧ d.1 1 = nI L ∧ ∀ i, i < L → a.2 i = d.2.1 i ∧ ∃ c, 32 ≤ c ∧ c ≤ 126 ∧ a.2 i = nI c)
def RW (x : SX) (d : SD) : Prop := RP x.1 d ∧ qRA x.2 d
/-- one call: the thrown code, the answer, the state behind it -/
def FA (F : Int32 × Int32 × SX) (M : Int32 × SD) : Prop := F.1 = M.2.1 0 ∧ (F.1 = (0 : Int32) → F.2.1 = M.1) ∧ RW F.2.2 M.2
theorem rw_m0 {x : SX} {d : SD} (h : RW x d) (v : Int32) : RW x (upd d.1 0 v, d.2.1, d.2.2.1, d.2.2.2.1, d.2.2.2.2.1, d.2.2.2.2.2) := ⟨⟨h.1.1.m0 v, h.1.2.1, h.1.2.2⟩, h.2⟩
theorem fails0 {d : SD} (h : d.1 0 = (0 : Int32)) (k : Int32) : m_fails d (0 : Int32) k = ((0 : Int32), d) := by
  unfold m_fails
  dsimp only
  rw [if_pos rfl, if_pos h]
theorem n10 : ¬ (1 : Int32) = (0 : Int32) := by decide
theorem n20 : ¬ (2 : Int32) = (0 : Int32) := by decide
theorem fails1 {d : SD} (h : d.1 0 = (0 : Int32)) {k : Int32} (hk : ¬ k = (0 : Int32)) : m_fails d (1 : Int32) k = ((1 : Int32), (upd d.1 0 k, d.2.1, d.2.2.1, d.2.2.2.1, d.2.2.2.2.1, d.2.2.2.2.2)) := by
  unfold m_fails
  dsimp only
  simp only [if_neg n10, if_pos h]
  rw [if_neg (show ¬ (upd d.1 0 k) 0 = (0 : Int32) from hk)]
theorem b01 {c : Prop} {q : Decidable c} {r : Int32} (h : @ite _ c q (1 : Int32) (0 : Int32) = r) : r = (0 : Int32) ∧ ¬ c ∨ r = (1 : Int32) ∧ c := by
  by_cases k : c
  · rw [if_pos k] at h; exact Or.inr ⟨h.symm, k⟩
  · rw [if_neg k] at h; exact Or.inl ⟨h.symm, k⟩
theorem isW_eq (a : Int32) : f_isWordAt a = m_isWord a := by
  unfold f_isWordAt m_isWord
  dsimp only
  have hh := hold_eq a (s := 4) (by omega)
  have e1020 : ((1024 : Int32) - nI 4).toInt64 = (1020 : Int64) := by decide
  rw [e1020] at hh
  by_cases c3 : (a &&& (3 : Int32)) = (0 : Int32)
  · rw [if_pos c3, if_pos c3]
    by_cases ch : f_holds a (nI 4) = (0 : Int32)
    · rw [if_pos (show f_holds a (4 : Int32) = (0 : Int32) from ch)]
      have z := hh.1.mp ch
      by_cases q : m_in a.toInt64 (0 : Int64) (1020 : Int64) = (0 : Int32)
      · rw [if_pos q]
      · rw [if_neg q] at z; exact absurd z (by decide)
    · rw [if_neg (show ¬ f_holds a (4 : Int32) = (0 : Int32) from ch)]
      by_cases q : m_in a.toInt64 (0 : Int64) (1020 : Int64) = (0 : Int32)
      · exact absurd (hh.1.mpr (if_pos q)) ch
      · rw [if_neg q]
  · rw [if_neg c3, if_neg c3]
    by_cases q : m_in a.toInt64 (0 : Int64) (1020 : Int64) = (0 : Int32)
    · rw [if_pos q]
    · rw [if_neg q]
theorem isW_A {a : Int32} (h : ¬ m_isWord a = (0 : Int32)) : ∃ A, A + 4 ≤ 1024 ∧ A % 4 = 0 ∧ a = nI A := by
  rw [← isW_eq] at h
  unfold f_isWordAt at h
  dsimp only at h
  by_cases c3 : (a &&& (3 : Int32)) = (0 : Int32)
  · rw [if_pos c3] at h
    by_cases ch : f_holds a (4 : Int32) = (0 : Int32)
    · rw [if_pos ch] at h; exact absurd rfl h
    · obtain ⟨A, hA, rfl⟩ := (hold_eq a (s := 4) (by omega)).2 ch
      refine ⟨A, hA, ?_, rfl⟩
      rw [pk_andN (k := 2) (by omega) (by decide)] at c3
      rcases Nat.eq_zero_or_pos (A % 4) with z | z
      · exact z
      · exact absurd c3 (nI_ne0 z (by omega))
  · rw [if_neg c3] at h; exact absurd rfl h
theorem chk_eq (a : Int32) : f_checkWordAt a = (if m_isWord a = (0 : Int32) then (1 : Int32) else (0 : Int32)) := by
  unfold f_checkWordAt
  dsimp only
  rw [isW_eq]
theorem put_fa {x : SX} {d : SD} (h : RW x d) (a v : Int32) : FA (f_putX x a v) (m_put d a v) := by
  have h0 := rw_m0 h (0 : Int32)
  unfold f_putX m_put
  dsimp only
  rw [chk_eq]
  generalize hD : ((upd d.1 0 (0 : Int32), d.2.1, d.2.2.1, d.2.2.2.1, d.2.2.2.2.1, d.2.2.2.2.2) : SD) = D at *
  have e0 : D.1 0 = (0 : Int32) := by rw [← hD]; rfl
  by_cases c : m_isWord a = (0 : Int32)
  · rw [if_pos c, if_neg (by decide), fails1 e0 (by decide), if_neg n10]
    exact ⟨rfl, fun z => absurd z n10, rw_m0 h0 _⟩
  · obtain ⟨A, hA, hq, rfl⟩ := isW_A c
    rw [if_neg c, if_pos rfl, fails0 e0, if_pos rfl]
    refine ⟨?_, fun _ => rm_ld (n := 4) h0.1.2.2 (by omega) (by omega) hA, ?_⟩
    · obtain ⟨mm, e, -⟩ := rm_st (d := D) (n := 4) v h0.1.2.2 (by omega) (by omega) hA
      show (0 : Int32) = (m_store D (nI A) (nI 4) v).1 0
      rw [e]
      exact e0.symm
    · obtain ⟨mm, e, hm⟩ := rm_st (d := D) (n := 4) v h0.1.2.2 (by omega) (by omega) hA
      show RW _ (m_store D (nI A) (nI 4) v)
      rw [e]
      exact ⟨⟨h0.1.1, h0.1.2.1, hm⟩, h0.2⟩
theorem word_fa {x : SX} {d : SD} (h : RW x d) (a : Int32) : FA (f_wordX x a) (m_word d a) := by
  have h0 := rw_m0 h (0 : Int32)
  unfold f_wordX m_word
  dsimp only
  rw [chk_eq]
  generalize hD : ((upd d.1 0 (0 : Int32), d.2.1, d.2.2.1, d.2.2.2.1, d.2.2.2.2.1, d.2.2.2.2.2) : SD) = D at *
  have e0 : D.1 0 = (0 : Int32) := by rw [← hD]; rfl
  by_cases c : m_isWord a = (0 : Int32)
  · rw [if_pos c, if_neg (by decide), fails1 e0 (by decide), if_neg n10]
    exact ⟨rfl, fun z => absurd z n10, rw_m0 h0 _⟩
  · obtain ⟨A, hA, hq, rfl⟩ := isW_A c
    rw [if_neg c, if_pos rfl, fails0 e0, if_pos rfl]
    exact ⟨e0.symm, fun _ => rm_ld (n := 4) h0.1.2.2 (by omega) (by omega) hA, h0⟩
theorem in32 (v : Int32) {k : Nat} (hk : k < 2 ^ 31) {K : Int64} (eK : K = lN k) : (m_in v.toInt64 (0 : Int64) K = (0 : Int32) ↔ (v < (0 : Int32) ∨ nI k < v)) ∧ (¬ m_in v.toInt64 (0 : Int64) K = (0 : Int32) → vp_in v (k + 1)) := by
  subst eK
  rw [in_eq]
  have e : ((0 : Int64) ≤ v.toInt64 ∧ v.toInt64 ≤ lN k) ↔ (0 ≤ v.toInt ∧ v.toInt ≤ k) := by
    rw [Int64.le_iff_toInt_le, Int64.le_iff_toInt_le, Int32.toInt_toInt64, show (0 : Int64).toInt = 0 by decide]
    unfold lN
    rw [lg_ofNat_toInt (by omega)]
  have e2 : (v < (0 : Int32) ∨ nI k < v) ↔ (v.toInt < 0 ∨ (k : Int) < v.toInt) := by
    rw [Int32.lt_iff_toInt_lt, Int32.lt_iff_toInt_lt, nI_toInt hk, show (0 : Int32).toInt = 0 by decide]
  by_cases c : (0 : Int64) ≤ v.toInt64 ∧ v.toInt64 ≤ lN k
  · rw [if_pos c]
    have q := e.mp c
    refine ⟨⟨fun z => absurd z (by decide), fun z => ?_⟩, fun _ => vp_in_iff.mpr ⟨q.1, by omega⟩⟩
    have := e2.mp z
    omega
  · rw [if_neg c]
    refine ⟨⟨fun _ => e2.mpr ?_, fun _ => rfl⟩, fun z => absurd rfl z⟩
    have q := mt e.mpr c
    omega
theorem chr_eq (w r : Int32) : f_checkRegister w r = (if m_in r.toInt64 (0 : Int64) (31 : Int64) = (0 : Int32) then (1 : Int32) else (if m_in w.toInt64 (0 : Int64) (3 : Int64) = (0 : Int32) then (1 : Int32) else (0 : Int32))) := by
  unfold f_checkRegister
  have k1 := (in32 r (k := 31) (by omega) (K := 31) rfl).1
  have k2 := (in32 w (k := 3) (by omega) (K := 3) rfl).1
  have l32 : (32 : Int32) ≤ r ↔ nI 31 < r := by
    rw [Int32.le_iff_toInt_le, Int32.lt_iff_toInt_lt, nI_toInt (by omega), show (32 : Int32).toInt = 32 by decide]
    omega
  have l4 : ¬ w < (4 : Int32) ↔ nI 3 < w := by
    rw [Int32.lt_iff_toInt_lt, Int32.lt_iff_toInt_lt, nI_toInt (by omega), show (4 : Int32).toInt = 4 by decide]
    omega
  by_cases c1 : r < (0 : Int32)
  · rw [if_pos c1, if_pos (k1.mpr (Or.inl c1))]
  rw [if_neg c1]
  by_cases c2 : (32 : Int32) ≤ r
  · rw [if_pos c2, if_pos (k1.mpr (Or.inr (l32.mp c2)))]
  rw [if_neg c2, if_neg (fun z => (k1.mp z).elim c1 (fun q => c2 (l32.mpr q)))]
  by_cases c3 : w < (0 : Int32)
  · rw [if_pos c3, if_pos (k2.mpr (Or.inl c3))]
  rw [if_neg c3]
  by_cases c4 : w < (4 : Int32)
  · rw [if_pos c4, if_neg (fun z => (k2.mp z).elim c3 (fun q => l4.mpr q c4))]
  · rw [if_neg c4, if_pos (k2.mpr (Or.inr (l4.mp c4)))]
theorem chr_in {w r : Int32} (h : (if m_in r.toInt64 (0 : Int64) (31 : Int64) = (0 : Int32) then (1 : Int32) else (if m_in w.toInt64 (0 : Int64) (3 : Int64) = (0 : Int32) then (1 : Int32) else (0 : Int32))) = (0 : Int32)) : vp_in r 32 ∧ vp_in w 4 := by
  by_cases c1 : m_in r.toInt64 (0 : Int64) (31 : Int64) = (0 : Int32)
  · rw [if_pos c1] at h; exact absurd h (by decide)
  · rw [if_neg c1] at h
    by_cases c2 : m_in w.toInt64 (0 : Int64) (3 : Int64) = (0 : Int32)
    · rw [if_pos c2] at h; exact absurd h (by decide)
    · exact ⟨(in32 r (k := 31) (by omega) (K := 31) rfl).2 c1, (in32 w (k := 3) (by omega) (K := 3) rfl).2 c2⟩
theorem chr_B (w r : Int32) : zB (if m_in r.toInt64 (0 : Int64) (31 : Int64) = (0 : Int32) then (1 : Int32) else (if m_in w.toInt64 (0 : Int64) (3 : Int64) = (0 : Int32) then (1 : Int32) else (0 : Int32))) := zB_i z1 zB_10
theorem set_fa {x : SX} {d : SD} (h : RW x d) (w r v : Int32) : FA (f_setX x w r v) (m_set d w r v) := by
  have h0 := rw_m0 h (0 : Int32)
  unfold f_setX m_set
  dsimp only
  rw [chr_eq]
  have hb := chr_B w r
  have hc := chr_in (w := w) (r := r)
  generalize (if m_in r.toInt64 (0 : Int64) (31 : Int64) = (0 : Int32) then (1 : Int32) else (if m_in w.toInt64 (0 : Int64) (3 : Int64) = (0 : Int32) then (1 : Int32) else (0 : Int32))) = k at *
  generalize hD : ((upd d.1 0 (0 : Int32), d.2.1, d.2.2.1, d.2.2.2.1, d.2.2.2.2.1, d.2.2.2.2.2) : SD) = D at *
  have e0 : D.1 0 = (0 : Int32) := by rw [← hD]; rfl
  rcases hb with rfl | rfl
  · obtain ⟨hr, hw⟩ := hc rfl
    obtain ⟨gl, ou, lo, e, hrr⟩ := rr_put (d := D) v h0.1.2.1 hw hr
    rw [if_pos rfl, fails0 e0, if_pos rfl]
    refine ⟨?_, fun _ => rr_get h0.1.2.1 hw hr, ?_⟩
    · show (0 : Int32) = (m_gives D r w v).1 0
      rw [e]; exact e0.symm
    · show RW _ (m_gives D r w v)
      rw [e]
      exact ⟨⟨h0.1.1, hrr, h0.1.2.2⟩, h0.2⟩
  · rw [if_neg (by decide), fails1 e0 (by decide), if_neg n10]
    exact ⟨rfl, fun z => absurd z n10, rw_m0 h0 _⟩
theorem register_fa {x : SX} {d : SD} (h : RW x d) (w r : Int32) : FA (f_registerX x w r) (m_register d w r) := by
  have h0 := rw_m0 h (0 : Int32)
  unfold f_registerX m_register
  dsimp only
  rw [chr_eq]
  have hb := chr_B w r
  have hc := chr_in (w := w) (r := r)
  generalize (if m_in r.toInt64 (0 : Int64) (31 : Int64) = (0 : Int32) then (1 : Int32) else (if m_in w.toInt64 (0 : Int64) (3 : Int64) = (0 : Int32) then (1 : Int32) else (0 : Int32))) = k at *
  generalize hD : ((upd d.1 0 (0 : Int32), d.2.1, d.2.2.1, d.2.2.2.1, d.2.2.2.2.1, d.2.2.2.2.2) : SD) = D at *
  have e0 : D.1 0 = (0 : Int32) := by rw [← hD]; rfl
  rcases hb with rfl | rfl
  · obtain ⟨hr, hw⟩ := hc rfl
    rw [if_pos rfl, fails0 e0, if_pos rfl]
    exact ⟨e0.symm, fun _ => rr_get h0.1.2.1 hw hr, h0⟩
  · rw [if_neg (by decide), fails1 e0 (by decide), if_neg n10]
    exact ⟨rfl, fun z => absurd z n10, rw_m0 h0 _⟩
theorem clr {s : Nat → Int32} : ∀ n i (u : Nat → Int32), i + n = 73 → i ≤ 72 → ∀ j, j < 72 → i ≤ j → fl_R_clear_2 s n i u j = (0 : Int32) := by
  have K : ∀ n i (u : Nat → Int32), i + n = 73 → i ≤ 72 → ∀ j, j < i → fl_R_clear_2 s n i u j = u j := by
    intro n
    induction n with
    | zero => intro i u h1 h2; omega
    | succ n ih =>
      intro i u h1 h2 j hj
      rw [fl_R_clear_2]
      by_cases c : (72 : Int32) ≤ nI i
      · rw [if_pos c]
      · rw [if_neg c]
        have hi : i < 72 := by
          rcases Nat.lt_or_ge i 72 with q | q
          · exact q
          · exact absurd (nI_le (a := 72) q (by omega)) c
        rw [ih (i + 1) _ (by omega) (by omega) j (by omega), nI_clamp (by omega), upd_ne (by omega)]
  intro n
  induction n with
  | zero => intro i u h1 h2; omega
  | succ n ih =>
    intro i u h1 h2 j hj hij
    rw [fl_R_clear_2]
    have hi : i < 72 := by omega
    rw [if_neg (show ¬ (72 : Int32) ≤ nI i from nI_ge (b := 72) hi (by omega))]
    by_cases e : j = i
    · rw [K n (i + 1) _ (by omega) (by omega) j (by omega), nI_clamp (by omega), upd_eq e]
    · exact ih (i + 1) _ (by omega) (by omega) j hj (by omega)
theorem clear0 (r : Nat → Int32) {j : Nat} (hj : j < 72) : f_clear r j = (0 : Int32) := clr 73 0 r (by omega) (by omega) j hj (by omega)
/-- the fields that a reset of the reference sets -/
def rsD (G : Nat → Int32) (a : Int32) : Nat → Int32 := upd (upd (upd (upd (upd (upd (upd (upd (upd (upd (upd (upd (upd (upd (upd (upd (upd G 4 a) 5 (a + (4 : Int32))) 6 (0 : Int32)) 7 (0 : Int32)) 8 (0 : Int32)) 9 (0 : Int32)) 10 (-1 : Int32)) 11 (0 : Int32)) 12 (0 : Int32)) 13 (0 : Int32)) 14 (0 : Int32)) 15 (0 : Int32)) 16 (0 : Int32)) 17 (1 : Int32)) 18 (0 : Int32)) 19 (0 : Int32)) 20 (0 : Int32)
theorem rs2 {s : SD} {a : Int32} : ∀ n i (u : SD), i + n = 33 → i ≤ 32 → ∃ ou lo, fl_D_reset_23 s a n i u = (rsD u.1 a, u.2.1, u.2.2.1, u.2.2.2.1, ou, lo) ∧ (∀ j, j < i → ou j = u.2.2.2.2.1 j ∧ lo j = u.2.2.2.2.2 j) ∧ (∀ j, i ≤ j → j < 32 → ou j = (0 : Int32) ∧ lo j = (0 : Int32)) := by
  intro n
  induction n with
  | zero => intro i u h1 h2; omega
  | succ n ih =>
    intro i u h1 h2
    by_cases hi : i < 32
    · obtain ⟨ou, lo, e, k1, k2⟩ := ih (i + 1) (u.1, u.2.1, u.2.2.1, u.2.2.2.1, upd u.2.2.2.2.1 (nI i).toNatClampNeg (0 : Int32), upd u.2.2.2.2.2 (nI i).toNatClampNeg (0 : Int32)) (by omega) (by omega)
      refine ⟨ou, lo, ?_, fun j hj => ?_, fun j hj hj2 => ?_⟩
      · rw [fl_D_reset_23, if_neg (show ¬ (32 : Int32) ≤ nI i from nI_ge (b := 32) hi (by omega))]
        exact e
      · obtain ⟨q1, q2⟩ := k1 j (by omega)
        rw [q1, q2, nI_clamp (by omega)]
        exact ⟨upd_ne (by omega), upd_ne (by omega)⟩
      · by_cases ej : j = i
        · obtain ⟨q1, q2⟩ := k1 j (by omega)
          rw [q1, q2, nI_clamp (by omega)]
          exact ⟨upd_eq ej, upd_eq ej⟩
        · exact k2 j (by omega) hj2
    · refine ⟨u.2.2.2.2.1, u.2.2.2.2.2, ?_, fun j hj => ⟨rfl, rfl⟩, fun j hj hj2 => by omega⟩
      rw [fl_D_reset_23, if_pos (show (32 : Int32) ≤ nI i from nI_le (a := 32) (by omega) (by omega))]
      rfl
theorem rs1 {s : SD} {a : Int32} : ∀ n i (u : SD), i + n = 9 → i ≤ 8 → ∃ gl, fl_D_reset_2 s a n i u = fl_D_reset_23 s a 33 0 (u.1, u.2.1, u.2.2.1, gl, u.2.2.2.2.1, u.2.2.2.2.2) ∧ (∀ j, j < i → gl j = u.2.2.2.1 j) ∧ (∀ j, i ≤ j → j < 8 → gl j = (0 : Int32)) := by
  intro n
  induction n with
  | zero => intro i u h1 h2; omega
  | succ n ih =>
    intro i u h1 h2
    by_cases hi : i < 8
    · obtain ⟨gl, e, k1, k2⟩ := ih (i + 1) (u.1, u.2.1, u.2.2.1, upd u.2.2.2.1 (nI i).toNatClampNeg (0 : Int32), u.2.2.2.2.1, u.2.2.2.2.2) (by omega) (by omega)
      refine ⟨gl, ?_, fun j hj => ?_, fun j hj hj2 => ?_⟩
      · rw [fl_D_reset_2, if_neg (show ¬ (8 : Int32) ≤ nI i from nI_ge (b := 8) hi (by omega))]
        exact e
      · rw [k1 j (by omega), nI_clamp (by omega)]
        exact upd_ne (by omega)
      · by_cases ej : j = i
        · rw [k1 j (by omega), nI_clamp (by omega)]
          exact upd_eq ej
        · exact k2 j (by omega) hj2
    · refine ⟨u.2.2.2.1, ?_, fun j hj => rfl, fun j hj hj2 => by omega⟩
      rw [fl_D_reset_2, if_pos (show (8 : Int32) ≤ nI i from nI_le (a := 8) (by omega) (by omega))]
theorem reset_eq (d : SD) (a : Int32) : ∃ gl ou lo, m_reset d a = (rsD d.1 a, d.2.1, d.2.2.1, gl, ou, lo) ∧ (∀ j, j < 8 → gl j = (0 : Int32)) ∧ (∀ j, j < 32 → ou j = (0 : Int32) ∧ lo j = (0 : Int32)) := by
  obtain ⟨gl, e1, -, g2⟩ := rs1 (s := d) (a := a) 9 0 d (by omega) (by omega)
  obtain ⟨ou, lo, e2, -, k2⟩ := rs2 (s := d) (a := a) 33 0 (d.1, d.2.1, d.2.2.1, gl, d.2.2.2.2.1, d.2.2.2.2.2) (by omega) (by omega)
  refine ⟨gl, ou, lo, ?_, fun j hj => g2 j (by omega) hj, fun j hj => k2 j (by omega) hj⟩
  unfold m_reset
  rw [e1, e2]
theorem RR0 {r gl ou lo : Nat → Int32} (h0 : ∀ j, j < 72 → r j = (0 : Int32)) (h1 : ∀ j, j < 8 → gl j = (0 : Int32)) (h2 : ∀ j, j < 32 → ou j = (0 : Int32) ∧ lo j = (0 : Int32)) : RR r gl ou lo :=
  ⟨fun i hi => by rw [h0 i (by omega), h1 i hi], fun w hw k hk => (h0 (8 + 16 * w + k) (by omega)).trans (h2 (8 * w + k) (by omega)).1.symm, fun w hw k hk => (h0 (16 + 16 * w + k) (by omega)).trans (h2 (8 * w + k) (by omega)).2.symm⟩
theorem reset_rp {p : SP} {d : SD} (hm : qRM p.2.2.2 d.2.2.1) (a : Int32) : RP (f_reset p a) (m_reset d a) := by
  obtain ⟨gl, ou, lo, e, k1, k2⟩ := reset_eq d a
  rw [e]
  unfold RP f_reset f_adopt f_changeMode
  dsimp only
  refine ⟨?_, RR0 (r := f_clear p.2.2.1) (fun j hj => clear0 p.2.2.1 hj) k1 k2, hm⟩
  exact ⟨rfl, rfl, rfl, rfl, rfl, rfl, rfl, rfl, rfl, rfl, z0, z0, z0, z0, rfl, z1, rfl, z0, rfl, z0, rfl, z0, (show vp_in (0 : Int32) 4 from by unfold vp_in; decide), Or.inl rfl⟩
theorem start_fa {x : SX} {d : SD} (h : RW x d) (a : Int32) : FA (f_startX x a) (m_start d a) := by
  have h0 := rw_m0 h (0 : Int32)
  unfold f_startX m_start
  dsimp only
  rw [isW_eq]
  generalize hD : ((upd d.1 0 (0 : Int32), d.2.1, d.2.2.1, d.2.2.2.1, d.2.2.2.2.1, d.2.2.2.2.2) : SD) = D at *
  have e0 : D.1 0 = (0 : Int32) := by rw [← hD]; rfl
  by_cases c : m_isWord a = (0 : Int32)
  · rw [if_pos c, if_pos c, fails1 e0 (by decide), if_neg n10]
    exact ⟨rfl, fun z => absurd z n10, rw_m0 h0 _⟩
  · rw [if_neg c, if_neg c, fails0 e0, if_pos rfl]
    have r := reset_rp (p := x.1) (d := D) h0.1.2.2 a
    obtain ⟨gl, ou, lo, e, k1, k2⟩ := reset_eq D a
    refine ⟨?_, fun _ => h0.1.1.ha, ⟨r, ?_⟩⟩
    · show (0 : Int32) = (m_reset D a).1 0
      rw [e]; exact e0.symm
    · show qRA x.2 (m_reset D a)
      rw [e]; exact h0.2
def frm (f : SD) (d : SD) : Prop := (zB (d.1 17) ∧ zB (d.1 18)) ∧ d.1 0 = f.1 0 ∧ d.1 1 = f.1 1 ∧ d.1 2 = f.1 2 ∧ d.2.1 = f.2.1
theorem frm_cl (f : SD) : clQ (frm f) := by
  refine ⟨?_, ?_, ?_, ?_, ?_, ?_, ?_⟩
  · intro d i v h h4 h6 h17 h18
    exact ⟨⟨by show zB (upd d.1 i v 17); rw [upd_ne (by omega)]; exact h.1.1, by show zB (upd d.1 i v 18); rw [upd_ne (by omega)]; exact h.1.2⟩, by show upd d.1 i v 0 = _; rw [upd_ne (by omega)]; exact h.2.1, by show upd d.1 i v 1 = _; rw [upd_ne (by omega)]; exact h.2.2.1, by show upd d.1 i v 2 = _; rw [upd_ne (by omega)]; exact h.2.2.2.1, h.2.2.2.2⟩
  · intro d v h _
    exact h
  · intro d v h hv
    exact ⟨⟨hv, h.1.2⟩, h.2⟩
  · intro d v h hv
    exact ⟨⟨h.1.1, hv⟩, h.2⟩
  · intro d gl ou lo h
    exact h
  · intro d mm h
    exact h
  · intro d h
    exact h.1
theorem step_rw {x : SX} {d : SD} (h : RW x d) : RW (f_step x.1, x.2) (m_step d) ∧ (m_step d).1 0 = d.1 0 := by
  have q : frm d (m_step d) := cl_step (frm_cl d) ⟨⟨h.1.1.zs, h.1.1.zp⟩, rfl, rfl, rfl, rfl⟩
  refine ⟨⟨step_rp h.1, ?_⟩, q.2.1⟩
  have hA := h.2
  unfold qRA at hA ⊢
  rw [q.2.2.1, q.2.2.2.1, q.2.2.2.2]
  exact hA
theorem hh_eq {p : SP} {d : SD} (h : RP p d) : (f_hasHalted p = (0 : Int32) ↔ ¬ (0 : Int32) ≤ d.1 10) ∧ ((if d.1 10 < (0 : Int32) then (0 : Int32) else (1 : Int32)) = f_hasHalted p) ∧ zB (f_hasHalted p) := by
  unfold f_hasHalted
  dsimp only
  rw [h.1.ha]
  rcases h.1.hal with e | e
  · rw [e]; exact ⟨by decide, by decide, Or.inl (by decide)⟩
  · have n : ¬ d.1 10 = (-1 : Int32) := fun z => by rw [z] at e; exact absurd e (by decide)
    rw [if_neg n, if_neg (Int32.not_lt.mpr e)]
    exact ⟨⟨fun z => absurd z n10, fun z => absurd e z⟩, rfl, z1⟩
theorem run_loop {sx : SX} {sd : SD} {k : Nat} (hk : k ≤ 200) : ∀ n i (x : SX) (d : SD), i + n = 202 → i ≤ k → RW x d → d.1 0 = (0 : Int32) → FA (fl_X_run_44 sx (nI k) n i x) (fl_D_run_54 sd (nI k) n i d) := by
  intro n
  induction n with
  | zero => intro i x d h1 h2; omega
  | succ n ih =>
    intro i x d h1 h2 h he
    rw [fl_X_run_44, fl_D_run_54]
    by_cases c : nI k ≤ nI i
    · rw [if_pos c, if_pos c]
      exact ⟨he.symm, fun _ => rfl, h⟩
    · rw [if_neg c, if_neg c]
      have hi : i < k := by
        rcases Nat.lt_or_ge i k with q | q
        · exact q
        · exact absurd (nI_le q (by omega)) c
      obtain ⟨k1, k2, k3⟩ := hh_eq h.1
      dsimp only
      by_cases c2 : f_hasHalted x.1 = (0 : Int32)
      · rw [if_pos c2, if_neg (k1.mp c2)]
        obtain ⟨s1, s2⟩ := step_rw h
        exact ih (i + 1) (f_step x.1, x.2) (m_step d) (by omega) (by omega) s1 (s2.trans he)
      · rw [if_neg c2, if_pos (by
          by_cases z : (0 : Int32) ≤ d.1 10
          · exact z
          · exact absurd (k1.mpr z) c2)]
        exact ⟨he.symm, fun _ => rfl, h⟩
theorem in1 (v : Int32) : (m_in v.toInt64 (1 : Int64) (200 : Int64) = (0 : Int32) ↔ (v < (1 : Int32) ∨ ¬ v ≤ (200 : Int32))) ∧ (¬ m_in v.toInt64 (1 : Int64) (200 : Int64) = (0 : Int32) → ∃ k, k ≤ 200 ∧ v = nI k) := by
  rw [in_eq]
  have e : ((1 : Int64) ≤ v.toInt64 ∧ v.toInt64 ≤ (200 : Int64)) ↔ (1 ≤ v.toInt ∧ v.toInt ≤ 200) := by
    rw [Int64.le_iff_toInt_le, Int64.le_iff_toInt_le, Int32.toInt_toInt64, show (1 : Int64).toInt = 1 by decide, show (200 : Int64).toInt = 200 by decide]
  have e2 : (v < (1 : Int32) ∨ ¬ v ≤ (200 : Int32)) ↔ (v.toInt < 1 ∨ 200 < v.toInt) := by
    rw [Int32.lt_iff_toInt_lt, Int32.le_iff_toInt_le, show (1 : Int32).toInt = 1 by decide, show (200 : Int32).toInt = 200 by decide]
    omega
  by_cases c : (1 : Int64) ≤ v.toInt64 ∧ v.toInt64 ≤ (200 : Int64)
  · rw [if_pos c]
    have q := e.mp c
    refine ⟨⟨fun z => absurd z n10, fun z => ?_⟩, fun _ => ⟨v.toInt.toNat, by omega, ?_⟩⟩
    · have := e2.mp z
      omega
    · apply Int32.toInt_inj.mp
      rw [nI_toInt (by omega)]
      omega
  · rw [if_neg c]
    refine ⟨⟨fun _ => e2.mpr ?_, fun _ => rfl⟩, fun z => absurd rfl z⟩
    have q := mt e.mpr c
    omega
theorem run_fa {x : SX} {d : SD} (h : RW x d) (v : Int32) : FA (f_runX x v) (m_run d v) := by
  have h0 := rw_m0 h (0 : Int32)
  obtain ⟨i1, i2⟩ := in1 v
  unfold f_runX m_run
  dsimp only
  generalize hD : ((upd d.1 0 (0 : Int32), d.2.1, d.2.2.1, d.2.2.2.1, d.2.2.2.2.1, d.2.2.2.2.2) : SD) = D at *
  have e0 : D.1 0 = (0 : Int32) := by rw [← hD]; rfl
  by_cases c : m_in v.toInt64 (1 : Int64) (200 : Int64) = (0 : Int32)
  · rw [if_pos c, fails1 e0 (by decide), if_neg n10]
    have f : (if v < (1 : Int32) then ((1 : Int32), (0 : Int32), x) else (if v ≤ (200 : Int32) then (if f_hasHalted x.1 = (0 : Int32) then fl_X_run_44 x v 202 0 x else ((2 : Int32), (0 : Int32), x)) else ((1 : Int32), (0 : Int32), x))) = ((1 : Int32), (0 : Int32), x) := by
      by_cases c1 : v < (1 : Int32)
      · rw [if_pos c1]
      · rw [if_neg c1, if_neg ((i1.mp c).resolve_left c1)]
    rw [f]
    exact ⟨rfl, fun z => absurd z n10, rw_m0 h0 _⟩
  · rw [if_neg c, fails0 e0, if_pos rfl]
    obtain ⟨k, hk, rfl⟩ := i2 c
    have n := mt i1.mpr c
    rw [if_neg (fun z => n (Or.inl z)), if_pos (show nI k ≤ (200 : Int32) from nI_le (b := 200) hk (by omega))]
    obtain ⟨k1, k2, k3⟩ := hh_eq h0.1
    show FA _ (if (m_fails D (if D.1 10 < (0 : Int32) then (0 : Int32) else (1 : Int32)) (2 : Int32)).1 = (0 : Int32) then fl_D_run_54 d (nI k) 202 0 (m_fails D (if D.1 10 < (0 : Int32) then (0 : Int32) else (1 : Int32)) (2 : Int32)).2 else ((0 : Int32), (m_fails D (if D.1 10 < (0 : Int32) then (0 : Int32) else (1 : Int32)) (2 : Int32)).2))
    rw [k2]
    rcases k3 with z | z
    · rw [z, fails0 e0, if_pos rfl, if_pos rfl]
      exact run_loop hk 202 0 x D (by omega) (by omega) h0 e0
    · rw [z, fails1 e0 (by decide), if_neg n10, if_neg n10]
      exact ⟨rfl, fun z => absurd z n20, rw_m0 h0 _⟩
theorem place_fa {x : SX} {d : SD} (h : RW x d) : f_placeX x = (m_place d).1 ∧ RW x (m_place d).2 := ⟨h.2.2.1, rw_m0 h (0 : Int32)⟩
theorem an_eq {p : SP} {d : SD} (h : RP p d) : (if p.1 11 = (0 : Int32) then (0 : Int32) else (1 : Int32)) = m_bit (d.1 20) := by
  rw [h.1.an]; rfl
theorem state_fa {x : SX} {d : SD} (h : RW x d) (k : Int32) : FA (f_stateX x k) (m_state d k) := by
  have h0 := rw_m0 h (0 : Int32)
  obtain ⟨i1, i2⟩ := in32 k (k := 11) (by omega) (K := 11) rfl
  unfold f_stateX m_state
  dsimp only
  generalize hD : ((upd d.1 0 (0 : Int32), d.2.1, d.2.2.1, d.2.2.2.1, d.2.2.2.2.1, d.2.2.2.2.2) : SD) = D at *
  have e0 : D.1 0 = (0 : Int32) := by rw [← hD]; rfl
  have l11 : k ≤ (11 : Int32) ↔ ¬ nI 11 < k := ⟨fun z => Int32.not_lt.mpr z, fun z => Int32.not_lt.mp z⟩
  by_cases c : m_in k.toInt64 (0 : Int64) (11 : Int64) = (0 : Int32)
  · rw [if_pos c, fails1 e0 (by decide), if_neg n10]
    have f : (if k < (0 : Int32) then ((1 : Int32), (0 : Int32), x) else (if k ≤ (11 : Int32) then ((0 : Int32), f_view x.1 k, x) else ((1 : Int32), (0 : Int32), x))) = ((1 : Int32), (0 : Int32), x) := by
      by_cases c1 : k < (0 : Int32)
      · rw [if_pos c1]
      · rw [if_neg c1, if_neg (fun z => l11.mp z ((i1.mp c).resolve_left c1))]
    rw [f]
    exact ⟨rfl, fun z => absurd z n10, rw_m0 h0 _⟩
  · have n := mt i1.mpr c
    rw [if_neg c, fails0 e0, if_pos rfl, if_neg (fun z => n (Or.inl z)), if_pos (l11.mpr (fun z => n (Or.inr z)))]
    have g : ∀ v : Int32, f_view x.1 k = v → FA ((0 : Int32), f_view x.1 k, x) (v, D) := fun v e => ⟨e0.symm, fun _ => e, h0⟩
    unfold f_view at g ⊢
    dsimp only at g ⊢
    have p0 := h0.1.1
    by_cases a0 : k = (0 : Int32)
    · rw [if_pos a0] at g ⊢; rw [if_pos a0]; exact g _ p0.pc
    rw [if_neg a0] at g ⊢; rw [if_neg a0]
    by_cases a1 : k = (1 : Int32)
    · rw [if_pos a1] at g ⊢; rw [if_pos a1]; exact g _ p0.nx
    rw [if_neg a1] at g ⊢; rw [if_neg a1]
    by_cases a2 : k = (2 : Int32)
    · rw [if_pos a2] at g ⊢; rw [if_pos a2]; exact g _ p0.wi
    rw [if_neg a2] at g ⊢; rw [if_neg a2]
    by_cases a3 : k = (3 : Int32)
    · rw [if_pos a3] at g ⊢; rw [if_pos a3]
      exact g _ (by rw [bit_id p0.zn, bit_id p0.zz, bit_id p0.zv, bit_id p0.zc]; exact p0.fl)
    rw [if_neg a3] at g ⊢; rw [if_neg a3]
    by_cases a4 : k = (4 : Int32)
    · rw [if_pos a4] at g ⊢; rw [if_pos a4]; exact g _ p0.y
    rw [if_neg a4] at g ⊢; rw [if_neg a4]
    by_cases a5 : k = (5 : Int32)
    · rw [if_pos a5] at g ⊢; rw [if_pos a5]; exact g _ p0.inv
    rw [if_neg a5] at g ⊢; rw [if_neg a5]
    by_cases a6 : k = (6 : Int32)
    · rw [if_pos a6] at g ⊢; rw [if_pos a6]
      exact g _ (by rw [bit_id p0.zs, bit_id p0.zp, bit_id p0.ze, p0.s, p0.ps, p0.et])
    rw [if_neg a6] at g ⊢; rw [if_neg a6]
    by_cases a7 : k = (7 : Int32)
    · rw [if_pos a7] at g ⊢; rw [if_pos a7]; exact g _ p0.ba
    rw [if_neg a7] at g ⊢; rw [if_neg a7]
    by_cases a8 : k = (8 : Int32)
    · rw [if_pos a8] at g ⊢; rw [if_pos a8]; exact g _ p0.ha
    rw [if_neg a8] at g ⊢; rw [if_neg a8]
    by_cases a9 : k = (9 : Int32)
    · rw [if_pos a9] at g ⊢; rw [if_pos a9]; exact g _ p0.st
    rw [if_neg a9] at g ⊢; rw [if_neg a9]
    by_cases aa : k = (10 : Int32)
    · rw [if_pos aa] at g ⊢; rw [if_pos aa]; exact g _ p0.tr
    rw [if_neg aa] at g ⊢; rw [if_neg aa]
    exact g _ (an_eq h0.1)
theorem mo_fin : ∀ f, f < 16 → nI f = fw (if (nI f &&& (8 : Int32)) ≤ (0 : Int32) then (0 : Int32) else (1 : Int32)) (if (nI f &&& (4 : Int32)) ≤ (0 : Int32) then (0 : Int32) else (1 : Int32)) (if (nI f &&& (2 : Int32)) ≤ (0 : Int32) then (0 : Int32) else (1 : Int32)) (if (nI f &&& (1 : Int32)) ≤ (0 : Int32) then (0 : Int32) else (1 : Int32)) := by decide +kernel
theorem mo_fin2 : ∀ m, m < 8 → (nI m >>> ((2 : Int32) &&& 31) = (if (nI m &&& (4 : Int32)) ≤ (0 : Int32) then (0 : Int32) else (1 : Int32))) ∧ ((nI m >>> ((1 : Int32) &&& 31)) &&& (1 : Int32) = (if (nI m &&& (2 : Int32)) ≤ (0 : Int32) then (0 : Int32) else (1 : Int32))) ∧ (nI m &&& (1 : Int32) = (if (nI m &&& (1 : Int32)) ≤ (0 : Int32) then (0 : Int32) else (1 : Int32))) := by decide +kernel
theorem mode_fa {x : SX} {d : SD} (h : RW x d) (f y i b m : Int32) : FA (f_modeX x f y i b m) (m_mode d f y i b m) := by
  have h0 := rw_m0 h (0 : Int32)
  obtain ⟨i1, j1⟩ := in32 f (k := 15) (by omega) (K := 15) rfl
  obtain ⟨i2, j2⟩ := in32 i (k := 15) (by omega) (K := 15) rfl
  obtain ⟨i3, j3⟩ := in32 m (k := 7) (by omega) (K := 7) rfl
  unfold f_modeX m_mode
  dsimp only
  generalize hD : ((upd d.1 0 (0 : Int32), d.2.1, d.2.2.1, d.2.2.2.1, d.2.2.2.2.1, d.2.2.2.2.2) : SD) = D at *
  have e0 : D.1 0 = (0 : Int32) := by rw [← hD]; rfl
  have l7 : m ≤ (7 : Int32) ↔ ¬ nI 7 < m := ⟨fun z => Int32.not_lt.mpr z, fun z => Int32.not_lt.mp z⟩
  have bad : ∀ T : Int32 × SD, FA ((1 : Int32), (0 : Int32), x) (if (m_fails D (1 : Int32) (1 : Int32)).1 = (0 : Int32) then T else ((0 : Int32), (m_fails D (1 : Int32) (1 : Int32)).2)) := by
    intro T
    rw [fails1 e0 (by decide), if_neg n10]
    exact ⟨rfl, fun z => absurd z n10, rw_m0 h0 _⟩
  by_cases c1 : m_in f.toInt64 (0 : Int64) (15 : Int64) = (0 : Int32)
  · rw [if_pos c1]
    by_cases k1 : f < (0 : Int32)
    · rw [if_pos k1]; exact bad _
    · rw [if_neg k1, if_pos (show (15 : Int32) < f from (i1.mp c1).resolve_left k1)]; exact bad _
  have n1 := mt i1.mpr c1
  rw [if_neg c1, if_neg (fun z => n1 (Or.inl z)), if_neg (show ¬ (15 : Int32) < f from fun z => n1 (Or.inr z))]
  by_cases c2 : m_in i.toInt64 (0 : Int64) (15 : Int64) = (0 : Int32)
  · rw [if_pos c2]
    by_cases k1 : i < (0 : Int32)
    · rw [if_pos k1]; exact bad _
    · rw [if_neg k1, if_pos (show (15 : Int32) < i from (i2.mp c2).resolve_left k1)]; exact bad _
  have n2 := mt i2.mpr c2
  rw [if_neg c2, if_neg (fun z => n2 (Or.inl z)), if_neg (show ¬ (15 : Int32) < i from fun z => n2 (Or.inr z))]
  by_cases c3 : m_in m.toInt64 (0 : Int64) (7 : Int64) = (0 : Int32)
  · rw [if_pos c3]
    by_cases k1 : m < (0 : Int32)
    · rw [if_pos k1]; exact bad _
    · rw [if_neg k1, if_neg (fun z => l7.mp z ((i3.mp c3).resolve_left k1))]; exact bad _
  have n3 := mt i3.mpr c3
  rw [if_neg c3, if_neg (fun z => n3 (Or.inl z)), if_pos (l7.mpr (fun z => n3 (Or.inr z))), fails0 e0, if_pos rfl]
  obtain ⟨F, hF, rfl⟩ := vp_in_of (j1 c1) (by omega)
  obtain ⟨M, hM, rfl⟩ := vp_in_of (j3 c3) (by omega)
  obtain ⟨m1, m2, m3⟩ := mo_fin2 M hM
  have p0 := h0.1.1
  have q := ((((((p0.sFl (mo_fin F hF) zB_01 zB_01 zB_01 zB_01).sY y).sInv i).sBa (b &&& (-4096 : Int32))).sS (if (nI M &&& (4 : Int32)) ≤ (0 : Int32) then (0 : Int32) else (1 : Int32)) zB_01).sPs (if (nI M &&& (2 : Int32)) ≤ (0 : Int32) then (0 : Int32) else (1 : Int32)) zB_01).sEt (nI M &&& (1 : Int32)) (and1_B _)
  unfold f_adopt f_changeMode
  dsimp only
  rw [m1, m2, ← m3]
  exact ⟨e0.symm, fun _ => p0.wi, ⟨⟨q, h0.1.2.1, h0.1.2.2⟩, h0.2⟩⟩
def oct (W k : Nat) : Nat := W / 2 ^ (8 * k) % 256
theorem qk8 {k : Nat} (hk : k < 8) : (8 : Int32) * nI k = nI (8 * k) := by
  have h : ∀ k, k < 8 → (8 : Int32) * nI k = nI (8 * k) := by decide +kernel
  exact h k hk
theorem oc_f {W k : Nat} (hW : W < 2 ^ 64) (hk : k < 8) : f_octetOf (lN W) (nI k) = nI (oct W k) := by
  unfold f_octetOf oct
  rw [qk8 hk, zlushr_lN hW (by omega), lN_i32, pk_and _ (m := 255) 8 (by decide)]
  congr 1
  show (BitVec.ofNat 32 _).toNat % 256 = _
  rw [BitVec.toNat_ofNat]
  omega
theorem oc_m {W k : Nat} (hW : W < 2 ^ 64) (hk : k < 8) : (zlushr (lN W) ((8 : Int32) * nI k) &&& (255 : Int64)).toInt32 = nI (oct W k) := by
  unfold oct
  have hq : W / 2 ^ (8 * k) ≤ W := Nat.div_le_self _ _
  have e := wb_mask (n := W / 2 ^ (8 * k)) (k := 8) (by omega) (by omega)
  rw [qk8 hk, zlushr_lN hW (by omega), show (255 : Int64) = lN (2 ^ 8 - 1) from rfl, e, lN_i32]
theorem oct_lt (W k : Nat) : oct W k < 256 := Nat.mod_lt _ (by decide)
theorem o_fin : ∀ o, o < 256 → ((nI o = (0 : Int32) ↔ o = 0) ∧ (nI o < (32 : Int32) ↔ o < 32) ∧ (nI o ≤ (126 : Int32) ↔ o ≤ 126) ∧ vp_nar .char (zchar (nI o)) = nI o) := by decide +kernel
theorem o_in {o : Nat} (ho : o < 256) : m_in (nI o).toInt64 (32 : Int64) (126 : Int64) = (0 : Int32) ↔ ¬ (32 ≤ o ∧ o ≤ 126) := by
  rw [in_eq]
  have e : ((32 : Int64) ≤ (nI o).toInt64 ∧ (nI o).toInt64 ≤ (126 : Int64)) ↔ (32 ≤ o ∧ o ≤ 126) := by
    rw [Int64.le_iff_toInt_le, Int64.le_iff_toInt_le, Int32.toInt_toInt64, nI_toInt (by omega), show (32 : Int64).toInt = 32 by decide, show (126 : Int64).toInt = 126 by decide]
    omega
  by_cases c : (32 : Int64) ≤ (nI o).toInt64 ∧ (nI o).toInt64 ≤ (126 : Int64)
  · rw [if_pos c]
    exact ⟨fun z => absurd z n10, fun z => absurd (e.mp c) z⟩
  · rw [if_neg c]
    exact ⟨fun _ z => c (e.mpr z), fun _ => rfl⟩
theorem cnt_loop {d : SD} {W : Nat} (hW : W < 2 ^ 64) : ∀ n i (u : SD), i + n = 9 → i ≤ 8 → u.1 0 = (0 : Int32) →
    (∃ c, i ≤ c ∧ c ≤ 8 ∧ fl_A_lettersIn_2 (lN W) n i = nI c ∧ fl_D_letters_10 d (lN W) (n + 1) i i u = fg_D_letters_86 d (lN W) c u ∧ ∀ k, i ≤ k → k < c → 32 ≤ oct W k ∧ oct W k ≤ 126) ∨
    (fl_A_lettersIn_2 (lN W) n i = (0 : Int32) ∧ fl_D_letters_10 d (lN W) (n + 1) i i u = ((0 : Int32), (upd u.1 0 (1 : Int32), u.2.1, u.2.2.1, u.2.2.2.1, u.2.2.2.2.1, u.2.2.2.2.2))) := by
  intro n
  induction n with
  | zero => intro i u h1 h2; omega
  | succ n ih =>
    intro i u h1 h2 he
    rw [fl_A_lettersIn_2, fl_D_letters_10]
    by_cases c8 : i = 8
    · subst c8
      rw [if_pos (by decide +kernel), if_pos (by decide +kernel)]
      exact Or.inl ⟨8, by omega, by omega, rfl, rfl, fun k h1 h2 => by omega⟩
    · have hi : i < 8 := by omega
      rw [if_neg (show ¬ (8 : Int32) ≤ nI i from nI_ge (b := 8) hi (by omega)), if_neg (show ¬ (8 : Int32) ≤ nI i from nI_ge (b := 8) hi (by omega)), if_pos rfl]
      dsimp only
      rw [oc_f hW hi, oc_m hW hi]
      have ol := oct_lt W i
      obtain ⟨f1, f2, f3, -⟩ := o_fin (oct W i) ol
      by_cases z : oct W i = 0
      · rw [if_pos (f1.mpr z)]
        simp only [if_pos (f1.mpr z)]
        rw [fails0 he, if_pos rfl]
        refine Or.inl ⟨i, by omega, by omega, rfl, ?_, fun k h1 h2 => by omega⟩
        rw [fl_D_letters_10]
        obtain ⟨m, rfl⟩ : ∃ m, n = m := ⟨n, rfl⟩
        by_cases e8 : i + 1 = 8
        · rw [e8, if_pos (by decide +kernel)]
        · rw [if_neg (show ¬ (8 : Int32) ≤ nI (i + 1) from nI_ge (b := 8) (by omega) (by omega)), if_neg (fun q => by
            have := congrArg Int32.toInt q
            rw [nI_toInt (by omega), nI_toInt (by omega)] at this
            omega)]
      · have nz : ¬ nI (oct W i) = (0 : Int32) := fun q => z (f1.mp q)
        rw [if_neg nz]
        simp only [if_neg nz]
        by_cases g : 32 ≤ oct W i ∧ oct W i ≤ 126
        · rw [if_neg (fun q => by have := f2.mp q; omega), if_pos (f3.mpr g.2), if_neg (fun q => (o_in ol).mp q g), fails0 he, if_pos rfl]
          rcases ih (i + 1) u (by omega) (by omega) he with ⟨c, k1, k2, k3, k4, k5⟩ | ⟨k1, k2⟩
          · refine Or.inl ⟨c, by omega, k2, k3, k4, fun k q1 q2 => ?_⟩
            by_cases e : k = i
            · rw [e]; exact g
            · exact k5 k (by omega) q2
          · exact Or.inr ⟨k1, k2⟩
        · rw [if_pos ((o_in ol).mpr g), fails1 he (by decide), if_neg n10]
          refine Or.inr ⟨?_, rfl⟩
          by_cases q : nI (oct W i) < (32 : Int32)
          · rw [if_pos q]
          · rw [if_neg q, if_neg (fun r => g ⟨by have := mt f2.mpr q; omega, f3.mp r⟩)]
theorem app_f {s : SA} {W c L : Nat} (hW : W < 2 ^ 64) (hc : c ≤ 8) (hL : L + c ≤ 40) : ∀ n i (u : SA), i + n = 42 → i ≤ c → u.1 0 = nI (L + i) →
    (fl_A_append_3 s (lN W) (nI c) n i u).1 0 = nI (L + c) ∧ (∀ j, j ≠ 0 → (fl_A_append_3 s (lN W) (nI c) n i u).1 j = u.1 j) ∧ (∀ j, (fl_A_append_3 s (lN W) (nI c) n i u).2 j = (if L + i ≤ j ∧ j < L + c then nI (oct W (j - L)) else u.2 j)) := by
  intro n
  induction n with
  | zero => intro i u h1 h2; omega
  | succ n ih =>
    intro i u h1 h2 he
    rw [fl_A_append_3]
    by_cases e : i = c
    · subst e
      rw [if_pos (show nI i ≤ nI i from nI_le (Nat.le_refl _) (by omega))]
      exact ⟨he, fun j _ => rfl, fun j => by rw [if_neg (by omega)]⟩
    · have hi : i < c := by omega
      rw [if_neg (nI_ge hi (by omega)), oc_f hW (by omega), (o_fin _ (oct_lt W i)).2.2.2, he, nI_clamp (by omega), show nI (L + i) + (1 : Int32) = nI (L + (i + 1)) from (nI_succ (L + i)).symm]
      obtain ⟨q1, q2, q3⟩ := ih (i + 1) (upd u.1 0 (nI (L + (i + 1))), upd u.2 (L + i) (nI (oct W i))) (by omega) (by omega) rfl
      refine ⟨q1, fun j hj => by rw [q2 j hj]; exact upd_ne hj, fun j => ?_⟩
      rw [q3 j]
      by_cases a : L + (i + 1) ≤ j ∧ j < L + c
      · rw [if_pos a, if_pos (by omega)]
      · rw [if_neg a]
        by_cases b : j = L + i
        · rw [if_pos (by omega)]
          show upd u.2 (L + i) (nI (oct W i)) j = _
          rw [upd_eq b, show j - L = i by omega]
        · rw [if_neg (by omega)]
          exact upd_ne b
theorem app_m {s : SD} {W c L : Nat} (hW : W < 2 ^ 64) (hc : c ≤ 8) (hL : L + c ≤ 40) : ∀ n i (u : SD), i + n = 10 → i ≤ c → u.1 1 = nI L →
    ∃ ln, fl_D_letters_132 s (lN W) n c i u = (nI (L + c), (upd u.1 1 (nI (L + c)), ln, u.2.2.1, u.2.2.2.1, u.2.2.2.2.1, u.2.2.2.2.2)) ∧ ∀ j, ln j = (if L + i ≤ j ∧ j < L + c then nI (oct W (j - L)) else u.2.1 j) := by
  intro n
  induction n with
  | zero => intro i u h1 h2; omega
  | succ n ih =>
    intro i u h1 h2 he
    rw [fl_D_letters_132]
    by_cases e : i = c
    · subst e
      rw [if_pos (show nI i ≤ nI i from nI_le (Nat.le_refl _) (by omega)), he, qnI_add]
      exact ⟨_, rfl, fun j => by rw [if_neg (by omega)]⟩
    · have hi : i < c := by omega
      rw [if_neg (nI_ge hi (by omega)), oc_m hW (by omega), he, qnI_add, nI_clamp (by omega)]
      obtain ⟨ln, q1, q3⟩ := ih (i + 1) (u.1, upd u.2.1 (L + i) (nI (oct W i)), u.2.2.1, u.2.2.2.1, u.2.2.2.2.1, u.2.2.2.2.2) (by omega) (by omega) he
      refine ⟨ln, q1, fun j => ?_⟩
      rw [q3 j]
      by_cases a : L + (i + 1) ≤ j ∧ j < L + c
      · rw [if_pos a, if_pos (by omega)]
      · rw [if_neg a]
        by_cases b : j = L + i
        · rw [if_pos (by omega)]
          show upd u.2.1 (L + i) (nI (oct W i)) j = _
          rw [upd_eq b, show j - L = i by omega]
        · rw [if_neg (by omega)]
          exact upd_ne b
theorem letters_fa {x : SX} {d : SD} (h : RW x d) (w : Int64) : FA (f_lettersX x w) (m_letters d w) := by
  have h0 := rw_m0 h (0 : Int32)
  obtain ⟨W, hW, rfl⟩ := wb_of w
  unfold f_lettersX m_letters
  dsimp only
  generalize hD : ((upd d.1 0 (0 : Int32), d.2.1, d.2.2.1, d.2.2.2.1, d.2.2.2.2.1, d.2.2.2.2.2) : SD) = D at *
  have e0 : D.1 0 = (0 : Int32) := by rw [← hD]; rfl
  rcases cnt_loop (d := d) hW 9 0 D (by omega) (by omega) e0 with ⟨c, k1, k2, k3, k4, k5⟩ | ⟨k1, k2⟩
  · rw [k4, show f_lettersIn (lN W) = nI c from k3]
    unfold fg_D_letters_86
    dsimp only
    by_cases z : c = 0
    · subst z
      rw [if_pos (show nI 0 = (0 : Int32) from rfl), if_pos (show nI 0 = (0 : Int32) from rfl), fails1 e0 (by decide), if_neg n10]
      exact ⟨rfl, fun z => absurd z n10, rw_m0 h0 _⟩
    · have nz : ¬ nI c = (0 : Int32) := nI_ne0 (by omega) (by omega)
      obtain ⟨a1, a2, a3, L, hL, eL, hl⟩ := h0.2
      have eC : (f_hasRoomFor x.2 (nI c) = (0 : Int32) ↔ ¬ L + c ≤ 40) := by
        unfold f_hasRoomFor
        dsimp only
        rw [a1, eL, qnI_add]
        by_cases q : L + c ≤ 40
        · rw [if_neg (show ¬ (40 : Int32) < nI (L + c) from nI_nlt (a := 40) q (by omega))]
          exact ⟨fun r => absurd r n10, fun r => absurd q r⟩
        · rw [if_pos (show (40 : Int32) < nI (L + c) from nI_lt (a := 40) (by omega) (by omega))]
          exact ⟨fun _ => q, fun _ => rfl⟩
      rw [if_neg nz, if_neg nz, fails0 e0, if_pos rfl]
      show FA _ (if (m_fails D (if (D.1 1 + nI c) ≤ (40 : Int32) then (0 : Int32) else (1 : Int32)) (2 : Int32)).1 = (0 : Int32) then fl_D_letters_132 d (lN W) 10 c 0 (m_fails D (if (D.1 1 + nI c) ≤ (40 : Int32) then (0 : Int32) else (1 : Int32)) (2 : Int32)).2 else ((0 : Int32), (m_fails D (if (D.1 1 + nI c) ≤ (40 : Int32) then (0 : Int32) else (1 : Int32)) (2 : Int32)).2))
      rw [eL, qnI_add]
      by_cases q : L + c ≤ 40
      · rw [if_neg (fun r => eC.mp r q), if_pos (show nI (L + c) ≤ (40 : Int32) from nI_le (b := 40) q (by omega)), fails0 e0, if_pos rfl]
        obtain ⟨ln, m1, m2⟩ := app_m (s := d) hW k2 q 10 0 D (by omega) (by omega) eL
        rw [show fl_D_letters_132 d (lN W) 10 c 0 ((0 : Int32), D).2 = _ from m1]
        obtain ⟨f1, f2, f3⟩ := app_f (s := x.2) hW k2 q 42 0 x.2 (by omega) (by omega) (by rw [Nat.add_zero, a1, eL])
        refine ⟨e0.symm, fun _ => f1, ⟨⟨h0.1.1.m1 _, h0.1.2.1, h0.1.2.2⟩, ?_⟩⟩
        refine ⟨f1, (f2 2 (by decide)).trans a2, a3, L + c, q, rfl, fun j hj => ?_⟩
        show (fl_A_append_3 x.2 (lN W) (nI c) 42 0 x.2).2 j = ln j ∧ ∃ o, 32 ≤ o ∧ o ≤ 126 ∧ (fl_A_append_3 x.2 (lN W) (nI c) 42 0 x.2).2 j = nI o
        rw [f3 j, m2 j]
        by_cases r : L + 0 ≤ j ∧ j < L + c
        · rw [if_pos r, if_pos r]
          exact ⟨rfl, oct W (j - L), (k5 (j - L) (by omega) (by omega)).1, (k5 (j - L) (by omega) (by omega)).2, rfl⟩
        · rw [if_neg r, if_neg r]
          exact hl j (by omega)
      · rw [if_pos (eC.mpr q), if_neg (show ¬ nI (L + c) ≤ (40 : Int32) from nI_ge (a := 40) (by omega) (by omega)), fails1 e0 (by decide), if_neg n10]
        exact ⟨rfl, fun z => absurd z n20, rw_m0 h0 _⟩
  · rw [k2, show f_lettersIn (lN W) = (0 : Int32) from k1, if_pos rfl]
    exact ⟨rfl, fun z => absurd z n10, rw_m0 h0 _⟩
