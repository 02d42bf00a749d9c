def mwS (d : SD) (p0 p1 p2 x_12 x_8 : Int32) : SD := (let x_37 := (if x_8 = (0 : Int32) then x_12 else (4 : Int32)); (let r_40 := m_take d p2 x_37; (let r_41 := m_get d p0 (d.1 6); (if p1 = (3 : Int32) then (let r_44 := m_take d (p2 + (4 : Int32)) (4 : Int32); (let u_45 := m_gives d p0 (d.1 6) r_40; (let u_46 := m_gives u_45 (p0 + (1 : Int32)) (u_45.1 6) r_44; u_46))) else (if p1 = (4 : Int32) then (let u_48 := m_store d p2 x_12 r_41; u_48) else (if p1 = (5 : Int32) then (let u_50 := m_store d p2 x_12 r_41; u_50) else (if p1 = (6 : Int32) then (let u_52 := m_store d p2 x_12 r_41; u_52) else (if p1 = (7 : Int32) then (let u_54 := m_store d p2 (4 : Int32) r_41; (let r_55 := m_get u_54 (p0 + (1 : Int32)) (u_54.1 6); (let u_56 := m_store u_54 (p2 + (4 : Int32)) (4 : Int32) r_55; u_56))) else (if p1 = (9 : Int32) then (let u_58 := m_gives d p0 (d.1 6) (zbyte r_40); u_58) else (if p1 = (10 : Int32) then (let u_60 := m_gives d p0 (d.1 6) (zshort r_40); u_60) else (if p1 = (13 : Int32) then (let u_62 := m_store d p2 (1 : Int32) (255 : Int32); (let u_63 := m_gives u_62 p0 (u_62.1 6) r_40; u_63)) else (if p1 = (15 : Int32) then (let u_65 := m_store d p2 (4 : Int32) r_41; (let u_66 := m_gives u_65 p0 (u_65.1 6) r_40; u_66)) else (let u_67 := m_gives d p0 (d.1 6) r_40; u_67)))))))))))))
theorem mw_n {d : SD} (hd : d.1 21 = (-1 : Int32)) (p0 p1 p2 : Int32) {x_1 x_8 x_12 x_21 x_27 x_32 : Int32}
    (e1 : (if p1 < (8 : Int32) then (1 : Int32) else (if p1 = (9 : Int32) then (1 : Int32) else (if p1 = (10 : Int32) then (1 : Int32) else (if p1 = (13 : Int32) then (1 : Int32) else (if p1 = (15 : Int32) then (1 : Int32) else (0 : Int32)))))) = x_1)
    (e8 : (if p1 = (3 : Int32) then (1 : Int32) else (if p1 = (7 : Int32) then (1 : Int32) else (0 : Int32))) = x_8)
    (e12 : (if x_8 = (0 : Int32) then (if p1 = (0 : Int32) then (4 : Int32) else (if p1 = (4 : Int32) then (4 : Int32) else (if p1 = (15 : Int32) then (4 : Int32) else (if p1 = (2 : Int32) then (2 : Int32) else (if p1 = (6 : Int32) then (2 : Int32) else (if p1 = (10 : Int32) then (2 : Int32) else (1 : Int32))))))) else (8 : Int32)) = x_12)
    (e21 : (if x_1 = (0 : Int32) then (1 : Int32) else (if x_8 = (0 : Int32) then (0 : Int32) else (if (p0 &&& (1 : Int32)) = (1 : Int32) then (1 : Int32) else (0 : Int32)))) = x_21)
    (e27 : (if (p2 &&& (x_12 - (1 : Int32))) = (0 : Int32) then (0 : Int32) else (1 : Int32)) = x_27)
    (e32 : (if m_in p2.toInt64 (0 : Int64) (((1024 : Int32) - x_12).toInt64) = (0 : Int32) then (1 : Int32) else (0 : Int32)) = x_32) :
    (x_21 = (1 : Int32) → m_memoryWord d p0 p1 p2 = (upd d.1 21 (2 : Int32), d.2.1, d.2.2.1, d.2.2.2.1, d.2.2.2.2.1, d.2.2.2.2.2)) ∧
    (x_21 = (0 : Int32) → x_27 = (1 : Int32) → m_memoryWord d p0 p1 p2 = (upd d.1 21 (7 : Int32), d.2.1, d.2.2.1, d.2.2.2.1, d.2.2.2.2.1, d.2.2.2.2.2)) ∧
    (x_21 = (0 : Int32) → x_27 = (0 : Int32) → x_32 = (1 : Int32) → m_memoryWord d p0 p1 p2 = (upd d.1 21 (9 : Int32), d.2.1, d.2.2.1, d.2.2.2.1, d.2.2.2.2.1, d.2.2.2.2.2)) ∧
    (x_21 = (0 : Int32) → x_27 = (0 : Int32) → x_32 = (0 : Int32) → m_memoryWord d p0 p1 p2 = mwS d p0 p1 p2 x_12 x_8) := by
  refine ⟨fun h => ?_, fun h h2 => ?_, fun h h2 h3 => ?_, fun h h2 h3 => ?_⟩
  · unfold m_memoryWord
    dsimp only
    rw [e1, e8, e12, e21, h, traps1 hd]
    have q : ∀ x t : Int32, m_traps (upd d.1 21 (2 : Int32), d.2.1, d.2.2.1, d.2.2.2.1, d.2.2.2.2.1, d.2.2.2.2.2) x t = (upd d.1 21 (2 : Int32), d.2.1, d.2.2.1, d.2.2.2.1, d.2.2.2.2.1, d.2.2.2.2.2) := fun x t => trapsB (by show (0 : Int32) ≤ 2; decide) x
    rw [q, q]
    exact if_neg (by show ¬ (2 : Int32) < 0; decide)
  · unfold m_memoryWord
    dsimp only
    rw [e1, e8, e12, e21, h, traps0, e27, h2, traps1 hd]
    have q : ∀ x t : Int32, m_traps (upd d.1 21 (7 : Int32), d.2.1, d.2.2.1, d.2.2.2.1, d.2.2.2.2.1, d.2.2.2.2.2) x t = (upd d.1 21 (7 : Int32), d.2.1, d.2.2.1, d.2.2.2.1, d.2.2.2.2.1, d.2.2.2.2.2) := fun x t => trapsB (by show (0 : Int32) ≤ 7; decide) x
    rw [q]
    exact if_neg (by show ¬ (7 : Int32) < 0; decide)
  · unfold m_memoryWord
    dsimp only
    rw [e1, e8, e12, e21, h, traps0, e27, h2, traps0, e32, h3, traps1 hd]
    exact if_neg (by show ¬ (9 : Int32) < 0; decide)
  · unfold m_memoryWord
    dsimp only
    rw [e1, e8, e12, e21, h, traps0, e27, h2, traps0, e32, h3, traps0, if_pos (m21l hd)]
    rfl
/-- the sizes by the number of the word -/
def okM (j : Nat) : Nat := if j = 0 ∨ j = 4 ∨ j = 15 then 4 else if j = 1 ∨ j = 5 ∨ j = 9 ∨ j = 13 then 1 else if j = 2 ∨ j = 6 ∨ j = 10 then 2 else if j = 3 ∨ j = 7 then 8 else 0
theorem sz_fin : ∀ j, j < 64 → (if (16 : Int32) ≤ nI j then (0 : Int32) else octN (nI j).toNatClampNeg) = nI (okM j) ∧
    ((if nI j < (8 : Int32) then (1 : Int32) else (if nI j = (9 : Int32) then (1 : Int32) else (if nI j = (10 : Int32) then (1 : Int32) else (if nI j = (13 : Int32) then (1 : Int32) else (if nI j = (15 : Int32) then (1 : Int32) else (0 : Int32)))))) = (if okM j = 0 then (0 : Int32) else (1 : Int32))) ∧
    ((if nI j = (3 : Int32) then (1 : Int32) else (if nI j = (7 : Int32) then (1 : Int32) else (0 : Int32))) = (if okM j = 8 then (1 : Int32) else (0 : Int32))) ∧
    (okM j = 0 ∨ (if (if okM j = 8 then (1 : Int32) else (0 : Int32)) = (0 : Int32) then (if nI j = (0 : Int32) then (4 : Int32) else (if nI j = (4 : Int32) then (4 : Int32) else (if nI j = (15 : Int32) then (4 : Int32) else (if nI j = (2 : Int32) then (2 : Int32) else (if nI j = (6 : Int32) then (2 : Int32) else (if nI j = (10 : Int32) then (2 : Int32) else (1 : Int32))))))) else (8 : Int32)) = nI (okM j)) := by decide +kernel
theorem hold_eq (a : Int32) {s : Nat} (hs : s ≤ 8) : (f_holds a (nI s) = (0 : Int32) ↔ (if m_in a.toInt64 (0 : Int64) (((1024 : Int32) - nI s).toInt64) = (0 : Int32) then (1 : Int32) else (0 : Int32)) = (1 : Int32)) ∧ (¬ f_holds a (nI s) = (0 : Int32) → ∃ A, A + s ≤ 1024 ∧ a = nI A) := by
  have e : (1024 : Int32) - nI s = nI (1024 - s) := by
    have f : ∀ s, s < 9 → (1024 : Int32) - nI s = nI (1024 - s) := by decide +kernel
    exact f s (by omega)
  have t0 : (0 : Int64).toInt = 0 := by decide
  have qt1 : (nI (1024 - s)).toInt = ((1024 - s : Nat) : Int) := nI_toInt (by omega)
  have z32 : (0 : Int32).toInt = 0 := by decide
  unfold f_holds
  dsimp only
  rw [e, in_eq]
  have k : ((0 : Int64) ≤ a.toInt64 ∧ a.toInt64 ≤ (nI (1024 - s)).toInt64) ↔ (0 ≤ a.toInt ∧ a.toInt ≤ ((1024 - s : Nat) : Int)) := by
    rw [Int64.le_iff_toInt_le, Int64.le_iff_toInt_le, Int32.toInt_toInt64, Int32.toInt_toInt64, t0, qt1]
  by_cases c1 : a < (0 : Int32)
  · have q : a.toInt < 0 := by rw [Int32.lt_iff_toInt_lt, z32] at c1; exact c1
    rw [if_pos c1, if_neg (show ¬ ((0 : Int64) ≤ a.toInt64 ∧ a.toInt64 ≤ (nI (1024 - s)).toInt64) from fun z => by have := (k.mp z).1; omega), if_pos rfl]
    exact ⟨⟨fun _ => rfl, fun _ => rfl⟩, fun z => absurd rfl z⟩
  · have q : 0 ≤ a.toInt := by rw [Int32.lt_iff_toInt_lt, z32] at c1; omega
    rw [if_neg c1]
    by_cases c2 : nI (1024 - s) < a
    · have q2 : ((1024 - s : Nat) : Int) < a.toInt := by rw [Int32.lt_iff_toInt_lt, qt1] at c2; exact c2
      rw [if_pos c2, if_neg (show ¬ ((0 : Int64) ≤ a.toInt64 ∧ a.toInt64 ≤ (nI (1024 - s)).toInt64) from fun z => by have := (k.mp z).2; omega), if_pos rfl]
      exact ⟨⟨fun _ => rfl, fun _ => rfl⟩, fun z => absurd rfl z⟩
    · have q2 : a.toInt ≤ ((1024 - s : Nat) : Int) := by rw [Int32.lt_iff_toInt_lt, qt1] at c2; omega
      rw [if_neg c2, if_pos (k.mpr ⟨q, q2⟩), if_neg (by decide)]
      refine ⟨⟨fun z => absurd z (by decide), fun z => absurd z (by decide)⟩, fun _ => ⟨a.toInt.toNat, by omega, ?_⟩⟩
      apply Int32.toInt_inj.mp
      rw [nI_toInt (by omega)]
      omega
theorem al_fin {A s : Nat} (hA : A < 2 ^ 31) (k : Nat) (hs : s = 2 ^ k) (hk : k ≤ 3) : (nI A &&& (nI s - (1 : Int32))) = nI (A % s) := by
  subst hs
  have f : ∀ k, k < 4 → (nI (2 ^ k) - (1 : Int32)).toBitVec.toNat = 2 ^ k - 1 := by decide +kernel
  exact pk_andN (by omega) k (f k (by omega))
theorem rd1 {n : Int32} (hn : vp_in n 32) (c : ¬ (n &&& (1 : Int32)) = (1 : Int32)) : vp_in (n + (1 : Int32)) 32 := by
  obtain ⟨j, hj, rfl⟩ := vp_in_of hn (by omega)
  have f : ∀ j, j < 32 → ¬ (nI j &&& (1 : Int32)) = (1 : Int32) → j + 1 < 32 := by decide +kernel
  have := f j hj c
  rw [show nI j + (1 : Int32) = nI (j + 1) from (nI_succ j).symm]
  exact vp_in_nI this (by omega)
theorem stv_eq {p : SP} {d : SD} (h : RX p d) {n : Int32} (hn : vp_in n 32) : f_rread p.2.2.1 (p.1 0) n = m_get d n (d.1 6) := rd_eq h.1 hn
/-- what a word of memory does once no trap is there: by its number -/
theorem mv_0 {p : SP} {d : SD} (h : RX p d) {rd : Int32} (hr : vp_in rd 32) {A : Nat} (hA : A + 4 ≤ 1024) (hd : A % 4 = 0) : RX (f_move p (nI 0) rd (nI A)) (mwS d rd (nI 0) (nI A) (nI 4) (0 : Int32)) := by
  show RX (p.1, p.2.1, f_rwrite p.2.2.1 (p.1 0) rd (f_load p.2.2.2 (nI A) (nI 4)), p.2.2.2) (m_gives d rd (d.1 6) (m_take d (nI A) (nI 4)))
  rw [ld_eq h (n := 4) (by omega) (by omega) hA]
  exact wr_rx h hr _
theorem mv_1 {p : SP} {d : SD} (h : RX p d) {rd : Int32} (hr : vp_in rd 32) {A : Nat} (hA : A + 1 ≤ 1024) (hd : A % 1 = 0) : RX (f_move p (nI 1) rd (nI A)) (mwS d rd (nI 1) (nI A) (nI 1) (0 : Int32)) := by
  show RX (p.1, p.2.1, f_rwrite p.2.2.1 (p.1 0) rd (f_load p.2.2.2 (nI A) (nI 1)), p.2.2.2) (m_gives d rd (d.1 6) (m_take d (nI A) (nI 1)))
  rw [ld_eq h (n := 1) (by omega) (by omega) hA]
  exact wr_rx h hr _
theorem mv_2 {p : SP} {d : SD} (h : RX p d) {rd : Int32} (hr : vp_in rd 32) {A : Nat} (hA : A + 2 ≤ 1024) (hd : A % 2 = 0) : RX (f_move p (nI 2) rd (nI A)) (mwS d rd (nI 2) (nI A) (nI 2) (0 : Int32)) := by
  show RX (p.1, p.2.1, f_rwrite p.2.2.1 (p.1 0) rd (f_load p.2.2.2 (nI A) (nI 2)), p.2.2.2) (m_gives d rd (d.1 6) (m_take d (nI A) (nI 2)))
  rw [ld_eq h (n := 2) (by omega) (by omega) hA]
  exact wr_rx h hr _
theorem mv_3 {p : SP} {d : SD} (h : RX p d) {rd : Int32} (hr : vp_in rd 32) {A : Nat} (hA : A + 8 ≤ 1024) (hd : A % 8 = 0) (h8 : ¬ (rd &&& (1 : Int32)) = (1 : Int32)) : RX (f_move p (nI 3) rd (nI A)) (mwS d rd (nI 3) (nI A) (nI 8) (1 : Int32)) := by
  have e4 : nI A + (4 : Int32) = nI (A + 4) := qnI_add A 4
  show RX (f_loadTwo p rd (nI A)) (m_gives (m_gives d rd (d.1 6) (m_take d (nI A) (nI 4))) (rd + (1 : Int32)) ((m_gives d rd (d.1 6) (m_take d (nI A) (nI 4))).1 6) (m_take d (nI A + (4 : Int32)) (nI 4)))
  unfold f_loadTwo
  dsimp only
  rw [e4, show f_load p.2.2.2 (nI A) (4 : Int32) = m_take d (nI A) (nI 4) from ld_eq h (n := 4) (by omega) (by omega) (by omega), show f_load p.2.2.2 (nI (A + 4)) (4 : Int32) = m_take d (nI (A + 4)) (nI 4) from ld_eq h (n := 4) (by omega) (by omega) (by omega)]
  exact wr_rx (wr_rx h hr _) (rd1 hr h8) _
theorem mv_4 {p : SP} {d : SD} (h : RX p d) {rd : Int32} (hr : vp_in rd 32) {A : Nat} (hA : A + 4 ≤ 1024) (hd : A % 4 = 0) : RX (f_move p (nI 4) rd (nI A)) (mwS d rd (nI 4) (nI A) (nI 4) (0 : Int32)) := by
  unfold f_move mwS
  dsimp only
  rw [if_neg (show ¬ nI 4 = (0 : Int32) from by decide), if_neg (show ¬ nI 4 = (1 : Int32) from by decide), if_neg (show ¬ nI 4 = (2 : Int32) from by decide), if_neg (show ¬ nI 4 = (3 : Int32) from by decide), if_pos (show nI 4 = (4 : Int32) from by decide), if_neg (show ¬ nI 4 = (3 : Int32) from by decide), if_pos (show nI 4 = (4 : Int32) from by decide)]
  rw [stv_eq h hr]
  exact st_rx (n := 4) h _ (by omega) (by omega) hA
theorem mv_5 {p : SP} {d : SD} (h : RX p d) {rd : Int32} (hr : vp_in rd 32) {A : Nat} (hA : A + 1 ≤ 1024) (hd : A % 1 = 0) : RX (f_move p (nI 5) rd (nI A)) (mwS d rd (nI 5) (nI A) (nI 1) (0 : Int32)) := by
  unfold f_move mwS
  dsimp only
  rw [if_neg (show ¬ nI 5 = (0 : Int32) from by decide), if_neg (show ¬ nI 5 = (1 : Int32) from by decide), if_neg (show ¬ nI 5 = (2 : Int32) from by decide), if_neg (show ¬ nI 5 = (3 : Int32) from by decide), if_neg (show ¬ nI 5 = (4 : Int32) from by decide), if_pos (show nI 5 = (5 : Int32) from by decide), if_neg (show ¬ nI 5 = (3 : Int32) from by decide), if_neg (show ¬ nI 5 = (4 : Int32) from by decide), if_pos (show nI 5 = (5 : Int32) from by decide)]
  rw [stv_eq h hr]
  exact st_rx (n := 1) h _ (by omega) (by omega) hA
theorem mv_6 {p : SP} {d : SD} (h : RX p d) {rd : Int32} (hr : vp_in rd 32) {A : Nat} (hA : A + 2 ≤ 1024) (hd : A % 2 = 0) : RX (f_move p (nI 6) rd (nI A)) (mwS d rd (nI 6) (nI A) (nI 2) (0 : Int32)) := by
  unfold f_move mwS
  dsimp only
  rw [if_neg (show ¬ nI 6 = (0 : Int32) from by decide), if_neg (show ¬ nI 6 = (1 : Int32) from by decide), if_neg (show ¬ nI 6 = (2 : Int32) from by decide), if_neg (show ¬ nI 6 = (3 : Int32) from by decide), if_neg (show ¬ nI 6 = (4 : Int32) from by decide), if_neg (show ¬ nI 6 = (5 : Int32) from by decide), if_pos (show nI 6 = (6 : Int32) from by decide), if_neg (show ¬ nI 6 = (3 : Int32) from by decide), if_neg (show ¬ nI 6 = (4 : Int32) from by decide), if_neg (show ¬ nI 6 = (5 : Int32) from by decide), if_pos (show nI 6 = (6 : Int32) from by decide)]
  rw [stv_eq h hr]
  exact st_rx (n := 2) h _ (by omega) (by omega) hA
theorem mv_7 {p : SP} {d : SD} (h : RX p d) {rd : Int32} (hr : vp_in rd 32) {A : Nat} (hA : A + 8 ≤ 1024) (hd : A % 8 = 0) (h8 : ¬ (rd &&& (1 : Int32)) = (1 : Int32)) : RX (f_move p (nI 7) rd (nI A)) (mwS d rd (nI 7) (nI A) (nI 8) (1 : Int32)) := by
  have e4 : nI A + (4 : Int32) = nI (A + 4) := qnI_add A 4
  unfold f_move mwS
  dsimp only
  rw [if_neg (show ¬ nI 7 = (0 : Int32) from by decide), if_neg (show ¬ nI 7 = (1 : Int32) from by decide), if_neg (show ¬ nI 7 = (2 : Int32) from by decide), if_neg (show ¬ nI 7 = (3 : Int32) from by decide), if_neg (show ¬ nI 7 = (4 : Int32) from by decide), if_neg (show ¬ nI 7 = (5 : Int32) from by decide), if_neg (show ¬ nI 7 = (6 : Int32) from by decide), if_pos (show nI 7 = (7 : Int32) from by decide), if_neg (show ¬ nI 7 = (3 : Int32) from by decide), if_neg (show ¬ nI 7 = (4 : Int32) from by decide), if_neg (show ¬ nI 7 = (5 : Int32) from by decide), if_neg (show ¬ nI 7 = (6 : Int32) from by decide), if_pos (show nI 7 = (7 : Int32) from by decide)]
  unfold f_storeTwo
  dsimp only
  rw [e4, stv_eq h hr]
  have h2 : RX (p.1, p.2.1, p.2.2.1, f_store p.2.2.2 (nI A) (4 : Int32) (m_get d rd (d.1 6))) (m_store d (nI A) (nI 4) (m_get d rd (d.1 6))) := st_rx h _ (n := 4) (by omega) (by omega) (by omega)
  have e := stv_eq h2 (rd1 hr h8)
  rw [show f_rread p.2.2.1 (p.1 0) (rd + (1 : Int32)) = _ from e]
  exact st_rx h2 _ (n := 4) (by omega) (by omega) (by omega)
theorem mv_9 {p : SP} {d : SD} (h : RX p d) {rd : Int32} (hr : vp_in rd 32) {A : Nat} (hA : A + 1 ≤ 1024) (hd : A % 1 = 0) : RX (f_move p (nI 9) rd (nI A)) (mwS d rd (nI 9) (nI A) (nI 1) (0 : Int32)) := by
  show RX (p.1, p.2.1, f_rwrite p.2.2.1 (p.1 0) rd (((f_load p.2.2.2 (nI A) (nI 1)) <<< ((24 : Int32) &&& 31)) >>> ((24 : Int32) &&& 31)), p.2.2.2) (m_gives d rd (d.1 6) (zbyte (m_take d (nI A) (nI 1))))
  rw [sx8, ld_eq h (n := 1) (by omega) (by omega) hA]
  exact wr_rx h hr _
theorem mv_10 {p : SP} {d : SD} (h : RX p d) {rd : Int32} (hr : vp_in rd 32) {A : Nat} (hA : A + 2 ≤ 1024) (hd : A % 2 = 0) : RX (f_move p (nI 10) rd (nI A)) (mwS d rd (nI 10) (nI A) (nI 2) (0 : Int32)) := by
  show RX (p.1, p.2.1, f_rwrite p.2.2.1 (p.1 0) rd (((f_load p.2.2.2 (nI A) (nI 2)) <<< ((16 : Int32) &&& 31)) >>> ((16 : Int32) &&& 31)), p.2.2.2) (m_gives d rd (d.1 6) (zshort (m_take d (nI A) (nI 2))))
  rw [sx16, ld_eq h (n := 2) (by omega) (by omega) hA]
  exact wr_rx h hr _
theorem mv_13 {p : SP} {d : SD} (h : RX p d) {rd : Int32} (hr : vp_in rd 32) {A : Nat} (hA : A + 1 ≤ 1024) (hd : A % 1 = 0) : RX (f_move p (nI 13) rd (nI A)) (mwS d rd (nI 13) (nI A) (nI 1) (0 : Int32)) := by
  show RX (p.1, p.2.1, f_rwrite p.2.2.1 (p.1 0) rd (f_load p.2.2.2 (nI A) (nI 1)), f_store p.2.2.2 (nI A) (nI 1) (255 : Int32)) (m_gives (m_store d (nI A) (nI 1) (255 : Int32)) rd ((m_store d (nI A) (nI 1) (255 : Int32)).1 6) (m_take d (nI A) (nI 1)))
  rw [ld_eq h (n := 1) (by omega) (by omega) hA]
  exact wr_rx (st_rx h _ (by omega) (by omega) hA) hr _
theorem mv_15 {p : SP} {d : SD} (h : RX p d) {rd : Int32} (hr : vp_in rd 32) {A : Nat} (hA : A + 4 ≤ 1024) (hd : A % 4 = 0) : RX (f_move p (nI 15) rd (nI A)) (mwS d rd (nI 15) (nI A) (nI 4) (0 : Int32)) := by
  show RX (p.1, p.2.1, f_rwrite p.2.2.1 (p.1 0) rd (f_load p.2.2.2 (nI A) (nI 4)), f_store p.2.2.2 (nI A) (nI 4) (f_rread p.2.2.1 (p.1 0) rd)) (m_gives (m_store d (nI A) (nI 4) (m_get d rd (d.1 6))) rd ((m_store d (nI A) (nI 4) (m_get d rd (d.1 6))).1 6) (m_take d (nI A) (nI 4)))
  rw [stv_eq h hr, ld_eq h (n := 4) (by omega) (by omega) hA]
  exact wr_rx (st_rx h _ (by omega) (by omega) hA) hr _
theorem mv_rx {p : SP} {d : SD} (h : RX p d) {rd : Int32} (hr : vp_in rd 32) {j A : Nat} (hj : j < 64) (hm : ¬ okM j = 0) (hA : A + okM j ≤ 1024) (hd : A % okM j = 0) (h8 : okM j = 8 → ¬ (rd &&& (1 : Int32)) = (1 : Int32)) :
    RX (f_move p (nI j) rd (nI A)) (mwS d rd (nI j) (nI A) (nI (okM j)) (if okM j = 8 then (1 : Int32) else (0 : Int32))) := by
  have hj16 : j < 16 := by
    rcases Nat.lt_or_ge j 16 with q | q
    · exact q
    · exfalso
      apply hm
      unfold okM
      rw [if_neg (by omega), if_neg (by omega), if_neg (by omega), if_neg (by omega)]
  match j, hj16 with
  | 0, _ => exact mv_0 h hr hA hd
  | 1, _ => exact mv_1 h hr hA hd
  | 2, _ => exact mv_2 h hr hA hd
  | 3, _ => exact mv_3 h hr hA hd (h8 rfl)
  | 4, _ => exact mv_4 h hr hA hd
  | 5, _ => exact mv_5 h hr hA hd
  | 6, _ => exact mv_6 h hr hA hd
  | 7, _ => exact mv_7 h hr hA hd (h8 rfl)
  | 8, _ => exact absurd rfl hm
  | 9, _ => exact mv_9 h hr hA hd
  | 10, _ => exact mv_10 h hr hA hd
  | 11, _ => exact absurd rfl hm
  | 12, _ => exact absurd rfl hm
  | 13, _ => exact mv_13 h hr hA hd
  | 14, _ => exact absurd rfl hm
  | 15, _ => exact mv_15 h hr hA hd
  | j + 16, q => exact absurd q (by omega)
theorem okM_vals (j : Nat) : okM j = 0 ∨ okM j = 1 ∨ okM j = 2 ∨ okM j = 4 ∨ okM j = 8 := by
  unfold okM
  by_cases c1 : j = 0 ∨ j = 4 ∨ j = 15
  · rw [if_pos c1]; omega
  rw [if_neg c1]
  by_cases c2 : j = 1 ∨ j = 5 ∨ j = 9 ∨ j = 13
  · rw [if_pos c2]; omega
  rw [if_neg c2]
  by_cases c3 : j = 2 ∨ j = 6 ∨ j = 10
  · rw [if_pos c3]; omega
  rw [if_neg c3]
  by_cases c4 : j = 3 ∨ j = 7
  · rw [if_pos c4]; omega
  rw [if_neg c4]; omega
theorem acc_pf {p : SP} {d : SD} (h : RX p d) (w : Int32) : qPF (f_access p w) (m_memoryWord d (f_rdOf w) (f_op3Of w) (m_get d (f_rs1Of w) (d.1 6) + f_secondOperand p w)) := by
  unfold f_access
  dsimp only
  rw [rd_eq h.1 (rs1_32 w)]
  have hr := rd_32 w
  obtain ⟨j, hj, ej⟩ := vp_in_of (op3_64 w) (by omega)
  rw [ej]
  generalize f_rdOf w = rd at *
  generalize m_get d (f_rs1Of w) (d.1 6) + f_secondOperand p w = a
  obtain ⟨s1, s2, s3, s4⟩ := sz_fin j hj
  rw [s1]
  by_cases m0 : okM j = 0
  · rw [m0, if_pos (show nI 0 = (0 : Int32) from rfl)]
    rw [if_pos m0] at s2
    rw [(mw_n h.2.2.1 rd (nI j) a s2 rfl rfl (x_21 := 1) (by rw [if_pos rfl]) rfl rfl).1 rfl]
    exact pf_trap h (by decide)
  · have s4 := s4.resolve_left m0
    rw [if_neg m0] at s2
    have v := okM_vals j
    have n0 : ¬ nI (okM j) = (0 : Int32) := by
      intro z
      rcases v with e | e | e | e | e <;> rw [e] at z m0 <;> first | exact m0 rfl | exact absurd z (by decide)
    have n8 : nI (okM j) = (8 : Int32) ↔ okM j = 8 := by
      rcases v with e | e | e | e | e <;> rw [e] <;> decide
    rw [if_neg n0]
    have fin : (okM j = 8 → ¬ (rd &&& (1 : Int32)) = (1 : Int32)) → qPF (if (a &&& ((nI (okM j)) - (1 : Int32))) = (0 : Int32) then (if (f_holds a (nI (okM j))) = (0 : Int32) then ((9 : Int32), p) else ((-1 : Int32), f_move p (nI j) rd a)) else ((7 : Int32), p)) (m_memoryWord d rd (nI j) a) := by
      intro qk8
      have e21 : (if (1 : Int32) = (0 : Int32) then (1 : Int32) else (if (if okM j = 8 then (1 : Int32) else (0 : Int32)) = (0 : Int32) then (0 : Int32) else (if (rd &&& (1 : Int32)) = (1 : Int32) then (1 : Int32) else (0 : Int32)))) = (0 : Int32) := by
        rw [if_neg (by decide)]
        by_cases q : okM j = 8
        · rw [if_pos q, if_neg (by decide), if_neg (qk8 q)]
        · rw [if_neg q, if_pos rfl]
      by_cases ca : (a &&& ((nI (okM j)) - (1 : Int32))) = (0 : Int32)
      · rw [if_pos ca]
        have hh := hold_eq a (s := okM j) (by omega)
        by_cases ch : f_holds a (nI (okM j)) = (0 : Int32)
        · rw [if_pos ch, (mw_n h.2.2.1 rd (nI j) a s2 s3 s4 e21 (x_27 := 0) (by rw [if_pos ca]) (hh.1.mp ch)).2.2.1 rfl rfl rfl]
          exact pf_trap h (by decide)
        · obtain ⟨A, hA, rfl⟩ := hh.2 ch
          have h32 : (if m_in (nI A).toInt64 (0 : Int64) (((1024 : Int32) - nI (okM j)).toInt64) = (0 : Int32) then (1 : Int32) else (0 : Int32)) = (0 : Int32) := by
            have z := mt hh.1.mpr ch
            by_cases q : m_in (nI A).toInt64 (0 : Int64) (((1024 : Int32) - nI (okM j)).toInt64) = (0 : Int32)
            · exact absurd (if_pos q) z
            · exact if_neg q
          rw [if_neg ch, (mw_n h.2.2.1 rd (nI j) (nI A) s2 s3 s4 e21 (x_27 := 0) (by rw [if_pos ca]) h32).2.2.2 rfl rfl rfl]
          have hd : A % okM j = 0 := by
            have q : (nI A &&& ((nI (okM j)) - (1 : Int32))) = nI (A % okM j) := by
              rcases v with e | e | e | e | e
              · exact absurd e m0
              · exact al_fin (by omega) 0 e (by omega)
              · exact al_fin (by omega) 1 e (by omega)
              · exact al_fin (by omega) 2 e (by omega)
              · exact al_fin (by omega) 3 e (by omega)
            rw [q] at ca
            have l : A % okM j < 8 := by
              have := Nat.mod_lt A (show 0 < okM j by omega)
              omega
            rcases Nat.eq_zero_or_pos (A % okM j) with z | z
            · exact z
            · exact absurd ca (nI_ne0 z (by omega))
          exact pf_go (mv_rx h hr hj m0 hA hd qk8)
      · rw [if_neg ca, (mw_n h.2.2.1 rd (nI j) a s2 s3 s4 e21 (x_27 := 1) (by rw [if_neg ca]) rfl).2.1 rfl rfl]
        exact pf_trap h (by decide)
    by_cases q : okM j = 8
    · rw [if_pos (n8.mpr q)]
      by_cases o : (rd &&& (1 : Int32)) = (1 : Int32)
      · rw [if_pos o, (mw_n h.2.2.1 rd (nI j) a s2 s3 s4 (x_21 := 1) (by rw [if_neg (by decide), if_pos q, if_neg (by decide), if_pos o]) rfl rfl).1 rfl]
        exact pf_trap h (by decide)
      · rw [if_neg o]
        exact fin (fun _ => o)
    · rw [if_neg (fun z => q (n8.mp z))]
      exact fin (fun z => absurd z q)
/-- the end of a step -/
def finD (u : SD) : SD := if (u.1 21) < (0 : Int32) then (upd (upd u.1 4 (u.1 5)) 5 (u.1 22), u.2.1, u.2.2.1, u.2.2.2.1, u.2.2.2.2.1, u.2.2.2.2.2) else m_trapped u
def finP (q : Int32 × SP) : SP := if q.1 = (-1 : Int32) then (upd (upd q.2.1 8 (q.2.1 9)) 9 (q.2.1 10), q.2.2.1, q.2.2.2.1, q.2.2.2.2) else f_takeTrap q.2 q.1
theorem tw_fin : ∀ i, i < 4 → (f_cellOf (nI i) (17 : Int32)).toNatClampNeg = 16 + 16 * i + 1 ∧ (f_cellOf (nI i) (18 : Int32)).toNatClampNeg = 16 + 16 * i + 2 ∧ (((8 : Int32) * nI i) + (1 : Int32)).toNatClampNeg = 8 * i + 1 ∧ (((8 : Int32) * nI i) + (2 : Int32)).toNatClampNeg = 8 * i + 2 := by decide +kernel
theorem trap_rp {p : SP} {d : SD} (h : RP p d) {t : Int32} (et : t = d.1 21) (ht : (0 : Int32) ≤ t) (ha : d.1 20 = (0 : Int32)) : RP (f_takeTrap p t) (m_trapped d) := by
  unfold f_takeTrap m_trapped
  dsimp only
  rw [h.1.et, h.1.tr, ← et]
  by_cases c : d.1 19 = (0 : Int32)
  · rw [if_pos c, if_pos c]
    exact ⟨(h.1.sTr _).sHa _ (Or.inr ht), h.2.1, h.2.2⟩
  · rw [if_neg c, if_neg c]
    have eb : f_windowBelow (f_changeMode (upd p.1 14 (d.1 12 + (1 : Int32)), p.2.1, p.2.2.1, p.2.2.2) (1 : Int32) (p.1 4) (0 : Int32)) = f_windowBelow p := rfl
    have g7 : (f_changeMode (upd p.1 14 (d.1 12 + (1 : Int32)), p.2.1, p.2.2.1, p.2.2.2) (1 : Int32) (p.1 4) (0 : Int32)).1 7 = p.1 7 := rfl
    have g8 : (f_changeMode (upd p.1 14 (d.1 12 + (1 : Int32)), p.2.1, p.2.2.1, p.2.2.2) (1 : Int32) (p.1 4) (0 : Int32)).1 8 = p.1 8 := rfl
    have g9 : (f_changeMode (upd p.1 14 (d.1 12 + (1 : Int32)), p.2.1, p.2.2.1, p.2.2.2) (1 : Int32) (p.1 4) (0 : Int32)).1 9 = p.1 9 := rfl
    rw [eb, g7, g8, g9, below_eq h, h.1.ba, h.1.pc, h.1.nx, h.1.s]
    have hw : vp_in ((d.1 6 + (3 : Int32)) &&& (3 : Int32)) 4 := v3_in _
    generalize (d.1 6 + (3 : Int32)) &&& (3 : Int32) = ww at *
    obtain ⟨i, hi, rfl⟩ := vp_in_of hw (by omega)
    obtain ⟨q1, q2, q3, q4⟩ := tw_fin i hi
    refine ⟨?_, ?_, h.2.2⟩
    · have r1 := (((((h.1.sTr (d.1 12 + (1 : Int32))).sS (1 : Int32) z1).sPs (d.1 17) h.1.zs).sEt (0 : Int32) z0).sWi (nI i) hw)
      have r2 := (r1.sPc (d.1 9 + (16 : Int32) * t)).sNx (d.1 9 + (16 : Int32) * t + (4 : Int32))
      exact ⟨r2.pc, r2.nx, r2.wi, r2.y, r2.inv, r2.ba, r2.ha, r2.st, r2.tr, r2.fl, r2.zn, r2.zz, r2.zv, r2.zc, r2.s, r2.zs, r2.ps, r2.zp, r2.et, r2.ze, h.1.an.trans ha, z0, r2.win, r2.hal⟩
    · show RR (f_rwrite (f_rwrite p.2.2.1 (nI i) (17 : Int32) (d.1 4)) (nI i) (18 : Int32) (d.1 5)) d.2.2.2.1 d.2.2.2.2.1 (upd (upd d.2.2.2.2.2 (((8 : Int32) * nI i) + (1 : Int32)).toNatClampNeg (d.1 4)) (((8 : Int32) * nI i) + (2 : Int32)).toNatClampNeg (d.1 5))
      unfold f_rwrite
      dsimp only
      rw [if_neg (by decide), if_neg (by decide), q1, q2, q3, q4]
      exact rr_lo (rr_lo h.2.1 hi (by omega) _) hi (by omega) _
theorem fin_rp {q : Int32 × SP} {d : SD} (h : qPF q d) : RP (finP q) (finD d) := by
  obtain ⟨h1, h2, h3, h4⟩ := h
  unfold finP finD
  rcases h4 with e | ⟨e, e2⟩
  · rw [if_pos e, if_pos (by rw [← h3, e]; decide), h1.1.nx, h2]
    exact ⟨(h1.1.sPc _).sNx _, h1.2.1, h1.2.2⟩
  · rw [if_neg (fun z => by rw [z] at e; exact absurd e (by decide)), if_neg (by rw [← h3]; exact Int32.not_lt.mpr e)]
    exact trap_rp h1 h3 e e2
theorem call_pf {p : SP} {d : SD} (h : RX p d) (w : Int32) : qPF (f_call p w) (upd (m_gives d (15 : Int32) (d.1 6) (d.1 4)).1 22 ((m_gives d (15 : Int32) (d.1 6) (d.1 4)).1 4 + (w <<< ((2 : Int32) &&& 31))), (m_gives d (15 : Int32) (d.1 6) (d.1 4)).2) := by
  unfold f_call
  dsimp only
  rw [h.1.1.pc]
  have r := wr_rx h (n := 15) (by unfold vp_in; decide) (d.1 4)
  have e4 : (m_gives d (15 : Int32) (d.1 6) (d.1 4)).1 4 = d.1 4 := by
    obtain ⟨gl, ou, lo, e, -⟩ := rr_put (d := d) (n := 15) (d.1 4) h.1.2.1 h.1.1.win (by unfold vp_in; decide)
    rw [e]
  rw [e4]
  exact pf_go ⟨⟨(r.1.1.k10 _).m22 _, r.1.2.1, r.1.2.2⟩, rfl, r.2.2.1, r.2.2.2⟩
theorem pc_word {p : SP} {d : SD} (h : RX p d) {A : Nat} (e : d.1 4 = nI A) (hA : A + 4 ≤ 1024) (hq : A % 4 = 0) : f_load p.2.2.2 (p.1 8) (4 : Int32) = m_take d (d.1 4) (4 : Int32) := by
  rw [h.1.1.pc, e]
  exact ld_eq h (n := 4) (by omega) (by omega) hA
theorem step_rp {p : SP} {d : SD} (h : RP p d) : RP (f_step p) (m_step d) := by
  unfold f_step m_step
  dsimp only
  rw [h.1.an]
  by_cases ca : d.1 20 = (0 : Int32)
  · simp only [if_pos ca]
    rw [h.1.st, h.1.nx]
    have hx : RX (upd (upd p.1 13 (d.1 11 + (1 : Int32))) 10 (d.1 5 + (4 : Int32)), p.2.1, p.2.2.1, p.2.2.2) (upd (upd (upd d.1 11 (d.1 11 + (1 : Int32))) 21 (-1 : Int32)) 22 (d.1 5 + (4 : Int32)), d.2.1, d.2.2.1, d.2.2.2.1, d.2.2.2.2.1, d.2.2.2.2.2) :=
      ⟨⟨(((h.1.sSt _).m21 _).k10 _).m22 _, h.2.1, h.2.2⟩, rfl, rfl, ca⟩
    have e4 : (upd (upd (upd d.1 11 (d.1 11 + (1 : Int32))) 21 (-1 : Int32)) 22 (d.1 5 + (4 : Int32))) 4 = d.1 4 := rfl
    generalize hP : ((upd (upd p.1 13 (d.1 11 + (1 : Int32))) 10 (d.1 5 + (4 : Int32)), p.2.1, p.2.2.1, p.2.2.2) : SP) = P at hx ⊢
    have e4' : ((upd (upd (upd d.1 11 (d.1 11 + (1 : Int32))) 21 (-1 : Int32)) 22 (d.1 5 + (4 : Int32)), d.2.1, d.2.2.1, d.2.2.2.1, d.2.2.2.2.1, d.2.2.2.2.2) : SD).1 4 = d.1 4 := rfl
    generalize hD : ((upd (upd (upd d.1 11 (d.1 11 + (1 : Int32))) 21 (-1 : Int32)) 22 (d.1 5 + (4 : Int32)), d.2.1, d.2.2.1, d.2.2.2.1, d.2.2.2.2.1, d.2.2.2.2.2) : SD) = D at hx e4' ⊢
    rw [← e4']
    show RP (finP (f_perform P)) _
    have ep : P.1 8 = D.1 4 := hx.1.1.pc
    by_cases c3 : (D.1 4 &&& (3 : Int32)) = (0 : Int32)
    · rw [if_pos c3, traps0]
      have hh := hold_eq (D.1 4) (s := 4) (by omega)
      have e1020 : ((1024 : Int32) - nI 4).toInt64 = (1020 : Int64) := by decide
      rw [e1020] at hh
      by_cases ch : f_holds (D.1 4) (nI 4) = (0 : Int32)
      · rw [hh.1.mp ch, traps1 hx.2.2.1]
        have ef : f_perform P = ((1 : Int32), P) := by
          unfold f_perform
          dsimp only
          rw [ep, if_pos c3, if_pos (show f_holds (D.1 4) (4 : Int32) = (0 : Int32) from ch)]
        rw [ef, if_pos (show (0 : Int32) ≤ (upd D.1 21 (1 : Int32)) 21 from by show (0 : Int32) ≤ 1; decide)]
        exact fin_rp (pf_trap hx (t := 1) (by decide))
      · have h0 : (if m_in (D.1 4).toInt64 (0 : Int64) (1020 : Int64) = (0 : Int32) then (1 : Int32) else (0 : Int32)) = (0 : Int32) := by
          have z := mt hh.1.mpr ch
          by_cases q : m_in (D.1 4).toInt64 (0 : Int64) (1020 : Int64) = (0 : Int32)
          · exact absurd (if_pos q) z
          · exact if_neg q
        obtain ⟨A, hA, eA⟩ := hh.2 ch
        have hq : A % 4 = 0 := by
          rw [eA, pk_andN (k := 2) (by omega) (by decide)] at c3
          rcases Nat.eq_zero_or_pos (A % 4) with z | z
          · exact z
          · exact absurd c3 (nI_ne0 z (by omega))
        have ew := pc_word hx eA hA hq
        rw [ep] at ew
        rw [h0, traps0, if_neg (m21n hx.2.2.1)]
        have es := so_eq hx.1
        unfold f_perform
        dsimp only
        rw [ep, if_pos c3, if_neg (show ¬ f_holds (D.1 4) (4 : Int32) = (0 : Int32) from ch), ew]
        generalize m_take D (D.1 4) (4 : Int32) = w
        rw [← es w, ← rdOf_eq, ← op3Of_eq, ← rs1Of_eq]
        by_cases c0 : zushr w (30 : Int32) = (0 : Int32)
        · rw [if_pos c0, if_neg (by rw [c0]; decide), if_pos c0]
          exact fin_rp (low_rx hx w)
        · rw [if_neg c0]
          by_cases c1 : zushr w (30 : Int32) = (1 : Int32)
          · rw [if_pos c1, if_pos c1]
            exact fin_rp (call_pf hx w)
          · rw [if_neg c1, if_neg c1, if_neg c0]
            by_cases c2 : zushr w (30 : Int32) = (2 : Int32)
            · rw [if_pos c2, if_pos c2]
              exact fin_rp (oper_pf hx w)
            · rw [if_neg c2, if_neg c2]
              exact fin_rp (acc_pf hx w)
    · rw [if_neg c3, traps1 hx.2.2.1]
      have q : ∀ x t : Int32, m_traps (upd D.1 21 (7 : Int32), D.2.1, D.2.2.1, D.2.2.2.1, D.2.2.2.2.1, D.2.2.2.2.2) x t = (upd D.1 21 (7 : Int32), D.2.1, D.2.2.1, D.2.2.2.1, D.2.2.2.2.1, D.2.2.2.2.2) := fun x t => trapsB (by show (0 : Int32) ≤ 7; decide) x
      have ef : f_perform P = ((7 : Int32), P) := by
        unfold f_perform
        dsimp only
        rw [ep, if_neg c3]
      rw [q, ef, if_pos (show (0 : Int32) ≤ (upd D.1 21 (7 : Int32)) 21 from by show (0 : Int32) ≤ 7; decide)]
      exact fin_rp (pf_trap hx (t := 7) (by decide))
  · simp only [if_neg ca]
    rw [if_pos trivial]
    have r := ((((h.1.sSt (p.1 13 + (1 : Int32))).sAn (0 : Int32) z0).sPc (p.1 9)).sNx (p.1 9 + (4 : Int32)))
    rw [h.1.nx, h.1.st] at r ⊢
    exact ⟨⟨h.1.nx, r.nx, r.wi, r.y, r.inv, r.ba, r.ha, r.st, r.tr, r.fl, r.zn, r.zz, r.zv, r.zc, r.s, r.zs, r.ps, r.zp, r.et, r.ze, r.an, r.za, r.win, r.hal⟩, h.2.1, h.2.2⟩
