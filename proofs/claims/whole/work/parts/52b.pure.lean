def RR (r gl ou lo : Nat → Int32) : Prop := (∀ i, i < 8 → r i = gl i) ∧ (∀ w, w < 4 → ∀ k, k < 8 → r (8 + 16 * w + k) = ou (8 * w + k)) ∧ (∀ w, w < 4 → ∀ k, k < 8 → r (16 + 16 * w + k) = lo (8 * w + k))
def cel (i j : Nat) : Nat := if j < 8 then j else if j < 16 then 8 + 16 * i + (j - 8) else if j < 24 then 16 + 16 * i + (j - 16) else 8 + 16 * ((i + 1) % 4) + (j - 24)
theorem cel_f : ∀ i, i < 4 → ∀ j, j < 32 → (f_cellOf (nI i) (nI j)).toNatClampNeg = cel i j := by decide +kernel
theorem cel_1 : ∀ i, i < 4 → ∀ j, j < 32 → ((((8 : Int32) * nI i) + nI j) - (8 : Int32)).toNatClampNeg = 8 * i + j - 8 ∨ j < 8 := by decide +kernel
theorem cel_2 : ∀ i, i < 4 → ∀ j, j < 32 → ((((8 : Int32) * nI i) + nI j) - (16 : Int32)).toNatClampNeg = 8 * i + j - 16 ∨ j < 16 := by decide +kernel
theorem cel_3 : ∀ i, i < 4 → ∀ j, j < 32 → ((((8 : Int32) * ((nI i + (1 : Int32)) &&& (3 : Int32))) + nI j) - (24 : Int32)).toNatClampNeg = 8 * ((i + 1) % 4) + j - 24 ∨ j < 24 := by decide +kernel
theorem cel_8 : ∀ j, j < 32 → ((8 : Int32) ≤ nI j ↔ 8 ≤ j) := by decide +kernel
theorem cel_16 : ∀ j, j < 32 → ((16 : Int32) ≤ nI j ↔ 16 ≤ j) := by decide +kernel
theorem cel_24 : ∀ j, j < 32 → ((24 : Int32) ≤ nI j ↔ 24 ≤ j) := by decide +kernel
theorem cel_0 : ∀ j, j < 32 → (nI j = (0 : Int32) ↔ j = 0) := by decide +kernel
theorem cel_n : ∀ j, j < 32 → (nI j).toNatClampNeg = j := by decide +kernel
theorem rr_get {r : Nat → Int32} {d : SD} {w n : Int32} (h : RR r d.2.2.2.1 d.2.2.2.2.1 d.2.2.2.2.2) (hw : vp_in w 4) (hn : vp_in n 32) : f_rread r w n = m_get d n w := by
  obtain ⟨i, hi, rfl⟩ := vp_in_of hw (by omega)
  obtain ⟨j, hj, rfl⟩ := vp_in_of hn (by omega)
  obtain ⟨h1, h2, h3⟩ := h
  unfold f_rread m_get
  dsimp only
  rw [cel_f i hi j hj]
  unfold cel
  have q1 := cel_1 i hi j hj
  have q2 := cel_2 i hi j hj
  have q3 := cel_3 i hi j hj
  by_cases a : j < 8
  · rw [if_pos a, if_neg (by rw [cel_8 j hj]; omega), cel_n j hj]
    exact h1 j a
  · rw [if_neg a, if_pos ((cel_8 j hj).mpr (by omega))]
    by_cases b : j < 16
    · rw [if_pos b, if_neg (by rw [cel_16 j hj]; omega), q1.resolve_right (by omega), h2 i hi (j - 8) (by omega), show 8 * i + j - 8 = 8 * i + (j - 8) by omega]
    · rw [if_neg b, if_pos ((cel_16 j hj).mpr (by omega))]
      by_cases c : j < 24
      · rw [if_pos c, if_neg (by rw [cel_24 j hj]; omega), q2.resolve_right (by omega), h3 i hi (j - 16) (by omega), show 8 * i + j - 16 = 8 * i + (j - 16) by omega]
      · rw [if_neg c, if_pos ((cel_24 j hj).mpr (by omega)), q3.resolve_right (by omega), h2 ((i + 1) % 4) (Nat.mod_lt _ (by omega)) (j - 24) (by omega), show 8 * ((i + 1) % 4) + j - 24 = 8 * ((i + 1) % 4) + (j - 24) by omega]
theorem upd_eq {f : Nat → Int32} {k j : Nat} {x : Int32} (h : j = k) : upd f k x j = x := by unfold upd; rw [if_pos h]
theorem upd_ne {f : Nat → Int32} {k j : Nat} {x : Int32} (h : j ≠ k) : upd f k x j = f j := by unfold upd; rw [if_neg h]
theorem rr_gl {r gl ou lo : Nat → Int32} (h : RR r gl ou lo) {j : Nat} (hj : j < 8) (v : Int32) : RR (upd r j v) (upd gl j v) ou lo := by
  obtain ⟨h1, h2, h3⟩ := h
  refine ⟨fun i hi => ?_, fun w hw k hk => ?_, fun w hw k hk => ?_⟩
  · by_cases e : i = j
    · rw [upd_eq e, upd_eq e]
    · rw [upd_ne e, upd_ne e]; exact h1 i hi
  · rw [upd_ne (by omega)]; exact h2 w hw k hk
  · rw [upd_ne (by omega)]; exact h3 w hw k hk
theorem rr_ou {r gl ou lo : Nat → Int32} (h : RR r gl ou lo) {i j : Nat} (hi : i < 4) (hj : j < 8) (v : Int32) : RR (upd r (8 + 16 * i + j) v) gl (upd ou (8 * i + j) v) lo := by
  obtain ⟨h1, h2, h3⟩ := h
  refine ⟨fun i hi => ?_, fun w hw k hk => ?_, fun w hw k hk => ?_⟩
  · rw [upd_ne (by omega)]; exact h1 i hi
  · by_cases e : w = i ∧ k = j
    · rw [upd_eq (by omega), upd_eq (by omega)]
    · rw [upd_ne (by omega), upd_ne (by omega)]; exact h2 w hw k hk
  · rw [upd_ne (by omega)]; exact h3 w hw k hk
theorem rr_lo {r gl ou lo : Nat → Int32} (h : RR r gl ou lo) {i j : Nat} (hi : i < 4) (hj : j < 8) (v : Int32) : RR (upd r (16 + 16 * i + j) v) gl ou (upd lo (8 * i + j) v) := by
  obtain ⟨h1, h2, h3⟩ := h
  refine ⟨fun i hi => ?_, fun w hw k hk => ?_, fun w hw k hk => ?_⟩
  · rw [upd_ne (by omega)]; exact h1 i hi
  · rw [upd_ne (by omega)]; exact h2 w hw k hk
  · by_cases e : w = i ∧ k = j
    · rw [upd_eq (by omega), upd_eq (by omega)]
    · rw [upd_ne (by omega), upd_ne (by omega)]; exact h3 w hw k hk
/-- a write: the registers keep their relation, the rest of the reference stays -/
theorem rr_put {r : Nat → Int32} {d : SD} {w n : Int32} (v : Int32) (h : RR r d.2.2.2.1 d.2.2.2.2.1 d.2.2.2.2.2) (hw : vp_in w 4) (hn : vp_in n 32) :
    ∃ gl ou lo : Nat → Int32, m_gives d n w v = (d.1, d.2.1, d.2.2.1, gl, ou, lo) ∧ RR (f_rwrite r w n v) gl ou lo := by
  obtain ⟨i, hi, rfl⟩ := vp_in_of hw (by omega)
  obtain ⟨j, hj, rfl⟩ := vp_in_of hn (by omega)
  unfold f_rwrite m_gives
  dsimp only
  by_cases z : nI j = (0 : Int32)
  · rw [if_pos z, if_pos z]
    exact ⟨_, _, _, rfl, h⟩
  · rw [if_neg z, if_neg z, cel_f i hi j hj]
    unfold cel
    have q1 := cel_1 i hi j hj
    have q2 := cel_2 i hi j hj
    have q3 := cel_3 i hi j hj
    by_cases a : j < 8
    · rw [if_pos a, if_neg (by rw [cel_8 j hj]; omega), cel_n j hj]
      exact ⟨_, _, _, rfl, rr_gl h a v⟩
    · rw [if_neg a, if_pos ((cel_8 j hj).mpr (by omega))]
      by_cases b : j < 16
      · rw [if_pos b, if_neg (by rw [cel_16 j hj]; omega), q1.resolve_right (by omega)]
        refine ⟨_, _, _, rfl, ?_⟩
        rw [show 8 * i + j - 8 = 8 * i + (j - 8) by omega]
        exact rr_ou h hi (by omega) v
      · rw [if_neg b, if_pos ((cel_16 j hj).mpr (by omega))]
        by_cases c : j < 24
        · rw [if_pos c, if_neg (by rw [cel_24 j hj]; omega), q2.resolve_right (by omega)]
          refine ⟨_, _, _, rfl, ?_⟩
          rw [show 8 * i + j - 16 = 8 * i + (j - 16) by omega]
          exact rr_lo h hi (by omega) v
        · rw [if_neg c, if_pos ((cel_24 j hj).mpr (by omega)), q3.resolve_right (by omega)]
          refine ⟨_, _, _, rfl, ?_⟩
          rw [show 8 * ((i + 1) % 4) + j - 24 = 8 * ((i + 1) % 4) + (j - 24) by omega]
          exact rr_ou h (Nat.mod_lt _ (by omega)) (by omega) v
def qRM (m mm : Nat → Int32) : Prop := (∀ a, a < 1024 → ∀ b, b < 8 → bt (mm a) b = bt (m (a / 4)) (8 * (3 - a % 4) + b)) ∧ (∀ a, a < 1024 → ∀ b, 8 ≤ b → bt (mm a) b = false)
theorem qnI_add (a b : Nat) : nI a + nI b = nI (a + b) := by
  unfold nI
  rw [Int32.ofNat_add]
theorem nI_div4 {a : Nat} (h : a < 2 ^ 31) : (nI a / (4 : Int32)).toNatClampNeg = a / 4 := by
  have e : (nI a / (4 : Int32)).toInt = (nI a).toInt / (4 : Int32).toInt := lg_idiv_nonneg (by rw [nI_toInt h]; omega) (by decide)
  show (nI a / (4 : Int32)).toInt.toNat = _
  rw [e, nI_toInt h, show (4 : Int32).toInt = 4 by decide]
  omega
theorem mk_bits : ∀ n, n < 5 → (n = 1 ∨ n = 2 ∨ n = 4) → ∀ i, i < 32 → bt (f_maskOf (nI n)) i = decide (i < 8 * n) := by decide +kernel
theorem sh_of {a n : Nat} (ha : a < 2 ^ 31) (hn : n + a % 4 ≤ 4) : f_shiftOf (nI a) (nI n) = nI (8 * (4 - n - a % 4)) := by
  unfold f_shiftOf
  rw [pk_andN (k := 2) (by omega) (by decide)]
  have h : ∀ q, q < 4 → ∀ n, n < 5 → n + q ≤ 4 → (8 : Int32) * (((4 : Int32) - nI n) - nI q) = nI (8 * (4 - n - q)) := by decide +kernel
  exact h (a % 4) (Nat.mod_lt _ (by omega)) n (by omega) hn
theorem zu_bits {s : Nat} (hs : s < 32) (x : Int32) (i : Nat) : bt (zushr x (nI s)) i = bt x (s + i) := b_ushr s hs x i
theorem ld_bits {m : Nat → Int32} {a n : Nat} (ha : a < 2 ^ 31) (h : n + a % 4 ≤ 4) (hn : n = 1 ∨ n = 2 ∨ n = 4) {i : Nat} (hi : i < 32) : bt (f_load m (nI a) (nI n)) i = (bt (m (a / 4)) (8 * (4 - n - a % 4) + i) && decide (i < 8 * n)) := by
  unfold f_load
  rw [sh_of ha h, nI_div4 ha, b_and, zu_bits (by omega), mk_bits n (by omega) hn i hi]
theorem sl8 (x : Int32) {i : Nat} (hi : i < 32) : bt (x <<< ((8 : Int32) &&& 31)) i = (decide (8 ≤ i) && bt x (i - 8)) := b_shl 8 (by omega) x hi
theorem qcat1 {y b0 : Int32} (h0 : ∀ b, b < 8 → bt b0 b = bt y b) (z0 : ∀ b, 8 ≤ b → bt b0 b = false) (zy : ∀ b, 8 ≤ b → b < 32 → bt y b = false) : y = ((0 : Int32) <<< ((8 : Int32) &&& 31)) ||| b0 := by
  apply b_ext
  intro i hi
  rw [b_or, sl8 _ hi, b_0]
  rcases Nat.lt_or_ge i 8 with q | q
  · rw [h0 i q]; simp
  · rw [z0 i q, zy i q hi]; simp
theorem cat2 {y b0 b1 : Int32} (h0 : ∀ b, b < 8 → bt b0 b = bt y (8 + b)) (h1 : ∀ b, b < 8 → bt b1 b = bt y b) (z0 : ∀ b, 8 ≤ b → bt b0 b = false) (z1 : ∀ b, 8 ≤ b → bt b1 b = false) (zy : ∀ b, 16 ≤ b → b < 32 → bt y b = false) : y = ((((0 : Int32) <<< ((8 : Int32) &&& 31)) ||| b0) <<< ((8 : Int32) &&& 31)) ||| b1 := by
  apply b_ext
  intro i hi
  rw [b_or, sl8 _ hi]
  rcases Nat.lt_or_ge i 8 with q | q
  · rw [h1 i q, decide_eq_false (by omega)]; simp
  · rw [z1 i q, decide_eq_true q, b_or, sl8 _ (by omega), b_0]
    rcases Nat.lt_or_ge i 16 with q2 | q2
    · rw [h0 (i - 8) (by omega), show 8 + (i - 8) = i by omega]; simp
    · rw [z0 (i - 8) (by omega), zy i q2 hi]; simp
theorem cat4 {y b0 b1 b2 b3 : Int32} (h0 : ∀ b, b < 8 → bt b0 b = bt y (24 + b)) (h1 : ∀ b, b < 8 → bt b1 b = bt y (16 + b)) (h2 : ∀ b, b < 8 → bt b2 b = bt y (8 + b)) (h3 : ∀ b, b < 8 → bt b3 b = bt y b)
    (z0 : ∀ b, 8 ≤ b → bt b0 b = false) (z1 : ∀ b, 8 ≤ b → bt b1 b = false) (z2 : ∀ b, 8 ≤ b → bt b2 b = false) (z3 : ∀ b, 8 ≤ b → bt b3 b = false) :
    y = ((((((((0 : Int32) <<< ((8 : Int32) &&& 31)) ||| b0) <<< ((8 : Int32) &&& 31)) ||| b1) <<< ((8 : Int32) &&& 31)) ||| b2) <<< ((8 : Int32) &&& 31)) ||| b3 := by
  apply b_ext
  intro i hi
  rw [b_or, sl8 _ hi]
  rcases Nat.lt_or_ge i 8 with q | q
  · rw [h3 i q, decide_eq_false (by omega)]; simp
  · rw [z3 i q, decide_eq_true q, b_or, sl8 _ (by omega)]
    rcases Nat.lt_or_ge i 16 with q2 | q2
    · rw [h2 (i - 8) (by omega), show 8 + (i - 8) = i by omega, decide_eq_false (by omega)]; simp
    · rw [z2 (i - 8) (by omega), decide_eq_true (by omega), b_or, sl8 _ (by omega)]
      rcases Nat.lt_or_ge i 24 with q3 | q3
      · rw [h1 (i - 8 - 8) (by omega), show 16 + (i - 8 - 8) = i by omega, decide_eq_false (by omega)]; simp
      · rw [z1 (i - 8 - 8) (by omega), decide_eq_true (by omega), b_or, sl8 _ (by omega), b_0, h0 (i - 8 - 8 - 8) (by omega), show 24 + (i - 8 - 8 - 8) = i by omega]; simp
theorem nl {k n : Nat} (h : k < n) (hn : n < 2 ^ 31) : ¬ nI n ≤ nI k := nI_ge h hn
theorem tk1 (d : SD) (a : Int32) : m_take d a (1 : Int32) = ((0 : Int32) <<< ((8 : Int32) &&& 31)) ||| d.2.2.1 (a + nI 0).toNatClampNeg := by
  unfold m_take
  rw [fl_D_take_5, if_neg (by decide +kernel)]
  dsimp only
  rw [fl_D_take_5, if_pos (by decide +kernel)]
theorem tk2 (d : SD) (a : Int32) : m_take d a (2 : Int32) = ((((0 : Int32) <<< ((8 : Int32) &&& 31)) ||| d.2.2.1 (a + nI 0).toNatClampNeg) <<< ((8 : Int32) &&& 31)) ||| d.2.2.1 (a + nI 1).toNatClampNeg := by
  unfold m_take
  rw [fl_D_take_5, if_neg (by decide +kernel)]
  dsimp only
  rw [fl_D_take_5, if_neg (by decide +kernel)]
  dsimp only
  rw [fl_D_take_5, if_pos (by decide +kernel)]
theorem tk4 (d : SD) (a : Int32) : m_take d a (4 : Int32) = ((((((((0 : Int32) <<< ((8 : Int32) &&& 31)) ||| d.2.2.1 (a + nI 0).toNatClampNeg) <<< ((8 : Int32) &&& 31)) ||| d.2.2.1 (a + nI 1).toNatClampNeg) <<< ((8 : Int32) &&& 31)) ||| d.2.2.1 (a + nI 2).toNatClampNeg) <<< ((8 : Int32) &&& 31)) ||| d.2.2.1 (a + nI 3).toNatClampNeg := by
  unfold m_take
  rw [fl_D_take_5, if_neg (by decide +kernel)]
  dsimp only
  rw [fl_D_take_5, if_neg (by decide +kernel)]
  dsimp only
  rw [fl_D_take_5, if_neg (by decide +kernel)]
  dsimp only
  rw [fl_D_take_5, if_neg (by decide +kernel)]
  dsimp only
  rw [fl_D_take_5, if_pos (by decide +kernel)]
theorem rm_ld {m : Nat → Int32} {d : SD} (h : qRM m d.2.2.1) {a n : Nat} (hn : n = 1 ∨ n = 2 ∨ n = 4) (hq : n + a % 4 ≤ 4) (ha : a + n ≤ 1024) : f_load m (nI a) (nI n) = m_take d (nI a) (nI n) := by
  obtain ⟨h1, h2⟩ := h
  have L : ∀ {i : Nat}, i < 32 → _ := fun {i} hi => ld_bits (m := m) (a := a) (n := n) (by omega) hq hn (i := i) hi
  have B : ∀ k, k < n → ∀ b, b < 8 → bt (d.2.2.1 (nI a + nI k).toNatClampNeg) b = bt (f_load m (nI a) (nI n)) (8 * (n - 1 - k) + b) := by
    intro k hk b hb
    rw [qnI_add, nI_clamp (by omega), h1 (a + k) (by omega) b hb, L (by omega), decide_eq_true (by omega), Bool.and_true]
    rw [show (a + k) / 4 = a / 4 by omega, show 8 * (3 - (a + k) % 4) + b = 8 * (4 - n - a % 4) + (8 * (n - 1 - k) + b) by omega]
  have Z : ∀ k, k < n → ∀ b, 8 ≤ b → bt (d.2.2.1 (nI a + nI k).toNatClampNeg) b = false := by
    intro k hk b hb
    rw [qnI_add, nI_clamp (by omega)]
    exact h2 (a + k) (by omega) b hb
  rcases hn with rfl | rfl | rfl
  · rw [show m_take d (nI a) (nI 1) = _ from tk1 d (nI a)]
    refine qcat1 (fun b hb => (B 0 (by omega) b hb).trans (by rw [show 8 * (1 - 1 - 0) + b = b by omega])) (Z 0 (by omega)) (fun b h8 hb => ?_)
    rw [L hb, decide_eq_false (by omega), Bool.and_false]
  · rw [show m_take d (nI a) (nI 2) = _ from tk2 d (nI a)]
    refine cat2 (fun b hb => (B 0 (by omega) b hb).trans (by rw [show 8 * (2 - 1 - 0) + b = 8 + b by omega])) (fun b hb => (B 1 (by omega) b hb).trans (by rw [show 8 * (2 - 1 - 1) + b = b by omega])) (Z 0 (by omega)) (Z 1 (by omega)) (fun b h8 hb => ?_)
    rw [L hb, decide_eq_false (by omega), Bool.and_false]
  · rw [show m_take d (nI a) (nI 4) = _ from tk4 d (nI a)]
    exact cat4 (fun b hb => (B 0 (by omega) b hb).trans (by rw [show 8 * (4 - 1 - 0) + b = 24 + b by omega])) (fun b hb => (B 1 (by omega) b hb).trans (by rw [show 8 * (4 - 1 - 1) + b = 16 + b by omega])) (fun b hb => (B 2 (by omega) b hb).trans (by rw [show 8 * (4 - 1 - 2) + b = 8 + b by omega])) (fun b hb => (B 3 (by omega) b hb).trans (by rw [show 8 * (4 - 1 - 3) + b = b by omega])) (Z 0 (by omega)) (Z 1 (by omega)) (Z 2 (by omega)) (Z 3 (by omega))
theorem st_bits (x v : Int32) {n s : Nat} (hn : n = 1 ∨ n = 2 ∨ n = 4) (hs : s + 8 * n ≤ 32) {p : Nat} (hp : p < 32) :
    bt ((x &&& (((f_maskOf (nI n)) <<< (nI s &&& 31)) ^^^ (-1 : Int32))) ||| ((v <<< (nI s &&& 31)) &&& ((f_maskOf (nI n)) <<< (nI s &&& 31)))) p = (if s ≤ p ∧ p < s + 8 * n then bt v (p - s) else bt x p) := by
  rw [b_or, b_and, b_and, b_xor, b_m1 p hp, b_shl s (by omega) _ hp, b_shl s (by omega) _ hp]
  by_cases a : s ≤ p
  · rw [mk_bits n (by omega) hn (p - s) (by omega)]
    by_cases b : p < s + 8 * n
    · rw [if_pos ⟨a, b⟩, decide_eq_true a, decide_eq_true (by omega)]; simp
    · rw [if_neg (fun z => b z.2), decide_eq_true a, decide_eq_false (by omega)]; simp
  · rw [if_neg (fun z => a z.1), decide_eq_false a]; simp
theorem sw1 (d : SD) (a v : Int32) : m_store d a (1 : Int32) v = (d.1, d.2.1, upd d.2.2.1 (a + nI 0).toNatClampNeg ((zushr v (nI 0)) &&& (255 : Int32)), d.2.2.2.1, d.2.2.2.2.1, d.2.2.2.2.2) := by
  unfold m_store
  rw [fl_D_store_3, if_neg (by decide +kernel), fl_D_store_3, if_pos (by decide +kernel)]
  rw [show (8 : Int32) * (((1 : Int32) - (1 : Int32)) - nI 0) = nI 0 by decide +kernel]
theorem sw2 (d : SD) (a v : Int32) : m_store d a (2 : Int32) v = (d.1, d.2.1, upd (upd d.2.2.1 (a + nI 0).toNatClampNeg ((zushr v (nI 8)) &&& (255 : Int32))) (a + nI 1).toNatClampNeg ((zushr v (nI 0)) &&& (255 : Int32)), d.2.2.2.1, d.2.2.2.2.1, d.2.2.2.2.2) := by
  unfold m_store
  rw [fl_D_store_3, if_neg (by decide +kernel), fl_D_store_3, if_neg (by decide +kernel), fl_D_store_3, if_pos (by decide +kernel)]
  rw [show (8 : Int32) * (((2 : Int32) - (1 : Int32)) - nI 0) = nI 8 by decide +kernel, show (8 : Int32) * (((2 : Int32) - (1 : Int32)) - nI (0 + 1)) = nI 0 by decide +kernel]
theorem sw4 (d : SD) (a v : Int32) : m_store d a (4 : Int32) v = (d.1, d.2.1, upd (upd (upd (upd d.2.2.1 (a + nI 0).toNatClampNeg ((zushr v (nI 24)) &&& (255 : Int32))) (a + nI 1).toNatClampNeg ((zushr v (nI 16)) &&& (255 : Int32))) (a + nI 2).toNatClampNeg ((zushr v (nI 8)) &&& (255 : Int32))) (a + nI 3).toNatClampNeg ((zushr v (nI 0)) &&& (255 : Int32)), d.2.2.2.1, d.2.2.2.2.1, d.2.2.2.2.2) := by
  unfold m_store
  rw [fl_D_store_3, if_neg (by decide +kernel), fl_D_store_3, if_neg (by decide +kernel), fl_D_store_3, if_neg (by decide +kernel), fl_D_store_3, if_neg (by decide +kernel), fl_D_store_3, if_pos (by decide +kernel)]
  rw [show (8 : Int32) * (((4 : Int32) - (1 : Int32)) - nI 0) = nI 24 by decide +kernel, show (8 : Int32) * (((4 : Int32) - (1 : Int32)) - nI (0 + 1)) = nI 16 by decide +kernel, show (8 : Int32) * (((4 : Int32) - (1 : Int32)) - nI (0 + 1 + 1)) = nI 8 by decide +kernel, show (8 : Int32) * (((4 : Int32) - (1 : Int32)) - nI (0 + 1 + 1 + 1)) = nI 0 by decide +kernel]
/-- the octets behind a store: each of the n places has its part of v -/
theorem sw_at (d : SD) (v : Int32) {a n : Nat} (hn : n = 1 ∨ n = 2 ∨ n = 4) (ha : a + n ≤ 1024) :
    ∃ mm, m_store d (nI a) (nI n) v = (d.1, d.2.1, mm, d.2.2.2.1, d.2.2.2.2.1, d.2.2.2.2.2) ∧ ∀ j, mm j = (if a ≤ j ∧ j < a + n then (zushr v (nI (8 * (n - 1 - (j - a))))) &&& (255 : Int32) else d.2.2.1 j) := by
  have c : ∀ k, k < 4 → (nI a + nI k).toNatClampNeg = a + k ∨ n ≤ k := fun k hk => by
    rcases Nat.lt_or_ge k n with q | q
    · exact Or.inl (by rw [qnI_add, nI_clamp (by omega)])
    · exact Or.inr q
  rcases hn with rfl | rfl | rfl
  · refine ⟨_, sw1 d (nI a) v, fun j => ?_⟩
    rw [(c 0 (by omega)).resolve_right (by omega)]
    by_cases e : j = a + 0
    · rw [upd_eq e, if_pos (by omega), show 8 * (1 - 1 - (j - a)) = 0 by omega]
    · rw [upd_ne (by omega), if_neg (by omega)]
  · refine ⟨_, sw2 d (nI a) v, fun j => ?_⟩
    rw [(c 0 (by omega)).resolve_right (by omega), (c 1 (by omega)).resolve_right (by omega)]
    by_cases e : j = a + 1
    · rw [upd_eq e, if_pos (by omega), show 8 * (2 - 1 - (j - a)) = 0 by omega]
    · rw [upd_ne e]
      by_cases e : j = a + 0
      · rw [upd_eq e, if_pos (by omega), show 8 * (2 - 1 - (j - a)) = 8 by omega]
      · rw [upd_ne (by omega), if_neg (by omega)]
  · refine ⟨_, sw4 d (nI a) v, fun j => ?_⟩
    rw [(c 0 (by omega)).resolve_right (by omega), (c 1 (by omega)).resolve_right (by omega), (c 2 (by omega)).resolve_right (by omega), (c 3 (by omega)).resolve_right (by omega)]
    by_cases e : j = a + 3
    · rw [upd_eq e, if_pos (by omega), show 8 * (4 - 1 - (j - a)) = 0 by omega]
    · rw [upd_ne e]
      by_cases e : j = a + 2
      · rw [upd_eq e, if_pos (by omega), show 8 * (4 - 1 - (j - a)) = 8 by omega]
      · rw [upd_ne e]
        by_cases e : j = a + 1
        · rw [upd_eq e, if_pos (by omega), show 8 * (4 - 1 - (j - a)) = 16 by omega]
        · rw [upd_ne e]
          by_cases e : j = a + 0
          · rw [upd_eq e, if_pos (by omega), show 8 * (4 - 1 - (j - a)) = 24 by omega]
          · rw [upd_ne (by omega), if_neg (by omega)]
theorem rm_st {m : Nat → Int32} {d : SD} (v : Int32) (h : qRM m d.2.2.1) {a n : Nat} (hn : n = 1 ∨ n = 2 ∨ n = 4) (hq : n + a % 4 ≤ 4) (ha : a + n ≤ 1024) :
    ∃ mm, m_store d (nI a) (nI n) v = (d.1, d.2.1, mm, d.2.2.2.1, d.2.2.2.2.1, d.2.2.2.2.2) ∧ qRM (f_store m (nI a) (nI n) v) mm := by
  obtain ⟨mm, e, hm⟩ := sw_at d v hn ha
  refine ⟨mm, e, fun j hj b hb => ?_, fun j hj b hb => ?_⟩
  · rw [hm j]
    show bt _ b = bt (f_store m (nI a) (nI n) v (j / 4)) _
    unfold f_store
    rw [sh_of (by omega) hq, nI_div4 (by omega)]
    by_cases e1 : j / 4 = a / 4
    · rw [upd_eq e1, st_bits _ _ hn (by omega) (by omega)]
      by_cases e2 : a ≤ j ∧ j < a + n
      · rw [if_pos e2, if_pos (by omega), b_and, zu_bits (by omega), b_255, decide_eq_true hb, Bool.and_true]
        congr 1; omega
      · rw [if_neg e2, if_neg (by omega), ← e1]
        exact h.1 j hj b hb
    · rw [upd_ne e1, if_neg (by omega)]
      exact h.1 j hj b hb
  · rw [hm j]
    by_cases e2 : a ≤ j ∧ j < a + n
    · rw [if_pos e2, b_and, b_255, decide_eq_false (by omega), Bool.and_false]
    · rw [if_neg e2]
      exact h.2 j hj b hb
def fw (n z v c : Int32) : Int32 := (((8 : Int32) * n + (4 : Int32) * z) + (2 : Int32) * v) + c
def halQ (x : Int32) : Prop := x = (-1 : Int32) ∨ (0 : Int32) ≤ x
def qRG (g G : Nat → Int32) : Prop := g 8 = G 4 ∧ g 9 = G 5 ∧ g 0 = G 6 ∧ g 2 = G 7 ∧ g 3 = G 8 ∧ g 7 = G 9 ∧ g 12 = G 10 ∧ g 13 = G 11 ∧ g 14 = G 12 ∧ g 1 = fw (G 13) (G 14) (G 15) (G 16) ∧ zB (G 13) ∧ zB (G 14) ∧ zB (G 15) ∧ zB (G 16) ∧ g 4 = G 17 ∧ zB (G 17) ∧ g 5 = G 18 ∧ zB (G 18) ∧ g 6 = G 19 ∧ zB (G 19) ∧ g 11 = G 20 ∧ zB (G 20) ∧ vp_in (G 6) 4 ∧ halQ (G 10)
theorem qRG.pc {g G : Nat → Int32} (h : qRG g G) : g 8 = G 4 := h.1
theorem qRG.nx {g G : Nat → Int32} (h : qRG g G) : g 9 = G 5 := h.2.1
theorem qRG.wi {g G : Nat → Int32} (h : qRG g G) : g 0 = G 6 := h.2.2.1
theorem qRG.y {g G : Nat → Int32} (h : qRG g G) : g 2 = G 7 := h.2.2.2.1
theorem qRG.inv {g G : Nat → Int32} (h : qRG g G) : g 3 = G 8 := h.2.2.2.2.1
theorem qRG.ba {g G : Nat → Int32} (h : qRG g G) : g 7 = G 9 := h.2.2.2.2.2.1
theorem qRG.ha {g G : Nat → Int32} (h : qRG g G) : g 12 = G 10 := h.2.2.2.2.2.2.1
theorem qRG.st {g G : Nat → Int32} (h : qRG g G) : g 13 = G 11 := h.2.2.2.2.2.2.2.1
theorem qRG.tr {g G : Nat → Int32} (h : qRG g G) : g 14 = G 12 := h.2.2.2.2.2.2.2.2.1
theorem qRG.fl {g G : Nat → Int32} (h : qRG g G) : g 1 = fw (G 13) (G 14) (G 15) (G 16) := h.2.2.2.2.2.2.2.2.2.1
theorem qRG.zn {g G : Nat → Int32} (h : qRG g G) : zB (G 13) := h.2.2.2.2.2.2.2.2.2.2.1
theorem qRG.zz {g G : Nat → Int32} (h : qRG g G) : zB (G 14) := h.2.2.2.2.2.2.2.2.2.2.2.1
theorem qRG.zv {g G : Nat → Int32} (h : qRG g G) : zB (G 15) := h.2.2.2.2.2.2.2.2.2.2.2.2.1
theorem qRG.zc {g G : Nat → Int32} (h : qRG g G) : zB (G 16) := h.2.2.2.2.2.2.2.2.2.2.2.2.2.1
theorem qRG.s {g G : Nat → Int32} (h : qRG g G) : g 4 = G 17 := h.2.2.2.2.2.2.2.2.2.2.2.2.2.2.1
theorem qRG.zs {g G : Nat → Int32} (h : qRG g G) : zB (G 17) := h.2.2.2.2.2.2.2.2.2.2.2.2.2.2.2.1
theorem qRG.ps {g G : Nat → Int32} (h : qRG g G) : g 5 = G 18 := h.2.2.2.2.2.2.2.2.2.2.2.2.2.2.2.2.1
theorem qRG.zp {g G : Nat → Int32} (h : qRG g G) : zB (G 18) := h.2.2.2.2.2.2.2.2.2.2.2.2.2.2.2.2.2.1
theorem qRG.et {g G : Nat → Int32} (h : qRG g G) : g 6 = G 19 := h.2.2.2.2.2.2.2.2.2.2.2.2.2.2.2.2.2.2.1
theorem qRG.ze {g G : Nat → Int32} (h : qRG g G) : zB (G 19) := h.2.2.2.2.2.2.2.2.2.2.2.2.2.2.2.2.2.2.2.1
theorem qRG.an {g G : Nat → Int32} (h : qRG g G) : g 11 = G 20 := h.2.2.2.2.2.2.2.2.2.2.2.2.2.2.2.2.2.2.2.2.1
theorem qRG.za {g G : Nat → Int32} (h : qRG g G) : zB (G 20) := h.2.2.2.2.2.2.2.2.2.2.2.2.2.2.2.2.2.2.2.2.2.1
theorem qRG.win {g G : Nat → Int32} (h : qRG g G) : vp_in (G 6) 4 := h.2.2.2.2.2.2.2.2.2.2.2.2.2.2.2.2.2.2.2.2.2.2.1
theorem qRG.hal {g G : Nat → Int32} (h : qRG g G) : halQ (G 10) := h.2.2.2.2.2.2.2.2.2.2.2.2.2.2.2.2.2.2.2.2.2.2.2
theorem qRG.sPc {g G : Nat → Int32} (h : qRG g G) (v : Int32) : qRG (upd g 8 v) (upd G 4 v) := ⟨rfl, h.nx, h.wi, h.y, h.inv, h.ba, h.ha, h.st, h.tr, h.fl, h.zn, h.zz, h.zv, h.zc, h.s, h.zs, h.ps, h.zp, h.et, h.ze, h.an, h.za, h.win, h.hal⟩
theorem qRG.sNx {g G : Nat → Int32} (h : qRG g G) (v : Int32) : qRG (upd g 9 v) (upd G 5 v) := ⟨h.pc, rfl, h.wi, h.y, h.inv, h.ba, h.ha, h.st, h.tr, h.fl, h.zn, h.zz, h.zv, h.zc, h.s, h.zs, h.ps, h.zp, h.et, h.ze, h.an, h.za, h.win, h.hal⟩
theorem qRG.sWi {g G : Nat → Int32} (h : qRG g G) (v : Int32) (hv : vp_in v 4) : qRG (upd g 0 v) (upd G 6 v) := ⟨h.pc, h.nx, rfl, h.y, h.inv, h.ba, h.ha, h.st, h.tr, h.fl, h.zn, h.zz, h.zv, h.zc, h.s, h.zs, h.ps, h.zp, h.et, h.ze, h.an, h.za, hv, h.hal⟩
theorem qRG.sY {g G : Nat → Int32} (h : qRG g G) (v : Int32) : qRG (upd g 2 v) (upd G 7 v) := ⟨h.pc, h.nx, h.wi, rfl, h.inv, h.ba, h.ha, h.st, h.tr, h.fl, h.zn, h.zz, h.zv, h.zc, h.s, h.zs, h.ps, h.zp, h.et, h.ze, h.an, h.za, h.win, h.hal⟩
theorem qRG.sInv {g G : Nat → Int32} (h : qRG g G) (v : Int32) : qRG (upd g 3 v) (upd G 8 v) := ⟨h.pc, h.nx, h.wi, h.y, rfl, h.ba, h.ha, h.st, h.tr, h.fl, h.zn, h.zz, h.zv, h.zc, h.s, h.zs, h.ps, h.zp, h.et, h.ze, h.an, h.za, h.win, h.hal⟩
theorem qRG.sBa {g G : Nat → Int32} (h : qRG g G) (v : Int32) : qRG (upd g 7 v) (upd G 9 v) := ⟨h.pc, h.nx, h.wi, h.y, h.inv, rfl, h.ha, h.st, h.tr, h.fl, h.zn, h.zz, h.zv, h.zc, h.s, h.zs, h.ps, h.zp, h.et, h.ze, h.an, h.za, h.win, h.hal⟩
theorem qRG.sHa {g G : Nat → Int32} (h : qRG g G) (v : Int32) (hv : halQ v) : qRG (upd g 12 v) (upd G 10 v) := ⟨h.pc, h.nx, h.wi, h.y, h.inv, h.ba, rfl, h.st, h.tr, h.fl, h.zn, h.zz, h.zv, h.zc, h.s, h.zs, h.ps, h.zp, h.et, h.ze, h.an, h.za, h.win, hv⟩
theorem qRG.sSt {g G : Nat → Int32} (h : qRG g G) (v : Int32) : qRG (upd g 13 v) (upd G 11 v) := ⟨h.pc, h.nx, h.wi, h.y, h.inv, h.ba, h.ha, rfl, h.tr, h.fl, h.zn, h.zz, h.zv, h.zc, h.s, h.zs, h.ps, h.zp, h.et, h.ze, h.an, h.za, h.win, h.hal⟩
theorem qRG.sTr {g G : Nat → Int32} (h : qRG g G) (v : Int32) : qRG (upd g 14 v) (upd G 12 v) := ⟨h.pc, h.nx, h.wi, h.y, h.inv, h.ba, h.ha, h.st, rfl, h.fl, h.zn, h.zz, h.zv, h.zc, h.s, h.zs, h.ps, h.zp, h.et, h.ze, h.an, h.za, h.win, h.hal⟩
theorem qRG.sS {g G : Nat → Int32} (h : qRG g G) (v : Int32) (hv : zB v) : qRG (upd g 4 v) (upd G 17 v) := ⟨h.pc, h.nx, h.wi, h.y, h.inv, h.ba, h.ha, h.st, h.tr, h.fl, h.zn, h.zz, h.zv, h.zc, rfl, hv, h.ps, h.zp, h.et, h.ze, h.an, h.za, h.win, h.hal⟩
theorem qRG.sPs {g G : Nat → Int32} (h : qRG g G) (v : Int32) (hv : zB v) : qRG (upd g 5 v) (upd G 18 v) := ⟨h.pc, h.nx, h.wi, h.y, h.inv, h.ba, h.ha, h.st, h.tr, h.fl, h.zn, h.zz, h.zv, h.zc, h.s, h.zs, rfl, hv, h.et, h.ze, h.an, h.za, h.win, h.hal⟩
theorem qRG.sEt {g G : Nat → Int32} (h : qRG g G) (v : Int32) (hv : zB v) : qRG (upd g 6 v) (upd G 19 v) := ⟨h.pc, h.nx, h.wi, h.y, h.inv, h.ba, h.ha, h.st, h.tr, h.fl, h.zn, h.zz, h.zv, h.zc, h.s, h.zs, h.ps, h.zp, rfl, hv, h.an, h.za, h.win, h.hal⟩
theorem qRG.sAn {g G : Nat → Int32} (h : qRG g G) (v : Int32) (hv : zB v) : qRG (upd g 11 v) (upd G 20 v) := ⟨h.pc, h.nx, h.wi, h.y, h.inv, h.ba, h.ha, h.st, h.tr, h.fl, h.zn, h.zz, h.zv, h.zc, h.s, h.zs, h.ps, h.zp, h.et, h.ze, rfl, hv, h.win, h.hal⟩
theorem qRG.sFl {g G : Nat → Int32} (h : qRG g G) {x n z v c : Int32} (e : x = fw n z v c) (hn : zB n) (hz : zB z) (hv : zB v) (hc : zB c) : qRG (upd g 1 x) (upd (upd (upd (upd G 13 n) 14 z) 15 v) 16 c) := ⟨h.pc, h.nx, h.wi, h.y, h.inv, h.ba, h.ha, h.st, h.tr, e, hn, hz, hv, hc, h.s, h.zs, h.ps, h.zp, h.et, h.ze, h.an, h.za, h.win, h.hal⟩
theorem qRG.k10 {g G : Nat → Int32} (h : qRG g G) (v : Int32) : qRG (upd g 10 v) G := ⟨h.pc, h.nx, h.wi, h.y, h.inv, h.ba, h.ha, h.st, h.tr, h.fl, h.zn, h.zz, h.zv, h.zc, h.s, h.zs, h.ps, h.zp, h.et, h.ze, h.an, h.za, h.win, h.hal⟩
theorem qRG.m0 {g G : Nat → Int32} (h : qRG g G) (v : Int32) : qRG g (upd G 0 v) := ⟨h.pc, h.nx, h.wi, h.y, h.inv, h.ba, h.ha, h.st, h.tr, h.fl, h.zn, h.zz, h.zv, h.zc, h.s, h.zs, h.ps, h.zp, h.et, h.ze, h.an, h.za, h.win, h.hal⟩
theorem qRG.m1 {g G : Nat → Int32} (h : qRG g G) (v : Int32) : qRG g (upd G 1 v) := ⟨h.pc, h.nx, h.wi, h.y, h.inv, h.ba, h.ha, h.st, h.tr, h.fl, h.zn, h.zz, h.zv, h.zc, h.s, h.zs, h.ps, h.zp, h.et, h.ze, h.an, h.za, h.win, h.hal⟩
theorem qRG.m2 {g G : Nat → Int32} (h : qRG g G) (v : Int32) : qRG g (upd G 2 v) := ⟨h.pc, h.nx, h.wi, h.y, h.inv, h.ba, h.ha, h.st, h.tr, h.fl, h.zn, h.zz, h.zv, h.zc, h.s, h.zs, h.ps, h.zp, h.et, h.ze, h.an, h.za, h.win, h.hal⟩
theorem qRG.m3 {g G : Nat → Int32} (h : qRG g G) (v : Int32) : qRG g (upd G 3 v) := ⟨h.pc, h.nx, h.wi, h.y, h.inv, h.ba, h.ha, h.st, h.tr, h.fl, h.zn, h.zz, h.zv, h.zc, h.s, h.zs, h.ps, h.zp, h.et, h.ze, h.an, h.za, h.win, h.hal⟩
theorem qRG.m21 {g G : Nat → Int32} (h : qRG g G) (v : Int32) : qRG g (upd G 21 v) := ⟨h.pc, h.nx, h.wi, h.y, h.inv, h.ba, h.ha, h.st, h.tr, h.fl, h.zn, h.zz, h.zv, h.zc, h.s, h.zs, h.ps, h.zp, h.et, h.ze, h.an, h.za, h.win, h.hal⟩
theorem qRG.m22 {g G : Nat → Int32} (h : qRG g G) (v : Int32) : qRG g (upd G 22 v) := ⟨h.pc, h.nx, h.wi, h.y, h.inv, h.ba, h.ha, h.st, h.tr, h.fl, h.zn, h.zz, h.zv, h.zc, h.s, h.zs, h.ps, h.zp, h.et, h.ze, h.an, h.za, h.win, h.hal⟩

def RP (p : SP) (d : SD) : Prop := qRG p.1 d.1 ∧ RR p.2.2.1 d.2.2.2.1 d.2.2.2.2.1 d.2.2.2.2.2 ∧ qRM p.2.2.2 d.2.2.1
/-- while a word is done: no trap yet, the next place but one agrees -/
def RX (p : SP) (d : SD) : Prop := RP p d ∧ p.1 10 = d.1 22 ∧ d.1 21 = (-1 : Int32) ∧ d.1 20 = (0 : Int32)
/-- behind a word: the class's trap and state, the reference's state -/
def qPF (q : Int32 × SP) (d : SD) : Prop := RP q.2 d ∧ q.2.1 10 = d.1 22 ∧ q.1 = d.1 21 ∧ (q.1 = (-1 : Int32) ∨ ((0 : Int32) ≤ q.1 ∧ d.1 20 = (0 : Int32)))
theorem pf_trap {p : SP} {d : SD} (h : RX p d) {t : Int32} (ht : (0 : Int32) ≤ t) : qPF (t, p) (upd d.1 21 t, d.2.1, d.2.2.1, d.2.2.2.1, d.2.2.2.2.1, d.2.2.2.2.2) :=
  ⟨⟨h.1.1.m21 t, h.1.2.1, h.1.2.2⟩, h.2.1, rfl, Or.inr ⟨ht, h.2.2.2⟩⟩
theorem pf_go {p : SP} {d : SD} (h : RX p d) : qPF ((-1 : Int32), p) d := ⟨h.1, h.2.1, h.2.2.1.symm, Or.inl rfl⟩
theorem m21n {d : SD} (h : d.1 21 = (-1 : Int32)) : ¬ (0 : Int32) ≤ d.1 21 := by rw [h]; decide
theorem m21l {d : SD} (h : d.1 21 = (-1 : Int32)) : d.1 21 < (0 : Int32) := by rw [h]; decide
theorem traps0 (d : SD) (t : Int32) : m_traps d (0 : Int32) t = d := by unfold m_traps; exact if_pos rfl
theorem traps1 {d : SD} (h : d.1 21 = (-1 : Int32)) (t : Int32) : m_traps d (1 : Int32) t = (upd d.1 21 t, d.2.1, d.2.2.1, d.2.2.2.1, d.2.2.2.2.1, d.2.2.2.2.2) := by
  unfold m_traps
  dsimp only
  rw [if_neg (by decide), if_neg (m21n h)]
theorem trapsB {d : SD} {t : Int32} (h : (0 : Int32) ≤ d.1 21) (b : Int32) : m_traps d b t = d := by
  unfold m_traps
  dsimp only
  by_cases c : b = (0 : Int32)
  · rw [if_pos c]
  · rw [if_neg c, if_pos h]
theorem rd_eq {p : SP} {d : SD} (h : RP p d) {n : Int32} (hn : vp_in n 32) : f_rread p.2.2.1 (p.1 0) n = m_get d n (d.1 6) := by
  rw [h.1.wi]
  exact rr_get h.2.1 h.1.win hn
/-- a value delivered -/
theorem wr_rx {p : SP} {d : SD} (h : RX p d) {n : Int32} (hn : vp_in n 32) (v : Int32) : RX (p.1, p.2.1, f_rwrite p.2.2.1 (p.1 0) n v, p.2.2.2) (m_gives d n (d.1 6) v) := by
  obtain ⟨gl, ou, lo, e, hr⟩ := rr_put (d := d) v h.1.2.1 h.1.1.win hn
  rw [e, h.1.1.wi]
  exact ⟨⟨h.1.1, hr, h.1.2.2⟩, h.2.1, h.2.2.1, h.2.2.2⟩
