def byN (i k : Nat) : Nat := ((bytS.getD i []).getD k 0).toInt.toNat
theorem by_fin : ∀ i, i < 9 → ∀ k, k < 97 → f_schar i (nI k) = nI (byN i k) ∧ byN i k < 256 := by decide +kernel
theorem len_fin : ∀ i, i < 9 → lenS.getD i 0 < 96 ∧ f_slen i = nI (lenS.getD i 0) := by decide +kernel
/-- the places of the names in a row -/
def segs (i : Nat) : Nat → Nat → Nat → List (Nat × Nat)
  | 0, _, _ => []
  | n + 1, s, k => if lenS.getD i 0 < k then [] else if k = lenS.getD i 0 ∨ byN i k = 32 then (s, k) :: segs i n (k + 1) (k + 1) else segs i n s (k + 1)
def chn (P : Nat × Nat → Int32) : List (Nat × Nat) → Nat → Int32
  | [], _ => -1
  | w :: r, j => if P w = (0 : Int32) then chn P r (j + 1) else nI j
theorem ix_chn {a : SA} {i : Nat} (hi : i < 9) {p : Int32} : ∀ n k s j, k + n = lenS.getD i 0 + 2 → k ≤ lenS.getD i 0 + 1 → s ≤ k → j ≤ k →
    fl_A_indexIn_8 a i p n (nI j) (nI s) k = chn (fun w => f_isSpelled a i (nI w.1) (nI w.2) p) (segs i n s k) j := by
  obtain ⟨hl, es⟩ := len_fin i hi
  intro n
  induction n with
  | zero => intro k s j h1 h2; omega
  | succ n ih =>
    intro k s j h1 h2 h3 h4
    rw [fl_A_indexIn_8, segs, es]
    by_cases c : lenS.getD i 0 < k
    · rw [if_pos (nI_lt c (by omega)), if_pos c]
      rfl
    · rw [if_neg (nI_nlt (by omega) (by omega)), if_neg c]
      dsimp only
      have e1 : nI j + (1 : Int32) = nI (j + 1) := (nI_succ j).symm
      have e2 : nI k + (1 : Int32) = nI (k + 1) := (nI_succ k).symm
      rw [e1, e2]
      by_cases c2 : k = lenS.getD i 0
      · rw [if_pos (by rw [c2]), if_pos (Or.inl c2), chn]
        by_cases c3 : f_isSpelled a i (nI s) (nI k) p = (0 : Int32)
        · rw [if_pos c3, if_pos c3]
          exact ih (k + 1) (k + 1) (j + 1) (by omega) (by omega) (by omega) (by omega)
        · rw [if_neg c3, if_neg c3]
      · rw [if_neg (fun z => c2 ((nI_inj (by omega) (by omega)).mp z)), (by_fin i hi k (by omega)).1]
        have hb := (by_fin i hi k (by omega)).2
        by_cases c4 : byN i k = 32
        · rw [if_pos (by rw [c4]; rfl), if_pos (Or.inr c4), chn]
          by_cases c3 : f_isSpelled a i (nI s) (nI k) p = (0 : Int32)
          · rw [if_pos c3, if_pos c3]
            exact ih (k + 1) (k + 1) (j + 1) (by omega) (by omega) (by omega) (by omega)
          · rw [if_neg c3, if_neg c3]
        · rw [if_neg (show ¬ nI (byN i k) = (32 : Int32) from fun z => c4 ((nI_inj (b := 32) (by omega) (by omega)).mp z)), if_neg (fun z => z.elim c2 c4)]
          exact ih (k + 1) s j (by omega) (by omega) (by omega) (by omega)
/-- the letters of a name in a row -/
def wd (i : Nat) (w : Nat × Nat) : List Nat := (List.range (w.2 - w.1)).map (fun k => byN i (w.1 + k))
def qwords (i : Nat) : List (List Nat) := (segs i (lenS.getD i 0 + 2) 0 0).map (wd i)
def qidx : List (List Nat) → List Nat → Nat → Int32
  | [], _, _ => -1
  | w :: r, x, j => if w = x then nI j else qidx r x (j + 1)
/-- the letters of the line from p to m -/
def seg (ln : Nat → Nat) (p m : Nat) : List Nat := (List.range (m - p)).map (fun k => ln (p + k))
theorem seg_ok : ∀ i, i < 9 → ∀ w ∈ segs i (lenS.getD i 0 + 2) 0 0, w.1 ≤ w.2 ∧ w.2 < 97 := by decide +kernel
theorem spell_loop {a : SA} {i s p m : Nat} {ln : Nat → Nat} (hi : i < 9) (hs : s + (m - p) < 97) (hm : m ≤ 40) (hp : p ≤ m) (ha : a.1 1 = nI m) (hl : ∀ k, k < m → a.2 k = nI (ln k) ∧ ln k < 256) {p2 : Int32} :
    ∀ n k, k + n = 42 → k ≤ m - p → (fl_A_isSpelled_18 a i (nI s) p2 (nI p) n k = (0 : Int32) ↔ ¬ ∀ q, k ≤ q → q < m - p → byN i (s + q) = ln (p + q)) := by
  have es : nI m - nI p = nI (m - p) := by
    apply Int32.toInt_inj.mp
    have b1 := nI_toInt (n := m) (by omega)
    have b0 := nI_toInt (n := p) (by omega)
    rw [nI_toInt (by omega), Int32.toInt_sub, b1, b0]
    have : ((m : Int) - (p : Int)).bmod (2 ^ 32) = (m : Int) - (p : Int) := by
      apply Int.bmod_eq_of_le <;> omega
    rw [this]
    omega
  intro n
  induction n with
  | zero => intro k h1 h2; omega
  | succ n ih =>
    intro k h1 h2
    rw [fl_A_isSpelled_18, ha, es]
    by_cases c : k = m - p
    · rw [if_pos (by rw [c]; exact nI_le (Nat.le_refl _) (by omega))]
      exact ⟨fun z => absurd z n10, fun z => absurd (fun q q1 q2 => by omega) z⟩
    · rw [if_neg (nI_ge (by omega) (by omega)), qnI_add, qnI_add, nI_clamp (by omega)]
      dsimp only
      have hb := by_fin i hi (s + k) (by omega)
      have hk := hl (p + k) (by omega)
      rw [hb.1, hk.1]
      by_cases c2 : byN i (s + k) = ln (p + k)
      · rw [if_pos (by rw [c2]), ih (k + 1) (by omega) (by omega)]
        constructor
        · intro z y
          exact z (fun q q1 q2 => y q (by omega) q2)
        · intro z y
          refine z (fun q q1 q2 => ?_)
          by_cases e : q = k
          · rw [e]; exact c2
          · exact y q (by omega) q2
      · rw [if_neg (fun z => c2 ((nI_inj (by omega) (by omega)).mp z))]
        exact ⟨fun _ y => c2 (y k (Nat.le_refl _) (by omega)), fun _ => rfl⟩
theorem spell {a : SA} {i s e p m : Nat} {ln : Nat → Nat} (hi : i < 9) (hse : s ≤ e) (he : e < 97) (hm : m ≤ 40) (hp : p ≤ m) (ha : a.1 1 = nI m) (hl : ∀ k, k < m → a.2 k = nI (ln k) ∧ ln k < 256) :
    (f_isSpelled a i (nI s) (nI e) (nI p) = (0 : Int32) ↔ ¬ wd i (s, e) = seg ln p m) := by
  have e1 : nI m - nI p = nI (m - p) := by
    apply Int32.toInt_inj.mp
    have b1 := nI_toInt (n := m) (by omega)
    have b0 := nI_toInt (n := p) (by omega)
    rw [nI_toInt (by omega), Int32.toInt_sub, b1, b0]
    have : ((m : Int) - (p : Int)).bmod (2 ^ 32) = (m : Int) - (p : Int) := by
      apply Int.bmod_eq_of_le <;> omega
    rw [this]
    omega
  have e2 : nI e - nI s = nI (e - s) := by
    apply Int32.toInt_inj.mp
    have b1 := nI_toInt (n := e) (by omega)
    have b0 := nI_toInt (n := s) (by omega)
    rw [nI_toInt (by omega), Int32.toInt_sub, b1, b0]
    have : ((e : Int) - (s : Int)).bmod (2 ^ 32) = (e : Int) - (s : Int) := by
      apply Int.bmod_eq_of_le <;> omega
    rw [this]
    omega
  unfold f_isSpelled
  rw [ha, e1, e2]
  by_cases c : e - s = m - p
  · rw [if_pos (by rw [c]), spell_loop hi (by omega) hm hp ha hl 42 0 (by omega) (by omega)]
    have : (wd i (s, e) = seg ln p m) ↔ ∀ q, 0 ≤ q → q < m - p → byN i (s + q) = ln (p + q) := by
      unfold wd seg
      dsimp only
      rw [c]
      constructor
      · intro h q _ hq
        have := congrArg (fun l => l[q]?) h
        simpa [hq] using this
      · intro h
        apply List.map_congr_left
        intro q hq
        exact h q (by omega) (List.mem_range.mp hq)
    rw [this]
  · rw [if_neg (fun z => c ((nI_inj (by omega) (by omega)).mp z))]
    refine ⟨fun _ z => c ?_, fun _ => rfl⟩
    have := congrArg List.length z
    unfold wd seg at this
    simpa using this
theorem chn_idx {P : Nat × Nat → Int32} {i : Nat} {x : List Nat} : ∀ l j, (∀ w ∈ l, P w = (0 : Int32) ↔ ¬ wd i w = x) → chn P l j = qidx (l.map (wd i)) x j := by
  intro l
  induction l with
  | nil => intro j _; rfl
  | cons w r ih =>
    intro j h
    rw [chn, List.map_cons, qidx]
    have hw := h w (List.mem_cons_self ..)
    by_cases c : wd i w = x
    · rw [if_pos c, if_neg (fun z => hw.mp z c)]
    · rw [if_neg c, if_pos (hw.mpr c)]
      exact ih (j + 1) (fun v hv => h v (List.mem_cons_of_mem _ hv))
theorem index_eq {a : SA} {i p m : Nat} {ln : Nat → Nat} (hi : i < 9) (hm : m ≤ 40) (hp : p ≤ m) (ha : a.1 1 = nI m) (hl : ∀ k, k < m → a.2 k = nI (ln k) ∧ ln k < 256) : f_indexIn a i (nI p) = qidx (qwords i) (seg ln p m) 0 := by
  unfold f_indexIn qwords
  have r := ix_chn (a := a) hi (p := nI p) (lenS.getD i 0 + 2) 0 0 0 (by omega) (by omega) (by omega) (by omega)
  rw [show fl_A_indexIn_8 a i (nI p) (lenS.getD i 0 + 2) (0 : Int32) (0 : Int32) 0 = _ from r]
  refine chn_idx _ 0 (fun w hw => ?_)
  have o := seg_ok i hi w hw
  exact spell hi o.1 o.2 hm hp ha hl
def qpack : List Nat → Nat
  | [] => 0
  | c :: r => qpack r * 256 + c
def unp : Nat → Nat → List Nat
  | 0, _ => []
  | n + 1, x => if x = 0 then [] else x % 256 :: unp n (x / 256)
theorem pack_inj : ∀ l1 l2 : List Nat, (∀ c ∈ l1, 0 < c ∧ c < 256) → (∀ c ∈ l2, 0 < c ∧ c < 256) → qpack l1 = qpack l2 → l1 = l2 := by
  intro l1
  induction l1 with
  | nil =>
    intro l2 _ h2 e
    cases l2 with
    | nil => rfl
    | cons c r =>
      have := h2 c (List.mem_cons_self ..)
      rw [qpack, qpack] at e
      omega
  | cons c r ih =>
    intro l2 h1 h2 e
    cases l2 with
    | nil =>
      have := h1 c (List.mem_cons_self ..)
      rw [qpack, qpack] at e
      omega
    | cons c2 r2 =>
      have k1 := h1 c (List.mem_cons_self ..)
      have k2 := h2 c2 (List.mem_cons_self ..)
      rw [qpack, qpack] at e
      have ec : c = c2 := by omega
      have er : qpack r = qpack r2 := by omega
      rw [ec, ih r2 (fun x hx => h1 x (List.mem_cons_of_mem _ hx)) (fun x hx => h2 x (List.mem_cons_of_mem _ hx)) er]
theorem pack_lt : ∀ (l : List Nat) (n : Nat), (∀ c ∈ l, c < 256) → l.length ≤ n → qpack l < 256 ^ n := by
  intro l
  induction l with
  | nil => intro n _ _; exact Nat.pos_of_ne_zero (by simp)
  | cons c r ih =>
    intro n h hn
    cases n with
    | zero => simp at hn
    | succ n =>
      have k := h c (List.mem_cons_self ..)
      have q := ih n (fun x hx => h x (List.mem_cons_of_mem _ hx)) (by simpa using hn)
      rw [qpack, Nat.pow_succ]
      omega
/-- the reference's names -/
def KN (r : Nat) : List Nat := unp 8 (nmL.getD r 0).toInt.toNat
def KNs : List (List Nat) := (List.range 91).map KN
theorem kn_fin : ∀ r, r < 91 → nmT r = lN (qpack (KN r)) ∧ (KN r).length ≤ 8 ∧ 0 < (KN r).length ∧ (∀ c ∈ KN r, 0 < c ∧ c < 256) := by decide +kernel
def rowL (x : List Nat) : Nat → Nat → Nat
  | 0, j => j
  | n + 1, j => if KN j = x then j else rowL x n (j + 1)
theorem pack_8 {l : List Nat} (h : ∀ c ∈ l, 0 < c ∧ c < 256) (hl : l.length ≤ 8) : qpack l < 2 ^ 64 := pack_lt l 8 (fun c hc => (h c hc).2) hl
/-- a row's name is the line's, where the packed numbers agree -/
theorem row_eq {x : List Nat} (hx : ∀ c ∈ x, 0 < c ∧ c < 256) {X : Int64} (hX : X = (if x.length ≤ 8 then lN (qpack x) else 0)) {r : Nat} (hr : r < 91) : (nmT r = X ↔ KN r = x) := by
  obtain ⟨k1, k2, k3, k4⟩ := kn_fin r hr
  rw [k1, hX]
  by_cases c : x.length ≤ 8
  · rw [if_pos c]
    constructor
    · intro e
      have e2 := congrArg (fun z : Int64 => z.toBitVec.toNat) e
      have e3 : (lN (qpack (KN r))).toBitVec.toNat = (lN (qpack x)).toBitVec.toNat := e2
      rw [wb_tn (pack_8 k4 k2), wb_tn (pack_8 hx c)] at e3
      exact pack_inj _ _ k4 hx e3
    · intro e; rw [e]
  · rw [if_neg c]
    constructor
    · intro e
      have e3 : (lN (qpack (KN r))).toBitVec.toNat = (lN 0).toBitVec.toNat := by rw [e]; rfl
      rw [wb_tn (pack_8 k4 k2), wb_tn (by decide)] at e3
      have e4 : KN r = [] := pack_inj _ [] k4 (by simp) e3
      rw [e4] at k3
      exact absurd k3 (by decide)
    · intro e
      rw [e] at k2
      exact absurd k2 c
theorem row_loop {d : SD} {m : Nat} {x : List Nat} (hx : ∀ c ∈ x, 0 < c ∧ c < 256) {X : Int64} (hX : X = (if x.length ≤ 8 then lN (qpack x) else 0)) : ∀ n j, j + n = 91 → fl_D_assembled_76 d (n + 2) X m j = fg_D_assembled_104 d X m (rowL x n j) := by
  intro n
  induction n with
  | zero =>
    intro j hj
    have : j = 91 := by omega
    subst this
    rw [fl_D_assembled_76, if_pos (show (91 : Int32) ≤ nI 91 from by decide)]
    rfl
  | succ n ih =>
    intro j hj
    rw [fl_D_assembled_76, if_neg (show ¬ (91 : Int32) ≤ nI j from nI_ge (b := 91) (by omega) (by omega)), nI_clamp (by omega), rowL]
    have q := row_eq hx hX (r := j) (by omega)
    by_cases c : KN j = x
    · rw [if_pos c, if_pos ((lg_cmp_eq _ _).mpr (q.mpr c))]
    · rw [if_neg c, if_neg (fun z => c (q.mp ((lg_cmp_eq _ _).mp z)))]
      exact ih (j + 1) (by omega)
theorem seg_mem {ln : Nat → Nat} {p m c : Nat} (h : c ∈ seg ln p m) : ∃ k, p ≤ k ∧ k < m ∧ c = ln k := by
  unfold seg at h
  obtain ⟨k, hk, e⟩ := List.mem_map.mp h
  exact ⟨p + k, by omega, by have := List.mem_range.mp hk; omega, e.symm⟩
theorem seg_len (ln : Nat → Nat) (p m : Nat) : (seg ln p m).length = m - p := by unfold seg; simp
theorem pack_app : ∀ (l : List Nat) (c : Nat), qpack (l ++ [c]) = qpack l + c * 256 ^ l.length := by
  intro l
  induction l with
  | nil => intro c; simp [qpack]
  | cons b r ih =>
    intro c
    rw [List.cons_append, qpack, qpack, ih c, List.length_cons, Nat.pow_succ, Nat.add_mul, Nat.mul_assoc]
    omega
theorem seg_succ (ln : Nat → Nat) (k : Nat) : seg ln 0 (k + 1) = seg ln 0 k ++ [ln k] := by
  unfold seg
  simp [List.range_succ]
theorem l8 {x c : Nat} (hx : x * 256 + 255 < 18446744073709551616) (hc : c < 256) : zlshl (lN x) (8 : Int32) ||| (nI c).toInt64 = lN (x * 256 + c) := by
  have e : zlshl (lN x) (8 : Int32) = lN (x * 256) := wb_shl x (k := 8) (by decide)
  have h1 : x * 256 < 2 ^ 64 := Nat.lt_of_le_of_lt (Nat.le_add_right _ 255) hx
  have h2 : c < 2 ^ 64 := Nat.lt_of_lt_of_le hc (by decide)
  rw [e, nI_i64 (n := c) (by omega), wb_or h1 h2]
  have e2 : x * 256 ||| c = x * 256 + c := by
    have := (Nat.shiftLeft_add_eq_or_of_lt (b := c) (i := 8) hc x).symm
    rw [Nat.shiftLeft_eq] at this
    exact this
  rw [e2]
/-- from the last letter to the first -/
theorem qpk_loop {d : SD} {m : Nat} {ln : Nat → Nat} (hm : m ≤ 8) (hl : ∀ k, k < m → d.2.1 k = nI (ln k) ∧ ln k < 256) : ∀ n k x, k ≤ m → k < n → (x + 1) * 256 ^ k ≤ 18446744073709551616 → fl_D_assembled_42 d n (lN x) m (nI k - (1 : Int32)) = fg_D_assembled_73 d (lN (x * 256 ^ k + qpack (seg ln 0 k))) m := by
  intro n
  induction n with
  | zero => intro k x h1 h2; omega
  | succ n ih =>
    intro k x h1 h2 h3
    rw [fl_D_assembled_42]
    cases k with
    | zero =>
      rw [if_pos (by decide +kernel)]
      simp [seg, qpack]
    | succ k =>
      obtain ⟨s1, s2, s3⟩ := sub1 (n := k) (by omega)
      have hk := hl k (by omega)
      have hp : 0 < 256 ^ k := Nat.pos_of_ne_zero (by simp)
      have h4 : (x + 1) * 256 ≤ 18446744073709551616 := by
        refine Nat.le_trans ?_ h3
        rw [Nat.pow_succ, Nat.mul_comm (256 ^ k) 256, ← Nat.mul_assoc]
        exact Nat.le_mul_of_pos_right _ hp
      rw [if_neg s1, if_neg (show ¬ (9 : Int32) ≤ nI m from nI_ge (b := 9) (by omega) (by omega)), s2, s3, nI_clamp (by omega), hk.1]
      dsimp only
      rw [l8 (x := x) (c := ln k) (by omega) hk.2, ih k (x * 256 + ln k) (by omega) (by omega) ?_]
      · congr 1
        rw [seg_succ, pack_app, seg_len, Nat.sub_zero, Nat.pow_succ, Nat.add_mul, Nat.mul_assoc, Nat.mul_comm 256]
        congr 1
        omega
      · refine Nat.le_trans ?_ h3
        rw [Nat.pow_succ, Nat.mul_comm (256 ^ k) 256, ← Nat.mul_assoc]
        exact Nat.mul_le_mul_right _ (by omega)
/-- how many letters lead the line -/
def lead (ln : Nat → Nat) (L : Nat) : Nat → Nat → Nat
  | 0, i => i
  | n + 1, i => if i < L ∧ 97 ≤ ln i ∧ ln i ≤ 122 then lead ln L n (i + 1) else i
theorem lead_ok {ln : Nat → Nat} {L : Nat} : ∀ n i, i ≤ L → lead ln L n i ≤ L ∧ i ≤ lead ln L n i ∧ ∀ k, i ≤ k → k < lead ln L n i → 97 ≤ ln k ∧ ln k ≤ 122 := by
  intro n
  induction n with
  | zero => intro i h; exact ⟨h, Nat.le_refl _, fun k h1 h2 => by have h2 : k < i := h2; omega⟩
  | succ n ih =>
    intro i h
    rw [lead]
    by_cases c : i < L ∧ 97 ≤ ln i ∧ ln i ≤ 122
    · rw [if_pos c]
      obtain ⟨q1, q2, q3⟩ := ih (i + 1) (by omega)
      refine ⟨q1, by omega, fun k h1 h2 => ?_⟩
      by_cases e : k = i
      · rw [e]; exact c.2
      · exact q3 k (by omega) h2
    · rw [if_neg c]
      exact ⟨h, Nat.le_refl _, fun k h1 h2 => by omega⟩
theorem lead_m {d : SD} {ln : Nat → Nat} {L : Nat} (hL : L ≤ 40) (h1 : d.1 1 = nI L) (hl : ∀ k, k < L → d.2.1 k = nI (ln k) ∧ ln k < 256) : ∀ n i, i + n = 41 → i ≤ L → fl_D_assembled_4 d (n + 1) i = fg_D_assembled_37 d (lead ln L n i) := by
  intro n
  induction n with
  | zero => intro i h; omega
  | succ n ih =>
    intro i h hi
    rw [fl_D_assembled_4, lead, h1]
    by_cases c : i < L
    · have hk := hl i c
      rw [if_neg (nI_ge c (by omega)), nI_clamp (by omega), hk.1, in_eq]
      dsimp only
      have e : ((97 : Int64) ≤ (nI (ln i)).toInt64 ∧ (nI (ln i)).toInt64 ≤ (122 : Int64)) ↔ (97 ≤ ln i ∧ ln i ≤ 122) := by
        rw [Int64.le_iff_toInt_le, Int64.le_iff_toInt_le, Int32.toInt_toInt64, nI_toInt (by omega), show (97 : Int64).toInt = 97 by decide, show (122 : Int64).toInt = 122 by decide]
        omega
      by_cases k : (97 : Int64) ≤ (nI (ln i)).toInt64 ∧ (nI (ln i)).toInt64 ≤ (122 : Int64)
      · rw [if_pos k, if_neg n10, if_pos ⟨c, e.mp k⟩]
        exact ih (i + 1) (by omega) (by omega)
      · rw [if_neg k, if_pos rfl, if_neg (fun z => k (e.mpr z.2))]
    · rw [if_pos (nI_le (by omega) (by omega)), if_neg (fun z => c z.1)]
def qWL : List (List (List Nat)) := [[[97, 100, 100], [97, 110, 100], [111, 114], [120, 111, 114], [115, 117, 98], [97, 110, 100, 110], [111, 114, 110], [120, 110, 111, 114], [97, 100, 100, 120], [45], [117, 109, 117, 108], [115, 109, 117, 108], [115, 117, 98, 120], [45], [117, 100, 105, 118], [115, 100, 105, 118]], [[97, 100, 100, 99, 99], [97, 110, 100, 99, 99], [111, 114, 99, 99], [120, 111, 114, 99, 99], [115, 117, 98, 99, 99], [97, 110, 100, 110, 99, 99], [111, 114, 110, 99, 99], [120, 110, 111, 114, 99, 99], [97, 100, 100, 120, 99, 99], [45], [117, 109, 117, 108, 99, 99], [115, 109, 117, 108, 99, 99], [115, 117, 98, 120, 99, 99], [45], [117, 100, 105, 118, 99, 99], [115, 100, 105, 118, 99, 99]], [[109, 117, 108, 115, 99, 99], [115, 108, 108], [115, 114, 108], [115, 114, 97]], [[114, 100, 121], [114, 100, 112, 115, 114], [114, 100, 119, 105, 109], [114, 100, 116, 98, 114]], [[119, 114, 121], [119, 114, 112, 115, 114], [119, 114, 119, 105, 109], [119, 114, 116, 98, 114]], [[106, 109, 112, 108], [114, 101, 116, 116], [45], [45], [115, 97, 118, 101], [114, 101, 115, 116, 111, 114, 101]], [[108, 100], [108, 100, 117, 98], [108, 100, 117, 104], [108, 100, 100], [115, 116], [115, 116, 98], [115, 116, 104], [115, 116, 100], [45], [108, 100, 115, 98], [108, 100, 115, 104], [45], [45], [108, 100, 115, 116, 117, 98], [45], [115, 119, 97, 112]], [[110], [101], [108, 101], [108], [108, 101, 117], [99, 115], [110, 101, 103], [118, 115], [97], [110, 101], [103], [103, 101], [103, 117], [99, 99], [112, 111, 115], [118, 99]], [[110, 111, 112], [115, 101, 116, 104, 105], [99, 97, 108, 108]]]
theorem wl_fin : ∀ i, i < 9 → qwords i = qWL.getD i [] := by decide +kernel
def cIx (i : Nat) (x : List Nat) : Int32 := qidx (qWL.getD i []) x 0
def qcCode (i : Nat) (f : Int32) (x : List Nat) : Int32 := if cIx i x < (0 : Int32) then (-1 : Int32) else f + cIx i x
def cOr (a b : Int32) : Int32 := if a < (0 : Int32) then b else a
def cOp (x : List Nat) : Int32 := cOr (cOr (cOr (cOr (cOr (qcCode 0 0 x) (qcCode 1 16 x)) (qcCode 2 36 x)) (qcCode 3 40 x)) (qcCode 4 48 x)) (qcCode 5 56 x)
def cCond (c : Nat) : List Nat → Int32
  | [] => -1
  | b :: r => if b = c then qidx (qWL.getD 7 []) r 0 else -1
def clsO (x : List Nat) : Option (Int32 × Int32) :=
  if cOp x < (0 : Int32) then
    if cIx 6 x < (0 : Int32) then
      if cCond 98 x < (0 : Int32) then
        if cCond 116 x < (0 : Int32) then
          if cIx 8 x = (0 : Int32) then some (16777216, 0) else if cIx 8 x = (1 : Int32) then some (16777216, 5) else if cIx 8 x = (2 : Int32) then some (1073741824, 6) else none
        else some (((-2147483648 : Int32) ||| (cCond 116 x <<< ((25 : Int32) &&& 31))) ||| (30408704 : Int32), 2)
      else some ((8388608 : Int32) ||| (cCond 98 x <<< ((25 : Int32) &&& 31)), 7)
    else some ((-1073741824 : Int32) ||| (cIx 6 x <<< ((19 : Int32) &&& 31)), if cIx 6 x < (4 : Int32) then (3 : Int32) else (if (7 : Int32) < cIx 6 x then (3 : Int32) else (4 : Int32)))
  else some ((-2147483648 : Int32) ||| (cOp x <<< ((19 : Int32) &&& 31)), f_formOf (cOp x))
def bnO (a : SA) : Option (Int32 × Int32) → Int32 × SA
  | none => (0, a)
  | some (b, f) => (b, (upd a.1 3 f, a.2))
theorem seg_tail (ln : Nat → Nat) {m : Nat} (h : 0 < m) : seg ln 0 m = ln 0 :: seg ln 1 m := by
  obtain ⟨k, rfl⟩ : ∃ k, m = k + 1 := ⟨m - 1, by omega⟩
  unfold seg
  rw [show k + 1 - 0 = k + 1 by omega, show k + 1 - 1 = k by omega, List.range_succ_eq_map]
  simp [Nat.add_comm]
theorem bn_eq {a : SA} {m : Nat} {ln : Nat → Nat} (hm : m ≤ 40) (ha : a.1 1 = nI m) (hl : ∀ k, k < m → a.2 k = nI (ln k) ∧ ln k < 256) : f_bitsOfName a = bnO a (clsO (seg ln 0 m)) := by
  have I : ∀ i, i < 9 → f_indexIn a i (0 : Int32) = cIx i (seg ln 0 m) := fun i hi => by
    have := index_eq (p := 0) hi hm (by omega) ha hl
    rw [wl_fin i hi] at this
    exact this
  have C : ∀ i f, i < 9 → f_codeIn a i f = qcCode i f (seg ln 0 m) := fun i f hi => by
    unfold f_codeIn qcCode
    dsimp only
    rw [I i hi]
  have O : f_operationNamed a = cOp (seg ln 0 m) := by
    unfold f_operationNamed cOp cOr
    dsimp only
    rw [C 0 _ (by omega), C 1 _ (by omega), C 2 _ (by omega), C 3 _ (by omega), C 4 _ (by omega), C 5 _ (by omega)]
  have K : ∀ c, c < 256 → f_conditionBehind a (nI c) = cCond c (seg ln 0 m) := fun c hc => by
    unfold f_conditionBehind
    dsimp only
    rw [ha]
    by_cases z : m = 0
    · rw [z, if_pos (show nI 0 ≤ (0 : Int32) from by decide)]
      rfl
    · rw [if_neg (show ¬ nI m ≤ (0 : Int32) from nI_ge (a := 0) (by omega) (by omega)), seg_tail ln (by omega), cCond]
      have h0 := hl 0 (by omega)
      rw [show (0 : Int32).toNatClampNeg = 0 from rfl, h0.1]
      by_cases e : ln 0 = c
      · rw [if_pos (by rw [e]), if_pos e]
        have := index_eq (p := 1) (show 7 < 9 by omega) hm (by omega) ha hl
        rw [wl_fin 7 (by omega)] at this
        exact this
      · rw [if_neg (fun q => e ((nI_inj (by omega) (by omega)).mp q)), if_neg e]
  unfold f_bitsOfName f_bitsOfOthers clsO
  dsimp only
  rw [O, I 6 (by omega), show f_conditionBehind a (98 : Int32) = _ from K 98 (by omega), show f_conditionBehind a (116 : Int32) = _ from K 116 (by omega), I 8 (by omega)]
  generalize seg ln 0 m = x
  by_cases c1 : cOp x < (0 : Int32)
  · rw [if_pos c1, if_pos c1]
    by_cases c2 : cIx 6 x < (0 : Int32)
    · rw [if_pos c2, if_pos c2]
      by_cases c3 : cCond 98 x < (0 : Int32)
      · rw [if_pos c3, if_pos c3]
        by_cases c4 : cCond 116 x < (0 : Int32)
        · rw [if_pos c4, if_pos c4]
          by_cases c5 : cIx 8 x = (0 : Int32)
          · rw [if_pos c5, if_pos c5]; rfl
          · rw [if_neg c5, if_neg c5]
            by_cases c6 : cIx 8 x = (1 : Int32)
            · rw [if_pos c6, if_pos c6]; rfl
            · rw [if_neg c6, if_neg c6]
              by_cases c7 : cIx 8 x = (2 : Int32)
              · rw [if_pos c7, if_pos c7]; rfl
              · rw [if_neg c7, if_neg c7]; rfl
        · rw [if_neg c4, if_neg c4]; rfl
      · rw [if_neg c3, if_neg c3]; rfl
    · rw [if_neg c2, if_neg c2]; rfl
  · rw [if_neg c1, if_neg c1]; rfl
def qtab (b k f c : Int32) : Prop := ¬ b = (0 : Int32) ∧
  ((f = (0 : Int32) ∧ k = (3 : Int32) ∧ b = ((c >>> ((6 : Int32) &&& 31)) <<< ((30 : Int32) &&& 31)) ||| ((c &&& (63 : Int32)) <<< ((19 : Int32) &&& 31))) ∨
   (f = (6 : Int32) ∧ k = (4 : Int32) ∧ b = ((c >>> ((6 : Int32) &&& 31)) <<< ((30 : Int32) &&& 31)) ||| ((c &&& (63 : Int32)) <<< ((19 : Int32) &&& 31))) ∨
   (f = (2 : Int32) ∧ k = (1 : Int32) ∧ b = ((2 : Int32) <<< ((30 : Int32) &&& 31)) ||| ((c &&& (63 : Int32)) <<< ((19 : Int32) &&& 31))) ∨
   (f = (3 : Int32) ∧ k = (2 : Int32) ∧ b = (((2 : Int32) <<< ((30 : Int32) &&& 31)) ||| ((c &&& (31 : Int32)) <<< ((25 : Int32) &&& 31))) ||| ((c >>> ((5 : Int32) &&& 31)) <<< ((19 : Int32) &&& 31))) ∨
   (f = (1 : Int32) ∧ k = (5 : Int32) ∧ b = (16777216 : Int32)) ∨
   (f = (4 : Int32) ∧ k = (6 : Int32) ∧ b = (1073741824 : Int32)) ∨
   (f = (5 : Int32) ∧ k = (7 : Int32) ∧ b = (8388608 : Int32) ||| (c <<< ((25 : Int32) &&& 31))) ∨
   (f = (7 : Int32) ∧ k = (0 : Int32) ∧ b = (16777216 : Int32)))
def tabB (o : Option (Int32 × Int32)) (f c : Int32) : Bool := match o with
  | none => false
  | some (b, k) => decide (¬ b = (0 : Int32)) && (
   (decide (f = (0 : Int32)) && decide (k = (3 : Int32)) && decide (b = ((c >>> ((6 : Int32) &&& 31)) <<< ((30 : Int32) &&& 31)) ||| ((c &&& (63 : Int32)) <<< ((19 : Int32) &&& 31)))) ||
   (decide (f = (6 : Int32)) && decide (k = (4 : Int32)) && decide (b = ((c >>> ((6 : Int32) &&& 31)) <<< ((30 : Int32) &&& 31)) ||| ((c &&& (63 : Int32)) <<< ((19 : Int32) &&& 31)))) ||
   (decide (f = (2 : Int32)) && decide (k = (1 : Int32)) && decide (b = ((2 : Int32) <<< ((30 : Int32) &&& 31)) ||| ((c &&& (63 : Int32)) <<< ((19 : Int32) &&& 31)))) ||
   (decide (f = (3 : Int32)) && decide (k = (2 : Int32)) && decide (b = (((2 : Int32) <<< ((30 : Int32) &&& 31)) ||| ((c &&& (31 : Int32)) <<< ((25 : Int32) &&& 31))) ||| ((c >>> ((5 : Int32) &&& 31)) <<< ((19 : Int32) &&& 31)))) ||
   (decide (f = (1 : Int32)) && decide (k = (5 : Int32)) && decide (b = (16777216 : Int32))) ||
   (decide (f = (4 : Int32)) && decide (k = (6 : Int32)) && decide (b = (1073741824 : Int32))) ||
   (decide (f = (5 : Int32)) && decide (k = (7 : Int32)) && decide (b = (8388608 : Int32) ||| (c <<< ((25 : Int32) &&& 31)))) ||
   (decide (f = (7 : Int32)) && decide (k = (0 : Int32)) && decide (b = (16777216 : Int32))))
theorem tab_of {o : Option (Int32 × Int32)} {f c : Int32} (h : tabB o f c = true) : ∃ b k, o = some (b, k) ∧ qtab b k f c := by
  cases o with
  | none => exact absurd h Bool.false_ne_true
  | some w =>
    obtain ⟨b, k⟩ := w
    refine ⟨b, k, rfl, ?_⟩
    unfold tabB at h
    unfold qtab
    simp only [Bool.and_eq_true, Bool.or_eq_true, decide_eq_true_eq] at h
    obtain ⟨h1, h2⟩ := h
    refine ⟨h1, ?_⟩
    rcases h2 with ((((((h2 | h2) | h2) | h2) | h2) | h2) | h2) | h2
    · exact Or.inl ⟨h2.1.1, h2.1.2, h2.2⟩
    · exact Or.inr (Or.inl ⟨h2.1.1, h2.1.2, h2.2⟩)
    · exact Or.inr (Or.inr (Or.inl ⟨h2.1.1, h2.1.2, h2.2⟩))
    · exact Or.inr (Or.inr (Or.inr (Or.inl ⟨h2.1.1, h2.1.2, h2.2⟩)))
    · exact Or.inr (Or.inr (Or.inr (Or.inr (Or.inl ⟨h2.1.1, h2.1.2, h2.2⟩))))
    · exact Or.inr (Or.inr (Or.inr (Or.inr (Or.inr (Or.inl ⟨h2.1.1, h2.1.2, h2.2⟩)))))
    · exact Or.inr (Or.inr (Or.inr (Or.inr (Or.inr (Or.inr (Or.inl ⟨h2.1.1, h2.1.2, h2.2⟩))))))
    · exact Or.inr (Or.inr (Or.inr (Or.inr (Or.inr (Or.inr (Or.inr ⟨h2.1.1, h2.1.2, h2.2⟩))))))
theorem kn_tab : ∀ r, r < 91 → tabB (clsO (KN r)) (fmT r) (cdT r) = true := by decide +kernel
theorem idx_none {x : List Nat} : ∀ l j, (∀ w ∈ l, ¬ w = x) → qidx l x j = (-1 : Int32) := by
  intro l
  induction l with
  | nil => intro j _; rfl
  | cons w r ih =>
    intro j h
    rw [qidx, if_neg (h w (List.mem_cons_self ..))]
    exact ih (j + 1) (fun v hv => h v (List.mem_cons_of_mem _ hv))
theorem wk_fin : ∀ i, i < 9 → ∀ w ∈ qWL.getD i [], i = 7 ∨ w = [45] ∨ ∃ r, r < 91 ∧ KN r = w := by decide +kernel
theorem wc_fin : ∀ w ∈ qWL.getD 7 [], (∃ r, r < 91 ∧ KN r = 98 :: w) ∧ (∃ r, r < 91 ∧ KN r = 116 :: w) := by decide +kernel
theorem cls_none {x : List Nat} (h : ∀ r, r < 91 → ¬ KN r = x) (h2 : ¬ [45] = x) : clsO x = none := by
  have I : ∀ i, i < 9 → i ≠ 7 → cIx i x = (-1 : Int32) := fun i hi h7 => by
    refine idx_none _ 0 (fun w hw e => ?_)
    rcases wk_fin i hi w hw with q | q | ⟨r, hr, q⟩
    · exact h7 q
    · exact h2 (q.symm.trans e)
    · exact h r hr (q.trans e)
  have C : ∀ i f, i < 9 → i ≠ 7 → qcCode i f x = (-1 : Int32) := fun i f hi h7 => by
    unfold qcCode
    rw [I i hi h7, if_pos (by decide)]
  have O : cOp x = (-1 : Int32) := by
    unfold cOp
    rw [C 0 _ (by omega) (by omega), C 1 _ (by omega) (by omega), C 2 _ (by omega) (by omega), C 3 _ (by omega) (by omega), C 4 _ (by omega) (by omega), C 5 _ (by omega) (by omega)]
    decide
  have K : ∀ c, (c = 98 ∨ c = 116) → cCond c x = (-1 : Int32) := fun c hc => by
    cases x with
    | nil => rfl
    | cons b r =>
      rw [cCond]
      by_cases e : b = c
      · rw [if_pos e]
        refine idx_none _ 0 (fun w hw q => ?_)
        subst q
        obtain ⟨⟨r1, k1, e1⟩, r2, k2, e2⟩ := wc_fin w hw
        rcases hc with z | z
        · exact h r1 k1 (by rw [e1, e, z])
        · exact h r2 k2 (by rw [e2, e, z])
      · rw [if_neg e]
  unfold clsO
  rw [O, I 6 (by omega) (by omega), K 98 (Or.inl rfl), K 116 (Or.inr rfl), I 8 (by omega) (by omega)]
  decide
theorem rowL_ok {x : List Nat} : ∀ n j, (j ≤ rowL x n j ∧ rowL x n j < j + n ∧ KN (rowL x n j) = x) ∨ (rowL x n j = j + n ∧ ∀ q, j ≤ q → q < j + n → ¬ KN q = x) := by
  intro n
  induction n with
  | zero => intro j; exact Or.inr ⟨rfl, fun q h1 h2 => by omega⟩
  | succ n ih =>
    intro j
    rw [rowL]
    by_cases c : KN j = x
    · rw [if_pos c]
      exact Or.inl ⟨Nat.le_refl _, by omega, c⟩
    · rw [if_neg c]
      rcases ih (j + 1) with ⟨k1, k2, k3⟩ | ⟨k1, k2⟩
      · exact Or.inl ⟨by omega, by omega, k3⟩
      · refine Or.inr ⟨by omega, fun q h1 h2 e => ?_⟩
        by_cases z : q = j
        · rw [z] at e; exact c e
        · exact k2 q (by omega) (by omega) e
/-- the name: known to both, with the same form and bits, or to none -/
theorem name_eq {x : List Nat} (h2 : ¬ [45] = x) : (∃ b k, rowL x 91 0 < 91 ∧ clsO x = some (b, k) ∧ qtab b k (fmT (rowL x 91 0)) (cdT (rowL x 91 0))) ∨ (rowL x 91 0 = 91 ∧ clsO x = none) := by
  rcases rowL_ok (x := x) 91 0 with ⟨-, k2, k3⟩ | ⟨k1, k2⟩
  · obtain ⟨b, k, e, t⟩ := tab_of (kn_tab (rowL x 91 0) (by omega))
    rw [k3] at e
    exact Or.inl ⟨b, k, by omega, e, t⟩
  · exact Or.inr ⟨by omega, cls_none (fun r hr => k2 r (by omega) (by omega)) h2⟩
def trT (u_1 : SA) : Int32 × SA := (let r_4 := (f_bitsOfName u_1).1; (let u_4 := (f_bitsOfName u_1).2; (if r_4 = (0 : Int32) then (let r_10 := f_isGood (upd u_4.1 2 (0 : Int32), u_4.2); (if r_10 = (0 : Int32) then (r_4, (upd (upd u_4.1 2 (0 : Int32)) 0 (0 : Int32), u_4.2)) else (if (u_4.1 0) ≤ (u_4.1 1) then (r_4, (upd (upd u_4.1 2 (0 : Int32)) 0 (0 : Int32), u_4.2)) else (r_4, (upd (upd (upd u_4.1 2 (0 : Int32)) 2 (u_4.1 1)) 0 (0 : Int32), u_4.2))))) else (let r_6 := (f_operands u_4).1; (let u_6 := (f_operands u_4).2; (let r_7 := f_isGood u_6; (if r_7 = (0 : Int32) then (r_4 ||| r_6, (upd u_6.1 0 (0 : Int32), u_6.2)) else (if (u_6.1 0) ≤ (u_6.1 1) then (r_4 ||| r_6, (upd u_6.1 0 (0 : Int32), u_6.2)) else (r_4 ||| r_6, (upd (upd u_6.1 2 (u_6.1 1)) 0 (0 : Int32), u_6.2))))))))))
theorem tr_lead {s : SA} {ln : Nat → Nat} {L : Nat} (hL : L ≤ 40) : ∀ n i (u : SA), i + n = 41 → i ≤ L → u.1 0 = nI L → u.1 1 = nI i → (∀ k, k < L → u.2 k = nI (ln k) ∧ ln k < 256) → fl_A_translate_10 s (n + 1) u = trT (upd u.1 1 (nI (lead ln L n i)), u.2) := by
  intro n
  induction n with
  | zero => intro i u h; omega
  | succ n ih =>
    intro i u h hi h0 h1 hl
    rw [fl_A_translate_10, lead]
    have ex : ((upd u.1 1 (nI i), u.2) : SA) = u := by rw [upd_same h1]
    have h0' := h0
    have h1' := h1
    by_cases c : i < L
    · have hk := hl i c
      have e2 : u.2 (u.1 1).toNatClampNeg = nI (ln i) := by rw [h1, nI_clamp (by omega), hk.1]
      rw [if_neg (by rw [h0, h1]; exact nI_ge c (by omega)), e2]
      by_cases k1 : 97 ≤ ln i
      · rw [if_neg (show ¬ nI (ln i) < (97 : Int32) from nI_nlt (b := 97) k1 (by omega))]
        by_cases k2 : ln i ≤ 122
        · rw [if_neg (show ¬ (122 : Int32) < nI (ln i) from nI_nlt (a := 122) k2 (by omega)), if_pos (show (i < L ∧ 97 ≤ ln i ∧ ln i ≤ 122) from ⟨c, k1, k2⟩), h1, show nI i + (1 : Int32) = nI (i + 1) from (nI_succ i).symm]
          rw [ih (i + 1) (upd u.1 1 (nI (i + 1)), u.2) (by omega) (by omega) h0 rfl hl]
          dsimp only
          rw [upd_upd]
        · rw [if_pos (show (122 : Int32) < nI (ln i) from nI_lt (a := 122) (by omega) (by omega)), if_neg (show ¬ (i < L ∧ 97 ≤ ln i ∧ ln i ≤ 122) from fun z => k2 z.2.2), ex]
          unfold trT
          with_reducible rfl
      · rw [if_pos (show nI (ln i) < (97 : Int32) from nI_lt (b := 97) (by omega) (by omega)), if_neg (show ¬ (i < L ∧ 97 ≤ ln i ∧ ln i ≤ 122) from fun z => k1 z.2.1), ex]
        unfold trT
        with_reducible rfl
    · rw [if_pos (by rw [h0, h1]; exact nI_le (by omega) (by omega)), if_neg (show ¬ (i < L ∧ 97 ≤ ln i ∧ ln i ≤ 122) from fun z => c z.1), ex]
      unfold trT
      with_reducible rfl
/-- what the line's translation comes to, in both -/
def qAO (D : SD) (f : Int32 × SA) (m : Int32 × SD) : Prop := f.2.1 2 = m.2.1 2 ∧ halQ (m.2.1 2) ∧ (m.2.1 2 = (-1 : Int32) → f.1 = m.1) ∧ f.2.1 0 = (0 : Int32) ∧ (∀ j, j ≠ 2 → j ≠ 3 → m.2.1 j = D.1 j) ∧ m.2.2 = D.2
section
variable {ln : Nat → Nat} {L : Nat} {a0 : SA} {d0 : SD}
/-- the end: what is left of the line is wrong -/
def finA (v : Int32) (s : SA) : Int32 × SA := (if f_isGood s = (0 : Int32) then (v, (upd s.1 0 (0 : Int32), s.2)) else (if (s.1 0) ≤ (s.1 1) then (v, (upd s.1 0 (0 : Int32), s.2)) else (v, (upd (upd s.1 2 (s.1 1)) 0 (0 : Int32), s.2))))
def finM (y : Int32) (e : SD) : Int32 × SD := (y, (if (0 : Int32) ≤ (e.1 2) then e else (if (e.1 1) ≤ (e.1 3) then e else m_wrong e (e.1 3))))
theorem fin_ao (H : qAL ln L a0 d0) {v y : Int32} {s : SA} {e : SD} (h : qPE a0 d0 L v s y e) : qAO d0 (finA v s) (finM y e) := by
  have hL := H.1
  unfold finA finM
  rcases h with ⟨t, g, ev⟩ | ⟨q, b⟩
  · have ht := g.2.1
    rw [gd_good g, if_neg n10, if_neg (gd_w g), gd_a0 H g, g.2.2.2.2.1, gd_d1 H g, g.2.2.2.2.2]
    by_cases c : t < L
    · rw [if_neg (nI_ge c (by omega)), if_neg (nI_ge c (by omega)), wrong_gd g]
      refine ⟨rfl, Or.inr (q_ge (q := t) (by omega)), fun z => absurd z (q_ne (q := t) (by omega)), rfl, fun j h1 h2 => ?_, g.1.2.2.2⟩
      exact (upd_ne h1).trans (g.1.2.2.1 j h1 h2)
    · rw [if_pos (nI_le (by omega) (by omega)), if_pos (nI_le (by omega) (by omega))]
      exact ⟨g.2.2.1.trans g.2.2.2.1.symm, Or.inl g.2.2.2.1, fun _ => ev, rfl, g.1.2.2.1, g.1.2.2.2⟩
  · rw [bd_good b, if_pos rfl, if_pos (bd_w b)]
    exact ⟨b.2.2.1.trans b.2.2.2.symm, Or.inr (bd_w b), fun z => absurd z (by rw [b.2.2.2]; exact q_ne b.2.1), rfl, b.1.2.2.1, b.1.2.2.2⟩
theorem target_bd {q : Nat} {a : SA} {d : SD} (b : qBD a0 d0 q a d) : (f_target a).2 = a := by
  have e := regn_bd b
  unfold f_target
  dsimp only
  exact e
theorem sources_bd {q : Nat} {a : SA} {d : SD} (b : qBD a0 d0 q a d) : (f_sources a).2 = a := by
  rw [src_eq]
  have e := regn_bd b
  have b2 : qBD a0 d0 q (f_registerNumber a).2 d := by rw [e]; exact b
  have b3 : qBD a0 d0 q (f_expect (f_registerNumber a).2 (44 : Int32)) d := by rw [ex_bd b2]; exact b2
  rw [snd2_bd b3, ex_bd b2, e]
theorem dist_bd {q : Nat} {a : SA} {d : SD} (b : qBD a0 d0 q a d) : (f_distanceAndAnnul a).2 = a := by
  have e := number_bd b (-2097152 : Int32) (2097151 : Int32)
  unfold f_distanceAndAnnul
  dsimp only
  generalize f_number a (-2097152 : Int32) (2097151 : Int32) = F at *
  have b2 : qBD a0 d0 q F.2 d := by rw [e]; exact b
  rw [bd_good b2, if_pos rfl]
  exact e
/-- the operands behind the blank -/
def opT (u : SA) : Int32 × SA := (if (u.1 3) = (1 : Int32) then f_target u else (if (u.1 3) = (2 : Int32) then f_sources u else (if (u.1 3) = (3 : Int32) then ((f_sources u).1 ||| (f_target (f_expect (f_sources u).2 (44 : Int32))).1, (f_target (f_expect (f_sources u).2 (44 : Int32))).2) else (if (u.1 3) = (4 : Int32) then ((f_target u).1 ||| (f_sources (f_expect (f_target u).2 (44 : Int32))).1, (f_sources (f_expect (f_target u).2 (44 : Int32))).2) else (if (u.1 3) = (5 : Int32) then ((f_number u (0 : Int32) (4194303 : Int32)).1 ||| (f_target (f_expect (f_number u (0 : Int32) (4194303 : Int32)).2 (44 : Int32))).1, (f_target (f_expect (f_number u (0 : Int32) (4194303 : Int32)).2 (44 : Int32))).2) else (if (u.1 3) = (6 : Int32) then f_number u (-536870912 : Int32) (536870911 : Int32) else f_distanceAndAnnul u))))))
theorem opr_eq (a : SA) : f_operands a = (if (a.1 3) = (0 : Int32) then ((0 : Int32), a) else opT (f_expect a (32 : Int32))) := by
  unfold f_operands f_behind
  dsimp only
  generalize f_expect a (32 : Int32) = u
  unfold opT
  generalize f_target u = T
  generalize f_sources u = S
  generalize f_number u (0 : Int32) (4194303 : Int32) = N
  generalize f_number u (-536870912 : Int32) (536870911 : Int32) = N2
  generalize f_distanceAndAnnul u = A
  generalize f_target (f_expect S.2 (44 : Int32)) = T2
  generalize f_sources (f_expect T.2 (44 : Int32)) = S2
  generalize f_target (f_expect N.2 (44 : Int32)) = T3
  obtain ⟨T1, T2'⟩ := T
  obtain ⟨S1, S2'⟩ := S
  obtain ⟨N1, N2'⟩ := N2
  obtain ⟨A1, A2⟩ := A
  with_reducible rfl
theorem opT_bd {q : Nat} {a : SA} {d : SD} (b : qBD a0 d0 q a d) : (opT a).2 = a := by
  have e1 := target_bd b
  have e2 := sources_bd b
  have e3 : (f_target (f_expect (f_sources a).2 (44 : Int32))).2 = a := by rw [e2, ex_bd b]; exact e1
  have e4 : (f_sources (f_expect (f_target a).2 (44 : Int32))).2 = a := by rw [e1, ex_bd b]; exact e2
  have n1 := number_bd b (0 : Int32) (4194303 : Int32)
  have e5 : (f_target (f_expect (f_number a (0 : Int32) (4194303 : Int32)).2 (44 : Int32))).2 = a := by rw [n1, ex_bd b]; exact e1
  have n2 := number_bd b (-536870912 : Int32) (536870911 : Int32)
  have e6 := dist_bd b
  unfold opT
  generalize f_target a = T at *
  generalize f_sources a = S at *
  generalize f_number a (0 : Int32) (4194303 : Int32) = N at *
  generalize f_number a (-536870912 : Int32) (536870911 : Int32) = N2 at *
  generalize f_distanceAndAnnul a = A at *
  generalize f_target (f_expect S.2 (44 : Int32)) = T2 at *
  generalize f_sources (f_expect T.2 (44 : Int32)) = S2 at *
  generalize f_target (f_expect N.2 (44 : Int32)) = T3 at *
  by_cases c1 : (a.1 3) = (1 : Int32)
  · rw [if_pos c1]; exact e1
  rw [if_neg c1]
  by_cases c2 : (a.1 3) = (2 : Int32)
  · rw [if_pos c2]; exact e2
  rw [if_neg c2]
  by_cases c3 : (a.1 3) = (3 : Int32)
  · rw [if_pos c3]; exact e3
  rw [if_neg c3]
  by_cases c4 : (a.1 3) = (4 : Int32)
  · rw [if_pos c4]; exact e4
  rw [if_neg c4]
  by_cases c5 : (a.1 3) = (5 : Int32)
  · rw [if_pos c5]; exact e5
  rw [if_neg c5]
  by_cases c6 : (a.1 3) = (6 : Int32)
  · rw [if_pos c6]; exact n2
  rw [if_neg c6]; exact e6
/-- what the reference reads behind the blank, by the row's form -/
def opM (e : SD) (f c : Int32) : Int32 × SD := ((if f = (1 : Int32) then ((((m_operand (m_comma ((m_number e (0 : Int64) (4194303 : Int64)).2))).1) <<< ((25 : Int32) &&& 31)) ||| (16777216 : Int32)) ||| ((m_number e (0 : Int64) (4194303 : Int64)).1) else (if f = (4 : Int32) then (1073741824 : Int32) ||| (((m_number e (-536870912 : Int64) (536870911 : Int64)).1) &&& (1073741823 : Int32)) else (if f = (5 : Int32) then (m_branches e c).1 else (if f = (7 : Int32) then (16777216 : Int32) else (m_formed e f c).1)))), (if f = (1 : Int32) then (m_operand (m_comma ((m_number e (0 : Int64) (4194303 : Int64)).2))).2 else (if f = (4 : Int32) then (m_number e (-536870912 : Int64) (536870911 : Int64)).2 else (if f = (5 : Int32) then (m_branches e c).2 else (if f = (7 : Int32) then e else (m_formed e f c).2)))))
theorem op_tab (H : qAL ln L a0 d0) {t : Nat} {u : SA} {e : SD} (g : GD a0 d0 L t u e) {b k f c : Int32} (hk : u.1 3 = k) (T : qtab b k f c) (nf : ¬ f = (7 : Int32)) : qPE a0 d0 L (b ||| (opT u).1) (opT u).2 (opM e f c).1 (opM e f c).2 := by
  obtain ⟨-, T⟩ := T
  have o : qOT a0 d0 L u e := Or.inl ⟨t, g⟩
  unfold opT opM
  rw [hk]
  rcases T with ⟨rfl, rfl, hB⟩ | ⟨rfl, rfl, hB⟩ | ⟨rfl, rfl, hB⟩ | ⟨rfl, rfl, hB⟩ | ⟨rfl, rfl, hB⟩ | ⟨rfl, rfl, hB⟩ | ⟨rfl, rfl, hB⟩ | ⟨rfl, rfl, hB⟩
  · simp only [if_neg (show ¬ (3 : Int32) = 1 from by decide), if_neg (show ¬ (3 : Int32) = 2 from by decide), if_true, if_neg (show ¬ (0 : Int32) = 1 from by decide), if_neg (show ¬ (0 : Int32) = 4 from by decide), if_neg (show ¬ (0 : Int32) = 5 from by decide), if_neg (show ¬ (0 : Int32) = 7 from by decide)]
    with_reducible exact f3_pe H o hB
  · simp only [if_neg (show ¬ (4 : Int32) = 1 from by decide), if_neg (show ¬ (4 : Int32) = 2 from by decide), if_neg (show ¬ (4 : Int32) = 3 from by decide), if_true, if_neg (show ¬ (6 : Int32) = 1 from by decide), if_neg (show ¬ (6 : Int32) = 4 from by decide), if_neg (show ¬ (6 : Int32) = 5 from by decide), if_neg (show ¬ (6 : Int32) = 7 from by decide)]
    with_reducible exact f6_pe H o hB
  · simp only [if_true, if_neg (show ¬ (2 : Int32) = 1 from by decide), if_neg (show ¬ (2 : Int32) = 4 from by decide), if_neg (show ¬ (2 : Int32) = 5 from by decide), if_neg (show ¬ (2 : Int32) = 7 from by decide)]
    with_reducible exact f2_pe H o hB
  · simp only [if_true, if_neg (show ¬ (2 : Int32) = 1 from by decide), if_neg (show ¬ (3 : Int32) = 1 from by decide), if_neg (show ¬ (3 : Int32) = 4 from by decide), if_neg (show ¬ (3 : Int32) = 5 from by decide), if_neg (show ¬ (3 : Int32) = 7 from by decide)]
    with_reducible exact f1_pe H o hB
  · simp only [if_true, if_neg (show ¬ (5 : Int32) = 1 from by decide), if_neg (show ¬ (5 : Int32) = 2 from by decide), if_neg (show ¬ (5 : Int32) = 3 from by decide), if_neg (show ¬ (5 : Int32) = 4 from by decide)]
    rw [hB]
    with_reducible exact fh_pe H g
  · simp only [if_true, if_neg (show ¬ (6 : Int32) = 1 from by decide), if_neg (show ¬ (6 : Int32) = 2 from by decide), if_neg (show ¬ (6 : Int32) = 3 from by decide), if_neg (show ¬ (6 : Int32) = 4 from by decide), if_neg (show ¬ (6 : Int32) = 5 from by decide), if_neg (show ¬ (4 : Int32) = 1 from by decide)]
    rw [hB]
    with_reducible exact fc_pe H g
  · simp only [if_true, if_neg (show ¬ (7 : Int32) = 1 from by decide), if_neg (show ¬ (7 : Int32) = 2 from by decide), if_neg (show ¬ (7 : Int32) = 3 from by decide), if_neg (show ¬ (7 : Int32) = 4 from by decide), if_neg (show ¬ (7 : Int32) = 5 from by decide), if_neg (show ¬ (7 : Int32) = 6 from by decide), if_neg (show ¬ (5 : Int32) = 1 from by decide), if_neg (show ¬ (5 : Int32) = 4 from by decide)]
    with_reducible exact fb_pe H g hB
  · exact absurd rfl nf
end
theorem fg104_91 (D : SD) (X : Int64) (m : Nat) : fg_D_assembled_104 D X m 91 = ((0 : Int32), m_wrong D (0 : Int32)) := by
  unfold fg_D_assembled_104
  dsimp only
  rw [if_pos (show nI 91 = (91 : Int32) from rfl)]
theorem fg104_row (D : SD) (X : Int64) {m r : Nat} (hr : r < 91) {u : SD} (hu : (if fmT r = (7 : Int32) then ((upd D.1 3 (nI m), D.2.1, D.2.2.1, D.2.2.2.1, D.2.2.2.2.1, D.2.2.2.2.2) : SD) else m_must (upd D.1 3 (nI m), D.2.1, D.2.2.1, D.2.2.2.1, D.2.2.2.2.1, D.2.2.2.2.2) (32 : Int32)) = u) :
    fg_D_assembled_104 D X m r = (if (u.1 2) < (0 : Int32) then finM (opM u (fmT r) (cdT r)).1 (opM u (fmT r) (cdT r)).2 else ((0 : Int32), u)) := by
  unfold fg_D_assembled_104
  dsimp only
  rw [if_neg (show ¬ nI r = (91 : Int32) from fun z => by have := (nI_inj (b := 91) (by omega) (by omega)).mp z; omega), nI_clamp (by omega)]
  generalize fmT r = f at *
  generalize cdT r = c at *
  by_cases c7 : f = (7 : Int32)
  · rw [if_pos c7] at hu
    subst hu
    rw [if_pos c7, c7]
    unfold finM opM
    simp only [if_neg (show ¬ (7 : Int32) = 1 from by decide), if_neg (show ¬ (7 : Int32) = 4 from by decide), if_neg (show ¬ (7 : Int32) = 5 from by decide), if_true]
    rfl
  · rw [if_neg c7] at hu
    rw [if_neg c7, hu]
    unfold finM opM
    dsimp only
    by_cases k : u.1 2 < (0 : Int32)
    · rw [if_pos k, if_pos k]
      by_cases c1 : f = (1 : Int32)
      · simp only [if_pos c1]
      · by_cases c4 : f = (4 : Int32)
        · simp only [if_neg c1, if_pos c4]
        · by_cases c5 : f = (5 : Int32)
          · simp only [if_neg c1, if_neg c4, if_pos c5]
          · simp only [if_neg c1, if_neg c4, if_neg c5, if_neg c7]
    · rw [if_neg k, if_neg k]
theorem trT_none {u : SA} (h : f_bitsOfName u = ((0 : Int32), u)) : trT u = ((0 : Int32), (upd (upd u.1 2 (0 : Int32)) 0 (0 : Int32), u.2)) := by
  unfold trT
  rw [h]
  dsimp only
  rw [if_pos rfl]
  have e : f_isGood (upd u.1 2 (0 : Int32), u.2) = (0 : Int32) := by
    unfold f_isGood
    dsimp only
    exact if_neg (show ¬ (0 : Int32) = (-1 : Int32) from by decide)
  rw [e, if_pos rfl]
theorem trT_some {u v : SA} {b : Int32} (h : f_bitsOfName u = (b, v)) (hb : ¬ b = (0 : Int32)) : trT u = finA (b ||| (f_operands v).1) (f_operands v).2 := by
  unfold trT
  rw [h]
  dsimp only
  rw [if_neg hb]
  generalize f_operands v = O
  unfold finA
  with_reducible rfl
theorem qAO.of {D E : SD} {f : Int32 × SA} {m : Int32 × SD} (h : qAO E f m) (h1 : ∀ j, j ≠ 2 → j ≠ 3 → E.1 j = D.1 j) (h2 : E.2 = D.2) : qAO D f m :=
  ⟨h.1, h.2.1, h.2.2.1, h.2.2.2.1, fun j a b => (h.2.2.2.2.1 j a b).trans (h1 j a b), h.2.2.2.2.2.trans h2⟩
theorem tr_ao {a : SA} {D : SD} {L : Nat} (hL : L ≤ 40) (h0 : a.1 0 = nI L) (h1 : D.1 1 = nI L) (hw : D.1 2 = (-1 : Int32)) (hl : ∀ i, i < L → a.2 i = D.2.1 i ∧ ∃ c, 32 ≤ c ∧ c ≤ 126 ∧ a.2 i = nI c) : qAO D (f_translate a) (m_assembled D) := by
  obtain ⟨ln, hln⟩ : ∃ ln : Nat → Nat, ∀ i, i < L → a.2 i = nI (ln i) ∧ D.2.1 i = nI (ln i) ∧ 32 ≤ ln i ∧ ln i ≤ 126 := by
    refine ⟨fun i => (a.2 i).toInt.toNat, fun i hi => ?_⟩
    obtain ⟨e, c, c1, c2, e2⟩ := hl i hi
    have : (a.2 i).toInt.toNat = c := by rw [e2, nI_toInt (by omega)]; omega
    dsimp only
    rw [this]
    exact ⟨e2, by rw [← e]; exact e2, c1, c2⟩
  have hla : ∀ k, k < L → a.2 k = nI (ln k) ∧ ln k < 256 := fun k hk => ⟨(hln k hk).1, by have := (hln k hk).2.2.2; omega⟩
  have hld : ∀ k, k < L → D.2.1 k = nI (ln k) ∧ ln k < 256 := fun k hk => ⟨(hln k hk).2.1, by have := (hln k hk).2.2.2; omega⟩
  obtain ⟨lm1, -, lm3⟩ := lead_ok (ln := ln) (L := L) 41 0 (by omega)
  have et : f_translate a = trT (upd (upd (upd a.1 1 (0 : Int32)) 2 (-1 : Int32)) 1 (nI (lead ln L 41 0)), a.2) := tr_lead hL 41 0 (upd (upd a.1 1 (0 : Int32)) 2 (-1 : Int32), a.2) (by omega) (by omega) h0 rfl hla
  have em : m_assembled D = fg_D_assembled_37 D (lead ln L 41 0) := lead_m hL h1 hld 41 0 (by omega) (by omega)
  generalize lead ln L 41 0 = m at *
  rw [et, em]
  have hx : ∀ c ∈ seg ln 0 m, 0 < c ∧ c < 256 := fun c hc => by
    obtain ⟨k, k1, k2, e⟩ := seg_mem hc
    have := lm3 k (by omega) k2
    omega
  have h45 : ¬ [45] = seg ln 0 m := fun z => by
    have : 45 ∈ seg ln 0 m := by rw [← z]; exact List.mem_cons_self ..
    obtain ⟨k, k1, k2, e⟩ := seg_mem this
    have := lm3 k (by omega) k2
    omega
  have eX : fg_D_assembled_37 D m = fg_D_assembled_104 D (if (seg ln 0 m).length ≤ 8 then lN (qpack (seg ln 0 m)) else 0) m (rowL (seg ln 0 m) 91 0) := by
    have r := row_loop (d := D) (m := m) hx rfl 91 0 (by omega)
    rw [← r]
    rw [seg_len, Nat.sub_zero]
    unfold fg_D_assembled_37
    by_cases c : m ≤ 8
    · rw [if_pos c]
      have q := qpk_loop (d := D) (m := m) (ln := ln) c (fun k hk => hld k (by omega)) 42 m 0 (Nat.le_refl _) (by omega) (by
        rw [Nat.zero_add, Nat.one_mul]
        exact Nat.le_trans (Nat.pow_le_pow_right (by decide) c) (by decide))
      rw [Nat.zero_mul, Nat.zero_add] at q
      exact q
    · rw [if_neg c, fl_D_assembled_42]
      obtain ⟨k, rfl⟩ : ∃ k, m = k + 1 := ⟨m - 1, by omega⟩
      rw [if_neg (sub1 (n := k) (by omega)).1, if_pos (show (9 : Int32) ≤ nI (k + 1) from nI_le (a := 9) (by omega) (by omega))]
      rfl
  rw [eX]
  generalize (if (seg ln 0 m).length ≤ 8 then lN (qpack (seg ln 0 m)) else (0 : Int64)) = X
  generalize hu : ((upd (upd (upd a.1 1 (0 : Int32)) 2 (-1 : Int32)) 1 (nI m), a.2) : SA) = u
  have u0 : u.1 0 = nI L := by rw [← hu]; exact h0
  have u1 : u.1 1 = nI m := by rw [← hu]; rfl
  have u2 : u.1 2 = (-1 : Int32) := by rw [← hu]; rfl
  have ul : ∀ k, k < L → u.2 k = nI (ln k) := fun k hk => by rw [← hu]; exact (hln k hk).1
  have bn := bn_eq (a := u) (m := m) (ln := ln) (by omega) u1 (fun k hk => ⟨ul k (by omega), (hla k (by omega)).2⟩)
  clear hu et em eX
  rcases name_eq h45 with ⟨b, k, r1, r2, T⟩ | ⟨r1, r2⟩
  · rw [r2] at bn
    have nb := T.1
    rw [trT_some (v := (upd u.1 3 k, u.2)) bn nb]
    generalize rowL (seg ln 0 m) 91 0 = r at *
    -- the context
    have H : qAL ln L (upd u.1 3 k, u.2) (upd D.1 3 (nI m), D.2.1, D.2.2.1, D.2.2.2.1, D.2.2.2.2.1, D.2.2.2.2.2) := ⟨hL, u0, h1, fun i hi => ⟨ul i hi, (hln i hi).2.1, (hln i hi).2.2.1, (hln i hi).2.2.2⟩⟩
    have G : GD (upd u.1 3 k, u.2) (upd D.1 3 (nI m), D.2.1, D.2.2.1, D.2.2.2.1, D.2.2.2.2.1, D.2.2.2.2.2) L m (upd u.1 3 k, u.2) (upd D.1 3 (nI m), D.2.1, D.2.2.1, D.2.2.2.1, D.2.2.2.2.1, D.2.2.2.2.2) := ⟨⟨fun j _ _ => rfl, rfl, fun j _ _ => rfl, rfl⟩, lm1, u2, hw, u1, rfl⟩
    have fin : ∀ {f : Int32 × SA} {e : Int32 × SD}, qAO (upd D.1 3 (nI m), D.2.1, D.2.2.1, D.2.2.2.1, D.2.2.2.2.1, D.2.2.2.2.2) f e → qAO D f e := fun h => h.of (fun j _ h3 => upd_ne h3) rfl
    refine fin ?_
    have ev : (upd u.1 3 k) 3 = k := rfl
    rw [opr_eq]
    by_cases f7 : fmT r = (7 : Int32)
    · have T2 : k = (0 : Int32) ∧ b = (16777216 : Int32) := by
        rcases T.2 with ⟨z, -⟩ | ⟨z, -⟩ | ⟨z, -⟩ | ⟨z, -⟩ | ⟨z, -⟩ | ⟨z, -⟩ | ⟨z, -⟩ | ⟨-, z, z2⟩
        · exact absurd (f7.symm.trans z) (by decide)
        · exact absurd (f7.symm.trans z) (by decide)
        · exact absurd (f7.symm.trans z) (by decide)
        · exact absurd (f7.symm.trans z) (by decide)
        · exact absurd (f7.symm.trans z) (by decide)
        · exact absurd (f7.symm.trans z) (by decide)
        · exact absurd (f7.symm.trans z) (by decide)
        · exact ⟨z, z2⟩
      rw [fg104_row D X r1 (if_pos f7), if_pos (show (upd D.1 3 (nI m)) 2 < (0 : Int32) from by rw [show (upd D.1 3 (nI m)) 2 = D.1 2 from rfl, hw]; decide), if_pos (show (upd u.1 3 k) 3 = (0 : Int32) from T2.1)]
      refine fin_ao H ?_
      unfold opM
      rw [f7]
      simp only [if_neg (show ¬ (7 : Int32) = 1 from by decide), if_neg (show ¬ (7 : Int32) = 4 from by decide), if_neg (show ¬ (7 : Int32) = 5 from by decide), if_true]
      exact Or.inl ⟨m, G, by rw [T2.2]; exact Int32.or_zero ..⟩
    · have k0 : ¬ k = (0 : Int32) := by
        rcases T.2 with ⟨-, z, -⟩ | ⟨-, z, -⟩ | ⟨-, z, -⟩ | ⟨-, z, -⟩ | ⟨-, z, -⟩ | ⟨-, z, -⟩ | ⟨-, z, -⟩ | ⟨z, -⟩
        · rw [z]; decide
        · rw [z]; decide
        · rw [z]; decide
        · rw [z]; decide
        · rw [z]; decide
        · rw [z]; decide
        · rw [z]; decide
        · exact absurd z f7
      rw [fg104_row D X r1 (if_neg f7), if_neg (show ¬ (upd u.1 3 k) 3 = (0 : Int32) from k0)]
      rcases ex_pd H (c := 32) (by omega) (by omega) G with ⟨-, -, g⟩ | g
      · have g : GD (upd u.1 3 k, u.2) (upd D.1 3 (nI m), D.2.1, D.2.2.1, D.2.2.2.1, D.2.2.2.2.1, D.2.2.2.2.2) L (m + 1) (f_expect (upd u.1 3 k, u.2) (32 : Int32)) (m_must (upd D.1 3 (nI m), D.2.1, D.2.2.1, D.2.2.2.1, D.2.2.2.2.1, D.2.2.2.2.2) (32 : Int32)) := g
        generalize f_expect (upd u.1 3 k, u.2) (32 : Int32) = v at *
        generalize m_must (upd D.1 3 (nI m), D.2.1, D.2.2.1, D.2.2.2.1, D.2.2.2.2.1, D.2.2.2.2.2) (32 : Int32) = e at *
        rw [if_pos (by rw [g.2.2.2.1]; decide)]
        refine fin_ao H ?_
        exact op_tab H g (g.1.1 3 (by decide) (by decide)) T f7
      · have g : qBD (upd u.1 3 k, u.2) (upd D.1 3 (nI m), D.2.1, D.2.2.1, D.2.2.2.1, D.2.2.2.2.1, D.2.2.2.2.2) m (f_expect (upd u.1 3 k, u.2) (32 : Int32)) (m_must (upd D.1 3 (nI m), D.2.1, D.2.2.1, D.2.2.2.1, D.2.2.2.2.1, D.2.2.2.2.2) (32 : Int32)) := g
        generalize f_expect (upd u.1 3 k, u.2) (32 : Int32) = v at *
        generalize m_must (upd D.1 3 (nI m), D.2.1, D.2.2.1, D.2.2.2.1, D.2.2.2.2.1, D.2.2.2.2.2) (32 : Int32) = e at *
        rw [if_neg (Int32.not_lt.mpr (bd_w g)), opT_bd g]
        unfold finA
        rw [bd_good g, if_pos rfl]
        exact ⟨g.2.2.1.trans g.2.2.2.symm, Or.inr (bd_w g), fun z => absurd z (by rw [g.2.2.2]; exact q_ne g.2.1), rfl, g.1.2.2.1, g.1.2.2.2⟩
  · rw [r2] at bn
    rw [trT_none bn, r1, fg104_91]
    have e : m_wrong D (0 : Int32) = (upd D.1 2 (0 : Int32), D.2.1, D.2.2.1, D.2.2.2.1, D.2.2.2.2.1, D.2.2.2.2.2) := by
      unfold m_wrong
      dsimp only
      rw [if_neg (by rw [hw]; decide)]
    rw [e]
    exact ⟨rfl, Or.inr (by show (0 : Int32) ≤ 0; decide), fun z => absurd z (show ¬ (0 : Int32) = (-1 : Int32) from by decide), rfl, fun j h2 h3 => upd_ne h2, rfl⟩
theorem assemble_fa {x : SX} {d : SD} (h : RW x d) (p : Int32) : FA (f_assembleX x p) (m_assemble d p) := by
  obtain ⟨a1, a2, a3, L, hL, eL, hl⟩ := h.2
  have ao := tr_ao (a := x.2) (D := (upd (upd d.1 0 (0 : Int32)) 2 (-1 : Int32), d.2.1, d.2.2.1, d.2.2.2.1, d.2.2.2.2.1, d.2.2.2.2.2)) hL (a1.trans eL) eL rfl hl
  unfold f_assembleX m_assemble
  dsimp only
  generalize f_translate x.2 = F at *
  generalize m_assembled (upd (upd d.1 0 (0 : Int32)) 2 (-1 : Int32), d.2.1, d.2.2.1, d.2.2.2.1, d.2.2.2.2.1, d.2.2.2.2.2) = M at *
  obtain ⟨o1, o2, o3, o4, o5, o6⟩ := ao
  have rp : RP x.1 (upd M.2.1 1 (0 : Int32), M.2.2.1, M.2.2.2.1, M.2.2.2.2.1, M.2.2.2.2.2.1, M.2.2.2.2.2.2) := by
    have g := h.1.1
    refine ⟨qRG.m1 ?_ _, ?_, ?_⟩
    · exact ⟨g.pc.trans (o5 4 (by decide) (by decide)).symm, g.nx.trans (o5 5 (by decide) (by decide)).symm, g.wi.trans (o5 6 (by decide) (by decide)).symm, g.y.trans (o5 7 (by decide) (by decide)).symm, g.inv.trans (o5 8 (by decide) (by decide)).symm, g.ba.trans (o5 9 (by decide) (by decide)).symm, g.ha.trans (o5 10 (by decide) (by decide)).symm, g.st.trans (o5 11 (by decide) (by decide)).symm, g.tr.trans (o5 12 (by decide) (by decide)).symm,
        (by rw [o5 13 (by decide) (by decide), o5 14 (by decide) (by decide), o5 15 (by decide) (by decide), o5 16 (by decide) (by decide)]; exact g.fl), (by rw [o5 13 (by decide) (by decide)]; exact g.zn), (by rw [o5 14 (by decide) (by decide)]; exact g.zz), (by rw [o5 15 (by decide) (by decide)]; exact g.zv), (by rw [o5 16 (by decide) (by decide)]; exact g.zc), g.s.trans (o5 17 (by decide) (by decide)).symm, (by rw [o5 17 (by decide) (by decide)]; exact g.zs), g.ps.trans (o5 18 (by decide) (by decide)).symm, (by rw [o5 18 (by decide) (by decide)]; exact g.zp), g.et.trans (o5 19 (by decide) (by decide)).symm, (by rw [o5 19 (by decide) (by decide)]; exact g.ze), g.an.trans (o5 20 (by decide) (by decide)).symm, (by rw [o5 20 (by decide) (by decide)]; exact g.za), (by rw [o5 6 (by decide) (by decide)]; exact g.win), (by rw [o5 10 (by decide) (by decide)]; exact g.hal)⟩
    · show RR x.1.2.2.1 M.2.2.2.2.1 M.2.2.2.2.2.1 M.2.2.2.2.2.2
      rw [o6]
      exact h.1.2.1
    · show qRM x.1.2.2.2 M.2.2.2.1
      rw [o6]
      exact h.1.2.2
  have e0 : ((upd M.2.1 1 (0 : Int32), M.2.2.1, M.2.2.2.1, M.2.2.2.2.1, M.2.2.2.2.2.1, M.2.2.2.2.2.2) : SD).1 0 = (0 : Int32) := o5 0 (by decide) (by decide)
  have rw0 : RW (x.1, F.2) (upd M.2.1 1 (0 : Int32), M.2.2.1, M.2.2.2.1, M.2.2.2.2.1, M.2.2.2.2.2.1, M.2.2.2.2.2.2) := ⟨rp, o4, o1, o2, 0, by omega, rfl, fun i hi => by omega⟩
  generalize hD : ((upd M.2.1 1 (0 : Int32), M.2.2.1, M.2.2.2.1, M.2.2.2.2.1, M.2.2.2.2.2.1, M.2.2.2.2.2.2) : SD) = D at *
  by_cases c : M.2.1 2 = (-1 : Int32)
  · rw [if_pos (o1.trans c), if_pos (show M.2.1 2 < (0 : Int32) from by rw [c]; decide), fails0 e0, if_pos rfl, chk_eq]
    by_cases w : m_isWord p = (0 : Int32)
    · rw [if_pos w, if_neg n10, fails1 e0 (by decide), if_neg n10]
      exact ⟨rfl, fun z => absurd z n20, rw_m0 rw0 _⟩
    · obtain ⟨A, hA, hq, rfl⟩ := isW_A w
      rw [if_neg w, if_pos rfl, fails0 e0, if_pos rfl, o3 c]
      obtain ⟨mm, e, hm⟩ := rm_st (d := D) (n := 4) M.1 rw0.1.2.2 (by omega) (by omega) hA
      refine ⟨?_, fun _ => rfl, ?_⟩
      · show (0 : Int32) = (m_store D (nI A) (nI 4) M.1).1 0
        rw [e]
        exact e0.symm
      · show RW _ (m_store D (nI A) (nI 4) M.1)
        rw [e]
        exact ⟨⟨rw0.1.1, rw0.1.2.1, hm⟩, rw0.2⟩
  · have nn : ¬ M.2.1 2 < (0 : Int32) := by
      rcases o2 with z | z
      · exact absurd z c
      · exact Int32.not_lt.mpr z
    rw [if_neg (fun z => c (o1.symm.trans z)), if_neg nn, fails1 e0 (by decide), if_neg n10]
    exact ⟨rfl, fun z => absurd z n10, rw_m0 rw0 _⟩
