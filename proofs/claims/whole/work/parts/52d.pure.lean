def rtl (p : SP) (w op K : Int32) (u : Nat → Int32) : Int32 × SP :=
  (let q := (if K = (10 : Int32) then (upd p.1 2 (u 1), u, p.2.2.1, p.2.2.2) else (if K = (11 : Int32) then (upd p.1 2 (u 1), u, p.2.2.1, p.2.2.2) else (p.1, u, p.2.2.1, p.2.2.2)));
   (let q2 := (if op < (16 : Int32) then q else (upd q.1 1 (f_kflags q.2.1), q.2.1, q.2.2.1, q.2.2.2)); f_deliver q2 w (q2.2.1 0)))
theorem ri_tail {p : SP} {w op a b K : Int32} (hK : op - op / (16 : Int32) * (16 : Int32) = K) (h9 : ¬ K = (9 : Int32)) (h13 : ¬ K = (13 : Int32)) (hd : K = (14 : Int32) ∨ K = (15 : Int32) → ¬ b = (0 : Int32)) :
    f_reckonInto p w op a b = rtl p w op K (f_reckon p.2.1 K a b ((p.1 1) &&& (1 : Int32)) (p.1 2)) := by
  unfold f_reckonInto
  dsimp only
  rw [hK, if_neg h9, if_neg h13]
  by_cases c : K = (14 : Int32)
  · rw [if_pos c, if_neg (hd (Or.inl c))]; rfl
  · rw [if_neg c]
    by_cases c2 : K = (15 : Int32)
    · rw [if_pos c2, if_neg (hd (Or.inr c2))]; rfl
    · rw [if_neg c2]; rfl
theorem rtl_tl {p : SP} {w op K : Int32} {u : Nat → Int32} (h : ¬ K = (10 : Int32)) (h2 : ¬ K = (11 : Int32)) : rtl p w op K u = tl p w op u := by
  unfold rtl tl
  dsimp only
  rw [if_neg h, if_neg h2]
  by_cases c : op < (16 : Int32)
  · simp only [if_pos c]
  · simp only [if_neg c]
theorem rtl_mul {p : SP} {w op K : Int32} {u : Nat → Int32} (h : K = (10 : Int32) ∨ K = (11 : Int32)) : rtl p w op K u = tl (upd p.1 2 (u 1), p.2) w op u := by
  unfold rtl tl
  dsimp only
  have e : (if K = (10 : Int32) then (upd p.1 2 (u 1), u, p.2.2.1, p.2.2.2) else (if K = (11 : Int32) then (upd p.1 2 (u 1), u, p.2.2.1, p.2.2.2) else (p.1, u, p.2.2.1, p.2.2.2))) = ((upd p.1 2 (u 1), u, p.2.2.1, p.2.2.2) : SP) := by
    rcases h with h | h
    · rw [if_pos h]
    · rw [if_neg (by rw [h]; decide), if_pos h]
  rw [e]
  by_cases c : op < (16 : Int32)
  · simp only [if_pos c]
  · simp only [if_neg c]
theorem op_fin : ∀ j, j < 32 → nI j - nI j / (16 : Int32) * (16 : Int32) = nI (j % 16) ∧ nI j &&& (15 : Int32) = nI (j % 16) ∧ ((if (nI j &&& (16 : Int32)) ≤ (0 : Int32) then (0 : Int32) else (1 : Int32)) = (0 : Int32) ↔ nI j < (16 : Int32)) := by decide +kernel
theorem div0 {d : SD} (h : d.1 21 = (-1 : Int32)) {rd a b : Int32} (hb : b = (0 : Int32)) (sg X : Int32) : m_divides d rd a b sg X = (upd d.1 21 (42 : Int32), d.2.1, d.2.2.1, d.2.2.2.1, d.2.2.2.2.1, d.2.2.2.2.2) := by
  unfold m_divides
  dsimp only
  rw [if_pos hb, traps1 h]
  exact if_neg (by show ¬ (42 : Int32) < 0; decide)
theorem divU {d : SD} (h : d.1 21 = (-1 : Int32)) {rd a b : Int32} (hb : ¬ b = (0 : Int32)) (X : Int32) {Q : Int64} (hQ : m_unsigned ((zlshl (d.1 7).toInt64 (32 : Int32)) ||| m_bare a) (m_bare b) = Q) {o : Int32} (ho : (if m_in Q (0 : Int64) (4294967295 : Int64) = (0 : Int32) then (1 : Int32) else (0 : Int32)) = o) :
    m_divides d rd a b (0 : Int32) X = dtl d rd X (if o = (0 : Int32) then Q else (4294967295 : Int64)) o (0 : Int32) (if o = (0 : Int32) then Q else (4294967295 : Int64)).toInt32 := by
  unfold m_divides dtl
  dsimp only
  rw [if_neg hb, traps0, if_pos (m21l h), if_pos rfl, hQ, ho]
theorem divS {d : SD} (h : d.1 21 = (-1 : Int32)) {rd a b : Int32} (hb : ¬ b = (0 : Int32)) (X : Int32) {all : Int64} (ha : (zlshl (d.1 7).toInt64 (32 : Int32)) ||| m_bare a = all) {mo ov : Int32}
    (hm : (if (lg_cmp all (-9223372036854775808 : Int64)) = (0 : Int32) then (if b = (-1 : Int32) then (1 : Int32) else (0 : Int32)) else (0 : Int32)) = mo)
    (ho : (if mo = (0 : Int32) then (if (m_in (all / b.toInt64) (-2147483648 : Int64) (2147483647 : Int64)) = (0 : Int32) then (1 : Int32) else (0 : Int32)) else (1 : Int32)) = ov) {Q : Int64}
    (hQ : (if ov = (0 : Int32) then all / b.toInt64 else (if mo = (0 : Int32) then (if (lg_cmp (all / b.toInt64) (0 : Int64)) ≤ (0 : Int32) then (-2147483648 : Int64) else (2147483647 : Int64)) else (2147483647 : Int64))) = Q) :
    m_divides d rd a b (1 : Int32) X = dtl d rd X Q ov (0 : Int32) Q.toInt32 := by
  unfold m_divides dtl
  dsimp only
  rw [if_neg hb, traps0, if_pos (m21l h), if_neg (by decide), ha, hm, ho, hQ]
theorem zB_of {c : Prop} {q : Decidable c} {o a b : Int32} (h : @ite _ c q a b = o) (ha : zB a) (hb : zB b) : zB o := by rw [← h]; exact zB_i ha hb
theorem udiv_pf {p : SP} {d : SD} (h : RX p d) (w op X : Int32) (hX : X = (0 : Int32) ↔ op < (16 : Int32)) (a b : Int32) (hb : ¬ b = (0 : Int32)) :
    qPF (tl p w op (f_takeQuotient p.2.1 (f_quotientWithoutSign ((p.1 2).toInt64 &&& (4294967295 : Int64)) a (b.toInt64 &&& (4294967295 : Int64))) (0 : Int64) (4294967295 : Int64))) (m_divides d (f_rdOf w) a b (0 : Int32) X) := by
  rw [h.1.1.y]
  generalize hQ : m_unsigned ((zlshl (d.1 7).toInt64 (32 : Int32)) ||| m_bare a) (m_bare b) = Q
  generalize ho : (if m_in Q (0 : Int64) (4294967295 : Int64) = (0 : Int32) then (1 : Int32) else (0 : Int32)) = o
  generalize hq : f_quotientWithoutSign ((d.1 7).toInt64 &&& (4294967295 : Int64)) a (b.toInt64 &&& (4294967295 : Int64)) = q
  obtain ⟨e0, e2, e3⟩ := udiv_eq p.2.1 (d.1 7) a b hb hQ hq ho
  rw [divU h.2.2.1 hb X hQ ho]
  exact tl_pf h w op X hX e0 e0 e2 e3 (zB_of ho z1 z0) z0
theorem sdiv_pf {p : SP} {d : SD} (h : RX p d) (w op X : Int32) (hX : X = (0 : Int32) ↔ op < (16 : Int32)) (a b : Int32) (hb : ¬ b = (0 : Int32)) :
    qPF (tl p w op (f_takeQuotient p.2.1 (f_quotientWithSign (p.1 2) a b) (-2147483648 : Int64) (2147483647 : Int64))) (m_divides d (f_rdOf w) a b (1 : Int32) X) := by
  rw [h.1.1.y]
  generalize ha : (zlshl (d.1 7).toInt64 (32 : Int32)) ||| m_bare a = all
  generalize hm : (if (lg_cmp all (-9223372036854775808 : Int64)) = (0 : Int32) then (if b = (-1 : Int32) then (1 : Int32) else (0 : Int32)) else (0 : Int32)) = mo
  generalize ho : (if mo = (0 : Int32) then (if (m_in (all / b.toInt64) (-2147483648 : Int64) (2147483647 : Int64)) = (0 : Int32) then (1 : Int32) else (0 : Int32)) else (1 : Int32)) = ov
  generalize hq : f_quotientWithSign (d.1 7) a b = q
  obtain ⟨e0, e2, e3⟩ := sdiv_eq p.2.1 (d.1 7) a b hb ha hq hm ho
  rw [divS h.2.2.1 hb X ha hm ho rfl]
  exact tl_pf h w op X hX e0 e0 e2 e3 (zB_of ho (zB_i z1 z0) z1) z0
theorem xnor (a b : Int32) : (a ^^^ b) ^^^ (-1 : Int32) = a ^^^ (b ^^^ (-1 : Int32)) := Int32.xor_assoc ..
theorem reck_pf {p : SP} {d : SD} (h : RX p d) (w a b : Int32) {j : Nat} (hj : j < 32) : qPF (f_reckonInto p w (nI j) a b) (m_reckons d (nI j) (f_rdOf w) a b) := by
  obtain ⟨o1, o2, o3⟩ := op_fin j hj
  have hz : zB (d.1 16) := h.1.1.zc
  have hk : j % 16 < 16 := Nat.mod_lt _ (by omega)
  generalize j % 16 = k at *
  unfold m_reckons
  dsimp only
  rw [o2]
  generalize (if (nI j &&& (16 : Int32)) ≤ (0 : Int32) then (0 : Int32) else (1 : Int32)) = X at *
  have T : ∀ u, (¬ nI k = (9 : Int32)) → (¬ nI k = (13 : Int32)) → (nI k = (14 : Int32) ∨ nI k = (15 : Int32) → ¬ b = (0 : Int32)) → f_reckon p.2.1 (nI k) a b (d.1 16) (p.1 2) = u → (¬ nI k = (10 : Int32)) → (¬ nI k = (11 : Int32)) → f_reckonInto p w (nI j) a b = tl p w (nI j) u := by
    intro u a1 a2 a3 a4 a5 a6
    rw [ri_tail o1 a1 a2 a3, fw_c h.1, a4, rtl_tl a5 a6]
  have M : ∀ P, nI k = (10 : Int32) ∨ nI k = (11 : Int32) → f_reckon p.2.1 (nI k) a b (d.1 16) (p.1 2) = f_takeProduct p.2.1 P → f_reckonInto p w (nI j) a b = tl (upd p.1 2 ((zlushr P (32 : Int32)).toInt32), p.2) w (nI j) (f_takeProduct p.2.1 P) := by
    intro P a1 a4
    rw [ri_tail o1 (by rcases a1 with e | e <;> rw [e] <;> decide) (by rcases a1 with e | e <;> rw [e] <;> decide) (by rcases a1 with e | e <;> rw [e] <;> intro z <;> exact absurd z (by decide)), fw_c h.1, a4, rtl_mul a1]
    rfl
  have dec : ∀ x y : Nat, nI x = nI y → nI x = nI y := fun _ _ z => z
  match k, hk with
  | 0, _ => rw [T (f_kadd p.2.1 a b 0) (by decide) (by decide) (fun z => absurd z (by decide)) rfl (by decide) (by decide), if_pos (by decide)]; exact add_pf h w _ X o3 a b 0 z0
  | 1, _ => rw [T (f_take p.2.1 (a &&& b)) (by decide) (by decide) (fun z => absurd z (by decide)) rfl (by decide) (by decide), if_neg (by decide), if_pos (by decide)]; exact take_pf h w _ X o3 _
  | 2, _ => rw [T (f_take p.2.1 (a ||| b)) (by decide) (by decide) (fun z => absurd z (by decide)) rfl (by decide) (by decide), if_neg (by decide), if_neg (by decide), if_pos (by decide)]; exact take_pf h w _ X o3 _
  | 3, _ => rw [T (f_take p.2.1 (a ^^^ b)) (by decide) (by decide) (fun z => absurd z (by decide)) rfl (by decide) (by decide), if_neg (by decide), if_neg (by decide), if_neg (by decide), if_pos (by decide)]; exact take_pf h w _ X o3 _
  | 4, _ => rw [T (f_subtract p.2.1 a b 0) (by decide) (by decide) (fun z => absurd z (by decide)) rfl (by decide) (by decide), if_neg (by decide), if_neg (by decide), if_neg (by decide), if_neg (by decide), if_pos (by decide)]; exact sub_pf h w _ X o3 a b 0
  | 5, _ => rw [T (f_take p.2.1 (a &&& (b ^^^ (-1 : Int32)))) (by decide) (by decide) (fun z => absurd z (by decide)) rfl (by decide) (by decide), if_neg (by decide), if_neg (by decide), if_neg (by decide), if_neg (by decide), if_neg (by decide), if_pos (by decide)]; exact take_pf h w _ X o3 _
  | 6, _ => rw [T (f_take p.2.1 (a ||| (b ^^^ (-1 : Int32)))) (by decide) (by decide) (fun z => absurd z (by decide)) rfl (by decide) (by decide), if_neg (by decide), if_neg (by decide), if_neg (by decide), if_neg (by decide), if_neg (by decide), if_neg (by decide), if_pos (by decide)]; exact take_pf h w _ X o3 _
  | 7, _ => rw [T (f_take p.2.1 ((a ^^^ b) ^^^ (-1 : Int32))) (by decide) (by decide) (fun z => absurd z (by decide)) rfl (by decide) (by decide), xnor, if_neg (by decide), if_neg (by decide), if_neg (by decide), if_neg (by decide), if_neg (by decide), if_neg (by decide), if_neg (by decide), if_pos (by decide)]; exact take_pf h w _ X o3 _
  | 8, _ => rw [T (f_kadd p.2.1 a b (d.1 16)) (by decide) (by decide) (fun z => absurd z (by decide)) rfl (by decide) (by decide), if_neg (by decide), if_neg (by decide), if_neg (by decide), if_neg (by decide), if_neg (by decide), if_neg (by decide), if_neg (by decide), if_neg (by decide), if_pos (by decide), bit_id hz]; exact add_pf h w _ X o3 a b _ hz
  | 9, _ =>
    rw [if_neg (by decide), if_neg (by decide), if_neg (by decide), if_neg (by decide), if_neg (by decide), if_neg (by decide), if_neg (by decide), if_neg (by decide), if_neg (by decide), if_neg (by decide), if_neg (by decide), if_neg (by decide), if_neg (by decide), if_neg (by decide)]
    unfold f_reckonInto
    dsimp only
    rw [o1, if_pos (by decide)]
    exact pf_trap h (by decide)
  | 10, _ => rw [M ((a.toInt64 &&& (4294967295 : Int64)) * (b.toInt64 &&& (4294967295 : Int64))) (by decide) rfl, if_neg (by decide), if_neg (by decide), if_neg (by decide), if_neg (by decide), if_neg (by decide), if_neg (by decide), if_neg (by decide), if_neg (by decide), if_neg (by decide), if_pos (by decide), if_pos (show nI 10 = (10 : Int32) from by decide)]; exact mul_pf h w _ X o3 _
  | 11, _ => rw [M (a.toInt64 * b.toInt64) (by decide) rfl, if_neg (by decide), if_neg (by decide), if_neg (by decide), if_neg (by decide), if_neg (by decide), if_neg (by decide), if_neg (by decide), if_neg (by decide), if_neg (by decide), if_neg (by decide), if_pos (by decide), if_neg (show ¬ nI 11 = (10 : Int32) from by decide)]; exact mul_pf h w _ X o3 _
  | 12, _ => rw [T (f_subtract p.2.1 a b (d.1 16)) (by decide) (by decide) (fun z => absurd z (by decide)) rfl (by decide) (by decide), if_neg (by decide), if_neg (by decide), if_neg (by decide), if_neg (by decide), if_neg (by decide), if_neg (by decide), if_neg (by decide), if_neg (by decide), if_neg (by decide), if_neg (by decide), if_neg (by decide), if_pos (by decide), bit_id hz]; exact sub_pf h w _ X o3 a b _
  | 13, _ =>
    rw [if_neg (by decide), if_neg (by decide), if_neg (by decide), if_neg (by decide), if_neg (by decide), if_neg (by decide), if_neg (by decide), if_neg (by decide), if_neg (by decide), if_neg (by decide), if_neg (by decide), if_neg (by decide), if_neg (by decide), if_neg (by decide)]
    unfold f_reckonInto
    dsimp only
    rw [o1, if_neg (by decide), if_pos (by decide)]
    exact pf_trap h (by decide)
  | 14, _ =>
    rw [if_neg (by decide), if_neg (by decide), if_neg (by decide), if_neg (by decide), if_neg (by decide), if_neg (by decide), if_neg (by decide), if_neg (by decide), if_neg (by decide), if_neg (by decide), if_neg (by decide), if_neg (by decide), if_pos (by decide)]
    by_cases hb : b = (0 : Int32)
    · rw [div0 h.2.2.1 hb]
      unfold f_reckonInto
      dsimp only
      rw [o1, if_neg (by decide), if_neg (by decide), if_pos (by decide), if_pos hb]
      exact pf_trap h (by decide)
    · rw [T _ (by decide) (by decide) (fun _ => hb) rfl (by decide) (by decide)]
      exact udiv_pf h w _ X o3 a b hb
  | 15, _ =>
    rw [if_neg (by decide), if_neg (by decide), if_neg (by decide), if_neg (by decide), if_neg (by decide), if_neg (by decide), if_neg (by decide), if_neg (by decide), if_neg (by decide), if_neg (by decide), if_neg (by decide), if_neg (by decide), if_neg (by decide), if_pos (by decide)]
    by_cases hb : b = (0 : Int32)
    · rw [div0 h.2.2.1 hb]
      unfold f_reckonInto
      dsimp only
      rw [o1, if_neg (by decide), if_neg (by decide), if_neg (by decide), if_pos (by decide), if_pos hb]
      exact pf_trap h (by decide)
    · rw [T _ (by decide) (by decide) (fun _ => hb) rfl (by decide) (by decide)]
      exact sdiv_pf h w _ X o3 a b hb
  | k + 16, hk => exact absurd hk (by omega)
theorem upd_comm {f : Nat → Int32} {i j : Nat} (h : i ≠ j) (a b : Int32) : upd (upd f i a) j b = upd (upd f j b) i a := by
  funext k
  unfold upd
  by_cases c : k = j
  · rw [if_pos c, if_neg (by omega), if_pos c]
  · rw [if_neg c, if_neg c]
theorem hi_fin : ∀ n, n < 2 → ∀ z, z < 2 → ∀ v, v < 2 → ∀ c, c < 2 → ((fw (nI n) (nI z) (nI v) (nI c) >>> ((3 : Int32) &&& 31)) ^^^ (fw (nI n) (nI z) (nI v) (nI c) >>> ((1 : Int32) &&& 31))) &&& (1 : Int32) = m_bit (if nI n = nI v then (0 : Int32) else (1 : Int32)) := by decide +kernel
theorem hi_eq {p : SP} {d : SD} (h : RP p d) : (((p.1 1) >>> ((3 : Int32) &&& 31)) ^^^ ((p.1 1) >>> ((1 : Int32) &&& 31))) &&& (1 : Int32) = m_bit (if (d.1 13) = (d.1 15) then (0 : Int32) else (1 : Int32)) := by
  obtain ⟨n, hn, en⟩ := zB_nI h.1.zn
  obtain ⟨z, hz, ez⟩ := zB_nI h.1.zz
  obtain ⟨v, hv, ev⟩ := zB_nI h.1.zv
  obtain ⟨c, hc, ec⟩ := zB_nI h.1.zc
  rw [h.1.fl, en, ez, ev, ec]
  exact hi_fin n hn z hz v hv c hc
theorem muls_pf {p : SP} {d : SD} (h : RX p d) (w a b : Int32) : qPF (f_multiplyStep p w a b) (m_adds (upd d.1 7 ((zushr (d.1 7) (1 : Int32)) ||| (a <<< ((31 : Int32) &&& 31))), d.2.1, d.2.2.1, d.2.2.2.1, d.2.2.2.2.1, d.2.2.2.2.2) (f_rdOf w) ((zushr a (1 : Int32)) ||| ((m_bit (if (d.1 13) = (d.1 15) then (0 : Int32) else (1 : Int32))) <<< ((31 : Int32) &&& 31))) (if ((d.1 7) &&& (1 : Int32)) = (0 : Int32) then (0 : Int32) else b) (0 : Int32) (1 : Int32)) := by
  unfold f_multiplyStep
  dsimp only
  rw [hi_eq h.1, h.1.1.y, upd_comm (by decide)]
  generalize (zushr (d.1 7) (1 : Int32)) ||| (a <<< ((31 : Int32) &&& 31)) = yy
  generalize (zushr a (1 : Int32)) ||| ((m_bit (if (d.1 13) = (d.1 15) then (0 : Int32) else (1 : Int32))) <<< ((31 : Int32) &&& 31)) = aa
  generalize (if ((d.1 7) &&& (1 : Int32)) = (0 : Int32) then (0 : Int32) else b) = bb
  have h' : RX (upd p.1 2 yy, p.2) (upd d.1 7 yy, d.2.1, d.2.2.1, d.2.2.2.1, d.2.2.2.2.1, d.2.2.2.2.2) := ⟨⟨h.1.1.sY _, h.1.2.1, h.1.2.2⟩, h.2.1, h.2.2.1, h.2.2.2⟩
  exact add_pf h' w (16 : Int32) (1 : Int32) (by decide) aa bb 0 z0
theorem psr_fin : ∀ n, n < 2 → ∀ z, z < 2 → ∀ v, v < 2 → ∀ c, c < 2 → (fw (nI n) (nI z) (nI v) (nI c)) <<< ((20 : Int32) &&& 31) = ((((m_bit (nI n)) <<< ((23 : Int32) &&& 31)) ||| ((m_bit (nI z)) <<< ((22 : Int32) &&& 31))) ||| ((m_bit (nI v)) <<< ((21 : Int32) &&& 31))) ||| ((m_bit (nI c)) <<< ((20 : Int32) &&& 31)) := by decide +kernel
theorem psr_eq {p : SP} {d : SD} (h : RP p d) : (((((p.1 1) <<< ((20 : Int32) &&& 31)) ||| ((p.1 4) <<< ((7 : Int32) &&& 31))) ||| ((p.1 5) <<< ((6 : Int32) &&& 31))) ||| ((p.1 6) <<< ((5 : Int32) &&& 31))) ||| (p.1 0) = m_psr d := by
  unfold m_psr
  dsimp only
  rw [bit_id h.1.zs, bit_id h.1.zp, bit_id h.1.ze, h.1.s, h.1.ps, h.1.et, h.1.wi]
  obtain ⟨n, hn, en⟩ := zB_nI h.1.zn
  obtain ⟨z, hz, ez⟩ := zB_nI h.1.zz
  obtain ⟨v, hv, ev⟩ := zB_nI h.1.zv
  obtain ⟨c, hc, ec⟩ := zB_nI h.1.zc
  rw [h.1.fl, en, ez, ev, ec, psr_fin n hn z hz v hv c hc]
theorem sp_n {d : SD} (hd : d.1 21 = (-1 : Int32)) {op : Int32} (rd rs1 a b : Int32) {x1 x4 x12 x17 : Int32}
    (e1 : (if op < (48 : Int32) then (0 : Int32) else (1 : Int32)) = x1)
    (e4 : (if (op &&& (7 : Int32)) = (0 : Int32) then (if (if x1 = (0 : Int32) then rs1 else rd) = (0 : Int32) then (0 : Int32) else (1 : Int32)) else (0 : Int32)) = x4)
    (e12 : (if (op &&& (7 : Int32)) ≤ (0 : Int32) then (0 : Int32) else (if (d.1 17) = (0 : Int32) then (1 : Int32) else (0 : Int32))) = x12)
    (e17 : (if x1 = (0 : Int32) then (0 : Int32) else (if (op &&& (7 : Int32)) = (1 : Int32) then (if ((a ^^^ b) &&& (31 : Int32)) ≤ (3 : Int32) then (0 : Int32) else (1 : Int32)) else (0 : Int32))) = x17) :
    (x4 = (1 : Int32) → m_special d op rd rs1 a b = (upd d.1 21 (2 : Int32), d.2.1, d.2.2.1, d.2.2.2.1, d.2.2.2.2.1, d.2.2.2.2.2)) ∧
    (x4 = (0 : Int32) → x12 = (1 : Int32) → m_special d op rd rs1 a b = (upd d.1 21 (3 : Int32), d.2.1, d.2.2.1, d.2.2.2.1, d.2.2.2.2.1, d.2.2.2.2.2)) ∧
    (x4 = (0 : Int32) → x12 = (0 : Int32) → x17 = (1 : Int32) → m_special d op rd rs1 a b = (upd d.1 21 (2 : Int32), d.2.1, d.2.2.1, d.2.2.2.1, d.2.2.2.2.1, d.2.2.2.2.2)) := by
  refine ⟨fun h => ?_, fun h h2 => ?_, fun h h2 h3 => ?_⟩
  · unfold m_special
    dsimp only
    rw [e1, e4, h, traps1 hd]
    have q : ∀ x t : Int32, m_traps (upd d.1 21 (2 : Int32), d.2.1, d.2.2.1, d.2.2.2.1, d.2.2.2.2.1, d.2.2.2.2.2) x t = (upd d.1 21 (2 : Int32), d.2.1, d.2.2.1, d.2.2.2.1, d.2.2.2.2.1, d.2.2.2.2.2) := fun x t => trapsB (by show (0 : Int32) ≤ 2; decide) x
    rw [q, q]
    exact if_neg (by show ¬ (2 : Int32) < 0; decide)
  · unfold m_special
    dsimp only
    rw [e1, e4, h, traps0, e12, h2, traps1 hd]
    have q : ∀ x t : Int32, m_traps (upd d.1 21 (3 : Int32), d.2.1, d.2.2.1, d.2.2.2.1, d.2.2.2.2.1, d.2.2.2.2.2) x t = (upd d.1 21 (3 : Int32), d.2.1, d.2.2.1, d.2.2.2.1, d.2.2.2.2.1, d.2.2.2.2.2) := fun x t => trapsB (by show (0 : Int32) ≤ 3; decide) x
    rw [q]
    exact if_neg (by show ¬ (3 : Int32) < 0; decide)
  · unfold m_special
    dsimp only
    rw [e1, e4, h, traps0, e12, h2, traps0, e17, h3, traps1 hd]
    exact if_neg (by show ¬ (2 : Int32) < 0; decide)
theorem sp_go {d : SD} (hd : d.1 21 = (-1 : Int32)) {op : Int32} (rd rs1 a b : Int32) {x1 : Int32}
    (e1 : (if op < (48 : Int32) then (0 : Int32) else (1 : Int32)) = x1)
    (e4 : (if (op &&& (7 : Int32)) = (0 : Int32) then (if (if x1 = (0 : Int32) then rs1 else rd) = (0 : Int32) then (0 : Int32) else (1 : Int32)) else (0 : Int32)) = (0 : Int32))
    (e12 : (if (op &&& (7 : Int32)) ≤ (0 : Int32) then (0 : Int32) else (if (d.1 17) = (0 : Int32) then (1 : Int32) else (0 : Int32))) = (0 : Int32))
    (e17 : (if x1 = (0 : Int32) then (0 : Int32) else (if (op &&& (7 : Int32)) = (1 : Int32) then (if ((a ^^^ b) &&& (31 : Int32)) ≤ (3 : Int32) then (0 : Int32) else (1 : Int32)) else (0 : Int32))) = (0 : Int32)) :
    (x1 = (0 : Int32) → m_special d op rd rs1 a b = m_gives d rd (d.1 6) (if (op &&& (7 : Int32)) = (0 : Int32) then d.1 7 else (if (op &&& (7 : Int32)) = (1 : Int32) then m_psr d else (if (op &&& (7 : Int32)) = (2 : Int32) then d.1 8 else d.1 9)))) ∧
    (x1 = (1 : Int32) → op &&& (7 : Int32) = (0 : Int32) → m_special d op rd rs1 a b = (upd d.1 7 (a ^^^ b), d.2.1, d.2.2.1, d.2.2.2.1, d.2.2.2.2.1, d.2.2.2.2.2)) ∧
    (x1 = (1 : Int32) → op &&& (7 : Int32) = (2 : Int32) → m_special d op rd rs1 a b = (upd d.1 8 ((a ^^^ b) &&& (15 : Int32)), d.2.1, d.2.2.1, d.2.2.2.1, d.2.2.2.2.1, d.2.2.2.2.2)) ∧
    (x1 = (1 : Int32) → op &&& (7 : Int32) = (3 : Int32) → m_special d op rd rs1 a b = (upd d.1 9 ((a ^^^ b) &&& (-4096 : Int32)), d.2.1, d.2.2.1, d.2.2.2.1, d.2.2.2.2.1, d.2.2.2.2.2)) ∧
    (x1 = (1 : Int32) → op &&& (7 : Int32) = (1 : Int32) → m_special d op rd rs1 a b = (upd (upd (upd (upd (upd (upd (upd (upd d.1 13 (if (((a ^^^ b) >>> ((23 : Int32) &&& 31)) &&& (1 : Int32)) = (1 : Int32) then (1 : Int32) else (0 : Int32))) 14 (if (((a ^^^ b) >>> ((22 : Int32) &&& 31)) &&& (1 : Int32)) = (1 : Int32) then (1 : Int32) else (0 : Int32))) 15 (if (((a ^^^ b) >>> ((21 : Int32) &&& 31)) &&& (1 : Int32)) = (1 : Int32) then (1 : Int32) else (0 : Int32))) 16 (if (((a ^^^ b) >>> ((20 : Int32) &&& 31)) &&& (1 : Int32)) = (1 : Int32) then (1 : Int32) else (0 : Int32))) 17 (if (((a ^^^ b) >>> ((7 : Int32) &&& 31)) &&& (1 : Int32)) = (1 : Int32) then (1 : Int32) else (0 : Int32))) 18 (if (((a ^^^ b) >>> ((6 : Int32) &&& 31)) &&& (1 : Int32)) = (1 : Int32) then (1 : Int32) else (0 : Int32))) 19 (if (((a ^^^ b) >>> ((5 : Int32) &&& 31)) &&& (1 : Int32)) = (1 : Int32) then (1 : Int32) else (0 : Int32))) 6 ((a ^^^ b) &&& (3 : Int32)), d.2.1, d.2.2.1, d.2.2.2.1, d.2.2.2.2.1, d.2.2.2.2.2)) := by
  have u : m_special d op rd rs1 a b = m_special d op rd rs1 a b := rfl
  conv at u => rhs; unfold m_special
  dsimp only at u
  rw [e1, e4, traps0, e12, traps0, e17, traps0, if_pos (m21l hd)] at u
  refine ⟨fun h => ?_, fun h h2 => ?_, fun h h2 => ?_, fun h h2 => ?_, fun h h2 => ?_⟩
  · rw [u, if_pos h]
  · rw [u, if_neg (by rw [h]; decide), h2, if_pos rfl]
  · rw [u, if_neg (by rw [h]; decide), h2, if_neg (by decide), if_pos rfl]
  · rw [u, if_neg (by rw [h]; decide), h2, if_neg (by decide), if_neg (by decide), if_pos rfl]
  · rw [u, if_neg (by rw [h]; decide), h2, if_neg (by decide), if_neg (by decide), if_neg (by decide)]
theorem rdy_pf {p : SP} {d : SD} (h : RX p d) (w a b : Int32) : qPF ((if (f_rs1Of w) = (0 : Int32) then (f_deliver p w (p.1 2)).1 else (2 : Int32)), (if (f_rs1Of w) = (0 : Int32) then (f_deliver p w (p.1 2)).2 else p)) (m_special d (40 : Int32) (f_rdOf w) (f_rs1Of w) a b) := by
  by_cases c : f_rs1Of w = (0 : Int32)
  · rw [(sp_go h.2.2.1 (f_rdOf w) (f_rs1Of w) a b (x1 := 0) (by decide) (by rw [if_pos (show ((40 : Int32) &&& 7) = 0 from by decide), if_pos (show (0 : Int32) = 0 from rfl), if_pos c]) (by rw [if_pos (by decide)]) (by rw [if_pos rfl])).1 rfl, if_pos c, if_pos c, if_pos (by decide), ← h.1.1.y]
    exact dl_rx h w (p.1 2)
  · rw [(sp_n h.2.2.1 (f_rdOf w) (f_rs1Of w) a b (x1 := 0) (x4 := 1) (by decide) (by rw [if_pos (by decide), if_pos rfl, if_neg c]) rfl rfl).1 rfl, if_neg c, if_neg c]
    exact pf_trap h (by decide)
theorem rds_pf {p : SP} {d : SD} (h : RX p d) (w a b : Int32) {op : Int32} (ho : op = (41 : Int32) ∨ op = (42 : Int32) ∨ op = (43 : Int32)) : qPF (f_readSpecial p w op) (m_special d op (f_rdOf w) (f_rs1Of w) a b) := by
  have k4 : (if (op &&& (7 : Int32)) = (0 : Int32) then (if (if (0 : Int32) = (0 : Int32) then f_rs1Of w else f_rdOf w) = (0 : Int32) then (0 : Int32) else (1 : Int32)) else (0 : Int32)) = (0 : Int32) := if_neg (by rcases ho with rfl | rfl | rfl <;> decide)
  have k1 : (if op < (48 : Int32) then (0 : Int32) else (1 : Int32)) = (0 : Int32) := if_pos (by rcases ho with rfl | rfl | rfl <;> decide)
  have k7 : ¬ (op &&& (7 : Int32)) ≤ (0 : Int32) := by rcases ho with rfl | rfl | rfl <;> decide
  unfold f_readSpecial
  dsimp only
  rw [h.1.1.s]
  by_cases c : d.1 17 = (0 : Int32)
  · rw [if_pos c, (sp_n h.2.2.1 (f_rdOf w) (f_rs1Of w) a b (x1 := 0) (x4 := 0) (x12 := 1) k1 k4 (by rw [if_neg k7, if_pos c]) rfl).2.1 rfl rfl]
    exact pf_trap h (by decide)
  · rw [if_neg c, (sp_go h.2.2.1 (f_rdOf w) (f_rs1Of w) a b (x1 := 0) k1 k4 (by rw [if_neg k7, if_neg c]) (by rw [if_pos rfl])).1 rfl]
    rcases ho with rfl | rfl | rfl
    · rw [if_pos rfl, if_neg (by decide), if_pos (by decide), ← h.1.1.s, psr_eq h.1]
      exact dl_rx h w _
    · rw [if_neg (by decide), if_pos rfl, if_neg (by decide), if_neg (by decide), if_pos (by decide), h.1.1.inv]
      exact dl_rx h w _
    · rw [if_neg (by decide), if_neg (by decide), if_neg (by decide), if_neg (by decide), if_neg (by decide), h.1.1.ba]
      exact dl_rx h w _
theorem wry_pf {p : SP} {d : SD} (h : RX p d) (w a b : Int32) : qPF (f_writeY p w (a ^^^ b)) (m_special d (48 : Int32) (f_rdOf w) (f_rs1Of w) a b) := by
  unfold f_writeY
  by_cases c : f_rdOf w = (0 : Int32)
  · rw [if_pos c, (sp_go h.2.2.1 (f_rdOf w) (f_rs1Of w) a b (x1 := 1) (by decide) (by rw [if_pos (show ((48 : Int32) &&& 7) = 0 from by decide), if_neg (show ¬ (1 : Int32) = 0 from by decide), if_pos c]) (by rw [if_pos (by decide)]) (by rw [if_neg (by decide), if_neg (by decide)])).2.1 rfl (by decide)]
    exact pf_go ⟨⟨h.1.1.sY _, h.1.2.1, h.1.2.2⟩, h.2.1, h.2.2.1, h.2.2.2⟩
  · rw [if_neg c, (sp_n h.2.2.1 (f_rdOf w) (f_rs1Of w) a b (x1 := 1) (x4 := 1) (by decide) (by rw [if_pos (show ((48 : Int32) &&& 7) = 0 from by decide), if_neg (show ¬ (1 : Int32) = 0 from by decide), if_neg c]) rfl rfl).1 rfl]
    exact pf_trap h (by decide)
theorem bt_and1 (x : Int32) : (if (x &&& (1 : Int32)) = (1 : Int32) then (1 : Int32) else (0 : Int32)) = x &&& (1 : Int32) := by
  obtain ⟨j, hj, e⟩ := pk_andE x (m := 1) 1 (by decide)
  rw [e]
  have h : ∀ j, j < 2 → (if nI j = (1 : Int32) then (1 : Int32) else (0 : Int32)) = nI j := by decide +kernel
  exact h j (by omega)
theorem and1_B (x : Int32) : zB (x &&& (1 : Int32)) := by
  rw [← bt_and1]
  exact zB_10
theorem qi7 (w : Int32) : zushr w (7 : Int32) &&& (1 : Int32) = (w >>> ((7 : Int32) &&& 31)) &&& (1 : Int32) := sh_and w (n := 7) rfl (by omega) (by decide +kernel)
theorem qi6 (w : Int32) : zushr w (6 : Int32) &&& (1 : Int32) = (w >>> ((6 : Int32) &&& 31)) &&& (1 : Int32) := sh_and w (n := 6) rfl (by omega) (by decide +kernel)
theorem qi5 (w : Int32) : zushr w (5 : Int32) &&& (1 : Int32) = (w >>> ((5 : Int32) &&& 31)) &&& (1 : Int32) := sh_and w (n := 5) rfl (by omega) (by decide +kernel)
theorem sh1 (w : Int32) {n : Nat} (hn : n < 32) : (w >>> (nI n &&& 31)) &&& (1 : Int32) = nI (w.toBitVec.toNat / 2 ^ n % 2) := by
  rw [← sh_and w (s := nI n) (m := 1) rfl hn (fun i hi h => by rw [b_1 i hi]; exact decide_eq_false (by omega))]
  obtain ⟨W, hW, rfl⟩ := i32_nat w
  rw [sh_bit hW hn, pk_tn hW]
theorem fl20 (w : Int32) : zushr w (20 : Int32) &&& (15 : Int32) = fw ((w >>> ((23 : Int32) &&& 31)) &&& (1 : Int32)) ((w >>> ((22 : Int32) &&& 31)) &&& (1 : Int32)) ((w >>> ((21 : Int32) &&& 31)) &&& (1 : Int32)) ((w >>> ((20 : Int32) &&& 31)) &&& (1 : Int32)) := by
  have e1 := sh1 w (n := 23) (by omega)
  have e2 := sh1 w (n := 22) (by omega)
  have e3 := sh1 w (n := 21) (by omega)
  have e4 := sh1 w (n := 20) (by omega)
  rw [show (w >>> ((23 : Int32) &&& 31)) &&& (1 : Int32) = _ from e1, show (w >>> ((22 : Int32) &&& 31)) &&& (1 : Int32) = _ from e2, show (w >>> ((21 : Int32) &&& 31)) &&& (1 : Int32) = _ from e3, show (w >>> ((20 : Int32) &&& 31)) &&& (1 : Int32) = _ from e4]
  obtain ⟨W, hW, rfl⟩ := i32_nat w
  have ez : zushr (nI W) (20 : Int32) = nI (W / 2 ^ 20) := pk_ushrN hW (20 : Int32) 20 (by decide)
  rw [pk_tn hW, ez, pk_andN (k := 4) (by omega) (by decide)]
  have f : ∀ t, t < 16 → nI t = fw (nI (t / 8 % 2)) (nI (t / 4 % 2)) (nI (t / 2 % 2)) (nI (t % 2)) := by decide +kernel
  rw [f (W / 2 ^ 20 % 2 ^ 4) (by omega)]
  congr 2 <;> omega
theorem w31 (v : Int32) (c : (v &&& (31 : Int32)) ≤ (3 : Int32)) : v &&& (31 : Int32) = v &&& (3 : Int32) := by
  obtain ⟨W, hW, rfl⟩ := i32_nat v
  rw [pk_andN (k := 5) hW (by decide)] at c ⊢
  rw [pk_andN (k := 2) hW (by decide)]
  have f : ∀ t, t < 32 → nI t ≤ (3 : Int32) → t < 4 := by decide +kernel
  have := f (W % 2 ^ 5) (by omega) c
  congr 1
  omega
theorem v3_in (y : Int32) : vp_in (y &&& (3 : Int32)) 4 := pk_andIn _ 2 (by decide) (by decide)
theorem lt4 (v : Int32) : (v &&& (31 : Int32)) < (4 : Int32) ↔ (v &&& (31 : Int32)) ≤ (3 : Int32) := by
  obtain ⟨j, hj, e⟩ := pk_andE v (m := 31) 5 (by decide)
  rw [e]
  have h : ∀ j, j < 32 → (nI j < (4 : Int32) ↔ nI j ≤ (3 : Int32)) := by decide +kernel
  exact h j (by omega)
theorem wrs_pf {p : SP} {d : SD} (h : RX p d) (w a b : Int32) {op : Int32} (ho : op = (49 : Int32) ∨ op = (50 : Int32) ∨ op = (51 : Int32)) : qPF (f_writeSpecial p op (a ^^^ b)) (m_special d op (f_rdOf w) (f_rs1Of w) a b) := by
  have k1 : (if op < (48 : Int32) then (0 : Int32) else (1 : Int32)) = (1 : Int32) := if_neg (by rcases ho with rfl | rfl | rfl <;> decide)
  have k4 : (if (op &&& (7 : Int32)) = (0 : Int32) then (if (if (1 : Int32) = (0 : Int32) then f_rs1Of w else f_rdOf w) = (0 : Int32) then (0 : Int32) else (1 : Int32)) else (0 : Int32)) = (0 : Int32) := if_neg (by rcases ho with rfl | rfl | rfl <;> decide)
  have k7 : ¬ (op &&& (7 : Int32)) ≤ (0 : Int32) := by rcases ho with rfl | rfl | rfl <;> decide
  unfold f_writeSpecial
  dsimp only
  rw [h.1.1.s]
  by_cases c : d.1 17 = (0 : Int32)
  · rw [if_pos c, (sp_n h.2.2.1 (f_rdOf w) (f_rs1Of w) a b (x1 := 1) (x4 := 0) (x12 := 1) k1 k4 (by rw [if_neg k7, if_pos c]) rfl).2.1 rfl rfl]
    exact pf_trap h (by decide)
  · rw [if_neg c]
    have k12 : (if (op &&& (7 : Int32)) ≤ (0 : Int32) then (0 : Int32) else (if (d.1 17) = (0 : Int32) then (1 : Int32) else (0 : Int32))) = (0 : Int32) := by rw [if_neg k7, if_neg c]
    rcases ho with rfl | rfl | rfl
    · rw [if_pos rfl]
      unfold f_writeStatus
      dsimp only
      by_cases k : ((a ^^^ b) &&& (31 : Int32)) ≤ (3 : Int32)
      · rw [if_pos ((lt4 _).mpr k), (sp_go h.2.2.1 (f_rdOf w) (f_rs1Of w) a b (x1 := 1) k1 k4 k12 (by rw [if_neg (by decide), if_pos (by decide), if_pos k])).2.2.2.2 rfl (by decide)]
        simp only [bt_and1]
        unfold f_changeMode
        dsimp only
        rw [qi7, qi6, qi5, w31 _ k]
        exact pf_go ⟨⟨((((h.1.1.sFl (fl20 (a ^^^ b)) (and1_B _) (and1_B _) (and1_B _) (and1_B _)).sS _ (and1_B _)).sPs _ (and1_B _)).sEt _ (and1_B _)).sWi _ (v3_in _), h.1.2.1, h.1.2.2⟩, h.2.1, h.2.2.1, h.2.2.2⟩
      · rw [if_neg (fun z => k ((lt4 _).mp z)), (sp_n h.2.2.1 (f_rdOf w) (f_rs1Of w) a b (x1 := 1) (x4 := 0) (x12 := 0) (x17 := 1) k1 k4 k12 (by rw [if_neg (by decide), if_pos (by decide), if_neg k])).2.2 rfl rfl rfl]
        exact pf_trap (t := 2) h (by decide)
    · rw [if_neg (by decide), if_pos rfl, (sp_go h.2.2.1 (f_rdOf w) (f_rs1Of w) a b (x1 := 1) k1 k4 k12 (by rw [if_neg (by decide), if_neg (by decide)])).2.2.1 rfl (by decide)]
      exact pf_go ⟨⟨h.1.1.sInv _, h.1.2.1, h.1.2.2⟩, h.2.1, h.2.2.1, h.2.2.2⟩
    · rw [if_neg (by decide), if_neg (by decide), (sp_go h.2.2.1 (f_rdOf w) (f_rs1Of w) a b (x1 := 1) k1 k4 k12 (by rw [if_neg (by decide), if_neg (by decide)])).2.2.2.1 rfl (by decide)]
      exact pf_go ⟨⟨h.1.1.sBa _, h.1.2.1, h.1.2.2⟩, h.2.1, h.2.2.1, h.2.2.2⟩
theorem above_fin : ∀ i, i < 4 → ((nI i) + (1 : Int32)) - ((nI i) + (1 : Int32)) / (4 : Int32) * (4 : Int32) = (nI i + (1 : Int32)) &&& (3 : Int32) := by decide +kernel
theorem below_fin : ∀ i, i < 4 → (((nI i) + (4 : Int32)) - (1 : Int32)) - (((nI i) + (4 : Int32)) - (1 : Int32)) / (4 : Int32) * (4 : Int32) = (nI i + (3 : Int32)) &&& (3 : Int32) := by decide +kernel
theorem above_eq {p : SP} {d : SD} (h : RP p d) : f_windowAbove p = (d.1 6 + (1 : Int32)) &&& (3 : Int32) := by
  unfold f_windowAbove
  rw [h.1.wi]
  obtain ⟨i, hi, e⟩ := vp_in_of h.1.win (by omega)
  rw [e]
  exact above_fin i hi
theorem below_eq {p : SP} {d : SD} (h : RP p d) : f_windowBelow p = (d.1 6 + (3 : Int32)) &&& (3 : Int32) := by
  unfold f_windowBelow
  rw [h.1.wi]
  obtain ⟨i, hi, e⟩ := vp_in_of h.1.win (by omega)
  rw [e]
  exact below_fin i hi
theorem shw (x : Int32) {n : Int32} (hn : vp_in n 4) : zushr x n &&& (1 : Int32) = (x >>> (n &&& 31)) &&& (1 : Int32) := by
  obtain ⟨i, hi, e⟩ := vp_in_of hn (by omega)
  exact sh_and x e (by omega) (fun j hj h => by rw [b_1 j hj]; exact decide_eq_false (by omega))
theorem inval_eq {p : SP} {d : SD} (h : RP p d) {n : Int32} (hn : vp_in n 4) : f_isInvalid p n = (if (((d.1 8) >>> (n &&& 31)) &&& (1 : Int32)) = (1 : Int32) then (1 : Int32) else (0 : Int32)) := by
  unfold f_isInvalid
  dsimp only
  rw [shw _ hn, h.1.inv]
theorem jump_pf {p : SP} {d : SD} (h : RX p d) (w t : Int32) : qPF (f_jump p w t) (let x := (if (t &&& (3 : Int32)) = (0 : Int32) then (0 : Int32) else (1 : Int32)); (let u := m_traps d x (7 : Int32); (if (u.1 21) < (0 : Int32) then (let v := m_gives (upd u.1 22 t, u.2.1, u.2.2.1, u.2.2.2.1, u.2.2.2.2.1, u.2.2.2.2.2) (f_rdOf w) (u.1 6) (u.1 4); v) else u))) := by
  unfold f_jump
  dsimp only
  by_cases c : (t &&& (3 : Int32)) = (0 : Int32)
  · rw [if_pos c, if_pos c, traps0, if_pos (m21l h.2.2.1), h.1.1.pc]
    exact dl_rx (p := (upd p.1 10 t, p.2.1, p.2.2.1, p.2.2.2)) (d := (upd d.1 22 t, d.2.1, d.2.2.1, d.2.2.2.1, d.2.2.2.2.1, d.2.2.2.2.2)) ⟨⟨(h.1.1.k10 _).m22 _, h.1.2.1, h.1.2.2⟩, rfl, h.2.2.1, h.2.2.2⟩ w _
  · rw [if_neg c, if_neg c, traps1 h.2.2.1, if_neg (show ¬ (upd d.1 21 (7 : Int32)) 21 < (0 : Int32) from by show ¬ (7 : Int32) < 0; decide)]
    exact pf_trap h (by decide)
theorem rett_pf {p : SP} {d : SD} (h : RX p d) (t : Int32) : qPF (f_returnFromTrap p t) (m_returns d t) := by
  unfold f_returnFromTrap m_returns
  dsimp only
  have hw : vp_in ((d.1 6 + (1 : Int32)) &&& (3 : Int32)) 4 := v3_in _
  have ea : f_windowAbove (upd p.1 10 t, p.2.1, p.2.2.1, p.2.2.2) = f_windowAbove p := rfl
  rw [ea, above_eq h.1, inval_eq h.1 hw, h.1.1.s, h.1.1.et]
  generalize (d.1 6 + (1 : Int32)) &&& (3 : Int32) = ww at *
  have hz := h.1.1.zs
  by_cases c : d.1 17 = (0 : Int32)
  · rw [if_pos c]
    by_cases e : d.1 19 = (0 : Int32)
    · rw [if_pos e, if_pos c, if_neg (by decide)]
      exact pf_trap h (by decide)
    · rw [if_neg e, if_pos c]
      exact pf_trap h (by decide)
  · rw [if_neg c]
    by_cases e : d.1 19 = (0 : Int32)
    · rw [if_pos e, if_neg (by rw [e]; decide), if_neg c]
      by_cases k : (((d.1 8) >>> (ww &&& 31)) &&& (1 : Int32)) = (1 : Int32)
      · rw [if_pos k, if_neg (by decide), if_pos k, if_neg (by decide)]
        exact pf_trap h (by decide)
      · rw [if_neg k, if_pos rfl, if_neg k]
        by_cases k2 : (t &&& (3 : Int32)) = (0 : Int32)
        · rw [if_pos k2, if_pos k2, if_pos (by decide)]
          unfold f_changeMode
          dsimp only
          rw [h.1.1.ps]
          have q : qRG (upd (upd (upd (upd (upd p.1 10 t) 0 ww) 4 (d.1 18)) 5 (d.1 18)) 6 (1 : Int32)) (upd (upd (upd (upd d.1 22 t) 6 ww) 17 (d.1 18)) 19 (1 : Int32)) := by
            have q1 := ((((h.1.1.k10 t).m22 t).sWi ww hw).sS (d.1 18) h.1.1.zp)
            have q2 := (q1.sEt (1 : Int32) z1)
            exact ⟨q2.pc, q2.nx, q2.wi, q2.y, q2.inv, q2.ba, q2.ha, q2.st, q2.tr, q2.fl, q2.zn, q2.zz, q2.zv, q2.zc, q2.s, q2.zs, rfl, q2.zp, q2.et, q2.ze, q2.an, q2.za, q2.win, q2.hal⟩
          exact pf_go ⟨⟨q, h.1.2.1, h.1.2.2⟩, rfl, h.2.2.1, h.2.2.2⟩
        · rw [if_neg k2, if_neg k2, if_neg (by decide)]
          exact pf_trap h (by decide)
    · have e1 : d.1 19 = (1 : Int32) := h.1.1.ze.resolve_left e
      rw [if_neg e, if_pos e1, if_neg c]
      exact pf_trap h (by decide)
theorem tic_pos (x : Int32) : (0 : Int32) ≤ (128 : Int32) + (x &&& (127 : Int32)) := by
  obtain ⟨j, hj, e⟩ := pk_andE x (m := 127) 7 (by decide)
  rw [e]
  have h : ∀ j, j < 128 → (0 : Int32) ≤ (128 : Int32) + nI j := by decide +kernel
  exact h j (by omega)
theorem r15 (w : Int32) : f_rdOf w &&& (15 : Int32) = f_conditionOf w := by
  unfold f_rdOf f_conditionOf
  rw [Int32.and_assoc, show (31 : Int32) &&& (15 : Int32) = 15 from by decide]
theorem tic_pf {p : SP} {d : SD} (h : RX p d) (w t : Int32) : qPF ((if (f_isMet p (f_conditionOf w)) = (0 : Int32) then (-1 : Int32) else (128 : Int32) + (t &&& (127 : Int32))), p) (m_traps d (m_holds d ((f_rdOf w) &&& (15 : Int32))) ((128 : Int32) + (t &&& (127 : Int32)))) := by
  rw [r15, met_eq h.1 (cond_16 w)]
  generalize m_holds d (f_conditionOf w) = r
  by_cases c : r = (0 : Int32)
  · rw [if_pos c, c, traps0]
    exact pf_go h
  · rw [if_neg c]
    unfold m_traps
    dsimp only
    rw [if_neg c, if_neg (m21n h.2.2.1)]
    exact pf_trap h (tic_pos t)
theorem move_pf {p : SP} {d : SD} (h : RX p d) (w v t ww : Int32) (hw : vp_in ww 4) (ht : (0 : Int32) ≤ t) (htn : ¬ t < (0 : Int32)) :
    qPF (f_moveWindow p w ww t v) (let x := (if (((d.1 8) >>> (ww &&& 31)) &&& (1 : Int32)) = (1 : Int32) then (1 : Int32) else (0 : Int32)); (let u := m_traps d x t; (if (u.1 21) < (0 : Int32) then (let z := m_gives (upd u.1 6 ww, u.2.1, u.2.2.1, u.2.2.2.1, u.2.2.2.2.1, u.2.2.2.2.2) (f_rdOf w) ww v; z) else u))) := by
  unfold f_moveWindow
  dsimp only
  rw [inval_eq h.1 hw]
  by_cases k : (((d.1 8) >>> (ww &&& 31)) &&& (1 : Int32)) = (1 : Int32)
  · rw [if_pos k, if_neg (by decide), traps1 h.2.2.1, if_neg (show ¬ (upd d.1 21 t) 21 < (0 : Int32) from htn)]
    exact pf_trap h ht
  · rw [if_neg k, if_pos rfl, traps0, if_pos (m21l h.2.2.1)]
    exact dl_rx (p := (upd p.1 0 ww, p.2.1, p.2.2.1, p.2.2.2)) (d := (upd d.1 6 ww, d.2.1, d.2.2.1, d.2.2.2.1, d.2.2.2.2.1, d.2.2.2.2.2)) ⟨⟨h.1.1.sWi _ hw, h.1.2.1, h.1.2.2⟩, h.2.1, h.2.2.1, h.2.2.2⟩ w v
theorem op3_64 (w : Int32) : vp_in (f_op3Of w) 64 := pk_andIn _ 6 (by decide) (by decide)
theorem oper_pf {p : SP} {d : SD} (h : RX p d) (w : Int32) : qPF (f_operate p w) (m_middle d (f_rdOf w) (f_op3Of w) (f_rs1Of w) (f_secondOperand p w)) := by
  unfold f_operate m_middle
  dsimp only
  have hop := op3_64 w
  rw [rd_eq h.1 (rs1_32 w)]
  generalize f_op3Of w = op at *
  generalize f_secondOperand p w = b
  generalize m_get d (f_rs1Of w) (d.1 6) = a
  by_cases c32 : (32 : Int32) ≤ op
  · rw [if_pos c32, if_pos c32]
    by_cases c36 : op = (36 : Int32)
    · rw [if_pos c36, if_pos c36]; exact muls_pf h w a b
    rw [if_neg c36, if_neg c36]
    by_cases c37 : op = (37 : Int32)
    · rw [if_pos c37, if_pos c37]; exact dl_rx h w _
    rw [if_neg c37, if_neg c37]
    by_cases c38 : op = (38 : Int32)
    · rw [if_pos c38, if_pos c38]; exact dl_rx h w _
    rw [if_neg c38, if_neg c38]
    by_cases c39 : op = (39 : Int32)
    · rw [if_pos c39, if_pos c39]; exact dl_rx h w _
    rw [if_neg c39, if_neg c39]
    by_cases c40 : op = (40 : Int32)
    · rw [if_pos c40, if_pos c40, c40]; exact rdy_pf h w a b
    rw [if_neg c40, if_neg c40]
    by_cases c41 : op = (41 : Int32)
    · rw [if_pos c41, if_pos c41]; exact rds_pf h w a b (Or.inl c41)
    rw [if_neg c41, if_neg c41]
    by_cases c42 : op = (42 : Int32)
    · rw [if_pos c42, if_pos c42]; exact rds_pf h w a b (Or.inr (Or.inl c42))
    rw [if_neg c42, if_neg c42]
    by_cases c43 : op = (43 : Int32)
    · rw [if_pos c43, if_pos c43]; exact rds_pf h w a b (Or.inr (Or.inr c43))
    rw [if_neg c43, if_neg c43]
    by_cases c48 : op = (48 : Int32)
    · rw [if_pos c48, if_pos c48, c48]; exact wry_pf h w a b
    rw [if_neg c48, if_neg c48]
    by_cases c49 : op = (49 : Int32)
    · rw [if_pos c49, if_pos c49]; exact wrs_pf h w a b (Or.inl c49)
    rw [if_neg c49, if_neg c49]
    by_cases c50 : op = (50 : Int32)
    · rw [if_pos c50, if_pos c50]; exact wrs_pf h w a b (Or.inr (Or.inl c50))
    rw [if_neg c50, if_neg c50]
    by_cases c51 : op = (51 : Int32)
    · rw [if_pos c51, if_pos c51]; exact wrs_pf h w a b (Or.inr (Or.inr c51))
    rw [if_neg c51, if_neg c51]
    by_cases c56 : op = (56 : Int32)
    · rw [if_pos c56, if_pos c56]; exact jump_pf h w (a + b)
    rw [if_neg c56, if_neg c56]
    by_cases c57 : op = (57 : Int32)
    · rw [if_pos c57, if_pos c57]; exact rett_pf h (a + b)
    rw [if_neg c57, if_neg c57]
    by_cases c58 : op = (58 : Int32)
    · rw [if_pos c58, if_pos c58]; exact tic_pf h w (a + b)
    rw [if_neg c58, if_neg c58]
    by_cases c60 : op = (60 : Int32)
    · rw [if_pos c60, if_pos c60, below_eq h.1, if_pos c60, if_pos c60]
      exact move_pf h w (a + b) 5 _ (v3_in _) (by decide) (by decide)
    rw [if_neg c60, if_neg c60]
    by_cases c61 : op = (61 : Int32)
    · rw [if_pos c61, if_pos c61, above_eq h.1, if_neg c60, if_neg c60]
      exact move_pf h w (a + b) 6 _ (v3_in _) (by decide) (by decide)
    rw [if_neg c61, if_neg c61]
    exact pf_trap h (by decide)
  · rw [if_neg c32, if_neg c32]
    obtain ⟨j, hj, rfl⟩ := vp_in_of hop (by omega)
    have hj2 : j < 32 := by
      rcases Nat.lt_or_ge j 32 with q | q
      · exact q
      · exact absurd (nI_le (a := 32) q (by omega)) c32
    exact reck_pf h w a b hj2
theorem m_low_pf {p : SP} {d : SD} (h : RX p d) (w : Int32) : qPF (f_sethiOrBranch p w) (m_low d w) := low_rx h w
theorem st_rx {p : SP} {d : SD} (h : RX p d) (v : Int32) {a n : Nat} (hn : n = 1 ∨ n = 2 ∨ n = 4) (hq : n + a % 4 ≤ 4) (ha : a + n ≤ 1024) : RX (p.1, p.2.1, p.2.2.1, f_store p.2.2.2 (nI a) (nI n) v) (m_store d (nI a) (nI n) v) := by
  obtain ⟨mm, e, hm⟩ := rm_st (d := d) v h.1.2.2 hn hq ha
  rw [e]
  exact ⟨⟨h.1.1, h.1.2.1, hm⟩, h.2.1, h.2.2.1, h.2.2.2⟩
theorem ld_eq {p : SP} {d : SD} (h : RX p d) {a n : Nat} (hn : n = 1 ∨ n = 2 ∨ n = 4) (hq : n + a % 4 ≤ 4) (ha : a + n ≤ 1024) : f_load p.2.2.2 (nI a) (nI n) = m_take d (nI a) (nI n) := rm_ld h.1.2.2 hn hq ha
theorem sx8 (x : Int32) : (x <<< ((24 : Int32) &&& 31)) >>> ((24 : Int32) &&& 31) = zbyte x := by
  apply b_ext
  intro i hi
  have r : bt (zbyte x) i = (if i < 8 then bt x i else bt x 7) := by
    unfold bt zbyte
    rw [Int8.toBitVec_toInt32, Int32.toBitVec_toInt8, BitVec.getLsbD_signExtend, BitVec.msb_eq_getLsbD_last, BitVec.getLsbD_signExtend, BitVec.getLsbD_signExtend]
    by_cases c : i < 8
    · simp [c, hi]
    · simp [c, hi]
  rw [r, show (x <<< ((24 : Int32) &&& 31)) >>> ((24 : Int32) &&& 31) = (x <<< (nI 24 &&& 31)) >>> (nI 24 &&& 31) from rfl, b_sshr 24 (by omega) _ hi]
  by_cases c : i < 8
  · rw [if_pos c, if_pos (by omega), b_shl 24 (by omega) _ (by omega), decide_eq_true (by omega), Bool.true_and, show 24 + i - 24 = i by omega]
  · rw [if_neg c, if_neg (by omega), b_shl 24 (by omega) _ (by omega), decide_eq_true (by omega), Bool.true_and]
theorem sx16 (x : Int32) : (x <<< ((16 : Int32) &&& 31)) >>> ((16 : Int32) &&& 31) = zshort x := by
  apply b_ext
  intro i hi
  have r : bt (zshort x) i = (if i < 16 then bt x i else bt x 15) := by
    unfold bt zshort
    rw [Int16.toBitVec_toInt32, Int32.toBitVec_toInt16, BitVec.getLsbD_signExtend, BitVec.msb_eq_getLsbD_last, BitVec.getLsbD_signExtend, BitVec.getLsbD_signExtend]
    by_cases c : i < 16
    · simp [c, hi]
    · simp [c, hi]
  rw [r, show (x <<< ((16 : Int32) &&& 31)) >>> ((16 : Int32) &&& 31) = (x <<< (nI 16 &&& 31)) >>> (nI 16 &&& 31) from rfl, b_sshr 16 (by omega) _ hi]
  by_cases c : i < 16
  · rw [if_pos c, if_pos (by omega), b_shl 16 (by omega) _ (by omega), decide_eq_true (by omega), Bool.true_and, show 16 + i - 16 = i by omega]
  · rw [if_neg c, if_neg (by omega), b_shl 16 (by omega) _ (by omega), decide_eq_true (by omega), Bool.true_and]
