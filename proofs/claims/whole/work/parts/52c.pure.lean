/-- bits cut out: with sign or without, under a mask that leaves the sign out -/
theorem sh_and (w : Int32) {n : Nat} {s m : Int32} (hs : s = nI n) (hn : n < 32) (hm : ∀ i, i < 32 → 32 ≤ n + i → bt m i = false) : zushr w s &&& m = (w >>> (s &&& 31)) &&& m := by
  subst hs
  apply b_ext
  intro i hi
  rw [b_and, b_and, zu_bits hn, b_sshr n hn w hi]
  by_cases c : n + i < 32
  · rw [if_pos c]
  · rw [hm i hi (by omega)]; simp
theorem rdOf_eq (w : Int32) : f_rdOf w = (w >>> ((25 : Int32) &&& 31)) &&& (31 : Int32) := sh_and w (n := 25) rfl (by omega) (by decide +kernel)
theorem condOf_eq (w : Int32) : f_conditionOf w = (w >>> ((25 : Int32) &&& 31)) &&& (15 : Int32) := sh_and w (n := 25) rfl (by omega) (by decide +kernel)
theorem op3Of_eq (w : Int32) : f_op3Of w = (w >>> ((19 : Int32) &&& 31)) &&& (63 : Int32) := sh_and w (n := 19) rfl (by omega) (by decide +kernel)
theorem rs1Of_eq (w : Int32) : f_rs1Of w = (w >>> ((14 : Int32) &&& 31)) &&& (31 : Int32) := sh_and w (n := 14) rfl (by omega) (by decide +kernel)
theorem i13_eq (w : Int32) : zushr w (13 : Int32) &&& (1 : Int32) = (w >>> ((13 : Int32) &&& 31)) &&& (1 : Int32) := sh_and w (n := 13) rfl (by omega) (by decide +kernel)
theorem i29_eq (w : Int32) : zushr w (29 : Int32) &&& (1 : Int32) = (w >>> ((29 : Int32) &&& 31)) &&& (1 : Int32) := sh_and w (n := 29) rfl (by omega) (by decide +kernel)
theorem i22_eq (w : Int32) : zushr w (22 : Int32) &&& (7 : Int32) = (w >>> ((22 : Int32) &&& 31)) &&& (7 : Int32) := sh_and w (n := 22) rfl (by omega) (by decide +kernel)
theorem q31 (w : Int32) : vp_in (w &&& (31 : Int32)) 32 := pk_andIn _ 5 (by decide) (by decide)
theorem rd_32 (w : Int32) : vp_in (f_rdOf w) 32 := q31 _
theorem rs1_32 (w : Int32) : vp_in (f_rs1Of w) 32 := q31 _
theorem dl_rx {p : SP} {d : SD} (h : RX p d) (w v : Int32) : qPF (f_deliver p w v) (m_gives d (f_rdOf w) (d.1 6) v) := pf_go (wr_rx h (rd_32 w) v)
theorem so_eq {p : SP} {d : SD} (h : RP p d) (w : Int32) : f_secondOperand p w = (if ((w >>> ((13 : Int32) &&& 31)) &&& (1 : Int32)) = (1 : Int32) then (w <<< ((19 : Int32) &&& 31)) >>> ((19 : Int32) &&& 31) else m_get d (w &&& (31 : Int32)) (d.1 6)) := by
  unfold f_secondOperand
  dsimp only
  rw [i13_eq, rd_eq h (q31 w)]
  by_cases c : ((w >>> ((13 : Int32) &&& 31)) &&& (1 : Int32)) = (1 : Int32)
  · rw [if_pos c, if_pos c, if_neg (by decide)]
  · rw [if_neg c, if_neg c, if_pos rfl]
def qzero : Nat → Int32 := fun _ => 0
def dfl (n z v c : Int32) : SD := (fun i => if i = 13 then n else if i = 14 then z else if i = 15 then v else if i = 16 then c else 0, qzero, qzero, qzero, qzero, qzero)
theorem met_fin : ∀ n, n < 2 → ∀ z, z < 2 → ∀ v, v < 2 → ∀ c, c < 2 → ∀ j, j < 16 → f_isMet (fun _ => fw (nI n) (nI z) (nI v) (nI c), qzero, qzero, qzero) (nI j) = m_holds (dfl (nI n) (nI z) (nI v) (nI c)) (nI j) := by decide +kernel
theorem zB_nI {x : Int32} (h : zB x) : ∃ n, n < 2 ∧ x = nI n := by
  rcases h with h | h
  · exact ⟨0, by omega, h⟩
  · exact ⟨1, by omega, h⟩
theorem met_eq {p : SP} {d : SD} (h : RP p d) {k : Int32} (hk : vp_in k 16) : f_isMet p k = m_holds d k := by
  obtain ⟨j, hj, rfl⟩ := vp_in_of hk (by omega)
  have e1 : f_isMet p (nI j) = f_isMet (fun _ => p.1 1, qzero, qzero, qzero) (nI j) := rfl
  have e2 : m_holds d (nI j) = m_holds (dfl (d.1 13) (d.1 14) (d.1 15) (d.1 16)) (nI j) := rfl
  obtain ⟨n, hn, en⟩ := zB_nI h.1.zn
  obtain ⟨z, hz, ez⟩ := zB_nI h.1.zz
  obtain ⟨v, hv, ev⟩ := zB_nI h.1.zv
  obtain ⟨c, hc, ec⟩ := zB_nI h.1.zc
  rw [e1, e2, h.1.fl, en, ez, ev, ec]
  exact met_fin n hn z hz v hv c hc j hj
theorem cond_16 (w : Int32) : vp_in (f_conditionOf w) 16 := pk_andIn _ 4 (by decide) (by decide)
theorem zB_01 {c : Prop} {q : Decidable c} : zB (@ite _ c q (0 : Int32) (1 : Int32)) := by
  by_cases h : c
  · rw [if_pos h]; exact Or.inl rfl
  · rw [if_neg h]; exact Or.inr rfl
theorem zB_10 {c : Prop} {q : Decidable c} : zB (@ite _ c q (1 : Int32) (0 : Int32)) := by
  by_cases h : c
  · rw [if_pos h]; exact Or.inr rfl
  · rw [if_neg h]; exact Or.inl rfl
theorem zB_i {c : Prop} {q : Decidable c} {a b : Int32} (ha : zB a) (hb : zB b) : zB (@ite _ c q a b) := by
  by_cases h : c
  · rw [if_pos h]; exact ha
  · rw [if_neg h]; exact hb
theorem br_rx {p : SP} {d : SD} (h : RX p d) (w : Int32) : qPF ((-1 : Int32), f_branch p w) (m_branch d w) := by
  unfold f_branch m_branch
  dsimp only
  rw [met_eq h.1 (cond_16 w), condOf_eq, i29_eq, h.1.1.pc]
  generalize hx : m_holds d ((w >>> ((25 : Int32) &&& 31)) &&& (15 : Int32)) = r
  by_cases c : r = (0 : Int32)
  · simp only [if_pos c]
    exact ⟨⟨h.1.1.sAn _ zB_01, h.1.2.1, h.1.2.2⟩, h.2.1, h.2.2.1.symm, Or.inl rfl⟩
  · simp only [if_neg c]
    exact ⟨⟨((h.1.1.k10 _).m22 _).sAn _ (zB_i (Or.inl rfl) zB_10), h.1.2.1, h.1.2.2⟩, rfl, h.2.2.1.symm, Or.inl rfl⟩
theorem low_rx {p : SP} {d : SD} (h : RX p d) (w : Int32) : qPF (f_sethiOrBranch p w) (m_low d w) := by
  unfold f_sethiOrBranch m_low
  dsimp only
  rw [i22_eq, ← rdOf_eq]
  by_cases c : ((w >>> ((22 : Int32) &&& 31)) &&& (7 : Int32)) = (2 : Int32)
  · rw [if_pos c, if_neg (by rw [c]; decide), if_pos c]
    exact br_rx h w
  · rw [if_neg c]
    by_cases c2 : ((w >>> ((22 : Int32) &&& 31)) &&& (7 : Int32)) = (4 : Int32)
    · rw [if_pos c2, if_pos c2]
      exact dl_rx h w _
    · rw [if_neg c2, if_neg c2, if_neg c]
      exact pf_trap h (by decide)
theorem le_bt (x : Int32) : (0 : Int32) ≤ x ↔ bt x 31 = false := by
  have h : x.toBitVec.msb = decide (x.toInt < 0) := BitVec.msb_eq_toInt
  have h2 : bt x 31 = x.toBitVec.msb := by rw [BitVec.msb_eq_getLsbD_last]; rfl
  rw [h2, h, Int32.le_iff_toInt_le, show (0 : Int32).toInt = 0 by decide]
  simp
theorem b_1 : ∀ i, i < 32 → bt 1 i = decide (i = 0) := by decide +kernel
theorem zu31 (x : Int32) : zushr x (31 : Int32) = (if (0 : Int32) ≤ x then (0 : Int32) else (1 : Int32)) := by
  apply b_ext
  intro i hi
  rw [show zushr x (31 : Int32) = zushr x (nI 31) from rfl, zu_bits (by omega)]
  by_cases c : (0 : Int32) ≤ x
  · rw [if_pos c, b_0]
    rcases Nat.eq_zero_or_pos i with e | e
    · rw [e]; exact (le_bt x).mp c
    · exact b_big (by omega)
  · rw [if_neg c, b_1 i hi]
    rcases Nat.eq_zero_or_pos i with e | e
    · rw [e]
      have := mt (le_bt x).mpr c
      simpa using this
    · rw [b_big (by omega), decide_eq_false (by omega)]
theorem ov_add (a b r : Int32) : zushr (((a ^^^ b) ^^^ (-1 : Int32)) &&& (a ^^^ r)) (31 : Int32) = (if (0 : Int32) ≤ ((a ^^^ r) &&& (b ^^^ r)) then (0 : Int32) else (1 : Int32)) := by
  rw [zu31]
  have e : ((0 : Int32) ≤ (((a ^^^ b) ^^^ (-1 : Int32)) &&& (a ^^^ r))) ↔ ((0 : Int32) ≤ ((a ^^^ r) &&& (b ^^^ r))) := by
    rw [le_bt, le_bt]
    simp only [b_and, b_xor, b_m1 31 (by omega)]
    cases bt a 31 <;> cases bt b 31 <;> cases bt r 31 <;> simp
  by_cases c : (0 : Int32) ≤ ((a ^^^ r) &&& (b ^^^ r))
  · rw [if_pos c, if_pos (e.mpr c)]
  · rw [if_neg c, if_neg (fun z => c (e.mp z))]
theorem bare_nat (x : Int32) : ∃ m, m < 2 ^ 32 ∧ x.toInt64 &&& (4294967295 : Int64) = lN m := ⟨x.toInt64.toBitVec.toNat % 2 ^ 32, Nat.mod_lt _ (by decide), Int64.toBitVec_inj.mp (BitVec.eq_of_toNat_eq (by
  show (x.toInt64.toBitVec &&& 4294967295#64).toNat = (BitVec.ofNat 64 (x.toInt64.toBitVec.toNat % 2 ^ 32)).toNat
  rw [BitVec.toNat_and, show (4294967295#64).toNat = 2 ^ 32 - 1 from by decide, Nat.and_two_pow_sub_one_eq_mod, BitVec.toNat_ofNat]
  omega))⟩
theorem qlN_add (a b : Nat) : lN a + lN b = lN (a + b) := by
  unfold lN
  rw [Int64.ofNat_add]
theorem qlN_le {a b : Nat} (ha : a < 2 ^ 63) (hb : b < 2 ^ 63) : lN a ≤ lN b ↔ a ≤ b := by
  rw [Int64.le_iff_toInt_le]
  unfold lN
  rw [lg_ofNat_toInt ha, lg_ofNat_toInt hb]
  omega
theorem qlN_lt {a b : Nat} (ha : a < 2 ^ 63) (hb : b < 2 ^ 63) : lN a < lN b ↔ a < b := by
  rw [Int64.lt_iff_toInt_lt]
  unfold lN
  rw [lg_ofNat_toInt ha, lg_ofNat_toInt hb]
  omega
theorem lN_i32 (a : Nat) : (lN a).toInt32 = nI a := by
  apply Int32.toBitVec_inj.mp
  rw [Int64.toBitVec_toInt32]
  show (BitVec.ofNat 64 a).signExtend 32 = BitVec.ofNat 32 a
  apply BitVec.eq_of_toNat_eq
  rw [BitVec.signExtend_eq_setWidth_of_le _ (by omega), BitVec.toNat_setWidth, BitVec.toNat_ofNat, BitVec.toNat_ofNat]
  omega
theorem zlushr_lN {n k : Nat} (hn : n < 2 ^ 64) (hk : k < 64) : zlushr (lN n) (nI k) = lN (n / 2 ^ k) := wb_shr hn hk
theorem ca_add (a b c : Int32) (hc : zB c) : (zlushr (((a.toInt64 &&& (4294967295 : Int64)) + (b.toInt64 &&& (4294967295 : Int64))) + c.toInt64) (32 : Int32)).toInt32 = (if (lg_cmp (((m_bare a) + (m_bare b)) + c.toInt64) (4294967295 : Int64)) ≤ (0 : Int32) then (0 : Int32) else (1 : Int32)) := by
  unfold m_bare
  obtain ⟨α, ha, ea⟩ := bare_nat a
  obtain ⟨β, hb, eb⟩ := bare_nat b
  obtain ⟨γ, hg, eg⟩ : ∃ γ, γ < 2 ∧ c.toInt64 = lN γ := by
    rcases hc with rfl | rfl
    · exact ⟨0, by omega, by decide⟩
    · exact ⟨1, by omega, by decide⟩
  rw [ea, eb, eg, qlN_add, qlN_add, show (32 : Int32) = nI 32 from rfl, zlushr_lN (by omega) (by omega), lN_i32]
  have q : lg_cmp (lN (α + β + γ)) (4294967295 : Int64) ≤ (0 : Int32) ↔ α + β + γ ≤ 4294967295 := by
    rw [lg_cmp_le]
    exact qlN_le (b := 4294967295) (by omega) (by decide)
  by_cases k : α + β + γ ≤ 4294967295
  · rw [if_pos (q.mpr k), show (α + β + γ) / 2 ^ 32 = 0 by omega]; rfl
  · rw [if_neg (fun z => k (q.mp z)), show (α + β + γ) / 2 ^ 32 = 1 by omega]; rfl
theorem fw_fin : ∀ n, n < 2 → ∀ z, z < 2 → ∀ v, v < 2 → ∀ c, c < 2 → fw (nI n) (nI z) (nI v) (nI c) &&& (1 : Int32) = nI c := by decide +kernel
theorem fw_c {p : SP} {d : SD} (h : RP p d) : (p.1 1) &&& (1 : Int32) = d.1 16 := by
  obtain ⟨n, hn, en⟩ := zB_nI h.1.zn
  obtain ⟨z, hz, ez⟩ := zB_nI h.1.zz
  obtain ⟨v, hv, ev⟩ := zB_nI h.1.zv
  obtain ⟨c, hc, ec⟩ := zB_nI h.1.zc
  rw [h.1.fl, en, ez, ev, ec]
  exact fw_fin n hn z hz v hv c hc
theorem bit_id {x : Int32} (h : zB x) : m_bit x = x := by
  rcases h with rfl | rfl
  · decide
  · decide
theorem kf_eq {u : Nat → Int32} (h2 : zB (u 2)) (h3 : zB (u 3)) : f_kflags u = fw (if (0 : Int32) ≤ u 0 then (0 : Int32) else (1 : Int32)) (if u 0 = (0 : Int32) then (1 : Int32) else (0 : Int32)) (u 2) (u 3) := by
  unfold f_kflags
  dsimp only
  by_cases a : (0 : Int32) ≤ u 0
  · by_cases b : u 0 = (0 : Int32)
    · rw [if_pos a, if_pos a, if_pos b, if_pos b]
      rcases h2 with e | e <;> rcases h3 with e' | e' <;> rw [e, e'] <;> decide
    · rw [if_pos a, if_pos a, if_neg b, if_neg b]
      rcases h2 with e | e <;> rcases h3 with e' | e' <;> rw [e, e'] <;> decide
  · have b : ¬ u 0 = (0 : Int32) := fun z => a (by rw [z]; decide)
    rw [if_neg a, if_neg a, if_neg b, if_neg b]
    rcases h2 with e | e <;> rcases h3 with e' | e' <;> rw [e, e'] <;> decide
/-- the end of reckoning: flags if told, the result delivered -/
def tl (p : SP) (w op : Int32) (u : Nat → Int32) : Int32 × SP :=
  (let q := (if op < (16 : Int32) then (p.1, u, p.2.2.1, p.2.2.2) else (upd p.1 1 (f_kflags u), u, p.2.2.1, p.2.2.2)); f_deliver q w (u 0))
def dtl (d : SD) (rd X : Int32) (r : Int64) (o c v : Int32) : SD :=
  (let U := (if X = (0 : Int32) then d else m_flags d r o c); m_gives U rd (U.1 6) v)
theorem tl_pf {p : SP} {d : SD} (h : RX p d) (w op X : Int32) (hX : X = (0 : Int32) ↔ op < (16 : Int32)) {u : Nat → Int32} {r : Int64} {o c v : Int32} (e0 : r.toInt32 = u 0) (ev : v = u 0) (e2 : u 2 = o) (e3 : u 3 = c) (zo : zB o) (zc : zB c) :
    qPF (tl p w op u) (dtl d (f_rdOf w) X r o c v) := by
  unfold tl dtl
  dsimp only
  rw [ev]
  by_cases k : op < (16 : Int32)
  · rw [if_pos k, if_pos (hX.mpr k)]
    exact dl_rx (p := (p.1, u, p.2.2.1, p.2.2.2)) h w (u 0)
  · rw [if_neg k, if_neg (fun z => k (hX.mp z))]
    refine dl_rx (p := (upd p.1 1 (f_kflags u), u, p.2.2.1, p.2.2.2)) (d := m_flags d r o c) ?_ w (u 0)
    unfold m_flags
    dsimp only
    rw [e0]
    have z2 : zB (u 2) := by rw [e2]; exact zo
    have z3 : zB (u 3) := by rw [e3]; exact zc
    have kf := kf_eq z2 z3
    rw [e2, e3] at kf
    exact ⟨⟨h.1.1.sFl kf zB_01 zB_10 zo zc, h.1.2.1, h.1.2.2⟩, h.2.1, h.2.2.1, h.2.2.2⟩
theorem i64i32 (x : Int32) : x.toInt64.toInt32 = x := lg_l2i_i2l x
theorem z0 : zB (0 : Int32) := Or.inl rfl
theorem z1 : zB (1 : Int32) := Or.inr rfl
theorem zu_B (x : Int32) : zB (zushr x (31 : Int32)) := by rw [zu31]; exact zB_01
theorem add_pf {p : SP} {d : SD} (h : RX p d) (w op X : Int32) (hX : X = (0 : Int32) ↔ op < (16 : Int32)) (a b c : Int32) (hc : zB c) : qPF (tl p w op (f_kadd p.2.1 a b c)) (m_adds d (f_rdOf w) a b c X) := by
  have e2 : f_kadd p.2.1 a b c 2 = zushr (((a ^^^ b) ^^^ (-1 : Int32)) &&& (a ^^^ ((a + b) + c))) (31 : Int32) := rfl
  have e3 : f_kadd p.2.1 a b c 3 = (zlushr (((a.toInt64 &&& (4294967295 : Int64)) + (b.toInt64 &&& (4294967295 : Int64))) + c.toInt64) (32 : Int32)).toInt32 := rfl
  have e0 : f_kadd p.2.1 a b c 0 = (a + b) + c := rfl
  exact tl_pf h w op X hX (r := ((a + b) + c).toInt64) (v := (a + b) + c) (by rw [e0, i64i32]) e0.symm (e2.trans (ov_add a b _)) (e3.trans (ca_add a b c hc)) zB_01 zB_01
theorem sub_pf {p : SP} {d : SD} (h : RX p d) (w op X : Int32) (hX : X = (0 : Int32) ↔ op < (16 : Int32)) (a b c : Int32) : qPF (tl p w op (f_subtract p.2.1 a b c)) (m_takes d (f_rdOf w) a b c X) := by
  have e2 : f_subtract p.2.1 a b c 2 = zushr ((a ^^^ b) &&& (a ^^^ ((a - b) - c))) (31 : Int32) := rfl
  have e3 : f_subtract p.2.1 a b c 3 = (if (0 : Int32) ≤ (lg_cmp (m_bare a) ((m_bare b) + c.toInt64)) then (0 : Int32) else (1 : Int32)) := rfl
  have e0 : f_subtract p.2.1 a b c 0 = (a - b) - c := rfl
  exact tl_pf h w op X hX (r := ((a - b) - c).toInt64) (v := (a - b) - c) (by rw [e0, i64i32]) e0.symm (e2.trans (zu31 _)) e3 zB_01 zB_01
theorem take_pf {p : SP} {d : SD} (h : RX p d) (w op X : Int32) (hX : X = (0 : Int32) ↔ op < (16 : Int32)) (v : Int32) : qPF (tl p w op (f_take p.2.1 v)) (dtl d (f_rdOf w) X v.toInt64 (0 : Int32) (0 : Int32) v.toInt64.toInt32) :=
  tl_pf h w op X hX (i64i32 v) (i64i32 v) rfl rfl z0 z0
theorem mul_pf {p : SP} {d : SD} (h : RX p d) (w op X : Int32) (hX : X = (0 : Int32) ↔ op < (16 : Int32)) (P : Int64) :
    qPF (tl (upd p.1 2 ((zlushr P (32 : Int32)).toInt32), p.2) w op (f_takeProduct p.2.1 P)) (dtl (upd d.1 7 ((zlushr P (32 : Int32)).toInt32), d.2) (f_rdOf w) X P (0 : Int32) (0 : Int32) P.toInt32) := by
  have h' : RX (upd p.1 2 ((zlushr P (32 : Int32)).toInt32), p.2) (upd d.1 7 ((zlushr P (32 : Int32)).toInt32), d.2) := ⟨⟨h.1.1.sY _, h.1.2.1, h.1.2.2⟩, h.2.1, h.2.2.1, h.2.2.2⟩
  exact tl_pf h' w op X hX rfl rfl rfl rfl z0 z0
theorem lN_mul2 {R : Nat} : zlshl (lN R) (1 : Int32) = lN (2 * R) := by
  have e : zlshl (lN R) (1 : Int32) = lN (R * 2 ^ 1) := wb_shl R (k := 1) (by omega)
  rw [e, Nat.mul_comm]
theorem or_bit {a e : Nat} (he : e < 2) : 2 * a ||| e = 2 * a + e := (Nat.two_pow_add_eq_or_of_lt (i := 1) he a).symm
theorem lN_or2 {a e : Nat} (ha : 2 * a + 1 < 2 ^ 64) (he : e < 2) : lN (2 * a) ||| lN e = lN (2 * a + e) := by
  rw [wb_or (by omega) (by omega), or_bit he]
theorem nI_i64 {n : Nat} (h : n < 2 ^ 31) : (nI n).toInt64 = lN n := by
  apply Int64.toInt_inj.mp
  unfold lN
  rw [Int32.toInt_toInt64, nI_toInt h, lg_ofNat_toInt (by omega)]
theorem i32_nat (x : Int32) : ∃ n, n < 2 ^ 32 ∧ x = nI n := ⟨x.toBitVec.toNat, x.toBitVec.isLt, Int32.toBitVec_inj.mp (by show _ = BitVec.ofNat 32 _; simp)⟩
theorem sh_bit {L n : Nat} (hL : L < 2 ^ 32) (hn : n < 32) : zushr (nI L) (nI n) &&& (1 : Int32) = nI (L / 2 ^ n % 2) := by
  have e : zushr (nI L) (nI n) = nI (L / 2 ^ n) := by
    apply pk_ushrN hL (nI n) n
    have h : ∀ n, n < 32 → (((nI n).toUInt32 &&& Int32.toUInt32 31).toBitVec % 32).toNat = n := by decide +kernel
    exact h n hn
  have hq : L / 2 ^ n ≤ L := Nat.div_le_self _ _
  rw [e, pk_andN (k := 1) (by omega) (by decide)]
theorem split_bit (L n : Nat) : L % 2 ^ (n + 1) = (L / 2 ^ n % 2) * 2 ^ n + L % 2 ^ n := by
  rw [Nat.mod_pow_succ, Nat.mul_comm, Nat.add_comm]
theorem dstep (R e D P X : Nat) (hD : 0 < D) : ((R + e * D) * P + X) / D = e * P + (R * P + X) / D := by
  have q : (R + e * D) * P + X = (R * P + X) + D * (e * P) := by
    rw [Nat.add_mul, Nat.mul_assoc, Nat.mul_comm e, Nat.mul_assoc, Nat.mul_comm P e]
    omega
  rw [q, Nat.add_mul_div_left _ _ hD, Nat.add_comm]
theorem sub1 {n : Nat} (h : n < 2 ^ 31) : ¬ (nI (n + 1) - (1 : Int32)) < (0 : Int32) ∧ nI (n + 1) - (1 : Int32) = nI n ∧ nI n + (-1 : Int32) = nI n - (1 : Int32) := by
  have e : nI (n + 1) - (1 : Int32) = nI n := by rw [nI_succ]; simp [Int32.add_sub_cancel]
  refine ⟨by rw [e]; exact nI_pos h, e, ?_⟩
  rw [Int32.sub_eq_add_neg]
/-- the class's quotient, digit by digit -/
theorem qloop {H : Int64} {L D : Nat} (hL : L < 2 ^ 32) (hD0 : 0 < D) (hD : D < 2 ^ 32) : ∀ n, n ≤ 32 → ∀ f, n < f → ∀ R Q, R < D → (Q + 1) * 2 ^ n ≤ 2 ^ 62 →
    fl_K_quotientWithoutSign_20 H (nI L) (lN D) f (lN R) (lN Q) (nI n - (1 : Int32)) = lN (Q * 2 ^ n + (R * 2 ^ n + L % 2 ^ n) / D) := by
  intro n
  induction n with
  | zero =>
    intro _ f hf R Q hR _
    obtain ⟨g, rfl⟩ : ∃ g, f = g + 1 := ⟨f - 1, by omega⟩
    rw [fl_K_quotientWithoutSign_20, if_pos (by decide +kernel)]
    simp only [Nat.pow_zero, Nat.mul_one, Nat.mod_one, Nat.add_zero]
    rw [Nat.div_eq_of_lt hR, Nat.add_zero]
  | succ n ih =>
    intro hn f hf R Q hR hQ
    obtain ⟨g, rfl⟩ : ∃ g, f = g + 1 := ⟨f - 1, by omega⟩
    obtain ⟨s1, s2, s3⟩ := sub1 (n := n) (by omega)
    rw [fl_K_quotientWithoutSign_20, if_neg s1, s2, s3]
    dsimp only
    generalize hb : L / 2 ^ n % 2 = b
    have hb2 : b < 2 := by omega
    have hp : 0 < 2 ^ n := Nat.two_pow_pos n
    have hQ1 : 2 * ((Q + 1) * 2 ^ n) ≤ 2 ^ 62 := by rw [Nat.pow_succ] at hQ; rw [← Nat.mul_assoc] at hQ; omega
    have hQ2 : Q + 1 ≤ (Q + 1) * 2 ^ n := Nat.le_mul_of_pos_right _ hp
    rw [sh_bit hL (by omega), hb, nI_i64 (by omega), lN_mul2, lN_mul2, lN_or2 (by omega) hb2, show (1 : Int64) = lN 1 from rfl, lN_or2 (by omega) (by omega)]
    have hc : lg_cmp (lN (2 * R + b)) (lN D) < (0 : Int32) ↔ 2 * R + b < D := by
      rw [lg_cmp_lt]
      exact qlN_lt (by omega) (by omega)
    have hs := split_bit L n
    rw [hb] at hs
    by_cases c : 2 * R + b < D
    · simp only [if_pos (hc.mpr c)]
      rw [ih (by omega) g (by omega) (2 * R + b) (2 * Q) c (by rw [Nat.add_mul] at hQ1 ⊢; rw [Nat.mul_assoc]; omega)]
      congr 1
      rw [hs, Nat.pow_succ]
      have x1 : 2 * Q * 2 ^ n = Q * (2 ^ n * 2) := by rw [Nat.mul_comm 2 Q, Nat.mul_assoc, Nat.mul_comm 2]
      have x2 : (2 * R + b) * 2 ^ n + L % 2 ^ n = R * (2 ^ n * 2) + (b * 2 ^ n + L % 2 ^ n) := by
        rw [Nat.add_mul, Nat.mul_comm 2 R, Nat.mul_assoc, Nat.mul_comm 2 (2 ^ n)]; omega
      rw [x1, x2]
    · simp only [if_neg (fun z => c (hc.mp z))]
      have e1 : lN (2 * R + b) - lN D = lN (2 * R + b - D) := by
        unfold lN
        rw [Int64.ofNat_sub _ _ (by omega)]
      rw [e1, ih (by omega) g (by omega) (2 * R + b - D) (2 * Q + 1) (by omega) (by rw [show 2 * Q + 1 + 1 = 2 * (Q + 1) by omega, Nat.mul_assoc]; exact hQ1)]
      congr 1
      rw [hs, Nat.pow_succ]
      have y : (R * (2 ^ n * 2) + (b * 2 ^ n + L % 2 ^ n)) / D = 1 * 2 ^ n + ((2 * R + b - D) * 2 ^ n + L % 2 ^ n) / D := by
        rw [← dstep (2 * R + b - D) 1 D (2 ^ n) (L % 2 ^ n) hD0]
        congr 1
        rw [show 2 * R + b - D + 1 * D = 2 * R + b by omega, Nat.add_mul, Nat.mul_comm 2 R, Nat.mul_assoc, Nat.mul_comm 2 (2 ^ n)]; omega
      have x1 : (2 * Q + 1) * 2 ^ n = Q * (2 ^ n * 2) + 2 ^ n := by rw [Nat.add_mul, Nat.mul_comm 2 Q, Nat.mul_assoc, Nat.mul_comm 2, Nat.one_mul]
      rw [x1, y, Nat.one_mul]
      omega
theorem sh_bitL {N n : Nat} (hN : N < 2 ^ 64) (hn : n < 64) : zlushr (lN N) (nI n) &&& (1 : Int64) = lN (N / 2 ^ n % 2) := by
  have e : zlushr (lN N) (nI n) = lN (N / 2 ^ n) := wb_shr hN hn
  rw [e, wb_a1 (Nat.lt_of_le_of_lt (Nat.div_le_self _ _) hN)]
theorem ularge {N D : Int64} : ∀ n, n ≤ 64 → ∀ f, n < f → ∀ x q : Int64, fl_D_unsigned_13 N D f x q (1 : Int32) (nI n - (1 : Int32)) = (4611686018427387904 : Int64) := by
  intro n
  induction n with
  | zero =>
    intro _ f hf x q
    obtain ⟨g, rfl⟩ : ∃ g, f = g + 1 := ⟨f - 1, by omega⟩
    rw [fl_D_unsigned_13, if_pos (by decide +kernel), if_neg (by decide)]
  | succ n ih =>
    intro hn f hf x q
    obtain ⟨g, rfl⟩ : ∃ g, f = g + 1 := ⟨f - 1, by omega⟩
    obtain ⟨s1, s2, s3⟩ := sub1 (n := n) (by omega)
    rw [fl_D_unsigned_13, if_neg s1, s2, s3]
    dsimp only
    have e : ∀ y : Int32, zB y → (1 : Int32) ||| y = 1 := by
      intro y hy
      rcases hy with rfl | rfl <;> decide
    rw [e _ zB_01]
    exact ih (by omega) g (by omega) _ _
theorem uloop {N D : Nat} (hN : N < 2 ^ 64) (hD0 : 0 < D) (hD : D < 2 ^ 32) : ∀ n, n ≤ 64 → ∀ f, n < f → ∀ R Q, R < D → Q < 4611686018427387904 →
    fl_D_unsigned_13 (lN N) (lN D) f (lN R) (lN Q) (0 : Int32) (nI n - (1 : Int32)) = lN (min (Q * 2 ^ n + (R * 2 ^ n + N % 2 ^ n) / D) (4611686018427387904)) := by
  intro n
  induction n with
  | zero =>
    intro _ f hf R Q hR hQ
    obtain ⟨g, rfl⟩ : ∃ g, f = g + 1 := ⟨f - 1, by omega⟩
    rw [fl_D_unsigned_13, if_pos (by decide +kernel), if_pos rfl]
    simp only [Nat.pow_zero, Nat.mul_one, Nat.mod_one, Nat.add_zero]
    rw [Nat.div_eq_of_lt hR, Nat.add_zero, Nat.min_eq_left (by omega)]
  | succ n ih =>
    intro hn f hf R Q hR hQ
    obtain ⟨g, rfl⟩ : ∃ g, f = g + 1 := ⟨f - 1, by omega⟩
    obtain ⟨s1, s2, s3⟩ := sub1 (n := n) (by omega)
    have hp : 0 < 2 ^ n := Nat.two_pow_pos n
    have hc0 : lg_cmp (lN Q) (2305843009213693952 : Int64) < (0 : Int32) ↔ Q < 2305843009213693952 := by
      rw [lg_cmp_lt]
      exact qlN_lt (b := 2305843009213693952) (by omega) (by omega)
    by_cases big : Q < 2305843009213693952
    · rw [fl_D_unsigned_13, if_neg s1, s2, s3]
      dsimp only
      generalize hb : N / 2 ^ n % 2 = b
      have hb2 : b < 2 := by omega
      have hs := split_bit N n
      rw [sh_bitL hN (by omega), hb, lN_mul2, lN_mul2, lN_or2 (by omega) hb2, if_pos (hc0.mpr big), show (0 : Int32) ||| (0 : Int32) = 0 from by decide, show (1 : Int64) = lN 1 from rfl, qlN_add]
      have hc : lg_cmp (lN (2 * R + b)) (lN D) < (0 : Int32) ↔ 2 * R + b < D := by
        rw [lg_cmp_lt]
        exact qlN_lt (by omega) (by omega)
      rw [hb] at hs
      by_cases c : 2 * R + b < D
      · simp only [if_pos (hc.mpr c)]
        rw [ih (by omega) g (by omega) (2 * R + b) (2 * Q) c (by omega)]
        congr 2
        rw [hs, Nat.pow_succ]
        have x1 : 2 * Q * 2 ^ n = Q * (2 ^ n * 2) := by rw [Nat.mul_comm 2 Q, Nat.mul_assoc, Nat.mul_comm 2]
        have x2 : (2 * R + b) * 2 ^ n + N % 2 ^ n = R * (2 ^ n * 2) + (b * 2 ^ n + N % 2 ^ n) := by
          rw [Nat.add_mul, Nat.mul_comm 2 R, Nat.mul_assoc, Nat.mul_comm 2 (2 ^ n)]; omega
        rw [x1, x2]
      · simp only [if_neg (fun z => c (hc.mp z))]
        have e1 : lN (2 * R + b) - lN D = lN (2 * R + b - D) := by
          unfold lN
          rw [Int64.ofNat_sub _ _ (by omega)]
        rw [e1, ih (by omega) g (by omega) (2 * R + b - D) (2 * Q + 1) (by omega) (by omega)]
        congr 2
        rw [hs, Nat.pow_succ]
        have y : (R * (2 ^ n * 2) + (b * 2 ^ n + N % 2 ^ n)) / D = 1 * 2 ^ n + ((2 * R + b - D) * 2 ^ n + N % 2 ^ n) / D := by
          rw [← dstep (2 * R + b - D) 1 D (2 ^ n) (N % 2 ^ n) hD0]
          congr 1
          rw [show 2 * R + b - D + 1 * D = 2 * R + b by omega, Nat.add_mul, Nat.mul_comm 2 R, Nat.mul_assoc, Nat.mul_comm 2 (2 ^ n)]; omega
        have x1 : (2 * Q + 1) * 2 ^ n = Q * (2 ^ n * 2) + 2 ^ n := by rw [Nat.add_mul, Nat.mul_comm 2 Q, Nat.mul_assoc, Nat.mul_comm 2, Nat.one_mul]
        rw [x1, y, Nat.one_mul]
        omega
    · rw [fl_D_unsigned_13, if_neg s1, s2, s3]
      dsimp only
      rw [if_neg (fun z => big (hc0.mp z)), show (0 : Int32) ||| (1 : Int32) = 1 from by decide, ularge n (by omega) g (by omega)]
      have t : 4611686018427387904 ≤ Q * 2 ^ (n + 1) := by
        have e : Q * 2 ^ (n + 1) = Q * 2 ^ n * 2 := by rw [Nat.pow_succ, Nat.mul_assoc]
        have := Nat.le_mul_of_pos_right Q hp
        omega
      rw [Nat.min_eq_right (Nat.le_trans t (Nat.le_add_right _ _))]
      rfl
theorem m_unsigned_eq {N D : Nat} (hN : N < 2 ^ 64) (hD0 : 0 < D) (hD : D < 2 ^ 32) : m_unsigned (lN N) (lN D) = lN (min (N / D) (4611686018427387904)) := by
  have h := uloop hN hD0 hD 64 (by omega) 65 (by omega) 0 0 hD0 (by omega)
  rw [Nat.mod_eq_of_lt hN, Nat.zero_mul, Nat.zero_add, Nat.zero_add] at h
  exact h
theorem f_q_eq {H L D : Nat} (hH : H < 2 ^ 32) (hL : L < 2 ^ 32) (hD0 : 0 < D) (hD : D < 2 ^ 32) : f_quotientWithoutSign (lN H) (nI L) (lN D) = (if H < D then lN ((H * 2 ^ 32 + L) / D) else (4294967296 : Int64)) := by
  unfold f_quotientWithoutSign
  have hc : lg_cmp (lN H) (lN D) < (0 : Int32) ↔ H < D := by
    rw [lg_cmp_lt]
    exact qlN_lt (by omega) (by omega)
  by_cases c : H < D
  · rw [if_pos (hc.mpr c), if_pos c]
    have h := qloop (H := lN H) hL hD0 hD 32 (by omega) 33 (by omega) H 0 c (by omega)
    rw [Nat.mod_eq_of_lt hL, Nat.zero_mul, Nat.zero_add] at h
    exact h
  · rw [if_neg (fun z => c (hc.mp z)), if_neg c]
theorem bare_N (x : Int32) : x.toInt64 &&& (4294967295 : Int64) = lN x.toBitVec.toNat := by
  apply Int64.toBitVec_inj.mp
  apply BitVec.eq_of_toNat_eq
  rw [Int64.toBitVec_and, Int32.toBitVec_toInt64]
  show (x.toBitVec.signExtend 64 &&& 4294967295#64).toNat = (BitVec.ofNat 64 x.toBitVec.toNat).toNat
  rw [BitVec.toNat_and, show (4294967295#64).toNat = 2 ^ 32 - 1 from by decide, Nat.and_two_pow_sub_one_eq_mod, BitVec.toNat_ofNat]
  have hx := x.toBitVec.isLt
  rw [BitVec.toNat_signExtend, BitVec.toNat_setWidth]
  split <;> omega
theorem all_N (y a : Int32) : (zlshl y.toInt64 (32 : Int32)) ||| (a.toInt64 &&& (4294967295 : Int64)) = lN (y.toBitVec.toNat * 2 ^ 32 + a.toBitVec.toNat) := by
  have ha := a.toBitVec.isLt
  have hy := y.toBitVec.isLt
  obtain ⟨n, hn, en⟩ := wb_of y.toInt64
  have e1 : n % 2 ^ 32 = y.toBitVec.toNat := by
    have h := bare_N y
    rw [en, show (4294967295 : Int64) = lN (2 ^ 32 - 1) from rfl, wb_mask hn (by omega)] at h
    have h2 : (lN (n % 2 ^ 32)).toBitVec.toNat = (lN y.toBitVec.toNat).toBitVec.toNat := by rw [h]
    rw [wb_tn (by omega), wb_tn (by omega)] at h2
    exact h2
  have e2 : zlshl y.toInt64 (32 : Int32) = lN (y.toBitVec.toNat * 2 ^ 32) := by
    rw [en]
    have e : zlshl (lN n) (32 : Int32) = lN (n * 2 ^ 32) := wb_shl n (k := 32) (by omega)
    rw [e, wb_mod, ← e1]
    congr 1
    omega
  rw [e2, bare_N, wb_or (by omega) (by omega)]
  congr 1
  rw [← Nat.shiftLeft_eq, Nat.shiftLeft_add_eq_or_of_lt ha]
theorem bN_ne {b : Int32} (h : ¬ b = (0 : Int32)) : 0 < b.toBitVec.toNat := by
  rcases Nat.eq_zero_or_pos b.toBitVec.toNat with e | e
  · exact absurd (Int32.toBitVec_inj.mp (BitVec.eq_of_toNat_eq (by rw [e]; rfl))) h
  · exact e
theorem in_eq (v lo hi : Int64) : m_in v lo hi = (if lo ≤ v ∧ v ≤ hi then (1 : Int32) else (0 : Int32)) := by
  unfold m_in
  dsimp only
  by_cases a : lo ≤ v
  · rw [if_neg (by rw [lg_cmp_lt]; exact lg_le_not_lt a)]
    by_cases b : v ≤ hi
    · rw [if_neg (by rw [lg_cmp_gt]; exact lg_le_not_lt b), if_pos ⟨a, b⟩]
    · rw [if_pos (by rw [lg_cmp_gt]; exact Int64.not_le.mp b), if_neg (fun z => b z.2)]
  · rw [if_pos (by rw [lg_cmp_lt]; exact Int64.not_le.mp a), if_neg (fun z => a z.1)]
def qnear (q lo hi : Int64) : Int64 := if (if q < hi then q else hi) < lo then lo else if q < hi then q else hi
theorem tq0 (x : Nat → Int32) (q lo hi : Int64) : f_takeQuotient x q lo hi 0 = (qnear q lo hi).toInt32 := rfl
theorem tq2 (x : Nat → Int32) (q lo hi : Int64) : f_takeQuotient x q lo hi 2 = (if lg_cmp (qnear q lo hi) q = (0 : Int32) then (0 : Int32) else (1 : Int32)) := rfl
theorem tq3 (x : Nat → Int32) (q lo hi : Int64) : f_takeQuotient x q lo hi 3 = (0 : Int32) := rfl
theorem near_in {q lo hi : Int64} (h1 : lo ≤ q) (h2 : q ≤ hi) : qnear q lo hi = q := by
  unfold qnear
  have e : (if q < hi then q else hi) = q := by
    by_cases k : q < hi
    · rw [if_pos k]
    · rw [if_neg k]
      exact Int64.le_antisymm (Int64.not_lt.mp k) h2
  rw [e, if_neg (Int64.not_lt.mpr h1)]
theorem near_hi {q lo hi : Int64} (h : hi < q) (hl : lo ≤ hi) : qnear q lo hi = hi := by
  unfold qnear
  rw [if_neg (Int64.not_lt.mpr (Int64.le_of_lt h)), if_neg (Int64.not_lt.mpr hl)]
theorem near_lo {q lo hi : Int64} (h : q < lo) (hl : lo ≤ hi) : qnear q lo hi = lo := by
  unfold qnear
  rw [if_pos (Int64.lt_of_lt_of_le h hl), if_pos h]
theorem cmp_same (q : Int64) : (if lg_cmp q q = (0 : Int32) then (0 : Int32) else (1 : Int32)) = (0 : Int32) := if_pos ((lg_cmp_eq _ _).mpr rfl)
theorem cmp_diff {q r : Int64} (h : ¬ q = r) : (if lg_cmp q r = (0 : Int32) then (0 : Int32) else (1 : Int32)) = (1 : Int32) := if_neg (fun z => h ((lg_cmp_eq _ _).mp z))
/-- the class's quotient as the reference has it -/
theorem uq_eq (y a b : Int32) (hb : ¬ b = (0 : Int32)) : ∃ T U : Nat, m_unsigned ((zlshl y.toInt64 (32 : Int32)) ||| m_bare a) (m_bare b) = lN (min T 4611686018427387904) ∧ f_quotientWithoutSign (y.toInt64 &&& (4294967295 : Int64)) a (b.toInt64 &&& (4294967295 : Int64)) = lN U ∧ (U = T ∧ T ≤ 4294967295 ∨ U = 4294967296 ∧ 4294967296 ≤ T) := by
  have hb0 := bN_ne hb
  have hb1 := b.toBitVec.isLt
  have ha1 := a.toBitVec.isLt
  have hy1 := y.toBitVec.isLt
  obtain ⟨A, hA, eA⟩ := i32_nat a
  have eA2 : a.toBitVec.toNat = A := by rw [eA]; exact pk_tn hA
  have hq : f_quotientWithoutSign (y.toInt64 &&& (4294967295 : Int64)) a (b.toInt64 &&& (4294967295 : Int64)) = (if y.toBitVec.toNat < b.toBitVec.toNat then lN ((y.toBitVec.toNat * 2 ^ 32 + A) / b.toBitVec.toNat) else (4294967296 : Int64)) := by
    rw [bare_N, bare_N, eA]
    exact f_q_eq hy1 hA hb0 hb1
  unfold m_bare
  rw [hq, all_N, bare_N b, m_unsigned_eq (by omega) hb0 hb1, eA2]
  clear hq eA2 eA
  generalize b.toBitVec.toNat = D at *
  generalize y.toBitVec.toNat = H at *
  by_cases c : H < D
  · rw [if_pos c]
    refine ⟨_, _, rfl, rfl, Or.inl ⟨rfl, ?_⟩⟩
    apply Nat.le_of_lt_succ
    rw [Nat.div_lt_iff_lt_mul hb0]
    have : (H + 1) * 2 ^ 32 ≤ D * 2 ^ 32 := Nat.mul_le_mul_right _ c
    omega
  · rw [if_neg c]
    refine ⟨_, 4294967296, rfl, rfl, Or.inr ⟨rfl, ?_⟩⟩
    rw [Nat.le_div_iff_mul_le hb0, Nat.mul_comm]
    exact Nat.le_trans (Nat.mul_le_mul_right _ (Nat.le_of_not_lt c)) (Nat.le_add_right _ _)
theorem min_le_iff (T : Nat) : lN (min T 4611686018427387904) ≤ (4294967295 : Int64) ↔ T ≤ 4294967295 := by
  have h := qlN_le (a := min T 4611686018427387904) (b := 4294967295) (by omega) (by omega)
  constructor
  · intro z
    have := h.mp z
    omega
  · intro z
    exact h.mpr (by omega)
theorem min_ge (T : Nat) : (0 : Int64) ≤ lN (min T 4611686018427387904) := (qlN_le (a := 0) (by omega) (by omega)).mpr (by omega)
/-- without sign: the class's nearest and overflow are the reference's -/
theorem udiv_eq (x : Nat → Int32) (y a b : Int32) (hb : ¬ b = (0 : Int32)) {Q q : Int64} (hQ : m_unsigned ((zlshl y.toInt64 (32 : Int32)) ||| m_bare a) (m_bare b) = Q) (hq : f_quotientWithoutSign (y.toInt64 &&& (4294967295 : Int64)) a (b.toInt64 &&& (4294967295 : Int64)) = q) {o : Int32} (ho : (if m_in Q (0 : Int64) (4294967295 : Int64) = (0 : Int32) then (1 : Int32) else (0 : Int32)) = o) :
    (if o = (0 : Int32) then Q else (4294967295 : Int64)).toInt32 = (f_takeQuotient x q (0 : Int64) (4294967295 : Int64)) 0 ∧ (f_takeQuotient x q (0 : Int64) (4294967295 : Int64)) 2 = o ∧ (f_takeQuotient x q (0 : Int64) (4294967295 : Int64)) 3 = (0 : Int32) := by
  obtain ⟨T, U, e1, e2, e3⟩ := uq_eq y a b hb
  rw [tq0, tq2, tq3]
  rw [e1] at hQ
  rw [e2] at hq
  rcases e3 with ⟨rfl, t⟩ | ⟨rfl, t⟩
  · rw [Nat.min_eq_left (by omega)] at hQ
    have h1 : (0 : Int64) ≤ Q ∧ Q ≤ (4294967295 : Int64) := by
      rw [← hQ]
      exact ⟨(qlN_le (a := 0) (by omega) (by omega)).mpr (by omega), (qlN_le (b := 4294967295) (by omega) (by omega)).mpr (by omega)⟩
    rw [in_eq, if_pos h1, if_neg (by decide)] at ho
    rw [← ho, if_pos rfl, ← hq, hQ, near_in h1.1 h1.2, cmp_same]
    exact ⟨rfl, rfl, rfl⟩
  · have h1 : ¬ ((0 : Int64) ≤ Q ∧ Q ≤ (4294967295 : Int64)) := by
      intro z
      rw [← hQ] at z
      have := (min_le_iff T).mp z.2
      omega
    rw [in_eq, if_neg h1, if_pos rfl] at ho
    rw [← ho, if_neg (by decide), ← hq]
    have hi : (4294967295 : Int64) < lN 4294967296 := (qlN_lt (a := 4294967295) (by omega) (by omega)).mpr (by omega)
    rw [near_hi hi (by decide), cmp_diff (fun z => by rw [← z] at hi; exact absurd hi (by decide))]
    exact ⟨rfl, rfl, rfl⟩
/-- with sign -/
theorem sdiv_eq (x : Nat → Int32) (y a b : Int32) (hb : ¬ b = (0 : Int32)) {all q : Int64} (ha : (zlshl y.toInt64 (32 : Int32)) ||| m_bare a = all) (hq : f_quotientWithSign y a b = q) {mo ov : Int32}
    (hm : (if (lg_cmp all (-9223372036854775808 : Int64)) = (0 : Int32) then (if b = (-1 : Int32) then (1 : Int32) else (0 : Int32)) else (0 : Int32)) = mo)
    (ho : (if mo = (0 : Int32) then (if (m_in (all / b.toInt64) (-2147483648 : Int64) (2147483647 : Int64)) = (0 : Int32) then (1 : Int32) else (0 : Int32)) else (1 : Int32)) = ov) :
    (if ov = (0 : Int32) then all / b.toInt64 else (if mo = (0 : Int32) then (if (lg_cmp (all / b.toInt64) (0 : Int64)) ≤ (0 : Int32) then (-2147483648 : Int64) else (2147483647 : Int64)) else (2147483647 : Int64))).toInt32 = (f_takeQuotient x q (-2147483648 : Int64) (2147483647 : Int64)) 0 ∧ (f_takeQuotient x q (-2147483648 : Int64) (2147483647 : Int64)) 2 = ov ∧ (f_takeQuotient x q (-2147483648 : Int64) (2147483647 : Int64)) 3 = (0 : Int32) := by
  rw [tq0, tq2, tq3]
  unfold f_quotientWithSign at hq
  unfold m_bare at ha
  dsimp only at hq
  rw [if_neg hb, ha] at hq
  by_cases c1 : lg_cmp all (-9223372036854775808 : Int64) = (0 : Int32)
  · by_cases c2 : b = (-1 : Int32)
    · rw [if_pos c1, if_pos c2] at hm
      rw [← hm, if_neg (by decide)] at ho
      rw [if_pos c2, if_pos c1] at hq
      rw [← ho, ← hm, ← hq, if_neg (by decide), if_neg (by decide)]
      exact ⟨by decide, by decide, rfl⟩
    · rw [if_pos c1, if_neg c2] at hm
      rw [if_neg c2] at hq
      rw [← hm, if_pos rfl, hq] at ho
      rw [← hm, if_pos rfl, hq]
      by_cases k : (-2147483648 : Int64) ≤ q ∧ q ≤ (2147483647 : Int64)
      · rw [in_eq, if_pos k, if_neg (by decide)] at ho
        rw [← ho, if_pos rfl, near_in k.1 k.2, cmp_same]
        exact ⟨rfl, rfl, rfl⟩
      · rw [in_eq, if_neg k, if_pos rfl] at ho
        rw [← ho, if_neg (by decide)]
        by_cases k1 : (-2147483648 : Int64) ≤ q
        · have k2 : (2147483647 : Int64) < q := Int64.not_le.mp (fun z => k ⟨k1, z⟩)
          rw [near_hi k2 (by decide), if_neg (by rw [lg_cmp_le]; exact Int64.not_le.mpr (Int64.lt_of_lt_of_le (by decide) (Int64.le_of_lt k2))), cmp_diff (fun z => Int64.lt_irrefl (by rw [z] at k2; exact k2))]
          exact ⟨rfl, rfl, rfl⟩
        · have k2 : q < (-2147483648 : Int64) := Int64.not_le.mp k1
          rw [near_lo k2 (by decide), if_pos ((lg_cmp_le _ _).mpr (Int64.le_of_lt (Int64.lt_of_lt_of_le k2 (by decide)))), cmp_diff (fun z => Int64.lt_irrefl (by rw [← z] at k2; exact k2))]
          exact ⟨rfl, rfl, rfl⟩
  · have hq : all / b.toInt64 = q := by
      rw [if_neg c1] at hq
      by_cases c2 : b = (-1 : Int32)
      · rw [if_pos c2] at hq; exact hq
      · rw [if_neg c2] at hq; exact hq
    rw [if_neg c1] at hm
    rw [← hm, if_pos rfl, hq] at ho
    rw [← hm, if_pos rfl, hq]
    by_cases k : (-2147483648 : Int64) ≤ q ∧ q ≤ (2147483647 : Int64)
    · rw [in_eq, if_pos k, if_neg (by decide)] at ho
      rw [← ho, if_pos rfl, near_in k.1 k.2, cmp_same]
      exact ⟨rfl, rfl, rfl⟩
    · rw [in_eq, if_neg k, if_pos rfl] at ho
      rw [← ho, if_neg (by decide)]
      by_cases k1 : (-2147483648 : Int64) ≤ q
      · have k2 : (2147483647 : Int64) < q := Int64.not_le.mp (fun z => k ⟨k1, z⟩)
        rw [near_hi k2 (by decide), if_neg (by rw [lg_cmp_le]; exact Int64.not_le.mpr (Int64.lt_of_lt_of_le (by decide) (Int64.le_of_lt k2))), cmp_diff (fun z => Int64.lt_irrefl (by rw [z] at k2; exact k2))]
        exact ⟨rfl, rfl, rfl⟩
      · have k2 : q < (-2147483648 : Int64) := Int64.not_le.mp k1
        rw [near_lo k2 (by decide), if_pos ((lg_cmp_le _ _).mpr (Int64.le_of_lt (Int64.lt_of_lt_of_le k2 (by decide)))), cmp_diff (fun z => Int64.lt_irrefl (by rw [← z] at k2; exact k2))]
        exact ⟨rfl, rfl, rfl⟩
