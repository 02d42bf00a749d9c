theorem slen_eq {i : Nat} (hi : i < 18) : f_slen i = nI (lenS.getD i 0) := by
  show nI (lenS.getD i 0) >>> ((0 : Int32) &&& 31) = _
  exact sc_shr0 (lenS_lt hi)
theorem lenS_100 {i : Nat} (hi : i < 18) : lenS.getD i 0 < 200 := by
  have h : ∀ i : Fin 18, lenS.getD i 0 < 200 := by decide +kernel
  exact h ⟨i, hi⟩
theorem sub_toInt {a b : Int32} (h0 : 0 ≤ a.toInt) (h1 : a.toInt ≤ 1000) (h2 : 0 ≤ b.toInt) (h3 : b.toInt ≤ 1000) : (a - b).toInt = a.toInt - b.toInt := by
  rw [Int32.toInt_sub, Int.bmod_eq_of_le (by omega) (by omega)]
theorem addn_toInt {a : Int32} {k : Nat} (h0 : 0 ≤ a.toInt) (h1 : a.toInt ≤ 1000) (hk : k ≤ 1000) : (a + nI k).toInt = a.toInt + k := by
  rw [Int32.toInt_add, nI_toInt (by omega), Int.bmod_eq_of_le (by omega) (by omega)]
theorem ap_lt {p : Int32} {k : Nat} (hk : k ≤ 1000) (c : ¬ p ≤ nI k) : (k : Int) < p.toInt := by
  have q := nle_toInt c
  rw [nI_toInt (by omega)] at q
  exact q
theorem ap_in {u st : SA} {p : Int32} {k n : Nat} (h : 0 ≤ (st.1 0).toInt ∧ 0 ≤ p.toInt ∧ (st.1 0).toInt + p.toInt ≤ 40) (hI : k + (n + 1) = 42 ∧ (k : Int) ≤ p.toInt ∧ (u.1 0).toInt = (st.1 0).toInt + k) (c : ¬ p ≤ nI k) : vp_in (u.1 0) 40 := by
  have q := ap_lt (by omega) c
  exact vp_in_iff.mpr ⟨by omega, by omega⟩
theorem ap_back {u st : SA} {p : Int32} {k n : Nat} (h : 0 ≤ (st.1 0).toInt ∧ 0 ≤ p.toInt ∧ (st.1 0).toInt + p.toInt ≤ 40) (hI : k + (n + 1) = 42 ∧ (k : Int) ≤ p.toInt ∧ (u.1 0).toInt = (st.1 0).toInt + k) (c : ¬ p ≤ nI k) : k + 1 + n = 42 ∧ ((k + 1 : Nat) : Int) ≤ p.toInt ∧ ((u.1 0) + (1 : Int32)).toInt = (st.1 0).toInt + ((k + 1 : Nat) : Int) := by
  have q := ap_lt (by omega) c
  have e := inc_toInt (x := u.1 0) (by omega) (by omega)
  omega
/-- inside isSpelled -/
theorem sp_lt {st : SA} {f : Int32} {k : Nat} (ok : okA st) (hf : 0 ≤ f.toInt ∧ f.toInt ≤ 1) (hk : k ≤ 40) (c : ¬ ((st.1 1) - f) ≤ nI k) : (k : Int) < (st.1 1).toInt - f.toInt := by
  have q := ap_lt (by omega) c
  obtain ⟨h1, h2, h3⟩ := ok
  rw [sub_toInt (by omega) (by omega) (by omega) (by omega)] at q
  exact q
theorem sp_1 {st : SA} {i : Nat} {a b f : Int32} {k : Nat} (hi : i < 18) (ok : okA st) (hs : 0 ≤ a.toInt ∧ a.toInt ≤ b.toInt ∧ b.toInt ≤ (lenS.getD i 0 : Int)) (hf : 0 ≤ f.toInt ∧ f.toInt ≤ 1) (hk : k ≤ 40) (e : (b - a) = ((st.1 1) - f)) (c : ¬ ((st.1 1) - f) ≤ nI k) : vp_in (a + nI k) (lenS.getD i 0) := by
  have q := sp_lt ok hf hk c
  have hl := lenS_100 hi
  obtain ⟨h1, h2, h3⟩ := ok
  have e1 := congrArg Int32.toInt e
  rw [sub_toInt (by omega) (by omega) (by omega) (by omega), sub_toInt (by omega) (by omega) (by omega) (by omega)] at e1
  have e2 := addn_toInt (a := a) (k := k) (by omega) (by omega) (by omega)
  exact vp_in_iff.mpr ⟨by omega, by omega⟩
theorem sp_2 {st : SA} {f : Int32} {k : Nat} (ok : okA st) (hf : 0 ≤ f.toInt ∧ f.toInt ≤ 1) (hk : k ≤ 40) (c : ¬ ((st.1 1) - f) ≤ nI k) : vp_in (f + nI k) 40 := by
  have q := sp_lt ok hf hk c
  obtain ⟨h1, h2, h3⟩ := ok
  have e2 := addn_toInt (a := f) (k := k) (by omega) (by omega) (by omega)
  exact vp_in_iff.mpr ⟨by omega, by omega⟩
theorem sp_back {st : SA} {f : Int32} {k n : Nat} (ok : okA st) (hf : 0 ≤ f.toInt ∧ f.toInt ≤ 1) (hI : k + (n + 1) = 42 ∧ k ≤ 40) (c : ¬ ((st.1 1) - f) ≤ nI k) : k + 1 + n = 42 ∧ k + 1 ≤ 40 := by
  have q := sp_lt ok hf hI.2 c
  obtain ⟨h1, h2, h3⟩ := ok
  omega
/-- inside indexIn -/
theorem ix_le {i k : Nat} (hi : i < 18) (hk : k ≤ 1000) (c : ¬ (f_slen i) < nI k) : k ≤ lenS.getD i 0 := by
  rw [slen_eq hi] at c
  have hl := lenS_100 hi
  rcases Nat.lt_or_ge (lenS.getD i 0) k with q | q
  · exact absurd (nI_lt q (by omega)) c
  · exact q
theorem ix_lt {i k : Nat} (hi : i < 18) (hk : k ≤ 1000) (c : ¬ (f_slen i) < nI k) (d : ¬ nI k = f_slen i) : vp_in (nI k) (lenS.getD i 0) := by
  have q := ix_le hi hk c
  have hl := lenS_100 hi
  have n : k ≠ lenS.getD i 0 := fun e => d (by rw [slen_eq hi, e])
  exact vp_in_nI (by omega) (by omega)
theorem ix_hs {i k n : Nat} {x : Int32} (hi : i < 18) (hI : k + (n + 1) = lenS.getD i 0 + 2 ∧ k ≤ lenS.getD i 0 + 1 ∧ 0 ≤ x.toInt ∧ x.toInt ≤ (k : Int)) (c : ¬ (f_slen i) < nI k) : 0 ≤ x.toInt ∧ x.toInt ≤ (nI k).toInt ∧ (nI k).toInt ≤ (lenS.getD i 0 : Int) := by
  have hl := lenS_100 hi
  have q := ix_le hi (by omega) c
  rw [nI_toInt (by omega)]
  omega
theorem ix_b1 {i k n : Nat} {x : Int32} (hi : i < 18) (hI : k + (n + 1) = lenS.getD i 0 + 2 ∧ k ≤ lenS.getD i 0 + 1 ∧ 0 ≤ x.toInt ∧ x.toInt ≤ (k : Int)) (c : ¬ (f_slen i) < nI k) : k + 1 + n = lenS.getD i 0 + 2 ∧ k + 1 ≤ lenS.getD i 0 + 1 ∧ 0 ≤ x.toInt ∧ x.toInt ≤ ((k + 1 : Nat) : Int) := by
  have hl := lenS_100 hi
  have q := ix_le hi (by omega) c
  omega
theorem ix_b2 {i k n : Nat} {x : Int32} (hi : i < 18) (hI : k + (n + 1) = lenS.getD i 0 + 2 ∧ k ≤ lenS.getD i 0 + 1 ∧ 0 ≤ x.toInt ∧ x.toInt ≤ (k : Int)) (c : ¬ (f_slen i) < nI k) : k + 1 + n = lenS.getD i 0 + 2 ∧ k + 1 ≤ lenS.getD i 0 + 1 ∧ 0 ≤ (nI k + (1 : Int32)).toInt ∧ (nI k + (1 : Int32)).toInt ≤ ((k + 1 : Nat) : Int) := by
  have hl := lenS_100 hi
  have q := ix_le hi (by omega) c
  have e : (nI k + (1 : Int32)).toInt = (nI k).toInt + 1 := inc_toInt (by rw [nI_toInt (by omega)]; omega) (by rw [nI_toInt (by omega)]; omega)
  rw [nI_toInt (by omega)] at e
  omega
theorem tr_ok {st : SA} (h : 0 ≤ (st.1 0).toInt ∧ (st.1 0).toInt ≤ 40) : okA (upd (upd st.1 1 (0 : Int32)) 2 (-1 : Int32), st.2) := ⟨by show 0 ≤ (0 : Int32).toInt; decide, by show (0 : Int32).toInt ≤ (st.1 0).toInt; exact h.1, h.2⟩
theorem d_A_append_0 : decode c_A_append 0 = .ok (.iconst 0, 1) := by decide +kernel
theorem d_A_append_1 : decode c_A_append 1 = .ok (.istore 4, 2) := by decide +kernel
theorem d_A_append_3 : decode c_A_append 3 = .ok (.iload 4, 2) := by decide +kernel
theorem d_A_append_5 : decode c_A_append 5 = .ok (.iload_n 3, 1) := by decide +kernel
theorem d_A_append_6 : decode c_A_append 6 = .ok (.if_icmp .ge 35, 3) := by decide +kernel
theorem d_A_append_9 : decode c_A_append 9 = .ok (.aload_n 0, 1) := by decide +kernel
theorem d_A_append_10 : decode c_A_append 10 = .ok (.getfield 11, 3) := by decide +kernel
theorem d_A_append_13 : decode c_A_append 13 = .ok (.aload_n 0, 1) := by decide +kernel
theorem d_A_append_14 : decode c_A_append 14 = .ok (.getfield 23, 3) := by decide +kernel
theorem d_A_append_17 : decode c_A_append 17 = .ok (.lload_n 1, 1) := by decide +kernel
theorem d_A_append_18 : decode c_A_append 18 = .ok (.iload 4, 2) := by decide +kernel
theorem d_A_append_20 : decode c_A_append 20 = .ok (.invokestatic 19, 3) := by decide +kernel
theorem d_A_append_23 : decode c_A_append 23 = .ok (.i2c, 1) := by decide +kernel
theorem d_A_append_24 : decode c_A_append 24 = .ok (.castore, 1) := by decide +kernel
theorem d_A_append_25 : decode c_A_append 25 = .ok (.aload_n 0, 1) := by decide +kernel
theorem d_A_append_26 : decode c_A_append 26 = .ok (.dup, 1) := by decide +kernel
theorem d_A_append_27 : decode c_A_append 27 = .ok (.getfield 23, 3) := by decide +kernel
theorem d_A_append_30 : decode c_A_append 30 = .ok (.iconst 1, 1) := by decide +kernel
theorem d_A_append_31 : decode c_A_append 31 = .ok (.iadd, 1) := by decide +kernel
theorem d_A_append_32 : decode c_A_append 32 = .ok (.putfield 23, 3) := by decide +kernel
theorem d_A_append_35 : decode c_A_append 35 = .ok (.iinc 4 1, 3) := by decide +kernel
theorem d_A_append_38 : decode c_A_append 38 = .ok (.goto (-35), 3) := by decide +kernel
theorem d_A_append_41 : decode c_A_append 41 = .ok (.return_, 1) := by decide +kernel
theorem kd_A_append : (y_A_append).cls = "WindowMachine$Assembler" ∧ (y_A_append).cls ≠ "java/lang/invoke/MethodHandle" ∧ (y_A_append).cls ≠ "java/lang/invoke/VarHandle" ∧ (parseMethodDescriptor (y_A_append).desc).map (fun d => d.parameters.length) = some 2 := by decide +kernel
def fl_A_append_3 (st : SA) (p0 : Int64) (p1 : Int32) : Nat → Nat → SA → SA
  | 0, _, u_2 => u_2
  | n9 + 1, i_1, u_2 => (if p1 ≤ (nI i_1) then u_2 else fl_A_append_3 st p0 p1 n9 (i_1 + 1) (upd u_2.1 0 ((u_2.1 0) + (1 : Int32)), upd u_2.2 (u_2.1 0).toNatClampNeg (vp_nar .char (zchar (f_octetOf p0 (nI i_1))))))
def f_append (st : SA) (p0 : Int64) (p1 : Int32) : SA := fl_A_append_3 st p0 p1 42 0 st
set_option maxHeartbeats 4000000 in
set_option maxRecDepth 100000 in
theorem mt_A_append (l : Launch) (D : va_G) (a b : Nat) (k : ClassId) (sz : Nat) (st : SA) (p0 : Int64) (p1 : Int32) (hc : 0 ≤ (st.1 0).toInt ∧ 0 ≤ p1.toInt ∧ (st.1 0).toInt + p1.toInt ≤ 40) : Met l y_A_append w_A_append ({ frames := 1, cells := 0, slots := 0, locals := 22 }) (va_Pc [.ref a, .long p0, .int p1] (zw_pre D vwCl [(k, .char)] sz (wA a b k st) (fun _ => True))) (va_Qv (fun (u : SA) => u = f_append st p0 p1) (fun u t => zw_at D vwCl (va_A (wA a b k st) sz) ((fun (u : SA) => wA a b k u) u) t) (va_A (wA a b k st) sz)) 0 0 (va_A (wA a b k st) sz) := by
  refine zm (Qf := fun A => va_Qv (fun (u : SA) => u = f_append st p0 p1) (fun u t => zw_at D vwCl A ((fun (u : SA) => wA a b k u) u) t) A) (Zf := fun _ _ => True) (cc := c_A_append) (nL := 5) (ret := none) (by decide) rfl (Nat.le_of_ble_eq_true rfl) ?_
  intro p e s m below meth c9 A H locs ls hx hb hml hown hts hr hlocks hA hK hP hD hS hZ hl
  have hl : lv_has ls 5 [(0, .ref a), (1, .long p0), (3, .int p1)] := hl
  have ht : ∀ w9 ∈ zT, w9.before _ s = true := fun w9 h9 => hts w9 (List.mem_cons_of_mem _ h9)
  refine lv_iconst (v := (0 : Int32)) hx hb d_A_append_0 (by decide) ?_
  refine lv_istore (lv' := [(4, .int (0 : Int32)), (0, .ref a), (1, .long p0), (3, .int p1)]) hx hb d_A_append_1 hl (by decide) rfl (fun ls hl => ?_)
  refine zloop (X := Nat × SA) (G := fun n9 v9 H locs ls => f_append st p0 p1 = fl_A_append_3 st p0 p1 n9 v9.1 v9.2 ∧ (v9.1 + n9 = 42 ∧ (v9.1 : Int) ≤ p1.toInt ∧ ((v9.2).1 0).toInt = (st.1 0).toInt + (v9.1 : Int)) ∧ va_P D vwCl (wA a b k v9.2) H ∧ va_D A (wA a b k v9.2) ∧ va_S A s.heap H locs ∧ lv_has ls 5 [(0, .ref a), (1, .long p0), (3, .int p1), (4, .int (nI v9.1))]) (fr := fun v9 ls => F0 m 3 ls []) (n := 42) (v := (0, st)) (fun n9 ih v9 H locs ls hG => ?_) (fun v9 H locs ls hG => ?_) ⟨(by simp only [f_append]), (by dsimp only; omega), hP, hD, hS, (lv_sub hl [1, 2, 3, 0] rfl)⟩
  · obtain ⟨i_1, u_2⟩ := v9
    obtain ⟨hF_3, hI, hP, hD, hS, hl⟩ := hG
    dsimp only at hF_3 hI hP hD hl
    refine lv_iload hx hb d_A_append_3 (lv_at hl 3 rfl) ?_
    refine lv_iload_n hx hb d_A_append_5 rfl (lv_at hl 2 rfl) ?_
    refine lv_icmp_ge (tgt := 41) hx hb d_A_append_6 (by decide) (fun c_4 => ?_) (fun c_4 => ?_)
    · exact zl_v (u := u_2) hx hb hr hlocks hS hP hD (by rw [hF_3]; simp only [fl_A_append_3, if_pos c_4]) d_A_append_41
    refine lv_aload_n hx hb d_A_append_9 rfl (lv_at hl 0 rfl) ?_
    refine va_get (D := D) (ci := 0) (v := .ref b) (C := "WindowMachine$Assembler") (T := T_A) (N := 5) hx hb ht zi_A hown hK hP 0 rfl rfl 0 (by decide) (ht _ zw_44) (fun _ h9 => h9) rfl d_A_append_10 ?_
    refine lv_aload_n hx hb d_A_append_13 rfl (lv_at hl 0 rfl) ?_
    refine va_get (D := D) (ci := 0) (v := .int (u_2.1 0)) (C := "WindowMachine$Assembler") (T := T_A) (N := 5) hx hb ht zi_A hown hK hP 0 rfl rfl 1 (by decide) (ht _ zw_46) (fun _ h9 => h9) rfl d_A_append_14 ?_
    refine lv_lload_n hx hb d_A_append_17 rfl (lv_at hl 1 rfl) ?_
    refine lv_iload hx hb d_A_append_18 (lv_at hl 3 rfl) ?_
    refine zc_i (w2 := fun _ => wA a b k u_2) (va_runS (As := [.long p0, .int (nI i_1)]) (rest := [.int (u_2.1 0), .ref b]) ⟨hx, hb, hml, hown, ht⟩ (mt_A_octetOf l D H.size p0 (nI i_1)) (cwS 2 ht (zgS zw_200 zw_201 zw_3 zw_202) rfl rfl rfl kd_A_octetOf ⟨Nat.le_of_ble_eq_true rfl, Nat.le_of_ble_eq_true rfl⟩) ⟨zw_blind zw_tt, zw_go (hP.sub (ws' := []) [] rfl) (hD.sub (ws' := []) [] (by decide) rfl) (hK.sub (tys' := []) [] rfl) (fun _ _ _ => trivial)⟩ rfl rfl hl.1 rfl (lv_room (Nat.le_of_ble_eq_true rfl)) d_A_append_20 ⟨Nat.le_of_ble_eq_true rfl, Nat.le_of_ble_eq_true rfl⟩) hP hD hS hA [] [0, 1] [0, 1] rfl rfl (by decide) (by decide) (by decide) (fun _ => rfl) (fun r_5 _ H locs hw hP hD hS => ?_)
    subst hw
    refine lv_i2c (v := zchar (f_octetOf p0 (nI i_1))) hx hb d_A_append_23 rfl ?_
    refine va_cast hx hb hK hP hD hS 1 0 rfl rfl (ap_in hc hI c_4) d_A_append_24 (fun H locs hP hD hS => ?_)
    have hP : va_P D vwCl (wA a b k (u_2.1, upd u_2.2 (u_2.1 0).toNatClampNeg (vp_nar .char (zchar (f_octetOf p0 (nI i_1)))))) H := hP
    have hD : va_D A (wA a b k (u_2.1, upd u_2.2 (u_2.1 0).toNatClampNeg (vp_nar .char (zchar (f_octetOf p0 (nI i_1)))))) := hD
    refine lv_aload_n hx hb d_A_append_25 rfl (lv_at hl 0 rfl) ?_
    refine lv_dup hx hb d_A_append_26 rfl ?_
    refine va_get (D := D) (ci := 0) (v := .int (u_2.1 0)) (C := "WindowMachine$Assembler") (T := T_A) (N := 5) hx hb ht zi_A hown hK hP 0 rfl rfl 1 (by decide) (ht _ zw_46) (fun _ h9 => h9) rfl d_A_append_27 ?_
    refine lv_iconst (v := (1 : Int32)) hx hb d_A_append_30 (by decide) ?_
    refine lv_iadd hx hb d_A_append_31 ?_
    refine va_put (D := D) (ci := 0) (v := .int ((u_2.1 0) + (1 : Int32))) (ty := .int) (C := "WindowMachine$Assembler") (T := T_A) (N := 5) hx hb ht zi_A ty_A tyok_A nm_A hown hK hP hD hS 0 rfl rfl 1 (by decide) (ht _ zw_46) (fun _ h9 => h9) rfl (by decide +kernel) rfl rfl (Nat.le_of_ble_eq_true rfl) d_A_append_32 (fun H locs hP hD hS => ?_)
    have hP : va_P D vwCl (wA a b k (upd u_2.1 0 ((u_2.1 0) + (1 : Int32)), upd u_2.2 (u_2.1 0).toNatClampNeg (vp_nar .char (zchar (f_octetOf p0 (nI i_1)))))) H := hP
    have hD : va_D A (wA a b k (upd u_2.1 0 ((u_2.1 0) + (1 : Int32)), upd u_2.2 (u_2.1 0).toNatClampNeg (vp_nar .char (zchar (f_octetOf p0 (nI i_1)))))) := hD
    refine lv_iinc (v := (nI i_1) + (1 : Int32)) (lv' := [(4, .int ((nI i_1) + (1 : Int32))), (0, .ref a), (1, .long p0), (3, .int p1)]) hx hb d_A_append_35 hl (k := 3) rfl rfl (by decide) rfl (fun ls hl => ?_)
    refine lv_goto (tgt := 3) hx hb d_A_append_38 (by decide) ?_
    have hl : lv_has ls 5 [(0, .ref a), (1, .long p0), (3, .int p1), (4, .int (nI (i_1 + 1)))] := by rw [← nI_1 i_1]; exact (lv_sub hl [1, 2, 3, 0] rfl)
    exact ih (i_1 + 1, (upd u_2.1 0 ((u_2.1 0) + (1 : Int32)), upd u_2.2 (u_2.1 0).toNatClampNeg (vp_nar .char (zchar (f_octetOf p0 (nI i_1)))))) _ _ _ ⟨by rw [hF_3]; simp only [fl_A_append_3, if_neg c_4], (ap_back hc hI c_4), hP, hD, hS, hl⟩
  · obtain ⟨i_1, u_2⟩ := v9
    obtain ⟨-, hI, -⟩ := hG
    dsimp only at hI
    exact (by omega)
theorem d_A_isSpelled_0 : decode c_A_isSpelled 0 = .ok (.iload_n 3, 1) := by decide +kernel
theorem d_A_isSpelled_1 : decode c_A_isSpelled 1 = .ok (.iload_n 2, 1) := by decide +kernel
theorem d_A_isSpelled_2 : decode c_A_isSpelled 2 = .ok (.isub, 1) := by decide +kernel
theorem d_A_isSpelled_3 : decode c_A_isSpelled 3 = .ok (.aload_n 0, 1) := by decide +kernel
theorem d_A_isSpelled_4 : decode c_A_isSpelled 4 = .ok (.getfield 26, 3) := by decide +kernel
theorem d_A_isSpelled_7 : decode c_A_isSpelled 7 = .ok (.iload 4, 2) := by decide +kernel
theorem d_A_isSpelled_9 : decode c_A_isSpelled 9 = .ok (.isub, 1) := by decide +kernel
theorem d_A_isSpelled_10 : decode c_A_isSpelled 10 = .ok (.if_icmp .eq 5, 3) := by decide +kernel
theorem d_A_isSpelled_13 : decode c_A_isSpelled 13 = .ok (.iconst 0, 1) := by decide +kernel
theorem d_A_isSpelled_14 : decode c_A_isSpelled 14 = .ok (.ireturn, 1) := by decide +kernel
theorem d_A_isSpelled_15 : decode c_A_isSpelled 15 = .ok (.iconst 0, 1) := by decide +kernel
theorem d_A_isSpelled_16 : decode c_A_isSpelled 16 = .ok (.istore 5, 2) := by decide +kernel
theorem d_A_isSpelled_18 : decode c_A_isSpelled 18 = .ok (.iload 5, 2) := by decide +kernel
theorem d_A_isSpelled_20 : decode c_A_isSpelled 20 = .ok (.aload_n 0, 1) := by decide +kernel
theorem d_A_isSpelled_21 : decode c_A_isSpelled 21 = .ok (.getfield 26, 3) := by decide +kernel
theorem d_A_isSpelled_24 : decode c_A_isSpelled 24 = .ok (.iload 4, 2) := by decide +kernel
theorem d_A_isSpelled_26 : decode c_A_isSpelled 26 = .ok (.isub, 1) := by decide +kernel
theorem d_A_isSpelled_27 : decode c_A_isSpelled 27 = .ok (.if_icmp .ge 32, 3) := by decide +kernel
theorem d_A_isSpelled_30 : decode c_A_isSpelled 30 = .ok (.aload_n 1, 1) := by decide +kernel
theorem d_A_isSpelled_31 : decode c_A_isSpelled 31 = .ok (.iload_n 2, 1) := by decide +kernel
theorem d_A_isSpelled_32 : decode c_A_isSpelled 32 = .ok (.iload 5, 2) := by decide +kernel
theorem d_A_isSpelled_34 : decode c_A_isSpelled 34 = .ok (.iadd, 1) := by decide +kernel
theorem d_A_isSpelled_35 : decode c_A_isSpelled 35 = .ok (.invokevirtual 94, 3) := by decide +kernel
theorem d_A_isSpelled_38 : decode c_A_isSpelled 38 = .ok (.aload_n 0, 1) := by decide +kernel
theorem d_A_isSpelled_39 : decode c_A_isSpelled 39 = .ok (.getfield 11, 3) := by decide +kernel
theorem d_A_isSpelled_42 : decode c_A_isSpelled 42 = .ok (.iload 4, 2) := by decide +kernel
theorem d_A_isSpelled_44 : decode c_A_isSpelled 44 = .ok (.iload 5, 2) := by decide +kernel
theorem d_A_isSpelled_46 : decode c_A_isSpelled 46 = .ok (.iadd, 1) := by decide +kernel
theorem d_A_isSpelled_47 : decode c_A_isSpelled 47 = .ok (.caload, 1) := by decide +kernel
theorem d_A_isSpelled_48 : decode c_A_isSpelled 48 = .ok (.if_icmp .eq 5, 3) := by decide +kernel
theorem d_A_isSpelled_51 : decode c_A_isSpelled 51 = .ok (.iconst 0, 1) := by decide +kernel
theorem d_A_isSpelled_52 : decode c_A_isSpelled 52 = .ok (.ireturn, 1) := by decide +kernel
theorem d_A_isSpelled_53 : decode c_A_isSpelled 53 = .ok (.iinc 5 1, 3) := by decide +kernel
theorem d_A_isSpelled_56 : decode c_A_isSpelled 56 = .ok (.goto (-38), 3) := by decide +kernel
theorem d_A_isSpelled_59 : decode c_A_isSpelled 59 = .ok (.iconst 1, 1) := by decide +kernel
theorem d_A_isSpelled_60 : decode c_A_isSpelled 60 = .ok (.ireturn, 1) := by decide +kernel
theorem kd_A_isSpelled : (y_A_isSpelled).cls = "WindowMachine$Assembler" ∧ (y_A_isSpelled).cls ≠ "java/lang/invoke/MethodHandle" ∧ (y_A_isSpelled).cls ≠ "java/lang/invoke/VarHandle" ∧ (parseMethodDescriptor (y_A_isSpelled).desc).map (fun d => d.parameters.length) = some 4 := by decide +kernel
def fl_A_isSpelled_18 (st : SA) (i : Nat) (p1 : Int32) (p2 : Int32) (p3 : Int32) : Nat → Nat → Int32
  | 0, _ => 0
  | n9 + 1, i_2 => (if ((st.1 1) - p3) ≤ (nI i_2) then (1 : Int32) else (let r_5 := f_schar i (p1 + (nI i_2)); (if r_5 = (st.2 (p3 + (nI i_2)).toNatClampNeg) then fl_A_isSpelled_18 st i p1 p2 p3 n9 (i_2 + 1) else (0 : Int32))))
def f_isSpelled (st : SA) (i : Nat) (p1 : Int32) (p2 : Int32) (p3 : Int32) : Int32 := (if (p2 - p1) = ((st.1 1) - p3) then fl_A_isSpelled_18 st i p1 p2 p3 42 0 else (0 : Int32))
set_option maxHeartbeats 4000000 in
set_option maxRecDepth 100000 in
theorem mt_A_isSpelled (l : Launch) (D : va_G) (za zk zv : Nat → Nat) (a b : Nat) (k : ClassId) (sz : Nat) (st : SA) (i : Nat) (hi : i < 18) (p1 : Int32) (p2 : Int32) (p3 : Int32) (hA9 : okA st) (hs : 0 ≤ p1.toInt ∧ p1.toInt ≤ p2.toInt ∧ p2.toInt ≤ (lenS.getD i 0 : Int)) (hf : 0 ≤ p3.toInt ∧ p3.toInt ≤ 1) : Met l y_A_isSpelled w_A_isSpelled ({ frames := 4, cells := 0, slots := 0, locals := 85 }) (va_Pc [.ref a, .ref (zk i), .int p1, .int p2, .int p3] (zw_pre D vwCl [(k, .char)] sz (wA a b k st) (zz za zk zv (va_A (wA a b k st) sz)))) (va_Qi (fun r (_ : Unit) => r = f_isSpelled st i p1 p2 p3) (fun u t => zw_at D vwCl (va_A (wA a b k st) sz) ((fun (_ : Unit) => wA a b k st) u) t) (va_A (wA a b k st) sz)) 0 0 (va_A (wA a b k st) sz) := by
  refine zm (Qf := fun A => va_Qi (fun r (_ : Unit) => r = f_isSpelled st i p1 p2 p3) (fun u t => zw_at D vwCl A ((fun (_ : Unit) => wA a b k st) u) t) A) (Zf := fun A => zz za zk zv A) (cc := c_A_isSpelled) (nL := 6) (ret := (some .boolean)) (by decide) rfl (Nat.le_of_ble_eq_true rfl) ?_
  intro p e s m below meth c9 A H locs ls hx hb hml hown hts hr hlocks hA hK hP hD hS hZ hl
  have hl : lv_has ls 6 [(0, .ref a), (1, .ref (zk i)), (2, .int p1), (3, .int p2), (4, .int p3)] := hl
  have ht : ∀ w9 ∈ zT, w9.before _ s = true := fun w9 h9 => hts w9 (List.mem_cons_of_mem _ h9)
  refine lv_iload_n hx hb d_A_isSpelled_0 rfl (lv_at hl 3 rfl) ?_
  refine lv_iload_n hx hb d_A_isSpelled_1 rfl (lv_at hl 2 rfl) ?_
  refine lv_isub hx hb d_A_isSpelled_2 ?_
  refine lv_aload_n hx hb d_A_isSpelled_3 rfl (lv_at hl 0 rfl) ?_
  refine va_get (D := D) (ci := 0) (v := .int (st.1 1)) (C := "WindowMachine$Assembler") (T := T_A) (N := 5) hx hb ht zi_A hown hK hP 0 rfl rfl 2 (by decide) (ht _ zw_47) (fun _ h9 => h9) rfl d_A_isSpelled_4 ?_
  refine lv_iload hx hb d_A_isSpelled_7 (lv_at hl 4 rfl) ?_
  refine lv_isub hx hb d_A_isSpelled_9 ?_
  refine lv_icmp_eq (tgt := 15) hx hb d_A_isSpelled_10 (by decide) (fun c_1 => ?_) (fun c_1 => ?_)
  · refine lv_iconst (v := (0 : Int32)) hx hb d_A_isSpelled_15 (by decide) ?_
    refine lv_istore (lv' := [(5, .int (0 : Int32)), (0, .ref a), (1, .ref (zk i)), (2, .int p1), (3, .int p2), (4, .int p3)]) hx hb d_A_isSpelled_16 hl (by decide) rfl (fun ls hl => ?_)
    refine zloop (X := Nat) (G := fun n9 v9 H locs ls => f_isSpelled st i p1 p2 p3 = fl_A_isSpelled_18 st i p1 p2 p3 n9 v9 ∧ (v9 + n9 = 42 ∧ v9 ≤ 40) ∧ va_P D vwCl (wA a b k st) H ∧ va_D A (wA a b k st) ∧ va_S A s.heap H locs ∧ lv_has ls 6 [(0, .ref a), (1, .ref (zk i)), (2, .int p1), (3, .int p2), (4, .int p3), (5, .int (nI v9))]) (fr := fun v9 ls => F0 m 18 ls []) (n := 42) (v := 0) (fun n9 ih v9 H locs ls hG => ?_) (fun v9 H locs ls hG => ?_) ⟨(by simp only [f_isSpelled, if_pos c_1]), (by decide), hP, hD, hS, (lv_sub hl [1, 2, 3, 4, 5, 0] rfl)⟩
    · obtain ⟨i_2, rfl⟩ : ∃ z, z = v9 := ⟨_, rfl⟩
      obtain ⟨hF_3, hI, hP, hD, hS, hl⟩ := hG
      refine lv_iload hx hb d_A_isSpelled_18 (lv_at hl 5 rfl) ?_
      refine lv_aload_n hx hb d_A_isSpelled_20 rfl (lv_at hl 0 rfl) ?_
      refine va_get (D := D) (ci := 0) (v := .int (st.1 1)) (C := "WindowMachine$Assembler") (T := T_A) (N := 5) hx hb ht zi_A hown hK hP 0 rfl rfl 2 (by decide) (ht _ zw_47) (fun _ h9 => h9) rfl d_A_isSpelled_21 ?_
      refine lv_iload hx hb d_A_isSpelled_24 (lv_at hl 4 rfl) ?_
      refine lv_isub hx hb d_A_isSpelled_26 ?_
      refine lv_icmp_ge (tgt := 59) hx hb d_A_isSpelled_27 (by decide) (fun c_4 => ?_) (fun c_4 => ?_)
      · refine lv_iconst (v := (1 : Int32)) hx hb d_A_isSpelled_59 (by decide) ?_
        exact zl_z (u := ()) hx hb hr rfl hlocks hS hP hD (by rw [hF_3]; simp only [fl_A_isSpelled_18, if_pos c_4]) d_A_isSpelled_60
      refine lv_aload_n hx hb d_A_isSpelled_30 rfl (lv_at hl 1 rfl) ?_
      refine lv_iload_n hx hb d_A_isSpelled_31 rfl (lv_at hl 2 rfl) ?_
      refine lv_iload hx hb d_A_isSpelled_32 (lv_at hl 5 rfl) ?_
      refine lv_iadd hx hb d_A_isSpelled_34 ?_
      refine zc_i (w2 := fun _ => wA a b k st) (va_runV (As := [.int (p1 + (nI i_2))]) (rest := []) ⟨hx, hb, hml, hown, ht⟩ (mt_S_charAt l D za zk zv H.size i hi (p1 + (nI i_2)) (sp_1 hi hA9 hs hf hI.2 c_1 c_4)) (cwV 1 ht (zgV zw_333 zw_334 zw_335 zw_13 zw_336) rfl rfl rfl kd_S_charAt ⟨Nat.le_of_ble_eq_true rfl, Nat.le_of_ble_eq_true rfl⟩) ⟨zw_blind zz_bl, vk_recv (zz_st hZ) hi hS, zw_go (hP.sub (ws' := []) [] rfl) (hD.sub (ws' := []) [] (by decide) rfl) (hK.sub (tys' := []) [] rfl) (fun U hU hW => zz_go hZ hS (va_free (wc := []) hD hS hA [] rfl) hU hW)⟩ rfl rfl hl.1 rfl (lv_room (Nat.le_of_ble_eq_true rfl)) d_A_isSpelled_35 ⟨Nat.le_of_ble_eq_true rfl, Nat.le_of_ble_eq_true rfl⟩) hP hD hS hA [] [0, 1] [0, 1] rfl rfl (by decide) (by decide) (by decide) (fun _ => rfl) (fun r_5 _ H locs hw hP hD hS => ?_)
      have er_5 := hw
      refine lv_aload_n hx hb d_A_isSpelled_38 rfl (lv_at hl 0 rfl) ?_
      refine va_get (D := D) (ci := 0) (v := .ref b) (C := "WindowMachine$Assembler") (T := T_A) (N := 5) hx hb ht zi_A hown hK hP 0 rfl rfl 0 (by decide) (ht _ zw_44) (fun _ h9 => h9) rfl d_A_isSpelled_39 ?_
      refine lv_iload hx hb d_A_isSpelled_42 (lv_at hl 4 rfl) ?_
      refine lv_iload hx hb d_A_isSpelled_44 (lv_at hl 5 rfl) ?_
      refine lv_iadd hx hb d_A_isSpelled_46 ?_
      refine va_cald hx hb hK hP 1 0 rfl rfl (sp_2 hA9 hf hI.2 c_4) d_A_isSpelled_47 ?_
      refine lv_icmp_eq (tgt := 53) hx hb d_A_isSpelled_48 (by decide) (fun c_6 => ?_) (fun c_6 => ?_)
      · refine lv_iinc (v := (nI i_2) + (1 : Int32)) (lv' := [(5, .int ((nI i_2) + (1 : Int32))), (0, .ref a), (1, .ref (zk i)), (2, .int p1), (3, .int p2), (4, .int p3)]) hx hb d_A_isSpelled_53 hl (k := 5) rfl rfl (by decide) rfl (fun ls hl => ?_)
        refine lv_goto (tgt := 18) hx hb d_A_isSpelled_56 (by decide) ?_
        have hl : lv_has ls 6 [(0, .ref a), (1, .ref (zk i)), (2, .int p1), (3, .int p2), (4, .int p3), (5, .int (nI (i_2 + 1)))] := by rw [← nI_1 i_2]; exact (lv_sub hl [1, 2, 3, 4, 5, 0] rfl)
        exact ih (i_2 + 1) _ _ _ ⟨by rw [hF_3]; simp only [fl_A_isSpelled_18, ← er_5, if_neg c_4, if_pos c_6], (sp_back hA9 hf hI c_4), hP, hD, hS, hl⟩
      refine lv_iconst (v := (0 : Int32)) hx hb d_A_isSpelled_51 (by decide) ?_
      exact zl_z (u := ()) hx hb hr rfl hlocks hS hP hD (by rw [hF_3]; simp only [fl_A_isSpelled_18, ← er_5, if_neg c_4, if_neg c_6]) d_A_isSpelled_52
    · obtain ⟨i_2, rfl⟩ : ∃ z, z = v9 := ⟨_, rfl⟩
      obtain ⟨-, hI, -⟩ := hG
      exact (by omega)
  refine lv_iconst (v := (0 : Int32)) hx hb d_A_isSpelled_13 (by decide) ?_
  exact zl_z (u := ()) hx hb hr rfl hlocks hS hP hD (by simp only [f_isSpelled, if_neg c_1]) d_A_isSpelled_14
theorem d_A_indexIn_0 : decode c_A_indexIn 0 = .ok (.iconst 0, 1) := by decide +kernel
theorem d_A_indexIn_1 : decode c_A_indexIn 1 = .ok (.istore_n 3, 1) := by decide +kernel
theorem d_A_indexIn_2 : decode c_A_indexIn 2 = .ok (.iconst 0, 1) := by decide +kernel
theorem d_A_indexIn_3 : decode c_A_indexIn 3 = .ok (.istore 4, 2) := by decide +kernel
theorem d_A_indexIn_5 : decode c_A_indexIn 5 = .ok (.iconst 0, 1) := by decide +kernel
theorem d_A_indexIn_6 : decode c_A_indexIn 6 = .ok (.istore 5, 2) := by decide +kernel
theorem d_A_indexIn_8 : decode c_A_indexIn 8 = .ok (.iload 5, 2) := by decide +kernel
theorem d_A_indexIn_10 : decode c_A_indexIn 10 = .ok (.aload_n 1, 1) := by decide +kernel
theorem d_A_indexIn_11 : decode c_A_indexIn 11 = .ok (.invokevirtual 90, 3) := by decide +kernel
theorem d_A_indexIn_14 : decode c_A_indexIn 14 = .ok (.if_icmp .gt 53, 3) := by decide +kernel
theorem d_A_indexIn_17 : decode c_A_indexIn 17 = .ok (.iload 5, 2) := by decide +kernel
theorem d_A_indexIn_19 : decode c_A_indexIn 19 = .ok (.aload_n 1, 1) := by decide +kernel
theorem d_A_indexIn_20 : decode c_A_indexIn 20 = .ok (.invokevirtual 90, 3) := by decide +kernel
theorem d_A_indexIn_23 : decode c_A_indexIn 23 = .ok (.if_icmp .eq 14, 3) := by decide +kernel
theorem d_A_indexIn_26 : decode c_A_indexIn 26 = .ok (.aload_n 1, 1) := by decide +kernel
theorem d_A_indexIn_27 : decode c_A_indexIn 27 = .ok (.iload 5, 2) := by decide +kernel
theorem d_A_indexIn_29 : decode c_A_indexIn 29 = .ok (.invokevirtual 94, 3) := by decide +kernel
theorem d_A_indexIn_32 : decode c_A_indexIn 32 = .ok (.bipush 32, 2) := by decide +kernel
theorem d_A_indexIn_34 : decode c_A_indexIn 34 = .ok (.if_icmp .ne 27, 3) := by decide +kernel
theorem d_A_indexIn_37 : decode c_A_indexIn 37 = .ok (.aload_n 0, 1) := by decide +kernel
theorem d_A_indexIn_38 : decode c_A_indexIn 38 = .ok (.aload_n 1, 1) := by decide +kernel
theorem d_A_indexIn_39 : decode c_A_indexIn 39 = .ok (.iload 4, 2) := by decide +kernel
theorem d_A_indexIn_41 : decode c_A_indexIn 41 = .ok (.iload 5, 2) := by decide +kernel
theorem d_A_indexIn_43 : decode c_A_indexIn 43 = .ok (.iload_n 2, 1) := by decide +kernel
theorem d_A_indexIn_44 : decode c_A_indexIn 44 = .ok (.invokevirtual 98, 3) := by decide +kernel
theorem d_A_indexIn_47 : decode c_A_indexIn 47 = .ok (.ifCond .eq 5, 3) := by decide +kernel
theorem d_A_indexIn_50 : decode c_A_indexIn 50 = .ok (.iload_n 3, 1) := by decide +kernel
theorem d_A_indexIn_51 : decode c_A_indexIn 51 = .ok (.ireturn, 1) := by decide +kernel
theorem d_A_indexIn_52 : decode c_A_indexIn 52 = .ok (.iinc 3 1, 3) := by decide +kernel
theorem d_A_indexIn_55 : decode c_A_indexIn 55 = .ok (.iload 5, 2) := by decide +kernel
theorem d_A_indexIn_57 : decode c_A_indexIn 57 = .ok (.iconst 1, 1) := by decide +kernel
theorem d_A_indexIn_58 : decode c_A_indexIn 58 = .ok (.iadd, 1) := by decide +kernel
theorem d_A_indexIn_59 : decode c_A_indexIn 59 = .ok (.istore 4, 2) := by decide +kernel
theorem d_A_indexIn_61 : decode c_A_indexIn 61 = .ok (.iinc 5 1, 3) := by decide +kernel
theorem d_A_indexIn_64 : decode c_A_indexIn 64 = .ok (.goto (-56), 3) := by decide +kernel
theorem d_A_indexIn_67 : decode c_A_indexIn 67 = .ok (.iconst (-1), 1) := by decide +kernel
theorem d_A_indexIn_68 : decode c_A_indexIn 68 = .ok (.ireturn, 1) := by decide +kernel
theorem kd_A_indexIn : (y_A_indexIn).cls = "WindowMachine$Assembler" ∧ (y_A_indexIn).cls ≠ "java/lang/invoke/MethodHandle" ∧ (y_A_indexIn).cls ≠ "java/lang/invoke/VarHandle" ∧ (parseMethodDescriptor (y_A_indexIn).desc).map (fun d => d.parameters.length) = some 2 := by decide +kernel
def fl_A_indexIn_8 (st : SA) (i : Nat) (p1 : Int32) : Nat → Int32 → Int32 → Nat → Int32
  | 0, _, _, _ => 0
  | n9 + 1, x_1, x_2, i_3 => (if (f_slen i) < (nI i_3) then (-1 : Int32) else (if (nI i_3) = (f_slen i) then (let r_9 := f_isSpelled st i x_2 (nI i_3) p1; (if r_9 = (0 : Int32) then fl_A_indexIn_8 st i p1 n9 (x_1 + (1 : Int32)) ((nI i_3) + (1 : Int32)) (i_3 + 1) else x_1)) else (if (f_schar i (nI i_3)) = (32 : Int32) then (let r_13 := f_isSpelled st i x_2 (nI i_3) p1; (if r_13 = (0 : Int32) then fl_A_indexIn_8 st i p1 n9 (x_1 + (1 : Int32)) ((nI i_3) + (1 : Int32)) (i_3 + 1) else x_1)) else fl_A_indexIn_8 st i p1 n9 x_1 x_2 (i_3 + 1))))
def f_indexIn (st : SA) (i : Nat) (p1 : Int32) : Int32 := fl_A_indexIn_8 st i p1 (lenS.getD i 0 + 2) (0 : Int32) (0 : Int32) 0
set_option maxHeartbeats 4000000 in
set_option maxRecDepth 100000 in
theorem mt_A_indexIn (l : Launch) (D : va_G) (za zk zv : Nat → Nat) (a b : Nat) (k : ClassId) (sz : Nat) (st : SA) (i : Nat) (hi : i < 18) (p1 : Int32) (hA9 : okA st) (hf : 0 ≤ p1.toInt ∧ p1.toInt ≤ 1) : Met l y_A_indexIn w_A_indexIn ({ frames := 5, cells := 0, slots := 0, locals := 110 }) (va_Pc [.ref a, .ref (zk i), .int p1] (zw_pre D vwCl [(k, .char)] sz (wA a b k st) (zz za zk zv (va_A (wA a b k st) sz)))) (va_Qi (fun r (_ : Unit) => r = f_indexIn st i p1) (fun u t => zw_at D vwCl (va_A (wA a b k st) sz) ((fun (_ : Unit) => wA a b k st) u) t) (va_A (wA a b k st) sz)) 0 0 (va_A (wA a b k st) sz) := by
  refine zm (Qf := fun A => va_Qi (fun r (_ : Unit) => r = f_indexIn st i p1) (fun u t => zw_at D vwCl A ((fun (_ : Unit) => wA a b k st) u) t) A) (Zf := fun A => zz za zk zv A) (cc := c_A_indexIn) (nL := 6) (ret := (some .int)) (by decide) rfl (Nat.le_of_ble_eq_true rfl) ?_
  intro p e s m below meth c9 A H locs ls hx hb hml hown hts hr hlocks hA hK hP hD hS hZ hl
  have hl : lv_has ls 6 [(0, .ref a), (1, .ref (zk i)), (2, .int p1)] := hl
  have ht : ∀ w9 ∈ zT, w9.before _ s = true := fun w9 h9 => hts w9 (List.mem_cons_of_mem _ h9)
  refine lv_iconst (v := (0 : Int32)) hx hb d_A_indexIn_0 (by decide) ?_
  refine lv_istore_n (lv' := [(3, .int (0 : Int32)), (0, .ref a), (1, .ref (zk i)), (2, .int p1)]) hx hb d_A_indexIn_1 rfl hl (by decide) rfl (fun ls hl => ?_)
  refine lv_iconst (v := (0 : Int32)) hx hb d_A_indexIn_2 (by decide) ?_
  refine lv_istore (lv' := [(4, .int (0 : Int32)), (3, .int (0 : Int32)), (0, .ref a), (1, .ref (zk i)), (2, .int p1)]) hx hb d_A_indexIn_3 hl (by decide) rfl (fun ls hl => ?_)
  refine lv_iconst (v := (0 : Int32)) hx hb d_A_indexIn_5 (by decide) ?_
  refine lv_istore (lv' := [(5, .int (0 : Int32)), (4, .int (0 : Int32)), (3, .int (0 : Int32)), (0, .ref a), (1, .ref (zk i)), (2, .int p1)]) hx hb d_A_indexIn_6 hl (by decide) rfl (fun ls hl => ?_)
  refine zloop (X := Int32 × Int32 × Nat) (G := fun n9 v9 H locs ls => f_indexIn st i p1 = fl_A_indexIn_8 st i p1 n9 v9.1 v9.2.1 v9.2.2 ∧ (v9.2.2 + n9 = lenS.getD i 0 + 2 ∧ v9.2.2 ≤ lenS.getD i 0 + 1 ∧ 0 ≤ (v9.2.1).toInt ∧ (v9.2.1).toInt ≤ (v9.2.2 : Int)) ∧ va_P D vwCl (wA a b k st) H ∧ va_D A (wA a b k st) ∧ va_S A s.heap H locs ∧ lv_has ls 6 [(0, .ref a), (1, .ref (zk i)), (2, .int p1), (3, .int v9.1), (4, .int v9.2.1), (5, .int (nI v9.2.2))]) (fr := fun v9 ls => F0 m 8 ls []) (n := lenS.getD i 0 + 2) (v := ((0 : Int32), (0 : Int32), 0)) (fun n9 ih v9 H locs ls hG => ?_) (fun v9 H locs ls hG => ?_) ⟨(by simp only [f_indexIn]), ⟨by dsimp only; omega, by dsimp only; omega, by dsimp only; decide, by dsimp only; decide⟩, hP, hD, hS, (lv_sub hl [3, 4, 5, 2, 1, 0] rfl)⟩
  · obtain ⟨x_1, x_2, i_3⟩ := v9
    obtain ⟨hF_4, hI, hP, hD, hS, hl⟩ := hG
    dsimp only at hF_4 hI hP hD hl
    refine lv_iload hx hb d_A_indexIn_8 (lv_at hl 5 rfl) ?_
    refine lv_aload_n hx hb d_A_indexIn_10 rfl (lv_at hl 1 rfl) ?_
    refine zc_i (w2 := fun _ => wA a b k st) (va_runV (As := []) (rest := [.int (nI i_3)]) ⟨hx, hb, hml, hown, ht⟩ (mt_S_length l D za zk zv H.size i hi) (cwV 0 ht (zgV zw_323 zw_324 zw_325 zw_13 zw_326) rfl rfl rfl kd_S_length ⟨Nat.le_of_ble_eq_true rfl, Nat.le_of_ble_eq_true rfl⟩) ⟨zw_blind zz_bl, vk_recv (zz_st hZ) hi hS, zw_go (hP.sub (ws' := []) [] rfl) (hD.sub (ws' := []) [] (by decide) rfl) (hK.sub (tys' := []) [] rfl) (fun U hU hW => zz_go hZ hS (va_free (wc := []) hD hS hA [] rfl) hU hW)⟩ rfl rfl hl.1 rfl (lv_room (Nat.le_of_ble_eq_true rfl)) d_A_indexIn_11 ⟨Nat.le_of_ble_eq_true rfl, Nat.le_of_ble_eq_true rfl⟩) hP hD hS hA [] [0, 1] [0, 1] rfl rfl (by decide) (by decide) (by decide) (fun _ => rfl) (fun r_5 _ H locs hw hP hD hS => ?_)
    subst hw
    refine lv_icmp_gt (tgt := 67) hx hb d_A_indexIn_14 (by decide) (fun c_6 => ?_) (fun c_6 => ?_)
    · refine lv_iconst (v := (-1 : Int32)) hx hb d_A_indexIn_67 (by decide) ?_
      exact zl_i (u := ()) hx hb hr hlocks hS hP hD (by rw [hF_4]; simp only [fl_A_indexIn_8, if_pos c_6]) d_A_indexIn_68
    refine lv_iload hx hb d_A_indexIn_17 (lv_at hl 5 rfl) ?_
    refine lv_aload_n hx hb d_A_indexIn_19 rfl (lv_at hl 1 rfl) ?_
    refine zc_i (w2 := fun _ => wA a b k st) (va_runV (As := []) (rest := [.int (nI i_3)]) ⟨hx, hb, hml, hown, ht⟩ (mt_S_length l D za zk zv H.size i hi) (cwV 0 ht (zgV zw_323 zw_324 zw_325 zw_13 zw_326) rfl rfl rfl kd_S_length ⟨Nat.le_of_ble_eq_true rfl, Nat.le_of_ble_eq_true rfl⟩) ⟨zw_blind zz_bl, vk_recv (zz_st hZ) hi hS, zw_go (hP.sub (ws' := []) [] rfl) (hD.sub (ws' := []) [] (by decide) rfl) (hK.sub (tys' := []) [] rfl) (fun U hU hW => zz_go hZ hS (va_free (wc := []) hD hS hA [] rfl) hU hW)⟩ rfl rfl hl.1 rfl (lv_room (Nat.le_of_ble_eq_true rfl)) d_A_indexIn_20 ⟨Nat.le_of_ble_eq_true rfl, Nat.le_of_ble_eq_true rfl⟩) hP hD hS hA [] [0, 1] [0, 1] rfl rfl (by decide) (by decide) (by decide) (fun _ => rfl) (fun r_7 _ H locs hw hP hD hS => ?_)
    subst hw
    refine lv_icmp_eq (tgt := 37) hx hb d_A_indexIn_23 (by decide) (fun c_8 => ?_) (fun c_8 => ?_)
    · refine lv_aload_n hx hb d_A_indexIn_37 rfl (lv_at hl 0 rfl) ?_
      refine lv_aload_n hx hb d_A_indexIn_38 rfl (lv_at hl 1 rfl) ?_
      refine lv_iload hx hb d_A_indexIn_39 (lv_at hl 4 rfl) ?_
      refine lv_iload hx hb d_A_indexIn_41 (lv_at hl 5 rfl) ?_
      refine lv_iload_n hx hb d_A_indexIn_43 rfl (lv_at hl 2 rfl) ?_
      refine zc_i (w2 := fun _ => wA a b k st) (va_runV (As := [.ref (zk i), .int x_2, .int (nI i_3), .int p1]) (rest := []) ⟨hx, hb, hml, hown, ht⟩ (mt_A_isSpelled l D za zk zv a b k H.size st i hi x_2 (nI i_3) p1 hA9 (ix_hs hi hI c_6) hf) (cwV 4 ht (zgV zw_371 zw_373 zs_6 zw_3 zw_374) rfl rfl rfl kd_A_isSpelled ⟨Nat.le_of_ble_eq_true rfl, Nat.le_of_ble_eq_true rfl⟩) ⟨zw_blind zz_bl, va_recv (hK.sub (tys' := [(k, .char)]) [0] rfl) (hP.sub (ws' := wA a b k st) [0, 1] rfl) (ci := 0) (q0 := 0) rfl rfl, zw_go (hP.sub (ws' := wA a b k st) [0, 1] rfl) (hD.sub (ws' := wA a b k st) [0, 1] (by decide) rfl) (hK.sub (tys' := [(k, .char)]) [0] rfl) (fun U hU hW => zz_go hZ hS (va_free (wc := wA a b k st) hD hS hA [0, 1] rfl) hU hW)⟩ rfl rfl hl.1 rfl (lv_room (Nat.le_of_ble_eq_true rfl)) d_A_indexIn_44 ⟨Nat.le_of_ble_eq_true rfl, Nat.le_of_ble_eq_true rfl⟩) hP hD hS hA [0, 1] [] [0, 1] rfl rfl (by decide) (by decide) (by decide) (fun _ => rfl) (fun r_9 _ H locs hw hP hD hS => ?_)
      have er_9 := hw
      refine lv_if_eq (tgt := 52) hx hb d_A_indexIn_47 (by decide) (fun c_10 => ?_) (fun c_10 => ?_)
      · refine lv_iinc (v := x_1 + (1 : Int32)) (lv' := [(3, .int (x_1 + (1 : Int32))), (0, .ref a), (1, .ref (zk i)), (2, .int p1), (4, .int x_2), (5, .int (nI i_3))]) hx hb d_A_indexIn_52 hl (k := 3) rfl rfl (by decide) rfl (fun ls hl => ?_)
        refine lv_iload hx hb d_A_indexIn_55 (lv_at hl 5 rfl) ?_
        refine lv_iconst (v := (1 : Int32)) hx hb d_A_indexIn_57 (by decide) ?_
        refine lv_iadd hx hb d_A_indexIn_58 ?_
        refine lv_istore (lv' := [(4, .int ((nI i_3) + (1 : Int32))), (3, .int (x_1 + (1 : Int32))), (0, .ref a), (1, .ref (zk i)), (2, .int p1), (5, .int (nI i_3))]) hx hb d_A_indexIn_59 hl (by decide) rfl (fun ls hl => ?_)
        refine lv_iinc (v := (nI i_3) + (1 : Int32)) (lv' := [(5, .int ((nI i_3) + (1 : Int32))), (4, .int ((nI i_3) + (1 : Int32))), (3, .int (x_1 + (1 : Int32))), (0, .ref a), (1, .ref (zk i)), (2, .int p1)]) hx hb d_A_indexIn_61 hl (k := 5) rfl rfl (by decide) rfl (fun ls hl => ?_)
        refine lv_goto (tgt := 8) hx hb d_A_indexIn_64 (by decide) ?_
        have hl : lv_has ls 6 [(0, .ref a), (1, .ref (zk i)), (2, .int p1), (3, .int (x_1 + (1 : Int32))), (4, .int ((nI i_3) + (1 : Int32))), (5, .int (nI (i_3 + 1)))] := by rw [← nI_1 i_3]; exact (lv_sub hl [3, 4, 5, 2, 1, 0] rfl)
        exact ih (x_1 + (1 : Int32), (nI i_3) + (1 : Int32), i_3 + 1) _ _ _ ⟨by rw [hF_4]; simp only [fl_A_indexIn_8, ← er_9, if_neg c_6, if_pos c_8, if_pos c_10], (ix_b2 hi hI c_6), hP, hD, hS, hl⟩
      refine lv_iload_n hx hb d_A_indexIn_50 rfl (lv_at hl 3 rfl) ?_
      exact zl_i (u := ()) hx hb hr hlocks hS hP hD (by rw [hF_4]; simp only [fl_A_indexIn_8, ← er_9, if_neg c_6, if_pos c_8, if_neg c_10]) d_A_indexIn_51
    refine lv_aload_n hx hb d_A_indexIn_26 rfl (lv_at hl 1 rfl) ?_
    refine lv_iload hx hb d_A_indexIn_27 (lv_at hl 5 rfl) ?_
    refine zc_i (w2 := fun _ => wA a b k st) (va_runV (As := [.int (nI i_3)]) (rest := []) ⟨hx, hb, hml, hown, ht⟩ (mt_S_charAt l D za zk zv H.size i hi (nI i_3) (ix_lt hi (by have := lenS_100 hi; omega) c_6 c_8)) (cwV 1 ht (zgV zw_333 zw_334 zw_335 zw_13 zw_336) rfl rfl rfl kd_S_charAt ⟨Nat.le_of_ble_eq_true rfl, Nat.le_of_ble_eq_true rfl⟩) ⟨zw_blind zz_bl, vk_recv (zz_st hZ) hi hS, zw_go (hP.sub (ws' := []) [] rfl) (hD.sub (ws' := []) [] (by decide) rfl) (hK.sub (tys' := []) [] rfl) (fun U hU hW => zz_go hZ hS (va_free (wc := []) hD hS hA [] rfl) hU hW)⟩ rfl rfl hl.1 rfl (lv_room (Nat.le_of_ble_eq_true rfl)) d_A_indexIn_29 ⟨Nat.le_of_ble_eq_true rfl, Nat.le_of_ble_eq_true rfl⟩) hP hD hS hA [] [0, 1] [0, 1] rfl rfl (by decide) (by decide) (by decide) (fun _ => rfl) (fun r_11 _ H locs hw hP hD hS => ?_)
    subst hw
    refine lv_bipush (v := (32 : Int32)) hx hb d_A_indexIn_32 (by decide) ?_
    refine lv_icmp_ne (tgt := 61) hx hb d_A_indexIn_34 (by decide) (fun c_12 => ?_) (fun c_12 => ?_)
    · refine lv_iinc (v := (nI i_3) + (1 : Int32)) (lv' := [(5, .int ((nI i_3) + (1 : Int32))), (0, .ref a), (1, .ref (zk i)), (2, .int p1), (3, .int x_1), (4, .int x_2)]) hx hb d_A_indexIn_61 hl (k := 5) rfl rfl (by decide) rfl (fun ls hl => ?_)
      refine lv_goto (tgt := 8) hx hb d_A_indexIn_64 (by decide) ?_
      have hl : lv_has ls 6 [(0, .ref a), (1, .ref (zk i)), (2, .int p1), (3, .int x_1), (4, .int x_2), (5, .int (nI (i_3 + 1)))] := by rw [← nI_1 i_3]; exact (lv_sub hl [1, 2, 3, 4, 5, 0] rfl)
      exact ih (x_1, x_2, i_3 + 1) _ _ _ ⟨by rw [hF_4]; simp only [fl_A_indexIn_8, if_neg c_6, if_neg c_8, if_neg c_12], (ix_b1 hi hI c_6), hP, hD, hS, hl⟩
    refine lv_aload_n hx hb d_A_indexIn_37 rfl (lv_at hl 0 rfl) ?_
    refine lv_aload_n hx hb d_A_indexIn_38 rfl (lv_at hl 1 rfl) ?_
    refine lv_iload hx hb d_A_indexIn_39 (lv_at hl 4 rfl) ?_
    refine lv_iload hx hb d_A_indexIn_41 (lv_at hl 5 rfl) ?_
    refine lv_iload_n hx hb d_A_indexIn_43 rfl (lv_at hl 2 rfl) ?_
    refine zc_i (w2 := fun _ => wA a b k st) (va_runV (As := [.ref (zk i), .int x_2, .int (nI i_3), .int p1]) (rest := []) ⟨hx, hb, hml, hown, ht⟩ (mt_A_isSpelled l D za zk zv a b k H.size st i hi x_2 (nI i_3) p1 hA9 (ix_hs hi hI c_6) hf) (cwV 4 ht (zgV zw_371 zw_373 zs_6 zw_3 zw_374) rfl rfl rfl kd_A_isSpelled ⟨Nat.le_of_ble_eq_true rfl, Nat.le_of_ble_eq_true rfl⟩) ⟨zw_blind zz_bl, va_recv (hK.sub (tys' := [(k, .char)]) [0] rfl) (hP.sub (ws' := wA a b k st) [0, 1] rfl) (ci := 0) (q0 := 0) rfl rfl, zw_go (hP.sub (ws' := wA a b k st) [0, 1] rfl) (hD.sub (ws' := wA a b k st) [0, 1] (by decide) rfl) (hK.sub (tys' := [(k, .char)]) [0] rfl) (fun U hU hW => zz_go hZ hS (va_free (wc := wA a b k st) hD hS hA [0, 1] rfl) hU hW)⟩ rfl rfl hl.1 rfl (lv_room (Nat.le_of_ble_eq_true rfl)) d_A_indexIn_44 ⟨Nat.le_of_ble_eq_true rfl, Nat.le_of_ble_eq_true rfl⟩) hP hD hS hA [0, 1] [] [0, 1] rfl rfl (by decide) (by decide) (by decide) (fun _ => rfl) (fun r_13 _ H locs hw hP hD hS => ?_)
    have er_13 := hw
    refine lv_if_eq (tgt := 52) hx hb d_A_indexIn_47 (by decide) (fun c_14 => ?_) (fun c_14 => ?_)
    · refine lv_iinc (v := x_1 + (1 : Int32)) (lv' := [(3, .int (x_1 + (1 : Int32))), (0, .ref a), (1, .ref (zk i)), (2, .int p1), (4, .int x_2), (5, .int (nI i_3))]) hx hb d_A_indexIn_52 hl (k := 3) rfl rfl (by decide) rfl (fun ls hl => ?_)
      refine lv_iload hx hb d_A_indexIn_55 (lv_at hl 5 rfl) ?_
      refine lv_iconst (v := (1 : Int32)) hx hb d_A_indexIn_57 (by decide) ?_
      refine lv_iadd hx hb d_A_indexIn_58 ?_
      refine lv_istore (lv' := [(4, .int ((nI i_3) + (1 : Int32))), (3, .int (x_1 + (1 : Int32))), (0, .ref a), (1, .ref (zk i)), (2, .int p1), (5, .int (nI i_3))]) hx hb d_A_indexIn_59 hl (by decide) rfl (fun ls hl => ?_)
      refine lv_iinc (v := (nI i_3) + (1 : Int32)) (lv' := [(5, .int ((nI i_3) + (1 : Int32))), (4, .int ((nI i_3) + (1 : Int32))), (3, .int (x_1 + (1 : Int32))), (0, .ref a), (1, .ref (zk i)), (2, .int p1)]) hx hb d_A_indexIn_61 hl (k := 5) rfl rfl (by decide) rfl (fun ls hl => ?_)
      refine lv_goto (tgt := 8) hx hb d_A_indexIn_64 (by decide) ?_
      have hl : lv_has ls 6 [(0, .ref a), (1, .ref (zk i)), (2, .int p1), (3, .int (x_1 + (1 : Int32))), (4, .int ((nI i_3) + (1 : Int32))), (5, .int (nI (i_3 + 1)))] := by rw [← nI_1 i_3]; exact (lv_sub hl [3, 4, 5, 2, 1, 0] rfl)
      exact ih (x_1 + (1 : Int32), (nI i_3) + (1 : Int32), i_3 + 1) _ _ _ ⟨by rw [hF_4]; simp only [fl_A_indexIn_8, ← er_13, if_neg c_6, if_neg c_8, if_pos c_12, if_pos c_14], (ix_b2 hi hI c_6), hP, hD, hS, hl⟩
    refine lv_iload_n hx hb d_A_indexIn_50 rfl (lv_at hl 3 rfl) ?_
    exact zl_i (u := ()) hx hb hr hlocks hS hP hD (by rw [hF_4]; simp only [fl_A_indexIn_8, ← er_13, if_neg c_6, if_neg c_8, if_pos c_12, if_neg c_14]) d_A_indexIn_51
  · obtain ⟨x_1, x_2, i_3⟩ := v9
    obtain ⟨-, hI, -⟩ := hG
    dsimp only at hI
    exact (by omega)
theorem d_A_codeIn_0 : decode c_A_codeIn 0 = .ok (.aload_n 0, 1) := by decide +kernel
theorem d_A_codeIn_1 : decode c_A_codeIn 1 = .ok (.aload_n 1, 1) := by decide +kernel
theorem d_A_codeIn_2 : decode c_A_codeIn 2 = .ok (.iconst 0, 1) := by decide +kernel
theorem d_A_codeIn_3 : decode c_A_codeIn 3 = .ok (.invokevirtual 53, 3) := by decide +kernel
theorem d_A_codeIn_6 : decode c_A_codeIn 6 = .ok (.istore_n 3, 1) := by decide +kernel
theorem d_A_codeIn_7 : decode c_A_codeIn 7 = .ok (.iload_n 3, 1) := by decide +kernel
theorem d_A_codeIn_8 : decode c_A_codeIn 8 = .ok (.ifCond .lt 9, 3) := by decide +kernel
theorem d_A_codeIn_11 : decode c_A_codeIn 11 = .ok (.iload_n 2, 1) := by decide +kernel
theorem d_A_codeIn_12 : decode c_A_codeIn 12 = .ok (.iload_n 3, 1) := by decide +kernel
theorem d_A_codeIn_13 : decode c_A_codeIn 13 = .ok (.iadd, 1) := by decide +kernel
theorem d_A_codeIn_14 : decode c_A_codeIn 14 = .ok (.goto 4, 3) := by decide +kernel
theorem d_A_codeIn_17 : decode c_A_codeIn 17 = .ok (.iconst (-1), 1) := by decide +kernel
theorem d_A_codeIn_18 : decode c_A_codeIn 18 = .ok (.ireturn, 1) := by decide +kernel
theorem kd_A_codeIn : (y_A_codeIn).cls = "WindowMachine$Assembler" ∧ (y_A_codeIn).cls ≠ "java/lang/invoke/MethodHandle" ∧ (y_A_codeIn).cls ≠ "java/lang/invoke/VarHandle" ∧ (parseMethodDescriptor (y_A_codeIn).desc).map (fun d => d.parameters.length) = some 2 := by decide +kernel
def f_codeIn (st : SA) (i : Nat) (p1 : Int32) : Int32 := (let r_1 := f_indexIn st i (0 : Int32); (let x_2 := (if r_1 < (0 : Int32) then (-1 : Int32) else p1 + r_1); x_2))
set_option maxHeartbeats 4000000 in
set_option maxRecDepth 100000 in
theorem mt_A_codeIn (l : Launch) (D : va_G) (za zk zv : Nat → Nat) (a b : Nat) (k : ClassId) (sz : Nat) (st : SA) (i : Nat) (hi : i < 18) (p1 : Int32) (hA9 : okA st) : Met l y_A_codeIn w_A_codeIn ({ frames := 6, cells := 0, slots := 0, locals := 135 }) (va_Pc [.ref a, .ref (zk i), .int p1] (zw_pre D vwCl [(k, .char)] sz (wA a b k st) (zz za zk zv (va_A (wA a b k st) sz)))) (va_Qi (fun r (_ : Unit) => r = f_codeIn st i p1) (fun u t => zw_at D vwCl (va_A (wA a b k st) sz) ((fun (_ : Unit) => wA a b k st) u) t) (va_A (wA a b k st) sz)) 0 0 (va_A (wA a b k st) sz) := by
  refine zm (Qf := fun A => va_Qi (fun r (_ : Unit) => r = f_codeIn st i p1) (fun u t => zw_at D vwCl A ((fun (_ : Unit) => wA a b k st) u) t) A) (Zf := fun A => zz za zk zv A) (cc := c_A_codeIn) (nL := 4) (ret := (some .int)) (by decide) rfl (Nat.le_of_ble_eq_true rfl) ?_
  intro p e s m below meth c9 A H locs ls hx hb hml hown hts hr hlocks hA hK hP hD hS hZ hl
  have hl : lv_has ls 4 [(0, .ref a), (1, .ref (zk i)), (2, .int p1)] := hl
  have ht : ∀ w9 ∈ zT, w9.before _ s = true := fun w9 h9 => hts w9 (List.mem_cons_of_mem _ h9)
  refine lv_aload_n hx hb d_A_codeIn_0 rfl (lv_at hl 0 rfl) ?_
  refine lv_aload_n hx hb d_A_codeIn_1 rfl (lv_at hl 1 rfl) ?_
  refine lv_iconst (v := (0 : Int32)) hx hb d_A_codeIn_2 (by decide) ?_
  refine zc_i (w2 := fun _ => wA a b k st) (va_runV (As := [.ref (zk i), .int (0 : Int32)]) (rest := []) ⟨hx, hb, hml, hown, ht⟩ (mt_A_indexIn l D za zk zv a b k H.size st i hi (0 : Int32) hA9 (by decide)) (cwV 2 ht (zgV zw_319 zw_321 zs_5 zw_3 zw_322) rfl rfl rfl kd_A_indexIn ⟨Nat.le_of_ble_eq_true rfl, Nat.le_of_ble_eq_true rfl⟩) ⟨zw_blind zz_bl, va_recv (hK.sub (tys' := [(k, .char)]) [0] rfl) (hP.sub (ws' := wA a b k st) [0, 1] rfl) (ci := 0) (q0 := 0) rfl rfl, zw_go (hP.sub (ws' := wA a b k st) [0, 1] rfl) (hD.sub (ws' := wA a b k st) [0, 1] (by decide) rfl) (hK.sub (tys' := [(k, .char)]) [0] rfl) (fun U hU hW => zz_go hZ hS (va_free (wc := wA a b k st) hD hS hA [0, 1] rfl) hU hW)⟩ rfl rfl hl.1 rfl (lv_room (Nat.le_of_ble_eq_true rfl)) d_A_codeIn_3 ⟨Nat.le_of_ble_eq_true rfl, Nat.le_of_ble_eq_true rfl⟩) hP hD hS hA [0, 1] [] [0, 1] rfl rfl (by decide) (by decide) (by decide) (fun _ => rfl) (fun r_1 _ H locs hw hP hD hS => ?_)
  have er_1 := hw
  refine lv_istore_n (lv' := [(3, .int r_1), (0, .ref a), (1, .ref (zk i)), (2, .int p1)]) hx hb d_A_codeIn_6 rfl hl (by decide) rfl (fun ls hl => ?_)
  refine lv_iload_n hx hb d_A_codeIn_7 rfl (lv_at hl 0 rfl) ?_
  refine zcut (X := Int32) (G := fun v9 H locs ls => v9 = (if r_1 < (0 : Int32) then (-1 : Int32) else p1 + r_1) ∧ va_P D vwCl (wA a b k st) H ∧ va_D A (wA a b k st) ∧ va_S A s.heap H locs ∧ lv_has ls 4 [(0, .ref a), (1, .ref (zk i)), (2, .int p1), (3, .int r_1)]) (fr := fun v9 ls => F0 m 18 ls [.int v9]) (fun J_3 => ?_) (fun v9 H locs ls hG => ?_)
  · refine lv_if_lt (tgt := 17) hx hb d_A_codeIn_8 (by decide) (fun c_4 => ?_) (fun c_4 => ?_)
    · refine lv_iconst (v := (-1 : Int32)) hx hb d_A_codeIn_17 (by decide) ?_
      exact J_3 (-1 : Int32) _ _ _ ⟨by simp only [if_pos c_4], hP, hD, hS, (lv_sub hl [1, 2, 3, 0] rfl)⟩
    refine lv_iload_n hx hb d_A_codeIn_11 rfl (lv_at hl 3 rfl) ?_
    refine lv_iload_n hx hb d_A_codeIn_12 rfl (lv_at hl 0 rfl) ?_
    refine lv_iadd hx hb d_A_codeIn_13 ?_
    refine lv_goto (tgt := 18) hx hb d_A_codeIn_14 (by decide) ?_
    exact J_3 (p1 + r_1) _ _ _ ⟨by simp only [if_neg c_4], hP, hD, hS, (lv_sub hl [1, 2, 3, 0] rfl)⟩
  obtain ⟨x_2, rfl⟩ : ∃ z, z = v9 := ⟨_, rfl⟩
  obtain ⟨ex_2, hP, hD, hS, hl⟩ := hG
  exact zl_i (u := ()) hx hb hr hlocks hS hP hD (by simp only [f_codeIn, ← er_1, ← ex_2]) d_A_codeIn_18
theorem d_A_conditionBehind_0 : decode c_A_conditionBehind 0 = .ok (.aload_n 0, 1) := by decide +kernel
theorem d_A_conditionBehind_1 : decode c_A_conditionBehind 1 = .ok (.getfield 26, 3) := by decide +kernel
theorem d_A_conditionBehind_4 : decode c_A_conditionBehind 4 = .ok (.ifCond .le 23, 3) := by decide +kernel
theorem d_A_conditionBehind_7 : decode c_A_conditionBehind 7 = .ok (.aload_n 0, 1) := by decide +kernel
theorem d_A_conditionBehind_8 : decode c_A_conditionBehind 8 = .ok (.getfield 11, 3) := by decide +kernel
theorem d_A_conditionBehind_11 : decode c_A_conditionBehind 11 = .ok (.iconst 0, 1) := by decide +kernel
theorem d_A_conditionBehind_12 : decode c_A_conditionBehind 12 = .ok (.caload, 1) := by decide +kernel
theorem d_A_conditionBehind_13 : decode c_A_conditionBehind 13 = .ok (.iload_n 1, 1) := by decide +kernel
theorem d_A_conditionBehind_14 : decode c_A_conditionBehind 14 = .ok (.if_icmp .ne 13, 3) := by decide +kernel
theorem d_A_conditionBehind_17 : decode c_A_conditionBehind 17 = .ok (.aload_n 0, 1) := by decide +kernel
theorem d_A_conditionBehind_18 : decode c_A_conditionBehind 18 = .ok (.ldc 88, 2) := by decide +kernel
theorem d_A_conditionBehind_20 : decode c_A_conditionBehind 20 = .ok (.iconst 1, 1) := by decide +kernel
theorem d_A_conditionBehind_21 : decode c_A_conditionBehind 21 = .ok (.invokevirtual 53, 3) := by decide +kernel
theorem d_A_conditionBehind_24 : decode c_A_conditionBehind 24 = .ok (.goto 4, 3) := by decide +kernel
theorem d_A_conditionBehind_27 : decode c_A_conditionBehind 27 = .ok (.iconst (-1), 1) := by decide +kernel
theorem d_A_conditionBehind_28 : decode c_A_conditionBehind 28 = .ok (.ireturn, 1) := by decide +kernel
theorem kd_A_conditionBehind : (y_A_conditionBehind).cls = "WindowMachine$Assembler" ∧ (y_A_conditionBehind).cls ≠ "java/lang/invoke/MethodHandle" ∧ (y_A_conditionBehind).cls ≠ "java/lang/invoke/VarHandle" ∧ (parseMethodDescriptor (y_A_conditionBehind).desc).map (fun d => d.parameters.length) = some 1 := by decide +kernel
def f_conditionBehind (st : SA) (p0 : Int32) : Int32 := (let x_1 := (if (st.1 1) ≤ (0 : Int32) then (-1 : Int32) else (if (st.2 (0 : Int32).toNatClampNeg) = p0 then f_indexIn st 7 (1 : Int32) else (-1 : Int32))); x_1)
set_option maxHeartbeats 4000000 in
set_option maxRecDepth 100000 in
theorem mt_A_conditionBehind (l : Launch) (D : va_G) (za zk zv : Nat → Nat) (a b : Nat) (k : ClassId) (sz : Nat) (st : SA) (p0 : Int32) (hA9 : okA st) : Met l y_A_conditionBehind w_A_conditionBehind ({ frames := 6, cells := 0, slots := 0, locals := 135 }) (va_Pc [.ref a, .int p0] (zw_pre D vwCl [(k, .char)] sz (wA a b k st) (zz za zk zv (va_A (wA a b k st) sz)))) (va_Qi (fun r (_ : Unit) => r = f_conditionBehind st p0) (fun u t => zw_at D vwCl (va_A (wA a b k st) sz) ((fun (_ : Unit) => wA a b k st) u) t) (va_A (wA a b k st) sz)) 0 0 (va_A (wA a b k st) sz) := by
  refine zm (Qf := fun A => va_Qi (fun r (_ : Unit) => r = f_conditionBehind st p0) (fun u t => zw_at D vwCl A ((fun (_ : Unit) => wA a b k st) u) t) A) (Zf := fun A => zz za zk zv A) (cc := c_A_conditionBehind) (nL := 2) (ret := (some .int)) (by decide) rfl (Nat.le_of_ble_eq_true rfl) ?_
  intro p e s m below meth c9 A H locs ls hx hb hml hown hts hr hlocks hA hK hP hD hS hZ hl
  have hl : lv_has ls 2 [(0, .ref a), (1, .int p0)] := hl
  have ht : ∀ w9 ∈ zT, w9.before _ s = true := fun w9 h9 => hts w9 (List.mem_cons_of_mem _ h9)
  refine lv_aload_n hx hb d_A_conditionBehind_0 rfl (lv_at hl 0 rfl) ?_
  refine va_get (D := D) (ci := 0) (v := .int (st.1 1)) (C := "WindowMachine$Assembler") (T := T_A) (N := 5) hx hb ht zi_A hown hK hP 0 rfl rfl 2 (by decide) (ht _ zw_47) (fun _ h9 => h9) rfl d_A_conditionBehind_1 ?_
  refine zcut (X := Int32) (G := fun v9 H locs ls => v9 = (if (st.1 1) ≤ (0 : Int32) then (-1 : Int32) else (if (st.2 (0 : Int32).toNatClampNeg) = p0 then f_indexIn st 7 (1 : Int32) else (-1 : Int32))) ∧ va_P D vwCl (wA a b k st) H ∧ va_D A (wA a b k st) ∧ va_S A s.heap H locs ∧ lv_has ls 2 [(0, .ref a), (1, .int p0)]) (fr := fun v9 ls => F0 m 28 ls [.int v9]) (fun J_2 => ?_) (fun v9 H locs ls hG => ?_)
  · refine lv_if_le (tgt := 27) hx hb d_A_conditionBehind_4 (by decide) (fun c_3 => ?_) (fun c_3 => ?_)
    · refine lv_iconst (v := (-1 : Int32)) hx hb d_A_conditionBehind_27 (by decide) ?_
      exact J_2 (-1 : Int32) _ _ _ ⟨by simp only [if_pos c_3], hP, hD, hS, hl⟩
    refine lv_aload_n hx hb d_A_conditionBehind_7 rfl (lv_at hl 0 rfl) ?_
    refine va_get (D := D) (ci := 0) (v := .ref b) (C := "WindowMachine$Assembler") (T := T_A) (N := 5) hx hb ht zi_A hown hK hP 0 rfl rfl 0 (by decide) (ht _ zw_44) (fun _ h9 => h9) rfl d_A_conditionBehind_8 ?_
    refine lv_iconst (v := (0 : Int32)) hx hb d_A_conditionBehind_11 (by decide) ?_
    refine va_cald hx hb hK hP 1 0 rfl rfl (by unfold vp_in; decide) d_A_conditionBehind_12 ?_
    refine lv_iload_n hx hb d_A_conditionBehind_13 rfl (lv_at hl 1 rfl) ?_
    refine lv_icmp_ne (tgt := 27) hx hb d_A_conditionBehind_14 (by decide) (fun c_4 => ?_) (fun c_4 => ?_)
    · refine lv_iconst (v := (-1 : Int32)) hx hb d_A_conditionBehind_27 (by decide) ?_
      exact J_2 (-1 : Int32) _ _ _ ⟨by simp only [if_neg c_3, if_neg c_4], hP, hD, hS, hl⟩
    refine lv_aload_n hx hb d_A_conditionBehind_17 rfl (lv_at hl 0 rfl) ?_
    refine va_ldcS hx hb hown (zz_r7 hZ) d_A_conditionBehind_18 ?_
    refine lv_iconst (v := (1 : Int32)) hx hb d_A_conditionBehind_20 (by decide) ?_
    refine zc_i (w2 := fun _ => wA a b k st) (va_runV (As := [.ref (zk 7), .int (1 : Int32)]) (rest := []) ⟨hx, hb, hml, hown, ht⟩ (mt_A_indexIn l D za zk zv a b k H.size st 7 (by decide) (1 : Int32) hA9 (by decide)) (cwV 2 ht (zgV zw_319 zw_321 zs_5 zw_3 zw_322) rfl rfl rfl kd_A_indexIn ⟨Nat.le_of_ble_eq_true rfl, Nat.le_of_ble_eq_true rfl⟩) ⟨zw_blind zz_bl, va_recv (hK.sub (tys' := [(k, .char)]) [0] rfl) (hP.sub (ws' := wA a b k st) [0, 1] rfl) (ci := 0) (q0 := 0) rfl rfl, zw_go (hP.sub (ws' := wA a b k st) [0, 1] rfl) (hD.sub (ws' := wA a b k st) [0, 1] (by decide) rfl) (hK.sub (tys' := [(k, .char)]) [0] rfl) (fun U hU hW => zz_go hZ hS (va_free (wc := wA a b k st) hD hS hA [0, 1] rfl) hU hW)⟩ rfl rfl hl.1 rfl (lv_room (Nat.le_of_ble_eq_true rfl)) d_A_conditionBehind_21 ⟨Nat.le_of_ble_eq_true rfl, Nat.le_of_ble_eq_true rfl⟩) hP hD hS hA [0, 1] [] [0, 1] rfl rfl (by decide) (by decide) (by decide) (fun _ => rfl) (fun r_5 _ H locs hw hP hD hS => ?_)
    subst hw
    refine lv_goto (tgt := 28) hx hb d_A_conditionBehind_24 (by decide) ?_
    exact J_2 (f_indexIn st 7 (1 : Int32)) _ _ _ ⟨by simp only [if_neg c_3, if_pos c_4], hP, hD, hS, hl⟩
  obtain ⟨x_1, rfl⟩ : ∃ z, z = v9 := ⟨_, rfl⟩
  obtain ⟨ex_1, hP, hD, hS, hl⟩ := hG
  exact zl_i (u := ()) hx hb hr hlocks hS hP hD (by simp only [f_conditionBehind, ← ex_1]) d_A_conditionBehind_28
