set_option maxHeartbeats 4000000 in
set_option maxRecDepth 100000 in
theorem whole_start {p : Program} {e : Env} {s : State} {m : MethodId} {below : List Frame} {meth : Method} {c : Code} (l : Launch) (hlt : l.stackTraces = false) {b L : Nat} {xs : Nat → Int32} (hL : L ≤ 3072) (C0 : lw_At p s m meth c b L xs) : W p l e room_1 s m #[Value.ref b] below meth c s.heap [] 0 0 (lw_Z below #[Value.ref b] s) (entryFrame m ([Value.ref b] : List Value).toArray 7) := by
  obtain ⟨hx, hb, hr, hml, hown, hts, hX, hbl, hlocks, hgv⟩ := C0
  have ht : ∀ w9 ∈ zT, w9.before #[Value.ref b] s = true := fun w9 h9 => hts w9 (List.mem_filter.mp h9).1
  obtain ⟨za, zk, zv, hZ⟩ := zh_start hts hgv
  have hA : ∀ q : Nat, s.heap.size ≤ q → (fun q : Nat => s.heap.size ≤ q) q := fun _ h => h
  obtain ⟨c0, iS0, hKn0⟩ := u_known (C := "WindowMachine$Assembler") (T := T_A) (N := 5) (n := 5) ht zi_A (ht _ zw_39)
  obtain ⟨c1, iS1, hKn1⟩ := u_known (C := "WindowMachine$Memory") (T := T_M) (N := 1) (n := 1) ht zi_M (ht _ zw_28)
  obtain ⟨c2, iS2, hKn2⟩ := u_known (C := "WindowMachine$Processor") (T := T_P) (N := 18) (n := 18) ht zi_P (ht _ zw_64)
  obtain ⟨c3, iS3, hKn3⟩ := u_known (C := "WindowMachine$Reckoner") (T := T_K) (N := 4) (n := 4) ht zi_K (ht _ zw_80)
  obtain ⟨c4, iS4, hKn4⟩ := u_known (C := "WindowMachine$Registers") (T := T_R) (N := 1) (n := 1) ht zi_R (ht _ zw_70)
  obtain ⟨c5, iS5, hKn5⟩ := u_known (C := "WindowMachine") (T := T_X) (N := 3) (n := 3) ht zi_X (ht _ zw_20)
  obtain ⟨c6, iS6, hKn6⟩ := u_known (C := "WindowMachineModel") (T := T_D) (N := 31) (n := 31) ht zi_D (ht _ zw_754)
  obtain ⟨dC, dI, hKc⟩ : ∃ (dC : Nat → ClassId) (dI : Nat → Nat → Nat), ∀ (k : Nat) (q : vw_C), vwCl[k]? = some q → u_Kn s q.1 q.2.1 q.2.2 (dC k) (dI k) := by
    refine ⟨fun k => [c0, c1, c2, c3, c4, c5, c6].getD k c0, fun k => [iS0, iS1, iS2, iS3, iS4, iS5, iS6].getD k iS0, ?_⟩
    intro k q hq
    match k, hq with
    | 0, hq => cases hq; exact hKn0
    | 1, hq => cases hq; exact hKn1
    | 2, hq => cases hq; exact hKn2
    | 3, hq => cases hq; exact hKn3
    | 4, hq => cases hq; exact hKn4
    | 5, hq => cases hq; exact hKn5
    | 6, hq => cases hq; exact hKn6
    | k + 7, hq => simp [vwCl] at hq
  have hS : va_S (fun q : Nat => s.heap.size ≤ q) s.heap s.heap [] := va_S.rf
  have hK : va_K (dC, dI) vwCl [] s := ⟨hKc, fun k q h => by simp at h⟩
  have hP : va_P (dC, dI) vwCl [] s.heap := fun k q h => by simp at h
  have hD : va_D (fun q : Nat => s.heap.size ≤ q) [] := ⟨fun i j p q h => by simp at h, fun k q h => by simp at h⟩
  generalize (dC, dI) = D at hK hP
  have hl := lv_entry ([.ref b]) (n := 7) (Nat.le_of_ble_eq_true rfl)
  rw [lg_entry_eq]
  generalize (lg_sl ([.ref b]) ++ List.replicate (7 - (lg_sl ([.ref b])).length) Slot.unset).toArray = ls at hl ⊢
  have hl : lv_has ls 7 [(0, .ref b)] := hl
  refine va_new (D := D) (ci := 5) (fs := [.null, .null, .null]) (C := "WindowMachine") (T := T_X) (N := 3) hx hb ht zi_X ty_X tyok_X hown (ht _ zw_19) (ht _ zw_20) (ht _ zw_1) hK hP hD hS hA rfl (fun j hj => by match j, hj with | 0, _ => rfl | 1, _ => rfl | 2, _ => rfl | k + 3, h => exact absurd h (by omega)) (Nat.le_of_ble_eq_true rfl) (Nat.le_of_ble_eq_true rfl) d_law_0 (fun q0 H hP hD hS => ?_)
  have hP : va_P D vwCl ([(q0, .inr (5, [.null, .null, .null]))]) H := hP
  have hD : va_D (fun q : Nat => s.heap.size ≤ q) ([(q0, .inr (5, [.null, .null, .null]))]) := hD
  refine lv_dup hx hb d_law_3 rfl ?_
  refine zcN (va_runI (As := []) (rest := [.ref q0]) ⟨hx, hb, hml, hown, ht⟩ (mt_X_init l D za zk zv q0 H.size) (cwI 0 ht (zg0 zw_23) rfl rfl rfl (ht _ zw_1) (ht _ zw_21) (ht _ zw_22) rfl (by decide +kernel) ⟨Nat.le_of_ble_eq_true rfl, Nat.le_of_ble_eq_true rfl⟩) ⟨zw_blind zz_bl, zw_go (hP.sub (ws' := [(q0, .inr (5, [.null, .null, .null]))]) [0] rfl) (hD.sub (ws' := [(q0, .inr (5, [.null, .null, .null]))]) [0] (by decide) rfl) (hK.sub (tys' := []) [] rfl) (fun U hU hW9 => zz_go hZ.1.1 hS (va_free (wc := [(q0, .inr (5, [.null, .null, .null]))]) hD hS hA [0] rfl) hU hW9)⟩ rfl rfl hl.1 rfl (lv_room (Nat.le_of_ble_eq_true rfl)) d_law_4 ⟨Nat.le_of_ble_eq_true rfl, Nat.le_of_ble_eq_true rfl⟩) hP hD hK hS hA [0] [] rfl rfl (by decide) (by decide) (fun u H locs hu hP hD hK hS => ?_)
  have hu : u.1 6 = q0 := hu
  subst hu
  have hP : va_P D vwCl (wX u.1 u.2 stX0) H := hP
  have hD : va_D (fun q : Nat => s.heap.size ≤ q) (wX u.1 u.2 stX0) := hD
  have hK : va_K D vwCl [(u.2 0, .int), (u.2 1, .int), (u.2 2, .char)] s := hK
  refine lv_astore_n (lv' := [(1, .ref (u.1 6)), (0, .ref b)]) hx hb d_law_7 rfl hl (by decide) rfl (fun ls hl => ?_)
  refine va_new (D := D) (ci := 6) (fs := [.null, .null, .null, .int 0, .int 0, .int 0, .int 0, .null, .null, .null, .null, .null, .int 0, .int 0, .int 0, .int 0, .int 0, .int 0, .int 0, .int 0, .int 0, .int 0, .int 0, .int 0, .int 0, .int 0, .int 0, .int 0, .int 0, .int 0, .int 0]) (C := "WindowMachineModel") (T := T_D) (N := 31) hx hb ht zi_D ty_D tyok_D hown (ht _ zw_753) (ht _ zw_754) (ht _ zw_7) hK hP hD hS hA rfl (fun j hj => by match j, hj with | 0, _ => rfl | 1, _ => rfl | 2, _ => rfl | 3, _ => rfl | 4, _ => rfl | 5, _ => rfl | 6, _ => rfl | 7, _ => rfl | 8, _ => rfl | 9, _ => rfl | 10, _ => rfl | 11, _ => rfl | 12, _ => rfl | 13, _ => rfl | 14, _ => rfl | 15, _ => rfl | 16, _ => rfl | 17, _ => rfl | 18, _ => rfl | 19, _ => rfl | 20, _ => rfl | 21, _ => rfl | 22, _ => rfl | 23, _ => rfl | 24, _ => rfl | 25, _ => rfl | 26, _ => rfl | 27, _ => rfl | 28, _ => rfl | 29, _ => rfl | 30, _ => rfl | k + 31, h => exact absurd h (by omega)) (Nat.le_of_ble_eq_true rfl) (Nat.le_of_ble_eq_true rfl) d_law_8 (fun q1 H hP hD hS => ?_)
  have hP : va_P D vwCl (wX u.1 u.2 stX0 ++ [(q1, .inr (6, [.null, .null, .null, .int 0, .int 0, .int 0, .int 0, .null, .null, .null, .null, .null, .int 0, .int 0, .int 0, .int 0, .int 0, .int 0, .int 0, .int 0, .int 0, .int 0, .int 0, .int 0, .int 0, .int 0, .int 0, .int 0, .int 0, .int 0, .int 0]))]) H := hP
  have hD : va_D (fun q : Nat => s.heap.size ≤ q) (wX u.1 u.2 stX0 ++ [(q1, .inr (6, [.null, .null, .null, .int 0, .int 0, .int 0, .int 0, .null, .null, .null, .null, .null, .int 0, .int 0, .int 0, .int 0, .int 0, .int 0, .int 0, .int 0, .int 0, .int 0, .int 0, .int 0, .int 0, .int 0, .int 0, .int 0, .int 0, .int 0, .int 0]))]) := hD
  refine lv_dup hx hb d_law_11 rfl ?_
  refine zcN (va_runI (As := []) (rest := [.ref q1]) ⟨hx, hb, hml, hown, ht⟩ (mt_D_init l D  q1 H.size) (cwI 0 ht (zg0 zw_757) rfl rfl rfl (ht _ zw_7) (ht _ zw_755) (ht _ zw_756) rfl (by decide +kernel) ⟨Nat.le_of_ble_eq_true rfl, Nat.le_of_ble_eq_true rfl⟩) ⟨zw_blind zw_tt, zw_go (hP.sub (ws' := [(q1, .inr (6, [.null, .null, .null, .int 0, .int 0, .int 0, .int 0, .null, .null, .null, .null, .null, .int 0, .int 0, .int 0, .int 0, .int 0, .int 0, .int 0, .int 0, .int 0, .int 0, .int 0, .int 0, .int 0, .int 0, .int 0, .int 0, .int 0, .int 0, .int 0]))]) [9] rfl) (hD.sub (ws' := [(q1, .inr (6, [.null, .null, .null, .int 0, .int 0, .int 0, .int 0, .null, .null, .null, .null, .null, .int 0, .int 0, .int 0, .int 0, .int 0, .int 0, .int 0, .int 0, .int 0, .int 0, .int 0, .int 0, .int 0, .int 0, .int 0, .int 0, .int 0, .int 0, .int 0]))]) [9] (by decide) rfl) (hK.sub (tys' := []) [] rfl) (fun _ _ _ => trivial)⟩ rfl rfl hl.1 rfl (lv_room (Nat.le_of_ble_eq_true rfl)) d_law_12 ⟨Nat.le_of_ble_eq_true rfl, Nat.le_of_ble_eq_true rfl⟩) hP hD hK hS hA [9] [0, 1, 2, 3, 4, 5, 6, 7, 8] rfl rfl (by decide) (by decide) (fun v H locs hu hP hD hK hS => ?_)
  have hu : v.1 20 = q1 := hu
  subst hu
  have hP : va_P D vwCl (wX u.1 u.2 stX0 ++ wD v.1 v.2 (m_reset stD9 (0 : Int32))) H := hP
  have hD : va_D (fun q : Nat => s.heap.size ≤ q) (wX u.1 u.2 stX0 ++ wD v.1 v.2 (m_reset stD9 (0 : Int32))) := hD
  have hK : va_K D vwCl [(u.2 0, .int), (u.2 1, .int), (u.2 2, .char), (v.2 21, .long), (v.2 22, .int), (v.2 23, .int), (v.2 24, .int), (v.2 25, .int), (v.2 26, .int), (v.2 27, .int), (v.2 28, .int)] s := hK
  refine lv_astore_n (lv' := [(2, .ref (v.1 20)), (1, .ref (u.1 6)), (0, .ref b)]) hx hb d_law_15 rfl hl (by decide) rfl (fun ls hl => ?_)
  refine lv_iconst (v := (1 : Int32)) hx hb d_law_16 (by decide) ?_
  refine va_newa (D := D) (atype := .long) hx hb (ht _ zw_948) (ty := .long) rfl hK hP hD hS hA (N' := 1) (a0 := (1, .inr (.inl (fun _ => (0 : Int64))))) (fun _ => rfl) (by decide) rfl (by decide) (Nat.le_of_ble_eq_true rfl) (Nat.le_of_ble_eq_true rfl) d_law_17 (fun o co H hK hP hD hS => ?_)
  have hK : va_K D vwCl (tyZ u.2 v.2 co) s := hK
  have hP : va_P D vwCl (wZ u.1 u.2 v.1 v.2 o co stX0 (m_reset stD9 (0 : Int32)) (fun _ => (0 : Int64))) H := hP.sub [0, 1, 2, 3, 4, 5, 6, 7, 8, 9, 10, 11, 12, 13, 14, 15, 16, 17, 18] rfl
  have hD : va_D (fun q : Nat => s.heap.size ≤ q) (wZ u.1 u.2 v.1 v.2 o co stX0 (m_reset stD9 (0 : Int32)) (fun _ => (0 : Int64))) := hD.sub [0, 1, 2, 3, 4, 5, 6, 7, 8, 9, 10, 11, 12, 13, 14, 15, 16, 17, 18] (by decide) rfl
  refine lv_astore_n (lv' := [(3, .ref o), (2, .ref (v.1 20)), (1, .ref (u.1 6)), (0, .ref b)]) hx hb d_law_19 rfl hl (by decide) rfl (fun ls hl => ?_)
  refine lv_iconst (v := (0 : Int32)) hx hb d_law_20 (by decide) ?_
  refine lv_istore (lv' := [(4, .int (nI 0)), (3, .ref o), (2, .ref (v.1 20)), (1, .ref (u.1 6)), (0, .ref b)]) hx hb d_law_21 hl (by decide) rfl (fun ls hl => ?_)
  refine W.widen (k := 19) (n := 1841) (Nat.le_of_ble_eq_true rfl) (Nat.le_of_ble_eq_true rfl) ?_
  exact law_loop hlt hx hb hml hown ht hX hbl hL hZ hK hr hlocks (L + 1) 0 0 rfl (by omega) (by omega) stX0 (m_reset stD9 (0 : Int32)) (fun _ => (0 : Int64)) H _ ls rw_start hP hD hS (lv_sub hl [4, 3, 2, 1, 0] rfl)
