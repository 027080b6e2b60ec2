/-! THE SEARCH of the class: most, firstTurnTo -/
set_option maxHeartbeats 8000000 in
theorem c_most (l : Launch) (G : ks_G) (base : Nat) (Mx : ks_M) (Lx : ks_L) (i n B : Nat) (hi : i < 27 ∨ 34 ≤ i) (hs : SH[i]? = some kSt) (hn6 : n ≤ 6) (hB : B + n < 200000) (hn : Mx 3 3 ≤ 6) (hS : ∀ q, Mx 6 q < 1000) (hro : rok (Mx 3 3) B (Mx i)) (hJ : Mx i 3 + 1000 * n < 2000000000) : KI l G base (n + 4) yX1_most cX1_most 4 .int [.ref (base + 25), .ref (base + 3), .ref (base + i), .int (nI (n))] SH Mx Lx (fun rr M1 L1 => rr = nI (bst (Mx 6) (Mx 3 3) n (Mx i)) ∧ (∀ a, (a < 27 ∨ 34 ≤ a) → M1 a = Mx a) ∧ L1 = Lx) := by
  refine k_meti (by decide) (Nat.le_of_ble_eq_true rfl) (fun K hK X Y => ?_)
  subst hK
  refine r_pl [(0, .ref (base + 25)), (1, .ref (base + 3)), (2, .ref (base + i)), (3, .int (nI (n)))] ⟨rfl, rfl, rfl, rfl, trivial⟩ ?_
  refine r_iload_n (q := 1) (i := 3) (j := 3) (x := nI (n)) X rfl rfl dX1_most_0 rfl ?_
  refine r_if_lt (q := 4) (tgt := 13) X (by decide) dX1_most_1 rfl (fun c1 => ?_) (fun c1 => ?_)
  · replace c1 : n < 0 := (kI_lt0 (by omega)).mp c1
    exfalso; omega
  · replace c1 : ¬ n < 0 := fun h => c1 ((kI_lt0 (by omega)).mpr h)
    refine r_iload_n (q := 5) (i := 3) (j := 3) (x := nI (n)) X rfl rfl dX1_most_4 rfl ?_
    refine r_aload_n (q := 6) (i := 0) (j := 0) (x := base + 25) X rfl rfl dX1_most_5 rfl ?_
    refine r_getf (q := 9) (i := 25) (v := .ref (base + 26)) X fk_X1_13 kh_25 rfl rfl dX1_most_6 rfl ?_
    refine r_alen (q := 10) (i := 26) (n := 7) X kh_26 dX1_most_9 rfl ?_
    refine r_icmp_lt (q := 13) (tgt := 15) X (by decide) dX1_most_10 rfl (fun c10 => ?_) (fun c10 => ?_)
    · replace c10 : n < 7 := (nI_ltI (by omega) (by omega)).mp c10
      refine r_aload_n (q := 16) (i := 0) (j := 0) (x := base + 25) X rfl rfl dX1_most_15 rfl ?_
      refine r_getf (q := 19) (i := 25) (v := .ref (base + 26)) X fk_X1_13 kh_25 rfl rfl dX1_most_16 rfl ?_
      refine r_iload_n (q := 20) (i := 3) (j := 3) (x := nI (n)) X rfl rfl dX1_most_19 rfl ?_
      refine r_aald (q := 21) (i := 26) (j := n) (t := 27 + n) X kh_26 (by omega) (Nat.le_of_ble_eq_true rfl) (kd26 (by omega)) dX1_most_20 rfl ?_
      refine r_aload_n (q := 22) (i := 2) (j := 2) (x := base + i) X rfl rfl dX1_most_21 rfl ?_
      refine r_callVv (q := 25) X (c_copy K.2.1 G base Mx Lx (27 + n) (kh_lev (by omega)) i hs (by omega)) (kh_lev (by omega)) rfl ks_RX1_26 (by omega) (by decide) ⟨Nat.zero_le _, Nat.zero_le _⟩ rfl (Nat.le_of_ble_eq_true rfl) dX1_most_22 rfl (fun M1 L1 hp => ?_)
      obtain ⟨e2, e3⟩ := hp
      replace e2 := e2.symm
      subst e2
      replace e3 := e3.symm
      subst e3
      refine r_aload_n (q := 26) (i := 1) (j := 1) (x := base + 3) X rfl rfl dX1_most_25 rfl ?_
      refine r_aload_n (q := 27) (i := 0) (j := 0) (x := base + 25) X rfl rfl dX1_most_26 rfl ?_
      refine r_getf (q := 30) (i := 25) (v := .ref (base + 26)) X fk_X1_13 kh_25 rfl rfl dX1_most_27 rfl ?_
      refine r_iload_n (q := 31) (i := 3) (j := 3) (x := nI (n)) X rfl rfl dX1_most_30 rfl ?_
      refine r_callSi (q := 34) X (c_mostBelow n hn6 K.2.1 G base (sr Mx (27 + n) (cp7 (Mx (27 + n)) (Mx i))) Lx B hB (by rw [sr_o (by omega)]; exact hn) (fun q => by rw [sr_o (by omega)]; exact hS q) (by rw [sr_s, sr_o (by omega)]; exact cp7_ok hro) (by rw [sr_s]; exact hJ)) ks_RX1_30 (by omega) (by decide) ⟨Nat.zero_le _, Nat.zero_le _⟩ rfl (Nat.le_of_ble_eq_true rfl) dX1_most_31 rfl (fun r M1 L1 hp => ?_)
      obtain ⟨e1, hfr, e3⟩ := hp
      have e9 : M1 i 3 = Mx i 3 := by rw [hfr i (by omega), sr_o (by omega)]
      rw [sr_s, show (sr Mx (27 + n) (cp7 (Mx (27 + n)) (Mx i))) 6 = Mx 6 from sr_o (by omega), show (sr Mx (27 + n) (cp7 (Mx (27 + n)) (Mx i))) 3 = Mx 3 from sr_o (by omega), bst_al n (cp7_al (Mx (27 + n)) (Mx i)), show cp7 (Mx (27 + n)) (Mx i) 3 = Mx i 3 from rfl] at e1
      subst e1
      replace e3 := e3.symm
      subst e3
      refine r_aload_n (q := 35) (i := 2) (j := 2) (x := base + i) X rfl rfl dX1_most_34 rfl ?_
      refine r_getf (q := 38) (i := i) (v := .int (nI (M1 i 3))) X fk_X1_34 hs rfl rfl dX1_most_35 rfl ?_
      refine r_isubR (q := 39) (x := nI (Mx i 3 + bst (Mx 6) (Mx 3 3) n (Mx i))) (y := nI (M1 i 3)) (v := nI (bst (Mx 6) (Mx 3 3) n (Mx i))) X (by rw [e9, pk_sub (Nat.le_add_right _ _), Nat.add_sub_cancel_left]) dX1_most_38 rfl ?_
      refine r_iret X Y ?_ dX1_most_39
      exact ⟨rfl, fun a ha => (hfr a (by omega)).trans (sr_o (by omega)), rfl⟩
    · replace c10 : ¬ n < 7 := fun h => c10 ((nI_ltI (by omega) (by omega)).mpr h)
      exfalso; omega
