/-! THE SEARCH of the class: most, firstTurnTo -/
set_option maxHeartbeats 8000000 in
theorem c_most (l : Launch) (G : ks_G) (base : Nat) (Mx : ks_M) (Lx : ks_L) (i n B : Nat) (hi : i < 27 ∨ 34 ≤ i) (hs : SH[i]? = some kSt) (hn6 : n ≤ 6) (hB : B + n < 200000) (hn : Mx 3 3 ≤ 6) (hS : ∀ q, Mx 6 q < 1000) (hro : rok (Mx 3 3) B (Mx i)) (hJ : Mx i 3 + 1000 * n < 2000000000) : KI l G base (n + 4) yX1_most cX1_most 4 .int [.ref (base + 25), .ref (base + 3), .ref (base + i), .int (nI (n))] SH Mx Lx (fun rr M1 L1 => rr = nI (bst (Mx 6) (Mx 3 3) n (Mx i)) ∧ (∀ a, (a < 27 ∨ 34 ≤ a) → M1 a = Mx a) ∧ L1 = Lx) := by
  refine k_meti (by decide) (Nat.le_of_ble_eq_true rfl) (fun K hK X Y => ?_)
  subst hK
  refine r_pl [(0, .ref (base + 25)), (1, .ref (base + 3)), (2, .ref (base + i)), (3, .int (nI (n)))] ⟨rfl, rfl, rfl, rfl, trivial⟩ ?_
  refine r_iload_n (q := 1) (i := 3) (j := 3) (x := nI (n)) X rfl rfl dX1_most_0 rfl ?_
  refine r_if_lt (q := 4) (tgt := 13) X (by decide) dX1_most_1 rfl (fun c1 => ?_) (fun c1 => ?_)
  · replace c1 : n < 0 := (kI_lt0 (by omega)).mp c1
    exfalso; omega
  · replace c1 : ¬ n < 0 := fun h => c1 ((kI_lt0 (by omega)).mpr h)
    refine r_iload_n (q := 5) (i := 3) (j := 3) (x := nI (n)) X rfl rfl dX1_most_4 rfl ?_
    refine r_aload_n (q := 6) (i := 0) (j := 0) (x := base + 25) X rfl rfl dX1_most_5 rfl ?_
    refine r_getf (q := 9) (i := 25) (v := .ref (base + 26)) X fk_X1_13 kh_25 rfl rfl dX1_most_6 rfl ?_
    refine r_alen (q := 10) (i := 26) (n := 7) X kh_26 dX1_most_9 rfl ?_
    refine r_icmp_lt (q := 13) (tgt := 15) X (by decide) dX1_most_10 rfl (fun c10 => ?_) (fun c10 => ?_)
    · replace c10 : n < 7 := (nI_ltI (by omega) (by omega)).mp c10
      refine r_aload_n (q := 16) (i := 0) (j := 0) (x := base + 25) X rfl rfl dX1_most_15 rfl ?_
      refine r_getf (q := 19) (i := 25) (v := .ref (base + 26)) X fk_X1_13 kh_25 rfl rfl dX1_most_16 rfl ?_
      refine r_iload_n (q := 20) (i := 3) (j := 3) (x := nI (n)) X rfl rfl dX1_most_19 rfl ?_
      refine r_aald (q := 21) (i := 26) (j := n) (t := 27 + n) X kh_26 (by omega) (Nat.le_of_ble_eq_true rfl) (kd26 (by omega)) dX1_most_20 rfl ?_
      refine r_aload_n (q := 22) (i := 2) (j := 2) (x := base + i) X rfl rfl dX1_most_21 rfl ?_
      refine r_callVv (q := 25) X (c_copy K.2.1 G base Mx Lx (27 + n) (kh_lev (by omega)) i hs (by omega)) (kh_lev (by omega)) rfl ks_RX1_26 (by omega) (by decide) ⟨Nat.zero_le _, Nat.zero_le _⟩ rfl (Nat.le_of_ble_eq_true rfl) dX1_most_22 rfl (fun M1 L1 hp => ?_)
      obtain ⟨e2, e3⟩ := hp
      replace e2 := e2.symm
      subst e2
      replace e3 := e3.symm
      subst e3
      refine r_aload_n (q := 26) (i := 1) (j := 1) (x := base + 3) X rfl rfl dX1_most_25 rfl ?_
      refine r_aload_n (q := 27) (i := 0) (j := 0) (x := base + 25) X rfl rfl dX1_most_26 rfl ?_
      refine r_getf (q := 30) (i := 25) (v := .ref (base + 26)) X fk_X1_13 kh_25 rfl rfl dX1_most_27 rfl ?_
      refine r_iload_n (q := 31) (i := 3) (j := 3) (x := nI (n)) X rfl rfl dX1_most_30 rfl ?_
      refine r_callSi (q := 34) X (c_mostBelow n hn6 K.2.1 G base (sr Mx (27 + n) (cp7 (Mx (27 + n)) (Mx i))) Lx B hB (by rw [sr_o (by omega)]; exact hn) (fun q => by rw [sr_o (by omega)]; exact hS q) (by rw [sr_s, sr_o (by omega)]; exact cp7_ok hro) (by rw [sr_s]; exact hJ)) ks_RX1_30 (by omega) (by decide) ⟨Nat.zero_le _, Nat.zero_le _⟩ rfl (Nat.le_of_ble_eq_true rfl) dX1_most_31 rfl (fun r M1 L1 hp => ?_)
      obtain ⟨e1, hfr, e3⟩ := hp
      have e9 : M1 i 3 = Mx i 3 := by rw [hfr i (by omega), sr_o (by omega)]
      rw [sr_s, show (sr Mx (27 + n) (cp7 (Mx (27 + n)) (Mx i))) 6 = Mx 6 from sr_o (by omega), show (sr Mx (27 + n) (cp7 (Mx (27 + n)) (Mx i))) 3 = Mx 3 from sr_o (by omega), bst_al n (cp7_al (Mx (27 + n)) (Mx i)), show cp7 (Mx (27 + n)) (Mx i) 3 = Mx i 3 from rfl] at e1
      subst e1
      replace e3 := e3.symm
      subst e3
      refine r_aload_n (q := 35) (i := 2) (j := 2) (x := base + i) X rfl rfl dX1_most_34 rfl ?_
      refine r_getf (q := 38) (i := i) (v := .int (nI (M1 i 3))) X fk_X1_34 hs rfl rfl dX1_most_35 rfl ?_
      refine r_isubR (q := 39) (x := nI (Mx i 3 + bst (Mx 6) (Mx 3 3) n (Mx i))) (y := nI (M1 i 3)) (v := nI (bst (Mx 6) (Mx 3 3) n (Mx i))) X (by rw [e9, pk_sub (Nat.le_add_right _ _), Nat.add_sub_cancel_left]) dX1_most_38 rfl ?_
      refine r_iret X Y ?_ dX1_most_39
      exact ⟨rfl, fun a ha => (hfr a (by omega)).trans (sr_o (by omega)), rfl⟩
    · replace c10 : ¬ n < 7 := fun h => c10 ((nI_ltI (by omega) (by omega)).mpr h)
      exfalso; omega
/-- turn t is possible and still leads to g in m further turns -/
def gd (S : Nat → Nat) (n m : Nat) (x : Nat → Nat) (g t : Nat) : Prop := cn n x t = 1 ∧ tk S x t 3 + bst S n m (tk S x t) = g
set_option maxHeartbeats 8000000 in
theorem c_firstTurnTo (l : Launch) (G : ks_G) (base : Nat) (Mx : ks_M) (Lx : ks_L) (g m B : Nat) (hm5 : m ≤ 5) (hg : g < 2147483648) (hB : B + 1 + m < 200000) (hn : Mx 3 3 ≤ 6) (hS : ∀ q, Mx 6 q < 1000) (hro : rok (Mx 3 3) B (Mx 34)) (hJ : Mx 34 3 + 1000 * (m + 1) < 2000000000) : KI l G base (m + 4) yX1_firstTurnTo cX1_firstTurnTo 5 .int [.ref (base + 25), .ref (base + 3), .int (nI (g)), .int (nI (m))] SH Mx Lx (fun rr M1 L1 => ∃ t, rr = nI t ∧ t ≤ 3 ∧ (t < 3 → gd (Mx 6) (Mx 3 3) m (Mx 34) g t) ∧ (∀ s, s < t → ¬ gd (Mx 6) (Mx 3 3) m (Mx 34) g s) ∧ (∀ a, (a < 27 ∨ 34 ≤ a) → M1 a = Mx a) ∧ L1 = Lx) := by
  refine k_meti (by decide) (Nat.le_of_ble_eq_true rfl) (fun K hK X Y => ?_)
  subst hK
  refine r_pl [(0, .ref (base + 25)), (1, .ref (base + 3)), (2, .int (nI (g))), (3, .int (nI (m)))] ⟨rfl, rfl, rfl, rfl, trivial⟩ ?_
  refine r_iconst (q := 1) (v := nI 0) X kc_0 dX1_firstTurnTo_0 rfl ?_
  refine r_istore (q := 3) (i := 4) X (Nat.le_of_ble_eq_true rfl) dX1_firstTurnTo_1 rfl ?_
  have lp : ∀ (fuel : Nat) (t : Nat) (Mv : ks_M), 3 - t < fuel → (t ≤ 3) → ((∀ a, (a < 27 ∨ 34 ≤ a) → Mv a = Mx a)) → (∀ s, s < t → ¬ gd (Mx 6) (Mx 3 3) m (Mx 34) g s) → RN K G base 5 0 0 SH Mv Lx 3 [(0, .ref (base + 25)), (1, .ref (base + 3)), (2, .int (nI (g))), (3, .int (nI (m))), (4, .int (nI (t)))] [] := by
    intro fuel
    induction fuel with
    | zero => intro t Mv hfu; exact absurd hfu (Nat.not_lt_zero _)
    | succ fuel ih =>
      intro t Mv hfu ht3 hfr hno
      refine r_iload (q := 5) (i := 4) (x := nI (t)) X rfl dX1_firstTurnTo_3 rfl ?_
      refine r_iconst (q := 6) (v := nI 3) X kc_3 dX1_firstTurnTo_5 rfl ?_
      refine r_icmp_ge (q := 9) (tgt := 79) X (by decide) dX1_firstTurnTo_6 rfl (fun c6 => ?_) (fun c6 => ?_)
      · replace c6 : 3 ≤ t := (nI_leI (by omega) (by omega)).mp c6
        refine r_iconst (q := 80) (v := nI 3) X kc_3 dX1_firstTurnTo_79 rfl ?_
        refine r_iret X Y ?_ dX1_firstTurnTo_80
        obtain rfl : t = 3 := by omega
        exact ⟨3, rfl, Nat.le_refl _, fun h => absurd h (by decide), hno, hfr, rfl⟩
      · replace c6 : ¬ 3 ≤ t := fun h => c6 ((nI_leI (by omega) (by omega)).mpr h)
        refine r_iload_n (q := 10) (i := 3) (j := 3) (x := nI (m)) X rfl rfl dX1_firstTurnTo_9 rfl ?_
        refine r_aload_n (q := 11) (i := 0) (j := 0) (x := base + 25) X rfl rfl dX1_firstTurnTo_10 rfl ?_
        refine r_getf (q := 14) (i := 25) (v := .ref (base + 26)) X fk_X1_13 kh_25 rfl rfl dX1_firstTurnTo_11 rfl ?_
        refine r_alen (q := 15) (i := 26) (n := 7) X kh_26 dX1_firstTurnTo_14 rfl ?_
        refine r_icmp_ge (q := 18) (tgt := 79) X (by decide) dX1_firstTurnTo_15 rfl (fun c15 => ?_) (fun c15 => ?_)
        · replace c15 : 7 ≤ m := (nI_leI (by omega) (by omega)).mp c15
          exfalso; omega
        · replace c15 : ¬ 7 ≤ m := fun h => c15 ((nI_leI (by omega) (by omega)).mpr h)
          refine r_aload_n (q := 19) (i := 0) (j := 0) (x := base + 25) X rfl rfl dX1_firstTurnTo_18 rfl ?_
          refine r_getf (q := 22) (i := 25) (v := .ref (base + 34)) X fk_X1_22 kh_25 rfl rfl dX1_firstTurnTo_19 rfl ?_
          refine r_aload_n (q := 23) (i := 1) (j := 1) (x := base + 3) X rfl rfl dX1_firstTurnTo_22 rfl ?_
          refine r_iload (q := 25) (i := 4) (x := nI (t)) X rfl dX1_firstTurnTo_23 rfl ?_
          refine r_callVi (q := 28) X (c_can K.2.1 G base Mv Lx 34 kh_34 t (by omega) (by rw [(hfr 34 (Or.inr (Nat.le_refl _)))]; have := hro.1; omega) (by rw [(hfr 34 (Or.inr (Nat.le_refl _)))]; have := hro.2.2.1; omega) (by rw [(hfr 3 (Or.inl (by decide)))]; omega)) kh_34 rfl ks_RX1_50 (by omega) (by decide) ⟨Nat.zero_le _, Nat.zero_le _⟩ rfl (Nat.le_of_ble_eq_true rfl) dX1_firstTurnTo_25 rfl (fun r M1 L1 hp => ?_)
          rw [(hfr 3 (Or.inl (by decide))), (hfr 34 (Or.inr (Nat.le_refl _)))] at hp
          obtain ⟨e1, e2, e3⟩ := hp
          subst e1
          replace e2 := e2.symm
          subst e2
          replace e3 := e3.symm
          subst e3
          have hcn2 := cn_2 (Mx 3 3) (Mx 34) t
          refine r_if_eq (q := 31) (tgt := 73) X (by decide) dX1_firstTurnTo_28 rfl (fun c28 => ?_) (fun c28 => ?_)
          · replace c28 : (cn (Mx 3 3) (Mx 34) t) = 0 := (kI_eq0 (by omega)).mp c28
            refine r_iinc (q := 76) (i := 4) (x := nI (t)) (v := nI (t + 1)) X rfl (Nat.le_of_ble_eq_true rfl) (kinc 1 rfl) dX1_firstTurnTo_73 rfl ?_
            refine r_goto (tgt := 3) X (by decide) dX1_firstTurnTo_76 ?_
            refine r_pl [(0, .ref (base + 25)), (1, .ref (base + 3)), (2, .int (nI (g))), (3, .int (nI (m))), (4, .int (nI (t + 1)))] ⟨rfl, rfl, rfl, rfl, rfl, trivial⟩ ?_
            exact ih (t + 1) Mv (by omega) (by omega) hfr (fun s hs h => by rcases Nat.lt_succ_iff_lt_or_eq.mp hs with h9 | rfl; exact hno s h9 h; have h1 := h.1; have h2 := h.2; omega)
          · replace c28 : ¬ (cn (Mx 3 3) (Mx 34) t) = 0 := fun h => (c28 ((kI_eq0 (by omega)).mpr h))
            refine r_aload_n (q := 32) (i := 0) (j := 0) (x := base + 25) X rfl rfl dX1_firstTurnTo_31 rfl ?_
            refine r_getf (q := 35) (i := 25) (v := .ref (base + 26)) X fk_X1_13 kh_25 rfl rfl dX1_firstTurnTo_32 rfl ?_
            refine r_iload_n (q := 36) (i := 3) (j := 3) (x := nI (m)) X rfl rfl dX1_firstTurnTo_35 rfl ?_
            refine r_aald (q := 37) (i := 26) (j := m) (t := 27 + m) X kh_26 (by omega) (Nat.le_of_ble_eq_true rfl) (kd26 (by omega)) dX1_firstTurnTo_36 rfl ?_
            refine r_aload_n (q := 38) (i := 0) (j := 0) (x := base + 25) X rfl rfl dX1_firstTurnTo_37 rfl ?_
            refine r_getf (q := 41) (i := 25) (v := .ref (base + 34)) X fk_X1_22 kh_25 rfl rfl dX1_firstTurnTo_38 rfl ?_
            refine r_callVv (q := 44) X (c_copy K.2.1 G base Mv Lx (27 + m) (kh_lev (by omega)) 34 kh_34 (by omega)) (kh_lev (by omega)) rfl ks_RX1_26 (by omega) (by decide) ⟨Nat.zero_le _, Nat.zero_le _⟩ rfl (Nat.le_of_ble_eq_true rfl) dX1_firstTurnTo_41 rfl (fun M1 L1 hp => ?_)
            rw [(hfr 34 (Or.inr (Nat.le_refl _)))] at hp
            obtain ⟨e2, e3⟩ := hp
            replace e2 := e2.symm
            subst e2
            replace e3 := e3.symm
            subst e3
            refine r_aload_n (q := 45) (i := 0) (j := 0) (x := base + 25) X rfl rfl dX1_firstTurnTo_44 rfl ?_
            refine r_getf (q := 48) (i := 25) (v := .ref (base + 26)) X fk_X1_13 kh_25 rfl rfl dX1_firstTurnTo_45 rfl ?_
            refine r_iload_n (q := 49) (i := 3) (j := 3) (x := nI (m)) X rfl rfl dX1_firstTurnTo_48 rfl ?_
            refine r_aald (q := 50) (i := 26) (j := m) (t := 27 + m) X kh_26 (by omega) (Nat.le_of_ble_eq_true rfl) (kd26 (by omega)) dX1_firstTurnTo_49 rfl ?_
            refine r_aload_n (q := 51) (i := 1) (j := 1) (x := base + 3) X rfl rfl dX1_firstTurnTo_50 rfl ?_
            refine r_iload (q := 53) (i := 4) (x := nI (t)) X rfl dX1_firstTurnTo_51 rfl ?_
            refine r_callVi (q := 56) X (c_take K.2.1 G base (sr Mv (27 + m) (cp7 (Mv (27 + m)) (Mx 34))) Lx (27 + m) (kh_lev (by omega)) t (by omega) (by rw [sr_s]; exact hro.1) (by rw [sr_s]; have h9 := hro.2.2.2.1; show (Mx 34) 2 < _; omega) (by rw [sr_s]; have h9 := hro.2.2.2.2.1; show (Mx 34) 4 < _; omega) (by rw [sr_s]; have h9 := hro.2.2.2.2.2.1; show (Mx 34) 5 < _; omega) (by rw [sr_s]; have h9 := hro.2.2.2.2.2.2; show (Mx 34) 6 < _; omega) (fun h => by rw [sr_s]; have h9 : cn (Mx 3 3) (Mx 34) t = 1 := (by omega); rw [h] at h9; exact cn_0 h9) (fun h => by rw [sr_s]; have h9 : cn (Mx 3 3) (Mx 34) t = 1 := (by omega); rw [h] at h9; exact cn_look h9)) (kh_lev (by omega)) rfl ks_RX1_46 (by omega) (by decide) ⟨Nat.zero_le _, Nat.zero_le _⟩ rfl (Nat.le_of_ble_eq_true rfl) dX1_firstTurnTo_53 rfl (fun r M1 L1 hp => ?_)
            rw [sr_s, show (sr Mv (27 + m) (cp7 (Mv (27 + m)) (Mx 34))) 6 = Mx 6 from (sr_o (by omega)).trans (hfr 6 (Or.inl (by decide))), sr_sr] at hp
            obtain ⟨e1, e2, e3⟩ := hp
            subst e1
            replace e2 := e2.symm
            subst e2
            replace e3 := e3.symm
            subst e3
            refine r_pop (q := 57) X rfl dX1_firstTurnTo_56 rfl ?_
            refine r_aload_n (q := 58) (i := 1) (j := 1) (x := base + 3) X rfl rfl dX1_firstTurnTo_57 rfl ?_
            refine r_aload_n (q := 59) (i := 0) (j := 0) (x := base + 25) X rfl rfl dX1_firstTurnTo_58 rfl ?_
            refine r_getf (q := 62) (i := 25) (v := .ref (base + 26)) X fk_X1_13 kh_25 rfl rfl dX1_firstTurnTo_59 rfl ?_
            refine r_iload_n (q := 63) (i := 3) (j := 3) (x := nI (m)) X rfl rfl dX1_firstTurnTo_62 rfl ?_
            refine r_callSi (q := 66) X (c_mostBelow m (by omega) K.2.1 G base (sr Mv (27 + m) (tk (Mx 6) (cp7 (Mv (27 + m)) (Mx 34)) t)) Lx (B + 1) (by omega) (by rw [sr_o (by omega), (hfr 3 (Or.inl (by decide)))]; exact hn) (fun q => by rw [sr_o (by omega), (hfr 6 (Or.inl (by decide)))]; exact hS q) (by rw [sr_s, sr_o (by omega), (hfr 3 (Or.inl (by decide)))]; exact tk_ok hn (cp7_ok hro) (by show cn (Mx 3 3) (Mx 34) t = 1; omega) (by omega)) (by rw [sr_s, tk_3v _ _ (by omega)]; show (Mx 34) 3 + (if t = 2 then gn (Mx 6) (Mx 34) else 0) + 1000 * m < _; have h8 := gn_1000 hS (Mx 34); split <;> omega)) ks_RX1_30 (by omega) (by decide) ⟨Nat.zero_le _, Nat.zero_le _⟩ rfl (Nat.le_of_ble_eq_true rfl) dX1_firstTurnTo_63 rfl (fun r M1 L1 hp => ?_)
            obtain ⟨e1, hfr2, e3⟩ := hp
            rw [sr_s, show (sr Mv (27 + m) (tk (Mx 6) (cp7 (Mv (27 + m)) (Mx 34)) t)) 6 = Mx 6 from (sr_o (by omega)).trans (hfr 6 (Or.inl (by decide))), show (sr Mv (27 + m) (tk (Mx 6) (cp7 (Mv (27 + m)) (Mx 34)) t)) 3 = Mx 3 from (sr_o (by omega)).trans (hfr 3 (Or.inl (by decide))), bst_al m (tk_al (t := t) (cp7_al (Mv (27 + m)) (Mx 34))), tk_al (S := Mx 6) (t := t) (cp7_al (Mv (27 + m)) (Mx 34)) 3 (by decide)] at e1
            subst e1
            replace e3 := e3.symm
            subst e3
            have hv3 := tk_3v (Mx 6) (Mx 34) (show t < 4 by omega)
            have hg8 : (if t = 2 then gn (Mx 6) (Mx 34) else 0) < 1000 := by split; exact gn_1000 hS _; decide
            have hbs := bst_le hS (Mx 3 3) m (tk (Mx 6) (Mx 34) t)
            refine r_iload_n (q := 67) (i := 2) (j := 2) (x := nI (g)) X rfl rfl dX1_firstTurnTo_66 rfl ?_
            refine r_icmp_ne (q := 70) (tgt := 73) X (by decide) dX1_firstTurnTo_67 rfl (fun c67 => ?_) (fun c67 => ?_)
            · replace c67 : ¬ ((tk (Mx 6) (Mx 34) t) 3 + bst (Mx 6) (Mx 3 3) m (tk (Mx 6) (Mx 34) t)) = g := fun h => c67 ((kI_eq (by omega) (by omega)).mpr h)
              refine r_iinc (q := 76) (i := 4) (x := nI (t)) (v := nI (t + 1)) X rfl (Nat.le_of_ble_eq_true rfl) (kinc 1 rfl) dX1_firstTurnTo_73 rfl ?_
              refine r_goto (tgt := 3) X (by decide) dX1_firstTurnTo_76 ?_
              refine r_pl [(0, .ref (base + 25)), (1, .ref (base + 3)), (2, .int (nI (g))), (3, .int (nI (m))), (4, .int (nI (t + 1)))] ⟨rfl, rfl, rfl, rfl, rfl, trivial⟩ ?_
              exact ih (t + 1) M1 (by omega) (by omega) (fun a ha => (hfr2 a (by omega)).trans ((sr_o (by omega)).trans (hfr a ha))) (fun s hs h => by rcases Nat.lt_succ_iff_lt_or_eq.mp hs with h9 | rfl; exact hno s h9 h; have h1 := h.1; have h2 := h.2; omega)
            · replace c67 : ((tk (Mx 6) (Mx 34) t) 3 + bst (Mx 6) (Mx 3 3) m (tk (Mx 6) (Mx 34) t)) = g := (kI_eq (by omega) (by omega)).mp c67
              refine r_iload (q := 72) (i := 4) (x := nI (t)) X rfl dX1_firstTurnTo_70 rfl ?_
              refine r_iret X Y ?_ dX1_firstTurnTo_72
              exact ⟨t, rfl, by omega, fun _ => ⟨by omega, by omega⟩, hno, fun a ha => (hfr2 a (by omega)).trans ((sr_o (by omega)).trans (hfr a ha)), rfl⟩
  refine r_pl [(0, .ref (base + 25)), (1, .ref (base + 3)), (2, .int (nI (g))), (3, .int (nI (m))), (4, .int (nI (0)))] ⟨rfl, rfl, rfl, rfl, rfl, trivial⟩ ?_
  exact lp 4 0 Mx (by omega) (by omega) (fun a _ => rfl) (fun s h => absurd h (Nat.not_lt_zero _))
