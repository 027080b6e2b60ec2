/-! THE TEXT of the class -/
def isd (c most : Nat) : Nat := if 48 ≤ c ∧ c ≤ 48 + most then 1 else 0
def fitn (T : Nat → Nat) (p : Nat) : Nat := if p = 0 then (if T 0 = 78 then 1 else 0) else if p = 1 then isd (T 1) 9 else if (p - 2) % 5 = 0 then (if T p = 72 ∧ (p - 2) / 5 < 6 then 1 else 0) else isd (T p) (if (p - 2) % 5 = 1 then 3 else 9)
theorem isd_2 (c most : Nat) : isd c most < 2 := by unfold isd; split <;> omega
theorem k_nar {n : Nat} (h : n < 2) : narrow .boolean (.int (nI n)) = .int (nI n) := by
  rcases (show n = 0 ∨ n = 1 by omega) with rfl | rfl <;> rfl
theorem kd_lt {c : Nat} (h : c < 1000) : (nI c - nI 48 < 0) ↔ c < 48 := by
  rw [fa_lt, pk_sub_toInt (by omega) (by decide)]
  show (c : Int) - 48 < 0 ↔ _
  omega
theorem kd_gt {c m : Nat} (h : c < 1000) (hm : m < 1000) : (nI m < nI c - nI 48) ↔ m + 48 < c := by
  rw [fa_lt, pk_sub_toInt (by omega) (by decide), nI_toInt (by omega)]
  omega
set_option maxHeartbeats 8000000 in
theorem c_at (l : Launch) (G : ks_G) (base : Nat) (Mx : ks_M) (Lx : ks_L) (p : Nat) (hp : p < Mx 1 1) (hlen : Mx 1 1 ≤ 48) : KI l G base 0 yX5_at cX5_at 2 .int [.ref (base + 1), .int (nI (p))] SH Mx Lx (fun rr M1 L1 => rr = nI (Mx 2 p) ∧ M1 = Mx ∧ L1 = Lx) := by
  refine k_meti (by decide) (Nat.le_of_ble_eq_true rfl) (fun K hK X Y => ?_)
  subst hK
  refine r_pl [(0, .ref (base + 1)), (1, .int (nI (p)))] ⟨rfl, rfl, trivial⟩ ?_
  refine r_iload_n (q := 1) (i := 1) (j := 1) (x := nI (p)) X rfl rfl dX5_at_0 rfl ?_
  refine r_if_lt (q := 4) (tgt := 30) X (by decide) dX5_at_1 rfl (fun c1 => ?_) (fun c1 => ?_)
  · replace c1 : p < 0 := (kI_lt0 (by omega)).mp c1
    exfalso; omega
  · replace c1 : ¬ p < 0 := fun h => c1 ((kI_lt0 (by omega)).mpr h)
    refine r_iload_n (q := 5) (i := 1) (j := 1) (x := nI (p)) X rfl rfl dX5_at_4 rfl ?_
    refine r_aload_n (q := 6) (i := 0) (j := 0) (x := base + 1) X rfl rfl dX5_at_5 rfl ?_
    refine r_getf (q := 9) (i := 1) (v := .int (nI (Mx 1 1))) X fk_X5_15 kh_1 rfl rfl dX5_at_6 rfl ?_
    refine r_icmp_ge (q := 12) (tgt := 30) X (by decide) dX5_at_9 rfl (fun c9 => ?_) (fun c9 => ?_)
    · replace c9 : (Mx 1 1) ≤ p := (nI_leI (by omega) (by omega)).mp c9
      exfalso; omega
    · replace c9 : ¬ (Mx 1 1) ≤ p := fun h => c9 ((nI_leI (by omega) (by omega)).mpr h)
      refine r_iload_n (q := 13) (i := 1) (j := 1) (x := nI (p)) X rfl rfl dX5_at_12 rfl ?_
      refine r_aload_n (q := 14) (i := 0) (j := 0) (x := base + 1) X rfl rfl dX5_at_13 rfl ?_
      refine r_getf (q := 17) (i := 1) (v := .ref (base + 2)) X fk_X5_9 kh_1 rfl rfl dX5_at_14 rfl ?_
      refine r_alen (q := 18) (i := 2) (n := 48) X kh_2 dX5_at_17 rfl ?_
      refine r_icmp_ge (q := 21) (tgt := 30) X (by decide) dX5_at_18 rfl (fun c18 => ?_) (fun c18 => ?_)
      · replace c18 : 48 ≤ p := (nI_leI (by omega) (by omega)).mp c18
        exfalso; omega
      · replace c18 : ¬ 48 ≤ p := fun h => c18 ((nI_leI (by omega) (by omega)).mpr h)
        refine r_aload_n (q := 22) (i := 0) (j := 0) (x := base + 1) X rfl rfl dX5_at_21 rfl ?_
        refine r_getf (q := 25) (i := 1) (v := .ref (base + 2)) X fk_X5_9 kh_1 rfl rfl dX5_at_22 rfl ?_
        refine r_iload_n (q := 26) (i := 1) (j := 1) (x := nI (p)) X rfl rfl dX5_at_25 rfl ?_
        refine r_iald (q := 27) (i := 2) (j := p) (v := Mx 2 p) X kh_2 (by omega) (Nat.le_of_ble_eq_true rfl) rfl dX5_at_26 rfl ?_
        refine r_goto (tgt := 31) X (by decide) dX5_at_27 ?_
        refine r_iret X Y ?_ dX5_at_31
        exact ⟨rfl, rfl, rfl⟩
set_option maxHeartbeats 8000000 in
theorem c_digitAt (l : Launch) (G : ks_G) (base : Nat) (Mx : ks_M) (Lx : ks_L) (p : Nat) (hp : p < Mx 1 1) (hlen : Mx 1 1 ≤ 48) : KI l G base 1 yX5_digitAt cX5_digitAt 2 .int [.ref (base + 1), .int (nI (p))] SH Mx Lx (fun rr M1 L1 => rr = nI (Mx 2 p) - nI 48 ∧ M1 = Mx ∧ L1 = Lx) := by
  refine k_meti (by decide) (Nat.le_of_ble_eq_true rfl) (fun K hK X Y => ?_)
  subst hK
  refine r_pl [(0, .ref (base + 1)), (1, .int (nI (p)))] ⟨rfl, rfl, trivial⟩ ?_
  refine r_aload_n (q := 1) (i := 0) (j := 0) (x := base + 1) X rfl rfl dX5_digitAt_0 rfl ?_
  refine r_iload_n (q := 2) (i := 1) (j := 1) (x := nI (p)) X rfl rfl dX5_digitAt_1 rfl ?_
  refine r_callVi (q := 5) X (c_at K.2.1 G base Mx Lx p hp hlen) kh_1 rfl ks_RX5_19 (by decide) (by decide) ⟨Nat.zero_le _, Nat.zero_le _⟩ rfl (Nat.le_of_ble_eq_true rfl) dX5_digitAt_2 rfl (fun r M1 L1 hp => ?_)
  obtain ⟨e1, e2, e3⟩ := hp
  subst e1
  replace e2 := e2.symm
  subst e2
  replace e3 := e3.symm
  subst e3
  refine r_bipush (q := 7) (v := nI 48) X kb_48 dX5_digitAt_5 rfl ?_
  refine r_isubR (q := 8) (x := nI (Mx 2 p)) (y := nI 48) (v := nI (Mx 2 p) - nI 48) X rfl dX5_digitAt_7 rfl ?_
  refine r_iret X Y ?_ dX5_digitAt_8
  exact ⟨rfl, rfl, rfl⟩
set_option maxHeartbeats 8000000 in
theorem c_isDigit (l : Launch) (G : ks_G) (base : Nat) (Mx : ks_M) (Lx : ks_L) (p m : Nat) (hp : p < Mx 1 1) (hlen : Mx 1 1 ≤ 48) (hb : Mx 2 p < 1000) (hm : m < 1000) : KI l G base 2 yX5_isDigit cX5_isDigit 3 .boolean [.ref (base + 1), .int (nI (p)), .int (nI (m))] SH Mx Lx (fun rr M1 L1 => rr = nI (isd (Mx 2 p) m) ∧ M1 = Mx ∧ L1 = Lx) := by
  refine k_meti (by decide) (Nat.le_of_ble_eq_true rfl) (fun K hK X Y => ?_)
  subst hK
  refine r_pl [(0, .ref (base + 1)), (1, .int (nI (p))), (2, .int (nI (m)))] ⟨rfl, rfl, rfl, trivial⟩ ?_
  refine r_aload_n (q := 1) (i := 0) (j := 0) (x := base + 1) X rfl rfl dX5_isDigit_0 rfl ?_
  refine r_iload_n (q := 2) (i := 1) (j := 1) (x := nI (p)) X rfl rfl dX5_isDigit_1 rfl ?_
  refine r_callVi (q := 5) X (c_digitAt K.2.1 G base Mx Lx p hp hlen) kh_1 rfl ks_RX5_31 (by decide) (by decide) ⟨Nat.zero_le _, Nat.zero_le _⟩ rfl (Nat.le_of_ble_eq_true rfl) dX5_isDigit_2 rfl (fun r M1 L1 hp => ?_)
  obtain ⟨e1, e2, e3⟩ := hp
  subst e1
  replace e2 := e2.symm
  subst e2
  replace e3 := e3.symm
  subst e3
  refine r_if_lt (q := 8) (tgt := 21) X (by decide) dX5_isDigit_5 rfl (fun c5 => ?_) (fun c5 => ?_)
  · skip
    refine r_iconst (q := 22) (v := nI 0) X kc_0 dX5_isDigit_21 rfl ?_
    refine r_zret X Y (by decide) ?_ dX5_isDigit_22
    refine ⟨?_, rfl, rfl⟩
    first | rw [kd_lt hb] at c5 | skip
    first | rw [kd_gt hb hm] at c14 | skip
    unfold isd; first | rw [if_pos (by omega)] | rw [if_neg (by omega)]
  · skip
    refine r_aload_n (q := 9) (i := 0) (j := 0) (x := base + 1) X rfl rfl dX5_isDigit_8 rfl ?_
    refine r_iload_n (q := 10) (i := 1) (j := 1) (x := nI (p)) X rfl rfl dX5_isDigit_9 rfl ?_
    refine r_callVi (q := 13) X (c_digitAt K.2.1 G base Mx Lx p hp hlen) kh_1 rfl ks_RX5_31 (by decide) (by decide) ⟨Nat.zero_le _, Nat.zero_le _⟩ rfl (Nat.le_of_ble_eq_true rfl) dX5_isDigit_10 rfl (fun r M1 L1 hp => ?_)
    obtain ⟨e1, e2, e3⟩ := hp
    subst e1
    replace e2 := e2.symm
    subst e2
    replace e3 := e3.symm
    subst e3
    refine r_iload_n (q := 14) (i := 2) (j := 2) (x := nI (m)) X rfl rfl dX5_isDigit_13 rfl ?_
    refine r_icmp_gt (q := 17) (tgt := 21) X (by decide) dX5_isDigit_14 rfl (fun c14 => ?_) (fun c14 => ?_)
    · skip
      refine r_iconst (q := 22) (v := nI 0) X kc_0 dX5_isDigit_21 rfl ?_
      refine r_zret X Y (by decide) ?_ dX5_isDigit_22
      refine ⟨?_, rfl, rfl⟩
      first | rw [kd_lt hb] at c5 | skip
      first | rw [kd_gt hb hm] at c14 | skip
      unfold isd; first | rw [if_pos (by omega)] | rw [if_neg (by omega)]
    · skip
      refine r_iconst (q := 18) (v := nI 1) X kc_1 dX5_isDigit_17 rfl ?_
      refine r_goto (tgt := 22) X (by decide) dX5_isDigit_18 ?_
      refine r_zret X Y (by decide) ?_ dX5_isDigit_22
      refine ⟨?_, rfl, rfl⟩
      first | rw [kd_lt hb] at c5 | skip
      first | rw [kd_gt hb hm] at c14 | skip
      unfold isd; first | rw [if_pos (by omega)] | rw [if_neg (by omega)]
set_option maxHeartbeats 8000000 in
theorem c_housesTold (l : Launch) (G : ks_G) (base : Nat) (Mx : ks_M) (Lx : ks_L) (h2 : 2 ≤ Mx 1 1) (hlen : Mx 1 1 ≤ 48) : KI l G base 0 yX5_housesTold cX5_housesTold 1 .int [.ref (base + 1)] SH Mx Lx (fun rr M1 L1 => rr = nI ((Mx 1 1 - 2) / 5) ∧ M1 = Mx ∧ L1 = Lx) := by
  refine k_meti (by decide) (Nat.le_of_ble_eq_true rfl) (fun K hK X Y => ?_)
  subst hK
  refine r_pl [(0, .ref (base + 1))] ⟨rfl, trivial⟩ ?_
  refine r_aload_n (q := 1) (i := 0) (j := 0) (x := base + 1) X rfl rfl dX5_housesTold_0 rfl ?_
  refine r_getf (q := 4) (i := 1) (v := .int (nI (Mx 1 1))) X fk_X5_15 kh_1 rfl rfl dX5_housesTold_1 rfl ?_
  refine r_iconst (q := 5) (v := nI 2) X kc_2 dX5_housesTold_4 rfl ?_
  refine r_isubR (q := 6) (x := nI (Mx 1 1)) (y := nI 2) (v := nI ((Mx 1 1) - 2)) X (pk_sub h2) dX5_housesTold_5 rfl ?_
  refine r_iconst (q := 7) (v := nI 5) X kc_5 dX5_housesTold_6 rfl ?_
  refine r_idivR (q := 8) (x := nI ((Mx 1 1) - 2)) (y := nI 5) (v := nI (((Mx 1 1) - 2) / 5)) X (by decide) (pk_div (by omega) (by omega) (by omega)) dX5_housesTold_7 rfl ?_
  refine r_iret X Y ?_ dX5_housesTold_8
  exact ⟨rfl, rfl, rfl⟩
set_option maxHeartbeats 8000000 in
theorem c_fits (l : Launch) (G : ks_G) (base : Nat) (Mx : ks_M) (Lx : ks_L) (p : Nat) (hp : p < Mx 1 1) (hlen : Mx 1 1 ≤ 48) (hby : ∀ k, k < Mx 1 1 → Mx 2 k < 256) : KI l G base 3 yX5_fits cX5_fits 4 .boolean [.ref (base + 1), .int (nI (p))] SH Mx Lx (fun rr M1 L1 => rr = nI (fitn (Mx 2) p) ∧ M1 = Mx ∧ L1 = Lx) := by
  refine k_meti (by decide) (Nat.le_of_ble_eq_true rfl) (fun K hK X Y => ?_)
  subst hK
  refine r_pl [(0, .ref (base + 1)), (1, .int (nI (p)))] ⟨rfl, rfl, trivial⟩ ?_
  refine r_iload_n (q := 1) (i := 1) (j := 1) (x := nI (p)) X rfl rfl dX5_fits_0 rfl ?_
  refine r_if_ne (q := 4) (tgt := 20) X (by decide) dX5_fits_1 rfl (fun c1 => ?_) (fun c1 => ?_)
  · replace c1 : ¬ p = 0 := fun h => c1 ((kI_eq0 (by omega)).mpr h)
    refine r_iload_n (q := 21) (i := 1) (j := 1) (x := nI (p)) X rfl rfl dX5_fits_20 rfl ?_
    refine r_iconst (q := 22) (v := nI 2) X kc_2 dX5_fits_21 rfl ?_
    refine r_icmp_ge (q := 25) (tgt := 33) X (by decide) dX5_fits_22 rfl (fun c22 => ?_) (fun c22 => ?_)
    · replace c22 : 2 ≤ p := (nI_leI (by omega) (by omega)).mp c22
      refine r_iload_n (q := 34) (i := 1) (j := 1) (x := nI (p)) X rfl rfl dX5_fits_33 rfl ?_
      refine r_iconst (q := 35) (v := nI 2) X kc_2 dX5_fits_34 rfl ?_
      refine r_isubR (q := 36) (x := nI (p)) (y := nI 2) (v := nI (p - 2)) X (pk_sub (by omega)) dX5_fits_35 rfl ?_
      refine r_iconst (q := 37) (v := nI 5) X kc_5 dX5_fits_36 rfl ?_
      refine r_idivR (q := 38) (x := nI (p - 2)) (y := nI 5) (v := nI ((p - 2) / 5)) X (by decide) (pk_div (by omega) (by omega) (by omega)) dX5_fits_37 rfl ?_
      refine r_istore_n (q := 39) (i := 2) (j := 2) X rfl (Nat.le_of_ble_eq_true rfl) dX5_fits_38 rfl ?_
      refine r_iload_n (q := 40) (i := 1) (j := 1) (x := nI (p)) X rfl rfl dX5_fits_39 rfl ?_
      refine r_iconst (q := 41) (v := nI 2) X kc_2 dX5_fits_40 rfl ?_
      refine r_isubR (q := 42) (x := nI (p)) (y := nI 2) (v := nI (p - 2)) X (pk_sub (by omega)) dX5_fits_41 rfl ?_
      refine r_iconst (q := 43) (v := nI 5) X kc_5 dX5_fits_42 rfl ?_
      refine r_iremR (q := 44) (x := nI (p - 2)) (y := nI 5) (v := nI ((p - 2) % 5)) X (by decide) (pk_rem (by omega) (by omega) (by omega)) dX5_fits_43 rfl ?_
      refine r_istore_n (q := 45) (i := 3) (j := 3) X rfl (Nat.le_of_ble_eq_true rfl) dX5_fits_44 rfl ?_
      refine r_iload_n (q := 46) (i := 3) (j := 3) (x := nI ((p - 2) % 5)) X rfl rfl dX5_fits_45 rfl ?_
      refine r_if_ne (q := 49) (tgt := 71) X (by decide) dX5_fits_46 rfl (fun c46 => ?_) (fun c46 => ?_)
      · replace c46 : ¬ ((p - 2) % 5) = 0 := fun h => c46 ((kI_eq0 (by omega)).mpr h)
        refine r_aload_n (q := 72) (i := 0) (j := 0) (x := base + 1) X rfl rfl dX5_fits_71 rfl ?_
        refine r_iload_n (q := 73) (i := 1) (j := 1) (x := nI (p)) X rfl rfl dX5_fits_72 rfl ?_
        refine r_iload_n (q := 74) (i := 3) (j := 3) (x := nI ((p - 2) % 5)) X rfl rfl dX5_fits_73 rfl ?_
        refine r_iconst (q := 75) (v := nI 1) X kc_1 dX5_fits_74 rfl ?_
        refine r_icmp_ne (q := 78) (tgt := 82) X (by decide) dX5_fits_75 rfl (fun c75 => ?_) (fun c75 => ?_)
        · replace c75 : ¬ ((p - 2) % 5) = 1 := fun h => c75 ((kI_eq (by omega) (by omega)).mpr h)
          refine r_bipush (q := 84) (v := nI 9) X kb_9 dX5_fits_82 rfl ?_
          refine r_callVi (q := 87) X (c_isDigit K.2.1 G base Mx Lx p 9 hp hlen (by have := hby p hp; omega) (by decide)) kh_1 rfl ks_RX5_27 (by decide) (by decide) ⟨Nat.zero_le _, Nat.zero_le _⟩ rfl (Nat.le_of_ble_eq_true rfl) dX5_fits_84 rfl (fun r M1 L1 hp => ?_)
          obtain ⟨e1, e2, e3⟩ := hp
          subst e1
          replace e2 := e2.symm
          subst e2
          replace e3 := e3.symm
          subst e3
          refine r_zret X Y (k_nar (isd_2 _ _)) ?_ dX5_fits_87
          refine ⟨?_, rfl, rfl⟩
          unfold fitn
          (repeat' split) <;> first | rfl | (exfalso; omega) | (rw [show p = 1 by omega]) | (have hp0 : p = 0 := (by omega); subst hp0; exfalso; omega)
        · replace c75 : ((p - 2) % 5) = 1 := (kI_eq (by omega) (by omega)).mp c75
          refine r_iconst (q := 79) (v := nI 3) X kc_3 dX5_fits_78 rfl ?_
          refine r_goto (tgt := 84) X (by decide) dX5_fits_79 ?_
          refine r_callVi (q := 87) X (c_isDigit K.2.1 G base Mx Lx p 3 hp hlen (by have := hby p hp; omega) (by decide)) kh_1 rfl ks_RX5_27 (by decide) (by decide) ⟨Nat.zero_le _, Nat.zero_le _⟩ rfl (Nat.le_of_ble_eq_true rfl) dX5_fits_84 rfl (fun r M1 L1 hp => ?_)
          obtain ⟨e1, e2, e3⟩ := hp
          subst e1
          replace e2 := e2.symm
          subst e2
          replace e3 := e3.symm
          subst e3
          refine r_zret X Y (k_nar (isd_2 _ _)) ?_ dX5_fits_87
          refine ⟨?_, rfl, rfl⟩
          unfold fitn
          (repeat' split) <;> first | rfl | (exfalso; omega) | (rw [show p = 1 by omega]) | (have hp0 : p = 0 := (by omega); subst hp0; exfalso; omega)
      · replace c46 : ((p - 2) % 5) = 0 := (kI_eq0 (by omega)).mp c46
        refine r_aload_n (q := 50) (i := 0) (j := 0) (x := base + 1) X rfl rfl dX5_fits_49 rfl ?_
        refine r_iload_n (q := 51) (i := 1) (j := 1) (x := nI (p)) X rfl rfl dX5_fits_50 rfl ?_
        refine r_callVi (q := 54) X (c_at K.2.1 G base Mx Lx p hp hlen) kh_1 rfl ks_RX5_19 (by decide) (by decide) ⟨Nat.zero_le _, Nat.zero_le _⟩ rfl (Nat.le_of_ble_eq_true rfl) dX5_fits_51 rfl (fun r M1 L1 hp => ?_)
        obtain ⟨e1, e2, e3⟩ := hp
        subst e1
        replace e2 := e2.symm
        subst e2
        replace e3 := e3.symm
        subst e3
        refine r_bipush (q := 56) (v := nI 72) X kb_72 dX5_fits_54 rfl ?_
        have hb9 := hby p hp
        refine r_icmp_ne (q := 59) (tgt := 69) X (by decide) dX5_fits_56 rfl (fun c56 => ?_) (fun c56 => ?_)
        · replace c56 : ¬ (Mx 2 p) = 72 := fun h => c56 ((kI_eq (by omega) (by omega)).mpr h)
          refine r_iconst (q := 70) (v := nI 0) X kc_0 dX5_fits_69 rfl ?_
          refine r_zret X Y (by decide) ?_ dX5_fits_70
          refine ⟨?_, rfl, rfl⟩
          unfold fitn
          (repeat' split) <;> first | rfl | (exfalso; omega) | (rw [show p = 1 by omega]) | (have hp0 : p = 0 := (by omega); subst hp0; exfalso; omega)
        · replace c56 : (Mx 2 p) = 72 := (kI_eq (by omega) (by omega)).mp c56
          refine r_iload_n (q := 60) (i := 2) (j := 2) (x := nI ((p - 2) / 5)) X rfl rfl dX5_fits_59 rfl ?_
          refine r_bipush (q := 62) (v := nI 6) X kb_6 dX5_fits_60 rfl ?_
          refine r_icmp_ge (q := 65) (tgt := 69) X (by decide) dX5_fits_62 rfl (fun c62 => ?_) (fun c62 => ?_)
          · replace c62 : 6 ≤ ((p - 2) / 5) := (nI_leI (by omega) (by omega)).mp c62
            refine r_iconst (q := 70) (v := nI 0) X kc_0 dX5_fits_69 rfl ?_
            refine r_zret X Y (by decide) ?_ dX5_fits_70
            refine ⟨?_, rfl, rfl⟩
            unfold fitn
            (repeat' split) <;> first | rfl | (exfalso; omega) | (rw [show p = 1 by omega]) | (have hp0 : p = 0 := (by omega); subst hp0; exfalso; omega)
          · replace c62 : ¬ 6 ≤ ((p - 2) / 5) := fun h => c62 ((nI_leI (by omega) (by omega)).mpr h)
            refine r_iconst (q := 66) (v := nI 1) X kc_1 dX5_fits_65 rfl ?_
            refine r_goto (tgt := 70) X (by decide) dX5_fits_66 ?_
            refine r_zret X Y (by decide) ?_ dX5_fits_70
            refine ⟨?_, rfl, rfl⟩
            unfold fitn
            (repeat' split) <;> first | rfl | (exfalso; omega) | (rw [show p = 1 by omega]) | (have hp0 : p = 0 := (by omega); subst hp0; exfalso; omega)
    · replace c22 : ¬ 2 ≤ p := fun h => c22 ((nI_leI (by omega) (by omega)).mpr h)
      refine r_aload_n (q := 26) (i := 0) (j := 0) (x := base + 1) X rfl rfl dX5_fits_25 rfl ?_
      refine r_iload_n (q := 27) (i := 1) (j := 1) (x := nI (p)) X rfl rfl dX5_fits_26 rfl ?_
      refine r_bipush (q := 29) (v := nI 9) X kb_9 dX5_fits_27 rfl ?_
      refine r_callVi (q := 32) X (c_isDigit K.2.1 G base Mx Lx p 9 hp hlen (by have := hby p hp; omega) (by decide)) kh_1 rfl ks_RX5_27 (by decide) (by decide) ⟨Nat.zero_le _, Nat.zero_le _⟩ rfl (Nat.le_of_ble_eq_true rfl) dX5_fits_29 rfl (fun r M1 L1 hp => ?_)
      obtain ⟨e1, e2, e3⟩ := hp
      subst e1
      replace e2 := e2.symm
      subst e2
      replace e3 := e3.symm
      subst e3
      refine r_zret X Y (k_nar (isd_2 _ _)) ?_ dX5_fits_32
      refine ⟨?_, rfl, rfl⟩
      unfold fitn
      (repeat' split) <;> first | rfl | (exfalso; omega) | (rw [show p = 1 by omega]) | (have hp0 : p = 0 := (by omega); subst hp0; exfalso; omega)
  · replace c1 : p = 0 := (kI_eq0 (by omega)).mp c1
    refine r_aload_n (q := 5) (i := 0) (j := 0) (x := base + 1) X rfl rfl dX5_fits_4 rfl ?_
    refine r_iload_n (q := 6) (i := 1) (j := 1) (x := nI (p)) X rfl rfl dX5_fits_5 rfl ?_
    refine r_callVi (q := 9) X (c_at K.2.1 G base Mx Lx p hp hlen) kh_1 rfl ks_RX5_19 (by decide) (by decide) ⟨Nat.zero_le _, Nat.zero_le _⟩ rfl (Nat.le_of_ble_eq_true rfl) dX5_fits_6 rfl (fun r M1 L1 hp => ?_)
    obtain ⟨e1, e2, e3⟩ := hp
    subst e1
    replace e2 := e2.symm
    subst e2
    replace e3 := e3.symm
    subst e3
    refine r_bipush (q := 11) (v := nI 78) X kb_78 dX5_fits_9 rfl ?_
    have hb9 := hby p hp
    refine r_icmp_ne (q := 14) (tgt := 18) X (by decide) dX5_fits_11 rfl (fun c11 => ?_) (fun c11 => ?_)
    · replace c11 : ¬ (Mx 2 p) = 78 := fun h => c11 ((kI_eq (by omega) (by omega)).mpr h)
      refine r_iconst (q := 19) (v := nI 0) X kc_0 dX5_fits_18 rfl ?_
      refine r_zret X Y (by decide) ?_ dX5_fits_19
      refine ⟨?_, rfl, rfl⟩
      unfold fitn
      (repeat' split) <;> first | rfl | (exfalso; omega) | (rw [show p = 1 by omega]) | (have hp0 : p = 0 := (by omega); subst hp0; exfalso; omega)
    · replace c11 : (Mx 2 p) = 78 := (kI_eq (by omega) (by omega)).mp c11
      refine r_iconst (q := 15) (v := nI 1) X kc_1 dX5_fits_14 rfl ?_
      refine r_goto (tgt := 19) X (by decide) dX5_fits_15 ?_
      refine r_zret X Y (by decide) ?_ dX5_fits_19
      refine ⟨?_, rfl, rfl⟩
      unfold fitn
      (repeat' split) <;> first | rfl | (exfalso; omega) | (rw [show p = 1 by omega]) | (have hp0 : p = 0 := (by omega); subst hp0; exfalso; omega)
def okT (T : Nat → Nat) (len : Nat) : Prop := (∀ q, q < len → fitn T q = 1) ∧ 2 ≤ len ∧ (len - 2) % 5 = 0
def badT (T : Nat → Nat) (len v : Nat) : Prop := (∀ q, q < v → fitn T q = 1) ∧ ((v < len ∧ fitn T v ≠ 1) ∨ (v = len ∧ ¬ okT T len))
theorem fitn_2 (T : Nat → Nat) (p : Nat) : fitn T p < 2 := by
  unfold fitn
  (repeat' split) <;> first | omega | exact isd_2 _ _
set_option maxHeartbeats 8000000 in
theorem c_firstFault (l : Launch) (G : ks_G) (base : Nat) (Mx : ks_M) (Lx : ks_L) (hlen : Mx 1 1 ≤ 48) (hby : ∀ k, k < Mx 1 1 → Mx 2 k < 256) : KI l G base 4 yX5_firstFault cX5_firstFault 2 .int [.ref (base + 1)] SH Mx Lx (fun rr M1 L1 => (∃ v, rr = nI v ∧ v ≤ Mx 1 1 ∧ badT (Mx 2) (Mx 1 1) v ∧ M1 = Mx ∧ L1 = Lx) ∨ (rr = (-9) ∧ okT (Mx 2) (Mx 1 1) ∧ M1 = Mx ∧ L1 = Lx)) := by
  refine k_meti (by decide) (Nat.le_of_ble_eq_true rfl) (fun K hK X Y => ?_)
  subst hK
  have lp : ∀ (fuel : Nat) (p : Nat), Mx 1 1 - p < fuel → (p ≤ Mx 1 1) → (∀ q, q < p → fitn (Mx 2) q = 1) → RN K G base 2 0 0 SH Mx Lx 2 [(0, .ref (base + 1)), (1, .int (nI (p)))] [] := by
    intro fuel
    induction fuel with
    | zero => intro p hfu; exact absurd hfu (Nat.not_lt_zero _)
    | succ fuel ih =>
      intro p hfu hp hal
      refine r_iload_n (q := 3) (i := 1) (j := 1) (x := nI (p)) X rfl rfl dX5_firstFault_2 rfl ?_
      refine r_aload_n (q := 4) (i := 0) (j := 0) (x := base + 1) X rfl rfl dX5_firstFault_3 rfl ?_
      refine r_getf (q := 7) (i := 1) (v := .int (nI (Mx 1 1))) X fk_X5_15 kh_1 rfl rfl dX5_firstFault_4 rfl ?_
      refine r_icmp_ge (q := 10) (tgt := 26) X (by decide) dX5_firstFault_7 rfl (fun c7 => ?_) (fun c7 => ?_)
      · replace c7 : (Mx 1 1) ≤ p := (nI_leI (by omega) (by omega)).mp c7
        refine r_aload_n (q := 27) (i := 0) (j := 0) (x := base + 1) X rfl rfl dX5_firstFault_26 rfl ?_
        refine r_getf (q := 30) (i := 1) (v := .int (nI (Mx 1 1))) X fk_X5_15 kh_1 rfl rfl dX5_firstFault_27 rfl ?_
        refine r_iconst (q := 31) (v := nI 2) X kc_2 dX5_firstFault_30 rfl ?_
        refine r_icmp_lt (q := 34) (tgt := 49) X (by decide) dX5_firstFault_31 rfl (fun c31 => ?_) (fun c31 => ?_)
        · replace c31 : (Mx 1 1) < 2 := (nI_ltI (by omega) (by omega)).mp c31
          refine r_iconst (q := 50) (v := nI 0) X kc_0 dX5_firstFault_49 rfl ?_
          refine r_istore_n (q := 51) (i := 1) (j := 1) X rfl (Nat.le_of_ble_eq_true rfl) dX5_firstFault_50 rfl ?_
          refine r_iload_n (q := 52) (i := 1) (j := 1) (x := nI 0) X rfl rfl dX5_firstFault_51 rfl ?_
          refine r_if_eq (q := 55) (tgt := 60) X (by decide) dX5_firstFault_52 rfl (fun _ => ?_) (fun c => absurd c (by decide))
          refine r_aload_n (q := 61) (i := 0) (j := 0) (x := base + 1) X rfl rfl dX5_firstFault_60 rfl ?_
          refine r_getf (q := 64) (i := 1) (v := .int (nI (Mx 1 1))) X fk_X5_15 kh_1 rfl rfl dX5_firstFault_61 rfl ?_
          refine r_iret X Y ?_ dX5_firstFault_64
          refine Or.inl ⟨Mx 1 1, rfl, Nat.le_refl _, ⟨fun q hq => hal q (by omega), Or.inr ⟨rfl, fun h => ?_⟩⟩, rfl, rfl⟩
          have h1 := h.2.1
          have h2 := h.2.2
          omega
        · replace c31 : ¬ (Mx 1 1) < 2 := fun h => c31 ((nI_ltI (by omega) (by omega)).mpr h)
          refine r_aload_n (q := 35) (i := 0) (j := 0) (x := base + 1) X rfl rfl dX5_firstFault_34 rfl ?_
          refine r_getf (q := 38) (i := 1) (v := .int (nI (Mx 1 1))) X fk_X5_15 kh_1 rfl rfl dX5_firstFault_35 rfl ?_
          refine r_iconst (q := 39) (v := nI 2) X kc_2 dX5_firstFault_38 rfl ?_
          refine r_isubR (q := 40) (x := nI (Mx 1 1)) (y := nI 2) (v := nI ((Mx 1 1) - 2)) X (pk_sub (by omega)) dX5_firstFault_39 rfl ?_
          refine r_iconst (q := 41) (v := nI 5) X kc_5 dX5_firstFault_40 rfl ?_
          refine r_iremR (q := 42) (x := nI ((Mx 1 1) - 2)) (y := nI 5) (v := nI (((Mx 1 1) - 2) % 5)) X (by decide) (pk_rem (by omega) (by omega) (by omega)) dX5_firstFault_41 rfl ?_
          refine r_if_ne (q := 45) (tgt := 49) X (by decide) dX5_firstFault_42 rfl (fun c42 => ?_) (fun c42 => ?_)
          · replace c42 : ¬ (((Mx 1 1) - 2) % 5) = 0 := fun h => c42 ((kI_eq0 (by omega)).mpr h)
            refine r_iconst (q := 50) (v := nI 0) X kc_0 dX5_firstFault_49 rfl ?_
            refine r_istore_n (q := 51) (i := 1) (j := 1) X rfl (Nat.le_of_ble_eq_true rfl) dX5_firstFault_50 rfl ?_
            refine r_iload_n (q := 52) (i := 1) (j := 1) (x := nI 0) X rfl rfl dX5_firstFault_51 rfl ?_
            refine r_if_eq (q := 55) (tgt := 60) X (by decide) dX5_firstFault_52 rfl (fun _ => ?_) (fun c => absurd c (by decide))
            refine r_aload_n (q := 61) (i := 0) (j := 0) (x := base + 1) X rfl rfl dX5_firstFault_60 rfl ?_
            refine r_getf (q := 64) (i := 1) (v := .int (nI (Mx 1 1))) X fk_X5_15 kh_1 rfl rfl dX5_firstFault_61 rfl ?_
            refine r_iret X Y ?_ dX5_firstFault_64
            refine Or.inl ⟨Mx 1 1, rfl, Nat.le_refl _, ⟨fun q hq => hal q (by omega), Or.inr ⟨rfl, fun h => ?_⟩⟩, rfl, rfl⟩
            have h1 := h.2.1
            have h2 := h.2.2
            omega
          · replace c42 : (((Mx 1 1) - 2) % 5) = 0 := (kI_eq0 (by omega)).mp c42
            refine r_iconst (q := 46) (v := nI 1) X kc_1 dX5_firstFault_45 rfl ?_
            refine r_goto (tgt := 50) X (by decide) dX5_firstFault_46 ?_
            refine r_istore_n (q := 51) (i := 1) (j := 1) X rfl (Nat.le_of_ble_eq_true rfl) dX5_firstFault_50 rfl ?_
            refine r_iload_n (q := 52) (i := 1) (j := 1) (x := nI 1) X rfl rfl dX5_firstFault_51 rfl ?_
            refine r_if_eq (q := 55) (tgt := 60) X (by decide) dX5_firstFault_52 rfl (fun c => absurd c (by decide)) (fun _ => ?_)
            refine r_bipush (q := 57) (v := (-9)) X kb_m9 dX5_firstFault_55 rfl ?_
            refine r_goto (tgt := 64) X (by decide) dX5_firstFault_57 ?_
            refine r_iret X Y ?_ dX5_firstFault_64
            exact Or.inr ⟨rfl, ⟨fun q hq => hal q (by omega), by omega, by omega⟩, rfl, rfl⟩
      · replace c7 : ¬ (Mx 1 1) ≤ p := fun h => c7 ((nI_leI (by omega) (by omega)).mpr h)
        refine r_aload_n (q := 11) (i := 0) (j := 0) (x := base + 1) X rfl rfl dX5_firstFault_10 rfl ?_
        refine r_iload_n (q := 12) (i := 1) (j := 1) (x := nI (p)) X rfl rfl dX5_firstFault_11 rfl ?_
        refine r_callVi (q := 15) X (c_fits K.2.1 G base Mx Lx p (by omega) hlen hby) kh_1 rfl ks_RX5_23 (by decide) (by decide) ⟨Nat.zero_le _, Nat.zero_le _⟩ rfl (Nat.le_of_ble_eq_true rfl) dX5_firstFault_12 rfl (fun r M1 L1 hp => ?_)
        obtain ⟨e1, e2, e3⟩ := hp
        subst e1
        replace e2 := e2.symm
        subst e2
        replace e3 := e3.symm
        subst e3
        have hf2 := fitn_2 (Mx 2) p
        refine r_if_ne (q := 18) (tgt := 20) X (by decide) dX5_firstFault_15 rfl (fun c15 => ?_) (fun c15 => ?_)
        · replace c15 : ¬ (fitn (Mx 2) p) = 0 := fun h => c15 ((kI_eq0 (by omega)).mpr h)
          refine r_iinc (q := 23) (i := 1) (x := nI (p)) (v := nI (p + 1)) X rfl (Nat.le_of_ble_eq_true rfl) (kinc 1 rfl) dX5_firstFault_20 rfl ?_
          refine r_goto (tgt := 2) X (by decide) dX5_firstFault_23 ?_
          refine r_pl [(0, .ref (base + 1)), (1, .int (nI (p + 1)))] ⟨rfl, rfl, trivial⟩ ?_
          exact ih (p + 1) (by omega) (by omega) (fun q hq => (Nat.lt_or_ge q p).elim (hal q) (fun h => by rw [show q = p by omega]; omega))
        · replace c15 : (fitn (Mx 2) p) = 0 := (kI_eq0 (by omega)).mp c15
          refine r_iload_n (q := 19) (i := 1) (j := 1) (x := nI (p)) X rfl rfl dX5_firstFault_18 rfl ?_
          refine r_iret X Y ?_ dX5_firstFault_19
          exact Or.inl ⟨p, rfl, by omega, ⟨hal, Or.inl ⟨by omega, by omega⟩⟩, rfl, rfl⟩
  refine r_pl [(0, .ref (base + 1))] ⟨rfl, trivial⟩ ?_
  refine r_iconst (q := 1) (v := nI 0) X kc_0 dX5_firstFault_0 rfl ?_
  refine r_istore_n (q := 2) (i := 1) (j := 1) X rfl (Nat.le_of_ble_eq_true rfl) dX5_firstFault_1 rfl ?_
  refine r_pl [(0, .ref (base + 1)), (1, .int (nI (0)))] ⟨rfl, rfl, trivial⟩ ?_
  exact lp 100 0 (by omega) (by omega) (fun q hq => absurd hq (Nat.not_lt_zero _))
set_option maxHeartbeats 8000000 in
theorem c_add (l : Launch) (G : ks_G) (base : Nat) (Mx : ks_M) (Lx : ks_L) (b : Nat) (hlen : Mx 1 1 < 48) : KV l G base 0 0 0 yX5_add cX5_add 2 [.ref (base + 1), .int (nI (b))] SH SH Mx Lx (fun M1 L1 => M1 = up2 (up2 Mx 2 (Mx 1 1) b) 1 1 (Mx 1 1 + 1) ∧ L1 = Lx) := by
  refine k_metv (by decide) (Nat.le_of_ble_eq_true rfl) (fun K hK hRm X Y => ?_)
  subst hK
  refine r_pl [(0, .ref (base + 1)), (1, .int (nI (b)))] ⟨rfl, rfl, trivial⟩ ?_
  refine r_aload_n (q := 1) (i := 0) (j := 0) (x := base + 1) X rfl rfl dX5_add_0 rfl ?_
  refine r_getf (q := 4) (i := 1) (v := .int (nI (Mx 1 1))) X fk_X5_15 kh_1 rfl rfl dX5_add_1 rfl ?_
  refine r_if_lt (q := 7) (tgt := 39) X (by decide) dX5_add_4 rfl (fun c4 => ?_) (fun c4 => ?_)
  · replace c4 : (Mx 1 1) < 0 := (kI_lt0 (by omega)).mp c4
    exfalso; omega
  · replace c4 : ¬ (Mx 1 1) < 0 := fun h => c4 ((kI_lt0 (by omega)).mpr h)
    refine r_aload_n (q := 8) (i := 0) (j := 0) (x := base + 1) X rfl rfl dX5_add_7 rfl ?_
    refine r_getf (q := 11) (i := 1) (v := .int (nI (Mx 1 1))) X fk_X5_15 kh_1 rfl rfl dX5_add_8 rfl ?_
    refine r_aload_n (q := 12) (i := 0) (j := 0) (x := base + 1) X rfl rfl dX5_add_11 rfl ?_
    refine r_getf (q := 15) (i := 1) (v := .ref (base + 2)) X fk_X5_9 kh_1 rfl rfl dX5_add_12 rfl ?_
    refine r_alen (q := 16) (i := 2) (n := 48) X kh_2 dX5_add_15 rfl ?_
    refine r_icmp_ge (q := 19) (tgt := 39) X (by decide) dX5_add_16 rfl (fun c16 => ?_) (fun c16 => ?_)
    · replace c16 : 48 ≤ (Mx 1 1) := (nI_leI (by omega) (by omega)).mp c16
      exfalso; omega
    · replace c16 : ¬ 48 ≤ (Mx 1 1) := fun h => c16 ((nI_leI (by omega) (by omega)).mpr h)
      refine r_aload_n (q := 20) (i := 0) (j := 0) (x := base + 1) X rfl rfl dX5_add_19 rfl ?_
      refine r_getf (q := 23) (i := 1) (v := .ref (base + 2)) X fk_X5_9 kh_1 rfl rfl dX5_add_20 rfl ?_
      refine r_aload_n (q := 24) (i := 0) (j := 0) (x := base + 1) X rfl rfl dX5_add_23 rfl ?_
      refine r_getf (q := 27) (i := 1) (v := .int (nI (Mx 1 1))) X fk_X5_15 kh_1 rfl rfl dX5_add_24 rfl ?_
      refine r_iload_n (q := 28) (i := 1) (j := 1) (x := nI (b)) X rfl rfl dX5_add_27 rfl ?_
      refine r_iast (q := 29) (i := 2) (j := Mx 1 1) (v := b) X kh_2 (by omega) (Nat.le_of_ble_eq_true rfl) dX5_add_28 rfl ?_
      refine r_aload_n (q := 30) (i := 0) (j := 0) (x := base + 1) X rfl rfl dX5_add_29 rfl ?_
      refine r_dup (q := 31) X rfl dX5_add_30 rfl ?_
      refine r_getf (q := 34) (i := 1) (v := .int (nI (Mx 1 1))) X fk_X5_15 kh_1 rfl (by simp [ks_v, up2]) dX5_add_31 rfl ?_
      refine r_iconst (q := 35) (v := nI 1) X kc_1 dX5_add_34 rfl ?_
      refine r_iaddR (q := 36) (x := nI (Mx 1 1)) (y := nI 1) (v := nI ((Mx 1 1) + 1)) X (nI_add _ _) dX5_add_35 rfl ?_
      refine r_puti (q := 39) (i := 1) (n := (Mx 1 1) + 1) X fk_X5_15 kp_X5_1 kh_1 rfl dX5_add_36 rfl ?_
      refine r_vret X Y ?_ dX5_add_39
      exact ⟨rfl, rfl⟩
set_option maxHeartbeats 8000000 in
theorem c6_write (l : Launch) (G : ks_G) (base : Nat) (Mx : ks_M) (Lx : ks_L) (x : Int32) (hlen : Mx 1 1 ≤ 48) : KI l G base 1 yX6_write cX6_write 2 .int [.ref (base + 0), .int (x)] SH Mx Lx (fun rr M1 L1 => (rr = (-2) ∧ (∀ b, b < 256 → x ≠ nI b) ∧ M1 = Mx ∧ L1 = Lx) ∨ (∃ b, rr = (-4) ∧ b < 256 ∧ x = nI b ∧ Mx 1 1 = 48 ∧ M1 = Mx ∧ L1 = Lx) ∨ (∃ b, rr = nI (Mx 1 1 + 1) ∧ b < 256 ∧ x = nI b ∧ Mx 1 1 < 48 ∧ M1 = up2 (up2 Mx 2 (Mx 1 1) b) 1 1 (Mx 1 1 + 1) ∧ L1 = Lx)) := by
  refine k_meti (by decide) (Nat.le_of_ble_eq_true rfl) (fun K hK X Y => ?_)
  subst hK
  refine r_pl [(0, .ref (base + 0)), (1, .int (x))] ⟨rfl, rfl, trivial⟩ ?_
  refine r_iload_n (q := 1) (i := 1) (j := 1) (x := x) X rfl rfl dX6_write_0 rfl ?_
  refine r_if_lt (q := 4) (tgt := 11) X (by decide) dX6_write_1 rfl (fun c1 => ?_) (fun c1 => ?_)
  · skip
    refine r_bipush (q := 13) (v := (-2)) X kb_m2 dX6_write_11 rfl ?_
    refine r_iret X Y ?_ dX6_write_13
    refine Or.inl ⟨rfl, fun b hb h => ?_, rfl, rfl⟩
    rw [h] at c1; exact absurd c1 (nI_pos (by omega))
  · skip
    obtain ⟨b, hb, rfl⟩ := nI_of c1
    refine r_iload_n (q := 5) (i := 1) (j := 1) (x := nI (b)) X rfl rfl dX6_write_4 rfl ?_
    refine r_sipush (q := 8) (v := nI 255) X ks_255 dX6_write_5 rfl ?_
    refine r_icmp_le (q := 11) (tgt := 14) X (by decide) dX6_write_8 rfl (fun c8 => ?_) (fun c8 => ?_)
    · replace c8 : b ≤ 255 := (nI_leI (by omega) (by omega)).mp c8
      refine r_aload_n (q := 15) (i := 0) (j := 0) (x := base + 0) X rfl rfl dX6_write_14 rfl ?_
      refine r_getf (q := 18) (i := 0) (v := .ref (base + 1)) X fk_X6_10 kh_0 rfl rfl dX6_write_15 rfl ?_
      refine r_getf (q := 21) (i := 1) (v := .int (nI (Mx 1 1))) X fk_X6_74 kh_1 rfl rfl dX6_write_18 rfl ?_
      refine r_bipush (q := 23) (v := nI 48) X kb_48 dX6_write_21 rfl ?_
      refine r_icmp_lt (q := 26) (tgt := 29) X (by decide) dX6_write_23 rfl (fun c23 => ?_) (fun c23 => ?_)
      · replace c23 : (Mx 1 1) < 48 := (nI_ltI (by omega) (by omega)).mp c23
        refine r_aload_n (q := 30) (i := 0) (j := 0) (x := base + 0) X rfl rfl dX6_write_29 rfl ?_
        refine r_getf (q := 33) (i := 0) (v := .ref (base + 1)) X fk_X6_10 kh_0 rfl rfl dX6_write_30 rfl ?_
        refine r_iload_n (q := 34) (i := 1) (j := 1) (x := nI (b)) X rfl rfl dX6_write_33 rfl ?_
        refine r_callVv (q := 37) X (c_add K.2.1 G base Mx Lx b (by omega)) kh_1 rfl ks_RX6_77 (by decide) (by decide) ⟨Nat.zero_le _, Nat.zero_le _⟩ rfl (Nat.le_of_ble_eq_true rfl) dX6_write_34 rfl (fun M1 L1 hp => ?_)
        obtain ⟨e2, e3⟩ := hp
        replace e2 := e2.symm
        subst e2
        replace e3 := e3.symm
        subst e3
        refine r_aload_n (q := 38) (i := 0) (j := 0) (x := base + 0) X rfl rfl dX6_write_37 rfl ?_
        refine r_getf (q := 41) (i := 0) (v := .ref (base + 1)) X fk_X6_10 kh_0 rfl rfl dX6_write_38 rfl ?_
        refine r_getf (q := 44) (i := 1) (v := .int (nI (Mx 1 1 + 1))) X fk_X6_74 kh_1 rfl (kv (by simp [up2])) dX6_write_41 rfl ?_
        refine r_iret X Y ?_ dX6_write_44
        exact Or.inr (Or.inr ⟨b, rfl, by omega, rfl, by omega, rfl, rfl⟩)
      · replace c23 : ¬ (Mx 1 1) < 48 := fun h => c23 ((nI_ltI (by omega) (by omega)).mpr h)
        refine r_bipush (q := 28) (v := (-4)) X kb_m4 dX6_write_26 rfl ?_
        refine r_iret X Y ?_ dX6_write_28
        exact Or.inr (Or.inl ⟨b, rfl, by omega, rfl, by omega, rfl, rfl⟩)
    · replace c8 : ¬ b ≤ 255 := fun h => c8 ((nI_leI (by omega) (by omega)).mpr h)
      refine r_bipush (q := 13) (v := (-2)) X kb_m2 dX6_write_11 rfl ?_
      refine r_iret X Y ?_ dX6_write_13
      refine Or.inl ⟨rfl, fun b hb h => ?_, rfl, rfl⟩
      have h3 := (kI_eq (by omega) (by omega)).mp h; omega
set_option maxHeartbeats 8000000 in
theorem c6_wipe (l : Launch) (G : ks_G) (base : Nat) (Mx : ks_M) (Lx : ks_L)  : KI l G base 0 yX6_wipe cX6_wipe 2 .int [.ref (base + 0)] SH Mx Lx (fun rr M1 L1 => rr = nI (Mx 1 1) ∧ M1 = up2 Mx 1 1 0 ∧ L1 = Lx) := by
  refine k_meti (by decide) (Nat.le_of_ble_eq_true rfl) (fun K hK X Y => ?_)
  subst hK
  refine r_pl [(0, .ref (base + 0))] ⟨rfl, trivial⟩ ?_
  refine r_aload_n (q := 1) (i := 0) (j := 0) (x := base + 0) X rfl rfl dX6_wipe_0 rfl ?_
  refine r_getf (q := 4) (i := 0) (v := .ref (base + 1)) X fk_X6_10 kh_0 rfl rfl dX6_wipe_1 rfl ?_
  refine r_getf (q := 7) (i := 1) (v := .int (nI (Mx 1 1))) X fk_X6_74 kh_1 rfl rfl dX6_wipe_4 rfl ?_
  refine r_istore_n (q := 8) (i := 1) (j := 1) X rfl (Nat.le_of_ble_eq_true rfl) dX6_wipe_7 rfl ?_
  refine r_aload_n (q := 9) (i := 0) (j := 0) (x := base + 0) X rfl rfl dX6_wipe_8 rfl ?_
  refine r_getf (q := 12) (i := 0) (v := .ref (base + 1)) X fk_X6_10 kh_0 rfl rfl dX6_wipe_9 rfl ?_
  refine r_iconst (q := 13) (v := nI 0) X kc_0 dX6_wipe_12 rfl ?_
  refine r_puti (q := 16) (i := 1) (n := 0) X fk_X6_74 kp_X5_1 kh_1 rfl dX6_wipe_13 rfl ?_
  refine r_iload_n (q := 17) (i := 1) (j := 1) (x := nI (Mx 1 1)) X rfl rfl dX6_wipe_16 rfl ?_
  refine r_iret X Y ?_ dX6_wipe_17
  exact ⟨rfl, rfl, rfl⟩
set_option maxHeartbeats 8000000 in
theorem c6_fault (l : Launch) (G : ks_G) (base : Nat) (Mx : ks_M) (Lx : ks_L) (hlen : Mx 1 1 ≤ 48) (hby : ∀ k, k < Mx 1 1 → Mx 2 k < 256) : KI l G base 5 yX6_fault cX6_fault 1 .int [.ref (base + 0)] SH Mx Lx (fun rr M1 L1 => (∃ v, rr = nI v ∧ v ≤ Mx 1 1 ∧ badT (Mx 2) (Mx 1 1) v ∧ M1 = Mx ∧ L1 = Lx) ∨ (rr = (-9) ∧ okT (Mx 2) (Mx 1 1) ∧ M1 = Mx ∧ L1 = Lx)) := by
  refine k_meti (by decide) (Nat.le_of_ble_eq_true rfl) (fun K hK X Y => ?_)
  subst hK
  refine r_pl [(0, .ref (base + 0))] ⟨rfl, trivial⟩ ?_
  refine r_aload_n (q := 1) (i := 0) (j := 0) (x := base + 0) X rfl rfl dX6_fault_0 rfl ?_
  refine r_getf (q := 4) (i := 0) (v := .ref (base + 1)) X fk_X6_10 kh_0 rfl rfl dX6_fault_1 rfl ?_
  refine r_callVi (q := 7) X (c_firstFault K.2.1 G base Mx Lx hlen hby) kh_1 rfl ks_RX6_81 (by decide) (by decide) ⟨Nat.zero_le _, Nat.zero_le _⟩ rfl (Nat.le_of_ble_eq_true rfl) dX6_fault_4 rfl (fun r M1 L1 hp => ?_)
  refine r_iret X Y ?_ dX6_fault_7
  exact hp
