/-! ROWS OF TURNS asked: noRow; rows run -/
theorem okr_of {n r : Nat} {z : Int32} (hz : z = nI r) (hr : r < 10 ^ n) (h : ∀ q, q < n → r / 10 ^ q % 10 < 4) : okr n z r := ⟨hz, hr, fun p hp => h (n - 1 - p) (by omega)⟩
theorem okr_to {n r : Nat} {z : Int32} (h : okr n z r) (q : Nat) (hq : q < n) : r / 10 ^ q % 10 < 4 := by
  have h1 := h.2.2 (n - 1 - q) (by omega)
  unfold dg at h1
  rwa [show n - 1 - (n - 1 - q) = q by omega] at h1
theorem kp10p (n : Nat) : 0 < 10 ^ n := Nat.pow_pos (by decide)
theorem okr_one {n r r' : Nat} {z : Int32} (hn : n ≤ 8) (h : okr n z r) (h' : okr n z r') : r = r' := by
  have h1 := kp10 hn
  have h2 := h.2.1
  have h3 := h'.2.1
  exact (kI_eq (by omega) (by omega)).mp (h.1.symm.trans h'.1)
set_option maxHeartbeats 8000000 in
theorem c_noRow (l : Launch) (G : ks_G) (base : Nat) (Mx : ks_M) (Lx : ks_L) (x z : Int32) (most : Nat) (hm : most ≤ 8) : KI l G base 1 yX7_noRow cX7_noRow 5 .boolean [.int (x), .int (nI (most)), .int (z)] SH Mx Lx (fun rr M1 L1 => (∃ n r, rr = nI 0 ∧ 1 ≤ n ∧ n ≤ most ∧ x = nI n ∧ okr n z r ∧ M1 = Mx ∧ L1 = Lx) ∨ (rr = nI 1 ∧ (∀ n r, 1 ≤ n → n ≤ most → x = nI n → ¬ okr n z r) ∧ M1 = Mx ∧ L1 = Lx)) := by
  refine k_meti (by decide) (Nat.le_of_ble_eq_true rfl) (fun K hK X Y => ?_)
  subst hK
  refine r_pl [(0, .int (x)), (1, .int (nI (most))), (2, .int (z))] ⟨rfl, rfl, rfl, trivial⟩ ?_
  refine r_iload_n (q := 1) (i := 0) (j := 0) (x := x) X rfl rfl dX7_noRow_0 rfl ?_
  refine r_i2l (q := 2) (v := x.toInt64) X rfl dX7_noRow_1 rfl ?_
  refine r_lconst (q := 3) (v := 1) X rfl dX7_noRow_2 rfl ?_
  refine r_iload_n (q := 4) (i := 1) (j := 1) (x := nI (most)) X rfl rfl dX7_noRow_3 rfl ?_
  refine r_i2l (q := 5) (v := ((nI (most)).toInt64)) X rfl dX7_noRow_4 rfl ?_
  refine r_callSi (q := 8) X (c_in K.2.1 G base Mx Lx x.toInt64 1 ((nI (most)).toInt64)) ks_RX7_66 (by decide) (by decide) ⟨Nat.zero_le _, Nat.zero_le _⟩ rfl (Nat.le_of_ble_eq_true rfl) dX7_noRow_5 rfl (fun r M1 L1 hp => ?_)
  have hk := kIn (x := x) (y := 1) (z := (nI most).toInt64) (a := 1) (b := most) rfl (by rw [Int32.toInt_toInt64, nI_toInt (by omega)]) (by omega) (by omega)
  rcases hp with ⟨e1, hin, hp2⟩ | ⟨e1, hin, hp2⟩
  · subst e1
    obtain ⟨e2, e3⟩ := hp2
    replace e2 := e2.symm
    subst e2
    replace e3 := e3.symm
    subst e3
    rw [hk] at hin
    obtain ⟨n, hn1, hn2, rfl⟩ := hin
    have hn8 : n ≤ 8 := by omega
    have h10 := kp10 hn8
    have h10p := kp10p n
    refine r_if_eq (q := 11) (tgt := 29) X (by decide) dX7_noRow_8 rfl (fun c => absurd c (by decide)) (fun _ => ?_)
    refine r_iload_n (q := 12) (i := 2) (j := 2) (x := z) X rfl rfl dX7_noRow_11 rfl ?_
    refine r_i2l (q := 13) (v := z.toInt64) X rfl dX7_noRow_12 rfl ?_
    refine r_lconst (q := 14) (v := 0) X rfl dX7_noRow_13 rfl ?_
    refine r_bipush (q := 16) (v := nI 10) X kb_10 dX7_noRow_14 rfl ?_
    refine r_iload_n (q := 17) (i := 0) (j := 0) (x := nI (n)) X rfl rfl dX7_noRow_16 rfl ?_
    refine r_callSi (q := 20) X (c_power7 K.2.1 G base Mx Lx 10 n (by omega)) ks_RX7_138 (by decide) (by decide) ⟨Nat.zero_le _, Nat.zero_le _⟩ rfl (Nat.le_of_ble_eq_true rfl) dX7_noRow_17 rfl (fun r M1 L1 hp => ?_)
    obtain ⟨e1, e2, e3⟩ := hp
    subst e1
    replace e2 := e2.symm
    subst e2
    replace e3 := e3.symm
    subst e3
    refine r_iconst (q := 21) (v := nI 1) X kc_1 dX7_noRow_20 rfl ?_
    refine r_isubR (q := 22) (x := nI (10 ^ n)) (y := nI 1) (v := nI ((10 ^ n) - 1)) X (pk_sub (by omega)) dX7_noRow_21 rfl ?_
    refine r_i2l (q := 23) (v := ((nI (10 ^ n - 1)).toInt64)) X rfl dX7_noRow_22 rfl ?_
    refine r_callSi (q := 26) X (c_in K.2.1 G base Mx Lx z.toInt64 0 ((nI (10 ^ n - 1)).toInt64)) ks_RX7_66 (by decide) (by decide) ⟨Nat.zero_le _, Nat.zero_le _⟩ rfl (Nat.le_of_ble_eq_true rfl) dX7_noRow_23 rfl (fun r M1 L1 hp => ?_)
    have hk2 := kIn (x := z) (y := 0) (z := (nI (10 ^ n - 1)).toInt64) (a := 0) (b := ((10 ^ n - 1 : Nat) : Int)) rfl (by rw [Int32.toInt_toInt64, nI_toInt (by omega)]) (by omega) (by omega)
    rcases hp with ⟨e1, hin2, hp2⟩ | ⟨e1, hin2, hp2⟩
    · subst e1
      obtain ⟨e2, e3⟩ := hp2
      replace e2 := e2.symm
      subst e2
      replace e3 := e3.symm
      subst e3
      rw [hk2] at hin2
      obtain ⟨r, hr0, hr1, rfl⟩ := hin2
      refine r_if_ne (q := 29) (tgt := 31) X (by decide) dX7_noRow_26 rfl (fun _ => ?_) (fun c => absurd c (by decide))
      refine r_iconst (q := 32) (v := nI 1) X kc_1 dX7_noRow_31 rfl ?_
      refine r_istore_n (q := 33) (i := 3) (j := 3) X rfl (Nat.le_of_ble_eq_true rfl) dX7_noRow_32 rfl ?_
      refine r_iconst (q := 34) (v := nI 0) X kc_0 dX7_noRow_33 rfl ?_
      refine r_istore (q := 36) (i := 4) X (Nat.le_of_ble_eq_true rfl) dX7_noRow_34 rfl ?_
      have lp : ∀ (fuel : Nat) (k : Nat) (t : Nat), n - k < fuel → (k ≤ n) → (t < 2) → (t = 1 ↔ ∀ q, q < k → r / 10 ^ q % 10 < 4) → RN K G base 5 0 0 SH Mx Lx 36 [(0, .int (nI (n))), (1, .int (nI (most))), (2, .int (nI (r))), (3, .int (nI (t))), (4, .int (nI (k)))] [] := by
        intro fuel
        induction fuel with
        | zero => intro k t hfu; exact absurd hfu (Nat.not_lt_zero _)
        | succ fuel ih =>
          intro k t hfu hk9 ht2 ht
          refine r_iload (q := 38) (i := 4) (x := nI (k)) X rfl dX7_noRow_36 rfl ?_
          refine r_iload_n (q := 39) (i := 0) (j := 0) (x := nI (n)) X rfl rfl dX7_noRow_38 rfl ?_
          refine r_icmp_ge (q := 42) (tgt := 74) X (by decide) dX7_noRow_39 rfl (fun c39 => ?_) (fun c39 => ?_)
          · replace c39 : n ≤ k := (nI_leI (by omega) (by omega)).mp c39
            refine r_iload_n (q := 75) (i := 3) (j := 3) (x := nI (t)) X rfl rfl dX7_noRow_74 rfl ?_
            refine r_if_ne (q := 78) (tgt := 82) X (by decide) dX7_noRow_75 rfl (fun c75 => ?_) (fun c75 => ?_)
            · replace c75 : ¬ t = 0 := fun h => c75 ((kI_eq0 (by omega)).mpr h)
              refine r_iconst (q := 83) (v := nI 0) X kc_0 dX7_noRow_82 rfl ?_
              refine r_zret X Y (by decide) ?_ dX7_noRow_83
              have hkn : k = n := by omega
              exact Or.inl ⟨n, r, rfl, by omega, by omega, rfl, okr_of rfl (by omega) (fun q hq => ht.mp (by omega) q (by omega)), rfl, rfl⟩
            · replace c75 : t = 0 := (kI_eq0 (by omega)).mp c75
              refine r_iconst (q := 79) (v := nI 1) X kc_1 dX7_noRow_78 rfl ?_
              refine r_goto (tgt := 83) X (by decide) dX7_noRow_79 ?_
              refine r_zret X Y (by decide) ?_ dX7_noRow_83
              refine Or.inr ⟨rfl, fun n2 r2 h1 h2 h3 h4 => ?_, rfl, rfl⟩
              obtain rfl := (kI_eq (by omega) (by omega)).mp h3
              have h5 := h4.2.1
              obtain rfl := (kI_eq (by omega) (by omega)).mp h4.1
              have h6 := ht.mpr (fun q hq => okr_to h4 q (by omega))
              omega
          · replace c39 : ¬ n ≤ k := fun h => c39 ((nI_leI (by omega) (by omega)).mpr h)
            refine r_iload_n (q := 43) (i := 3) (j := 3) (x := nI (t)) X rfl rfl dX7_noRow_42 rfl ?_
            refine r_if_eq (q := 46) (tgt := 66) X (by decide) dX7_noRow_43 rfl (fun c43 => ?_) (fun c43 => ?_)
            · replace c43 : t = 0 := (kI_eq0 (by omega)).mp c43
              refine r_iconst (q := 67) (v := nI 0) X kc_0 dX7_noRow_66 rfl ?_
              refine r_istore_n (q := 68) (i := 3) (j := 3) X rfl (Nat.le_of_ble_eq_true rfl) dX7_noRow_67 rfl ?_
              refine r_iinc (q := 71) (i := 4) (x := nI (k)) (v := nI (k + 1)) X rfl (Nat.le_of_ble_eq_true rfl) (kinc 1 rfl) dX7_noRow_68 rfl ?_
              refine r_goto (tgt := 36) X (by decide) dX7_noRow_71 ?_
              refine r_pl [(0, .int (nI (n))), (1, .int (nI (most))), (2, .int (nI (r))), (3, .int (nI (0))), (4, .int (nI (k + 1)))] ⟨rfl, rfl, rfl, rfl, rfl, trivial⟩ ?_
              refine ih (k + 1) 0 (by omega) (by omega) (by omega) ⟨fun h8 q hq => ?_, fun h8 => ?_⟩
              · rcases (show q < k ∨ q = k by omega) with h9 | h9
                · first | exact ht.mp (by omega) q h9 | (exfalso; omega)
                · subst h9; first | (exfalso; omega) | omega
              · first | rfl | (exfalso; have h11 := h8 k (by omega); omega) | (exfalso; have h11 := ht.mpr (fun q hq => h8 q (by omega)); omega)
            · replace c43 : ¬ t = 0 := fun h => (c43 ((kI_eq0 (by omega)).mpr h))
              refine r_iload_n (q := 47) (i := 2) (j := 2) (x := nI (r)) X rfl rfl dX7_noRow_46 rfl ?_
              refine r_bipush (q := 49) (v := nI 10) X kb_10 dX7_noRow_47 rfl ?_
              refine r_iload (q := 51) (i := 4) (x := nI (k)) X rfl dX7_noRow_49 rfl ?_
              refine r_callSi (q := 54) X (c_power7 K.2.1 G base Mx Lx 10 k (by omega)) ks_RX7_138 (by decide) (by decide) ⟨Nat.zero_le _, Nat.zero_le _⟩ rfl (Nat.le_of_ble_eq_true rfl) dX7_noRow_51 rfl (fun r M1 L1 hp => ?_)
              obtain ⟨e1, e2, e3⟩ := hp
              subst e1
              replace e2 := e2.symm
              subst e2
              replace e3 := e3.symm
              subst e3
              have hpk := kp10 (n := k) (by omega)
              have hpp := kp10p k
              have hdl : r / 10 ^ k ≤ r := Nat.div_le_self _ _
              refine r_idivR (q := 55) (x := nI (r)) (y := nI (10 ^ k)) (v := nI (r / (10 ^ k))) X (nI_ne0 (by omega) (by omega)) (pk_div (by omega) (by omega) (by omega)) dX7_noRow_54 rfl ?_
              refine r_bipush (q := 57) (v := nI 10) X kb_10 dX7_noRow_55 rfl ?_
              refine r_iremR (q := 58) (x := nI (r / (10 ^ k))) (y := nI 10) (v := nI ((r / (10 ^ k)) % 10)) X (by decide) (pk_rem (by omega) (by omega) (by omega)) dX7_noRow_57 rfl ?_
              refine r_iconst (q := 59) (v := nI 4) X kc_4 dX7_noRow_58 rfl ?_
              have hml : r / 10 ^ k % 10 < 10 := Nat.mod_lt _ (by decide)
              refine r_icmp_ge (q := 62) (tgt := 66) X (by decide) dX7_noRow_59 rfl (fun c59 => ?_) (fun c59 => ?_)
              · replace c59 : 4 ≤ ((r / (10 ^ k)) % 10) := (nI_leI (by omega) (by omega)).mp c59
                refine r_iconst (q := 67) (v := nI 0) X kc_0 dX7_noRow_66 rfl ?_
                refine r_istore_n (q := 68) (i := 3) (j := 3) X rfl (Nat.le_of_ble_eq_true rfl) dX7_noRow_67 rfl ?_
                refine r_iinc (q := 71) (i := 4) (x := nI (k)) (v := nI (k + 1)) X rfl (Nat.le_of_ble_eq_true rfl) (kinc 1 rfl) dX7_noRow_68 rfl ?_
                refine r_goto (tgt := 36) X (by decide) dX7_noRow_71 ?_
                refine r_pl [(0, .int (nI (n))), (1, .int (nI (most))), (2, .int (nI (r))), (3, .int (nI (0))), (4, .int (nI (k + 1)))] ⟨rfl, rfl, rfl, rfl, rfl, trivial⟩ ?_
                refine ih (k + 1) 0 (by omega) (by omega) (by omega) ⟨fun h8 q hq => ?_, fun h8 => ?_⟩
                · rcases (show q < k ∨ q = k by omega) with h9 | h9
                  · first | exact ht.mp (by omega) q h9 | (exfalso; omega)
                  · subst h9; first | (exfalso; omega) | omega
                · first | rfl | (exfalso; have h11 := h8 k (by omega); omega) | (exfalso; have h11 := ht.mpr (fun q hq => h8 q (by omega)); omega)
              · replace c59 : ¬ 4 ≤ ((r / (10 ^ k)) % 10) := fun h => c59 ((nI_leI (by omega) (by omega)).mpr h)
                refine r_iconst (q := 63) (v := nI 1) X kc_1 dX7_noRow_62 rfl ?_
                refine r_goto (tgt := 67) X (by decide) dX7_noRow_63 ?_
                refine r_istore_n (q := 68) (i := 3) (j := 3) X rfl (Nat.le_of_ble_eq_true rfl) dX7_noRow_67 rfl ?_
                refine r_iinc (q := 71) (i := 4) (x := nI (k)) (v := nI (k + 1)) X rfl (Nat.le_of_ble_eq_true rfl) (kinc 1 rfl) dX7_noRow_68 rfl ?_
                refine r_goto (tgt := 36) X (by decide) dX7_noRow_71 ?_
                refine r_pl [(0, .int (nI (n))), (1, .int (nI (most))), (2, .int (nI (r))), (3, .int (nI (1))), (4, .int (nI (k + 1)))] ⟨rfl, rfl, rfl, rfl, rfl, trivial⟩ ?_
                refine ih (k + 1) 1 (by omega) (by omega) (by omega) ⟨fun h8 q hq => ?_, fun h8 => ?_⟩
                · rcases (show q < k ∨ q = k by omega) with h9 | h9
                  · first | exact ht.mp (by omega) q h9 | (exfalso; omega)
                  · subst h9; first | (exfalso; omega) | omega
                · first | rfl | (exfalso; have h11 := h8 k (by omega); omega) | (exfalso; have h11 := ht.mpr (fun q hq => h8 q (by omega)); omega)
      refine r_pl [(0, .int (nI (n))), (1, .int (nI (most))), (2, .int (nI (r))), (3, .int (nI (1))), (4, .int (nI (0)))] ⟨rfl, rfl, rfl, rfl, rfl, trivial⟩ ?_
      exact lp (n + 1) 0 1 (by omega) (by omega) (by omega) ⟨fun _ q hq => absurd hq (Nat.not_lt_zero _), fun _ => rfl⟩
    · subst e1
      obtain ⟨e2, e3⟩ := hp2
      replace e2 := e2.symm
      subst e2
      replace e3 := e3.symm
      subst e3
      rw [hk2] at hin2
      refine r_if_ne (q := 29) (tgt := 31) X (by decide) dX7_noRow_26 rfl (fun c => absurd c (by decide)) (fun _ => ?_)
      refine r_iconst (q := 30) (v := nI 1) X kc_1 dX7_noRow_29 rfl ?_
      refine r_zret X Y (by decide) ?_ dX7_noRow_30
      refine Or.inr ⟨rfl, fun n2 r h1 h2 h3 h4 => ?_, rfl, rfl⟩
      obtain rfl := (kI_eq (by omega) (by omega)).mp h3
      have h5 := h4.2.1
      exact hin2 ⟨r, by omega, by omega, h4.1⟩
  · subst e1
    obtain ⟨e2, e3⟩ := hp2
    replace e2 := e2.symm
    subst e2
    replace e3 := e3.symm
    subst e3
    rw [hk] at hin
    refine r_if_eq (q := 11) (tgt := 29) X (by decide) dX7_noRow_8 rfl (fun _ => ?_) (fun c => absurd c (by decide))
    refine r_iconst (q := 30) (v := nI 1) X kc_1 dX7_noRow_29 rfl ?_
    refine r_zret X Y (by decide) ?_ dX7_noRow_30
    exact Or.inr ⟨rfl, fun n r h1 h2 h3 _ => hin ⟨n, by omega, by omega, h3⟩, rfl, rfl⟩
