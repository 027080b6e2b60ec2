/-! SLOTS of the reference; what is seen, shapes -/
def keep7 (M : ks_M) (j : Nat) : ks_M := cpr (up2 M 54 j 1) 53 49 (12 * j) 0 12
def again7 (M : ks_M) (j : Nat) : ks_M := up2 (cpr M 49 53 0 (12 * j) 12) 44 14 0
set_option maxHeartbeats 8000000 in
theorem c7_keep (l : Launch) (G : ks_G) (base : Nat) (Mx : ks_M) (Lx : ks_L) (x : Int32) (hth : Mx 44 0 = 0) : KI l G base 1 yX7_keep cX7_keep 3 .int [.ref (base + 44), .int (x)] SH Mx Lx (fun rr M1 L1 => ((rr = (-1) ∧ (∀ j, j < 2 → x ≠ nI j) ∧ M1 = Mx) ∨ (∃ j, j < 2 ∧ x = nI j ∧ rr = nI (Mx 49 2) ∧ M1 = keep7 Mx j)) ∧ L1 = Lx) := by
  refine k_meti (by decide) (Nat.le_of_ble_eq_true rfl) (fun K hK X Y => ?_)
  subst hK
  refine r_pl [(0, .ref (base + 44)), (1, .int (x))] ⟨rfl, rfl, trivial⟩ ?_
  refine r_aload_n (q := 1) (i := 0) (j := 0) (x := base + 44) X rfl rfl dX7_keep_0 rfl ?_
  refine r_iconst (q := 2) (v := nI 0) X kc_0 dX7_keep_1 rfl ?_
  refine r_puti (q := 5) (i := 44) (n := 0) X fk_X7_59 kp_X7_0 kh_44 rfl dX7_keep_2 rfl ?_
  refine r_mem Mx (up2_id hth) ?_
  refine r_iload_n (q := 6) (i := 1) (j := 1) (x := x) X rfl rfl dX7_keep_5 rfl ?_
  refine r_i2l (q := 7) (v := x.toInt64) X rfl dX7_keep_6 rfl ?_
  refine r_lconst (q := 8) (v := 0) X rfl dX7_keep_7 rfl ?_
  refine r_lconst (q := 9) (v := 1) X rfl dX7_keep_8 rfl ?_
  refine r_callSi (q := 12) X (c_in K.2.1 G base Mx Lx x.toInt64 0 1) ks_RX7_66 (by decide) (by decide) ⟨Nat.zero_le _, Nat.zero_le _⟩ rfl (Nat.le_of_ble_eq_true rfl) dX7_keep_9 rfl (fun r M1 L1 hp => ?_)
  have hk := kIn (x := x) (y := 0) (z := 1) (a := 0) (b := 1) rfl rfl (by omega) (by omega)
  rcases hp with ⟨e1, hin, hp2⟩ | ⟨e1, hin, hp2⟩
  · subst e1
    obtain ⟨e2, e3⟩ := hp2
    replace e2 := e2.symm
    subst e2
    replace e3 := e3.symm
    subst e3
    rw [hk] at hin
    obtain ⟨b, -, hb, rfl⟩ := hin
    refine r_if_ne (q := 15) (tgt := 17) X (by decide) dX7_keep_12 rfl (fun _ => ?_) (fun c => absurd c (by decide))
    refine r_aload_n (q := 18) (i := 0) (j := 0) (x := base + 44) X rfl rfl dX7_keep_17 rfl ?_
    refine r_getf (q := 21) (i := 44) (v := .ref (base + 54)) X fk_X7_37 kh_44 rfl rfl dX7_keep_18 rfl ?_
    refine r_iload_n (q := 22) (i := 1) (j := 1) (x := nI (b)) X rfl rfl dX7_keep_21 rfl ?_
    refine r_iconst (q := 23) (v := nI 1) X kc_1 dX7_keep_22 rfl ?_
    refine r_bast (q := 24) (i := 54) (j := b) (v := 1) X kh_54 (by omega) (Nat.le_of_ble_eq_true rfl) (by decide) dX7_keep_23 rfl ?_
    refine r_iconst (q := 25) (v := nI 0) X kc_0 dX7_keep_24 rfl ?_
    refine r_istore_n (q := 26) (i := 2) (j := 2) X rfl (Nat.le_of_ble_eq_true rfl) dX7_keep_25 rfl ?_
    have lp : ∀ (fuel : Nat) (k : Nat), 12 - k < fuel → (k ≤ 12) → RN K G base 3 0 0 SH ((cpr (up2 Mx 54 b 1) 53 49 (12 * b) 0 k)) Lx 26 [(0, .ref (base + 44)), (1, .int (nI (b))), (2, .int (nI (k)))] [] := by
      intro fuel
      induction fuel with
      | zero => intro k hfu; exact absurd hfu (Nat.not_lt_zero _)
      | succ fuel ih =>
        intro k hfu hk
        refine r_iload_n (q := 27) (i := 2) (j := 2) (x := nI (k)) X rfl rfl dX7_keep_26 rfl ?_
        refine r_bipush (q := 29) (v := nI 12) X kb_12 dX7_keep_27 rfl ?_
        refine r_icmp_ge (q := 32) (tgt := 55) X (by decide) dX7_keep_29 rfl (fun c29 => ?_) (fun c29 => ?_)
        · replace c29 : 12 ≤ k := (nI_leI (by omega) (by omega)).mp c29
          refine r_aload_n (q := 56) (i := 0) (j := 0) (x := base + 44) X rfl rfl dX7_keep_55 rfl ?_
          refine r_getf (q := 59) (i := 44) (v := .ref (base + 49)) X fk_X7_22 kh_44 rfl rfl dX7_keep_56 rfl ?_
          refine r_iconst (q := 60) (v := nI 2) X kc_2 dX7_keep_59 rfl ?_
          refine r_iald (q := 61) (i := 49) (j := 2) (v := Mx 49 2) X kh_49 (by omega) (Nat.le_of_ble_eq_true rfl) (by rw [cpr_o (by decide)]; simp [up2]) dX7_keep_60 rfl ?_
          refine r_iret X Y ?_ dX7_keep_61
          obtain rfl : k = 12 := by omega
          exact ⟨Or.inr ⟨b, by omega, rfl, rfl, rfl⟩, rfl⟩
        · replace c29 : ¬ 12 ≤ k := fun h => c29 ((nI_leI (by omega) (by omega)).mpr h)
          refine r_aload_n (q := 33) (i := 0) (j := 0) (x := base + 44) X rfl rfl dX7_keep_32 rfl ?_
          refine r_getf (q := 36) (i := 44) (v := .ref (base + 53)) X fk_X7_34 kh_44 rfl rfl dX7_keep_33 rfl ?_
          refine r_bipush (q := 38) (v := nI 12) X kb_12 dX7_keep_36 rfl ?_
          refine r_iload_n (q := 39) (i := 1) (j := 1) (x := nI (b)) X rfl rfl dX7_keep_38 rfl ?_
          refine r_imulR (q := 40) (x := nI 12) (y := nI (b)) (v := nI (12 * b)) X (pk_mul _ _) dX7_keep_39 rfl ?_
          refine r_iload_n (q := 41) (i := 2) (j := 2) (x := nI (k)) X rfl rfl dX7_keep_40 rfl ?_
          refine r_iaddR (q := 42) (x := nI (12 * b)) (y := nI (k)) (v := nI ((12 * b) + k)) X (nI_add _ _) dX7_keep_41 rfl ?_
          refine r_aload_n (q := 43) (i := 0) (j := 0) (x := base + 44) X rfl rfl dX7_keep_42 rfl ?_
          refine r_getf (q := 46) (i := 44) (v := .ref (base + 49)) X fk_X7_22 kh_44 rfl rfl dX7_keep_43 rfl ?_
          refine r_iload_n (q := 47) (i := 2) (j := 2) (x := nI (k)) X rfl rfl dX7_keep_46 rfl ?_
          refine r_iald (q := 48) (i := 49) (j := k) (v := up2 Mx 54 b 1 49 (0 + k)) X kh_49 (by omega) (Nat.le_of_ble_eq_true rfl) (by rw [cpr_o (by decide), Nat.zero_add]) dX7_keep_47 rfl ?_
          refine r_iast (q := 49) (i := 53) (j := (12 * b) + k) (v := up2 Mx 54 b 1 49 (0 + k)) X kh_53 (by omega) (Nat.le_of_ble_eq_true rfl) dX7_keep_48 rfl ?_
          refine r_iinc (q := 52) (i := 2) (x := nI (k)) (v := nI (k + 1)) X rfl (Nat.le_of_ble_eq_true rfl) (kinc 1 rfl) dX7_keep_49 rfl ?_
          refine r_goto (tgt := 26) X (by decide) dX7_keep_52 ?_
          refine r_pl [(0, .ref (base + 44)), (1, .int (nI (b))), (2, .int (nI (k + 1)))] ⟨rfl, rfl, rfl, trivial⟩ ?_
          exact r_mem _ (cpr_s (up2 Mx 54 b 1) 53 49 (12 * b) 0 k) (ih (k + 1) (by omega) (by omega))
    refine r_pl [(0, .ref (base + 44)), (1, .int (nI (b))), (2, .int (nI (0)))] ⟨rfl, rfl, rfl, trivial⟩ ?_
    exact r_mem _ (cpr_0 _ 53 49 _ 0) (lp 13 0 (by omega) (by omega))
  · subst e1
    obtain ⟨e2, e3⟩ := hp2
    replace e2 := e2.symm
    subst e2
    replace e3 := e3.symm
    subst e3
    rw [hk] at hin
    refine r_if_ne (q := 15) (tgt := 17) X (by decide) dX7_keep_12 rfl (fun c => absurd c (by decide)) (fun _ => ?_)
    refine r_iconst (q := 16) (v := (-1)) X kc_m1 dX7_keep_15 rfl ?_
    refine r_iret X Y ?_ dX7_keep_16
    exact ⟨Or.inl ⟨rfl, fun t ht h => hin ⟨t, by omega, by omega, h⟩, rfl⟩, rfl⟩
set_option maxHeartbeats 8000000 in
theorem c7_again (l : Launch) (G : ks_G) (base : Nat) (Mx : ks_M) (Lx : ks_L) (x : Int32) (hth : Mx 44 0 = 0) (hk2 : ∀ j, Mx 54 j < 2) : KI l G base 1 yX7_again cX7_again 3 .int [.ref (base + 44), .int (x)] SH Mx Lx (fun rr M1 L1 => ((rr = (-1) ∧ (∀ j, j < 2 → x ≠ nI j) ∧ M1 = Mx) ∨ (∃ j, j < 2 ∧ x = nI j ∧ ((Mx 54 j = 0 ∧ rr = (-3) ∧ M1 = Mx) ∨ (Mx 54 j ≠ 0 ∧ rr = nI (Mx 53 (12 * j + 2)) ∧ M1 = again7 Mx j)))) ∧ L1 = Lx) := by
  refine k_meti (by decide) (Nat.le_of_ble_eq_true rfl) (fun K hK X Y => ?_)
  subst hK
  refine r_pl [(0, .ref (base + 44)), (1, .int (x))] ⟨rfl, rfl, trivial⟩ ?_
  refine r_aload_n (q := 1) (i := 0) (j := 0) (x := base + 44) X rfl rfl dX7_again_0 rfl ?_
  refine r_iconst (q := 2) (v := nI 0) X kc_0 dX7_again_1 rfl ?_
  refine r_puti (q := 5) (i := 44) (n := 0) X fk_X7_59 kp_X7_0 kh_44 rfl dX7_again_2 rfl ?_
  refine r_mem Mx (up2_id hth) ?_
  refine r_iload_n (q := 6) (i := 1) (j := 1) (x := x) X rfl rfl dX7_again_5 rfl ?_
  refine r_i2l (q := 7) (v := x.toInt64) X rfl dX7_again_6 rfl ?_
  refine r_lconst (q := 8) (v := 0) X rfl dX7_again_7 rfl ?_
  refine r_lconst (q := 9) (v := 1) X rfl dX7_again_8 rfl ?_
  refine r_callSi (q := 12) X (c_in K.2.1 G base Mx Lx x.toInt64 0 1) ks_RX7_66 (by decide) (by decide) ⟨Nat.zero_le _, Nat.zero_le _⟩ rfl (Nat.le_of_ble_eq_true rfl) dX7_again_9 rfl (fun r M1 L1 hp => ?_)
  have hk := kIn (x := x) (y := 0) (z := 1) (a := 0) (b := 1) rfl rfl (by omega) (by omega)
  rcases hp with ⟨e1, hin, hp2⟩ | ⟨e1, hin, hp2⟩
  · subst e1
    obtain ⟨e2, e3⟩ := hp2
    replace e2 := e2.symm
    subst e2
    replace e3 := e3.symm
    subst e3
    rw [hk] at hin
    obtain ⟨b, -, hb, rfl⟩ := hin
    refine r_if_ne (q := 15) (tgt := 17) X (by decide) dX7_again_12 rfl (fun _ => ?_) (fun c => absurd c (by decide))
    refine r_aload_n (q := 18) (i := 0) (j := 0) (x := base + 44) X rfl rfl dX7_again_17 rfl ?_
    refine r_getf (q := 21) (i := 44) (v := .ref (base + 54)) X fk_X7_37 kh_44 rfl rfl dX7_again_18 rfl ?_
    refine r_iload_n (q := 22) (i := 1) (j := 1) (x := nI (b)) X rfl rfl dX7_again_21 rfl ?_
    refine r_bald (q := 23) (i := 54) (j := b) (v := Mx 54 b) X kh_54 (by omega) (Nat.le_of_ble_eq_true rfl) rfl dX7_again_22 rfl ?_
    have h54 := hk2 b
    refine r_if_ne (q := 26) (tgt := 29) X (by decide) dX7_again_23 rfl (fun c23 => ?_) (fun c23 => ?_)
    · replace c23 : ¬ (Mx 54 b) = 0 := fun h => c23 ((kI_eq0 (by omega)).mpr h)
      refine r_iconst (q := 30) (v := nI 0) X kc_0 dX7_again_29 rfl ?_
      refine r_istore_n (q := 31) (i := 2) (j := 2) X rfl (Nat.le_of_ble_eq_true rfl) dX7_again_30 rfl ?_
      have lp : ∀ (fuel : Nat) (k : Nat), 12 - k < fuel → (k ≤ 12) → RN K G base 3 0 0 SH ((cpr Mx 49 53 0 (12 * b) k)) Lx 31 [(0, .ref (base + 44)), (1, .int (nI (b))), (2, .int (nI (k)))] [] := by
        intro fuel
        induction fuel with
        | zero => intro k hfu; exact absurd hfu (Nat.not_lt_zero _)
        | succ fuel ih =>
          intro k hfu hk
          refine r_iload_n (q := 32) (i := 2) (j := 2) (x := nI (k)) X rfl rfl dX7_again_31 rfl ?_
          refine r_bipush (q := 34) (v := nI 12) X kb_12 dX7_again_32 rfl ?_
          refine r_icmp_ge (q := 37) (tgt := 60) X (by decide) dX7_again_34 rfl (fun c34 => ?_) (fun c34 => ?_)
          · replace c34 : 12 ≤ k := (nI_leI (by omega) (by omega)).mp c34
            refine r_aload_n (q := 61) (i := 0) (j := 0) (x := base + 44) X rfl rfl dX7_again_60 rfl ?_
            refine r_iconst (q := 62) (v := nI 0) X kc_0 dX7_again_61 rfl ?_
            refine r_puti (q := 65) (i := 44) (n := 0) X fk_X7_95 kp_X7_14 kh_44 rfl dX7_again_62 rfl ?_
            refine r_aload_n (q := 66) (i := 0) (j := 0) (x := base + 44) X rfl rfl dX7_again_65 rfl ?_
            refine r_getf (q := 69) (i := 44) (v := .ref (base + 49)) X fk_X7_22 kh_44 rfl rfl dX7_again_66 rfl ?_
            refine r_iconst (q := 70) (v := nI 2) X kc_2 dX7_again_69 rfl ?_
            refine r_iald (q := 71) (i := 49) (j := 2) (v := Mx 53 (12 * b + 2)) X kh_49 (by omega) (Nat.le_of_ble_eq_true rfl) (by rw [up2_o (by decide)]; obtain rfl : k = 12 := (by omega); simp [cpr, sr]) dX7_again_70 rfl ?_
            refine r_iret X Y ?_ dX7_again_71
            obtain rfl : k = 12 := by omega
            exact ⟨Or.inr ⟨b, by omega, rfl, Or.inr ⟨by omega, rfl, rfl⟩⟩, rfl⟩
          · replace c34 : ¬ 12 ≤ k := fun h => c34 ((nI_leI (by omega) (by omega)).mpr h)
            refine r_aload_n (q := 38) (i := 0) (j := 0) (x := base + 44) X rfl rfl dX7_again_37 rfl ?_
            refine r_getf (q := 41) (i := 44) (v := .ref (base + 49)) X fk_X7_22 kh_44 rfl rfl dX7_again_38 rfl ?_
            refine r_iload_n (q := 42) (i := 2) (j := 2) (x := nI (k)) X rfl rfl dX7_again_41 rfl ?_
            refine r_aload_n (q := 43) (i := 0) (j := 0) (x := base + 44) X rfl rfl dX7_again_42 rfl ?_
            refine r_getf (q := 46) (i := 44) (v := .ref (base + 53)) X fk_X7_34 kh_44 rfl rfl dX7_again_43 rfl ?_
            refine r_bipush (q := 48) (v := nI 12) X kb_12 dX7_again_46 rfl ?_
            refine r_iload_n (q := 49) (i := 1) (j := 1) (x := nI (b)) X rfl rfl dX7_again_48 rfl ?_
            refine r_imulR (q := 50) (x := nI 12) (y := nI (b)) (v := nI (12 * b)) X (pk_mul _ _) dX7_again_49 rfl ?_
            refine r_iload_n (q := 51) (i := 2) (j := 2) (x := nI (k)) X rfl rfl dX7_again_50 rfl ?_
            refine r_iaddR (q := 52) (x := nI (12 * b)) (y := nI (k)) (v := nI ((12 * b) + k)) X (nI_add _ _) dX7_again_51 rfl ?_
            refine r_iald (q := 53) (i := 53) (j := (12 * b) + k) (v := Mx 53 ((12 * b) + k)) X kh_53 (by omega) (Nat.le_of_ble_eq_true rfl) (by rw [cpr_o (by decide)]) dX7_again_52 rfl ?_
            refine r_iast (q := 54) (i := 49) (j := k) (v := Mx 53 ((12 * b) + k)) X kh_49 (by omega) (Nat.le_of_ble_eq_true rfl) dX7_again_53 rfl ?_
            refine r_iinc (q := 57) (i := 2) (x := nI (k)) (v := nI (k + 1)) X rfl (Nat.le_of_ble_eq_true rfl) (kinc 1 rfl) dX7_again_54 rfl ?_
            refine r_goto (tgt := 31) X (by decide) dX7_again_57 ?_
            refine r_pl [(0, .ref (base + 44)), (1, .int (nI (b))), (2, .int (nI (k + 1)))] ⟨rfl, rfl, rfl, trivial⟩ ?_
            exact r_mem _ (cpr_s0 Mx 49 53 (12 * b) k) (ih (k + 1) (by omega) (by omega))
      refine r_pl [(0, .ref (base + 44)), (1, .int (nI (b))), (2, .int (nI (0)))] ⟨rfl, rfl, rfl, trivial⟩ ?_
      exact r_mem _ (cpr_0 _ 49 53 0 _) (lp 13 0 (by omega) (by omega))
    · replace c23 : (Mx 54 b) = 0 := (kI_eq0 (by omega)).mp c23
      refine r_bipush (q := 28) (v := (-3)) X kb_m3 dX7_again_26 rfl ?_
      refine r_iret X Y ?_ dX7_again_28
      exact ⟨Or.inr ⟨b, by omega, rfl, Or.inl ⟨by omega, rfl, rfl⟩⟩, rfl⟩
  · subst e1
    obtain ⟨e2, e3⟩ := hp2
    replace e2 := e2.symm
    subst e2
    replace e3 := e3.symm
    subst e3
    rw [hk] at hin
    refine r_if_ne (q := 15) (tgt := 17) X (by decide) dX7_again_12 rfl (fun c => absurd c (by decide)) (fun _ => ?_)
    refine r_iconst (q := 16) (v := (-1)) X kc_m1 dX7_again_15 rfl ?_
    refine r_iret X Y ?_ dX7_again_16
    exact ⟨Or.inl ⟨rfl, fun t ht h => hin ⟨t, by omega, by omega, h⟩, rfl⟩, rfl⟩
def add6 (M : ks_M) (a b c d : Nat) : ks_M := up2 (up2 (up2 (up2 (up2 M 36 (M 35 4) a) 37 (M 35 4) b) 38 (M 35 4) c) 39 (M 35 4) d) 35 4 (M 35 4 + 1)
set_option maxHeartbeats 8000000 in
theorem c_seenAdd (l : Launch) (G : ks_G) (base : Nat) (Mx : ks_M) (Lx : ks_L) (a b c d : Nat) (hc : Mx 35 4 < 6) : KV l G base 0 0 0 yX2_add cX2_add 5 [.ref (base + 35), .int (nI (a)), .int (nI (b)), .int (nI (c)), .int (nI (d))] SH SH Mx Lx (fun M1 L1 => M1 = add6 Mx a b c d ∧ L1 = Lx) := by
  refine k_metv (by decide) (Nat.le_of_ble_eq_true rfl) (fun K hK hRm X Y => ?_)
  subst hK
  refine r_pl [(0, .ref (base + 35)), (1, .int (nI (a))), (2, .int (nI (b))), (3, .int (nI (c))), (4, .int (nI (d)))] ⟨rfl, rfl, rfl, rfl, rfl, trivial⟩ ?_
  refine r_aload_n (q := 1) (i := 0) (j := 0) (x := base + 35) X rfl rfl dX2_add_0 rfl ?_
  refine r_getf (q := 4) (i := 35) (v := .int (nI (Mx 35 4))) X fk_X2_24 kh_35 rfl rfl dX2_add_1 rfl ?_
  refine r_if_lt (q := 7) (tgt := 67) X (by decide) dX2_add_4 rfl (fun c4 => ?_) (fun c4 => ?_)
  · replace c4 : (Mx 35 4) < 0 := (kI_lt0 (by omega)).mp c4
    exfalso; omega
  · replace c4 : ¬ (Mx 35 4) < 0 := fun h => c4 ((kI_lt0 (by omega)).mpr h)
    refine r_aload_n (q := 8) (i := 0) (j := 0) (x := base + 35) X rfl rfl dX2_add_7 rfl ?_
    refine r_getf (q := 11) (i := 35) (v := .int (nI (Mx 35 4))) X fk_X2_24 kh_35 rfl rfl dX2_add_8 rfl ?_
    refine r_bipush (q := 13) (v := nI 6) X kb_6 dX2_add_11 rfl ?_
    refine r_icmp_ge (q := 16) (tgt := 67) X (by decide) dX2_add_13 rfl (fun c13 => ?_) (fun c13 => ?_)
    · replace c13 : 6 ≤ (Mx 35 4) := (nI_leI (by omega) (by omega)).mp c13
      exfalso; omega
    · replace c13 : ¬ 6 ≤ (Mx 35 4) := fun h => c13 ((nI_leI (by omega) (by omega)).mpr h)
      refine r_aload_n (q := 17) (i := 0) (j := 0) (x := base + 35) X rfl rfl dX2_add_16 rfl ?_
      refine r_getf (q := 20) (i := 35) (v := .ref (base + 36)) X fk_X2_9 kh_35 rfl rfl dX2_add_17 rfl ?_
      refine r_aload_n (q := 21) (i := 0) (j := 0) (x := base + 35) X rfl rfl dX2_add_20 rfl ?_
      refine r_getf (q := 24) (i := 35) (v := .int (nI (Mx 35 4))) X fk_X2_24 kh_35 rfl rfl dX2_add_21 rfl ?_
      refine r_iload_n (q := 25) (i := 1) (j := 1) (x := nI (a)) X rfl rfl dX2_add_24 rfl ?_
      refine r_iast (q := 26) (i := 36) (j := Mx 35 4) (v := a) X kh_36 (by omega) (Nat.le_of_ble_eq_true rfl) dX2_add_25 rfl ?_
      refine r_aload_n (q := 27) (i := 0) (j := 0) (x := base + 35) X rfl rfl dX2_add_26 rfl ?_
      refine r_getf (q := 30) (i := 35) (v := .ref (base + 37)) X fk_X2_15 kh_35 rfl rfl dX2_add_27 rfl ?_
      refine r_aload_n (q := 31) (i := 0) (j := 0) (x := base + 35) X rfl rfl dX2_add_30 rfl ?_
      refine r_getf (q := 34) (i := 35) (v := .int (nI (Mx 35 4))) X fk_X2_24 kh_35 rfl (by simp [ks_v, up2]) dX2_add_31 rfl ?_
      refine r_iload_n (q := 35) (i := 2) (j := 2) (x := nI (b)) X rfl rfl dX2_add_34 rfl ?_
      refine r_iast (q := 36) (i := 37) (j := Mx 35 4) (v := b) X kh_37 (by omega) (Nat.le_of_ble_eq_true rfl) dX2_add_35 rfl ?_
      refine r_aload_n (q := 37) (i := 0) (j := 0) (x := base + 35) X rfl rfl dX2_add_36 rfl ?_
      refine r_getf (q := 40) (i := 35) (v := .ref (base + 38)) X fk_X2_18 kh_35 rfl rfl dX2_add_37 rfl ?_
      refine r_aload_n (q := 41) (i := 0) (j := 0) (x := base + 35) X rfl rfl dX2_add_40 rfl ?_
      refine r_getf (q := 44) (i := 35) (v := .int (nI (Mx 35 4))) X fk_X2_24 kh_35 rfl (by simp [ks_v, up2]) dX2_add_41 rfl ?_
      refine r_iload_n (q := 45) (i := 3) (j := 3) (x := nI (c)) X rfl rfl dX2_add_44 rfl ?_
      refine r_iast (q := 46) (i := 38) (j := Mx 35 4) (v := c) X kh_38 (by omega) (Nat.le_of_ble_eq_true rfl) dX2_add_45 rfl ?_
      refine r_aload_n (q := 47) (i := 0) (j := 0) (x := base + 35) X rfl rfl dX2_add_46 rfl ?_
      refine r_getf (q := 50) (i := 35) (v := .ref (base + 39)) X fk_X2_21 kh_35 rfl rfl dX2_add_47 rfl ?_
      refine r_aload_n (q := 51) (i := 0) (j := 0) (x := base + 35) X rfl rfl dX2_add_50 rfl ?_
      refine r_getf (q := 54) (i := 35) (v := .int (nI (Mx 35 4))) X fk_X2_24 kh_35 rfl (by simp [ks_v, up2]) dX2_add_51 rfl ?_
      refine r_iload (q := 56) (i := 4) (x := nI (d)) X rfl dX2_add_54 rfl ?_
      refine r_iast (q := 57) (i := 39) (j := Mx 35 4) (v := d) X kh_39 (by omega) (Nat.le_of_ble_eq_true rfl) dX2_add_56 rfl ?_
      refine r_aload_n (q := 58) (i := 0) (j := 0) (x := base + 35) X rfl rfl dX2_add_57 rfl ?_
      refine r_dup (q := 59) X rfl dX2_add_58 rfl ?_
      refine r_getf (q := 62) (i := 35) (v := .int (nI (Mx 35 4))) X fk_X2_24 kh_35 rfl (by simp [ks_v, up2]) dX2_add_59 rfl ?_
      refine r_iconst (q := 63) (v := nI 1) X kc_1 dX2_add_62 rfl ?_
      refine r_iaddR (q := 64) (x := nI (Mx 35 4)) (y := nI 1) (v := nI ((Mx 35 4) + 1)) X (nI_add _ _) dX2_add_63 rfl ?_
      refine r_puti (q := 67) (i := 35) (n := (Mx 35 4) + 1) X fk_X2_24 kp_X2_4 kh_35 rfl dX2_add_64 rfl ?_
      refine r_vret X Y ?_ dX2_add_67
      exact ⟨rfl, rfl⟩
set_option maxHeartbeats 8000000 in
theorem c6_see (l : Launch) (G : ks_G) (base : Nat) (Mx : ks_M) (Lx : ks_L) (x y z u : Int32) (hn : Mx 3 3 ≤ 6) (hc : Mx 35 4 ≤ 6) : KI l G base 1 yX6_see cX6_see 5 .int [.ref (base + 0), .int (x), .int (y), .int (z), .int (u)] SH Mx Lx (fun rr M1 L1 => ((rr = (-1) ∧ (∀ k, k < Mx 3 3 → x ≠ nI k) ∧ M1 = Mx) ∨ (∃ k, k < Mx 3 3 ∧ x = nI k ∧ ((rr = (-2) ∧ ¬ (∃ a b c, a ≤ 9 ∧ b ≤ 9 ∧ c ≤ 10 ∧ y = nI a ∧ z = nI b ∧ u = nI c) ∧ M1 = Mx) ∨ (∃ a b c, a ≤ 9 ∧ b ≤ 9 ∧ c ≤ 10 ∧ y = nI a ∧ z = nI b ∧ u = nI c ∧ ((Mx 35 4 = 6 ∧ rr = (-4) ∧ M1 = Mx) ∨ (Mx 35 4 < 6 ∧ rr = nI (Mx 35 4 + 1) ∧ M1 = add6 Mx k a b c)))))) ∧ L1 = Lx) := by
  refine k_meti (by decide) (Nat.le_of_ble_eq_true rfl) (fun K hK X Y => ?_)
  subst hK
  refine r_pl [(0, .ref (base + 0)), (1, .int (x)), (2, .int (y)), (3, .int (z)), (4, .int (u))] ⟨rfl, rfl, rfl, rfl, rfl, trivial⟩ ?_
  refine r_aload_n (q := 1) (i := 0) (j := 0) (x := base + 0) X rfl rfl dX6_see_0 rfl ?_
  refine r_getf (q := 4) (i := 0) (v := .ref (base + 3)) X fk_X6_19 kh_0 rfl rfl dX6_see_1 rfl ?_
  refine r_iload_n (q := 5) (i := 1) (j := 1) (x := x) X rfl rfl dX6_see_4 rfl ?_
  refine r_callVi (q := 8) X (c_has6 K.2.1 G base Mx Lx x hn) kh_3 rfl ks_RX6_116 (by decide) (by decide) ⟨Nat.zero_le _, Nat.zero_le _⟩ rfl (Nat.le_of_ble_eq_true rfl) dX6_see_5 rfl (fun r M1 L1 hp => ?_)
  rcases hp with ⟨k, e1, hkn, hxe, hp2⟩ | ⟨e1, hno, hp2⟩
  · subst e1
    obtain ⟨e2, e3⟩ := hp2
    replace e2 := e2.symm
    subst e2
    replace e3 := e3.symm
    subst e3
    subst hxe
    refine r_if_ne (q := 11) (tgt := 13) X (by decide) dX6_see_8 rfl (fun _ => ?_) (fun c => absurd c (by decide))
    refine r_iload_n (q := 14) (i := 2) (j := 2) (x := y) X rfl rfl dX6_see_13 rfl ?_
    refine r_if_lt (q := 17) (tgt := 45) X (by decide) dX6_see_14 rfl (fun c14 => ?_) (fun c14 => ?_)
    · skip
      refine r_bipush (q := 47) (v := (-2)) X kb_m2 dX6_see_45 rfl ?_
      refine r_iret X Y ?_ dX6_see_47
      refine ⟨Or.inr ⟨k, hkn, rfl, Or.inl ⟨rfl, fun h => ?_, rfl⟩⟩, rfl⟩
      obtain ⟨a9, b9, c9, h1, h2, h3, e1, e2, e3⟩ := h
      first
      | (rw [e1] at c14; exact absurd c14 (nI_pos (by omega)))
      | (have q1 := (kI_eq (by omega) (by omega)).mp e1; omega)
      | (have q2 := (kI_eq (by omega) (by omega)).mp e2; omega)
      | (have q3 := (kI_eq (by omega) (by omega)).mp e3; omega)
    · skip
      obtain ⟨a, ha, rfl⟩ := nI_of c14
      refine r_iload_n (q := 18) (i := 2) (j := 2) (x := nI (a)) X rfl rfl dX6_see_17 rfl ?_
      refine r_bipush (q := 20) (v := nI 9) X kb_9 dX6_see_18 rfl ?_
      refine r_icmp_gt (q := 23) (tgt := 45) X (by decide) dX6_see_20 rfl (fun c20 => ?_) (fun c20 => ?_)
      · replace c20 : 9 < a := (nI_ltI (by omega) (by omega)).mp c20
        refine r_bipush (q := 47) (v := (-2)) X kb_m2 dX6_see_45 rfl ?_
        refine r_iret X Y ?_ dX6_see_47
        refine ⟨Or.inr ⟨k, hkn, rfl, Or.inl ⟨rfl, fun h => ?_, rfl⟩⟩, rfl⟩
        obtain ⟨a9, b9, c9, h1, h2, h3, e1, e2, e3⟩ := h
        first
        | (rw [e2] at c24; exact absurd c24 (nI_pos (by omega)))
        | (have q1 := (kI_eq (by omega) (by omega)).mp e1; omega)
        | (have q2 := (kI_eq (by omega) (by omega)).mp e2; omega)
        | (have q3 := (kI_eq (by omega) (by omega)).mp e3; omega)
      · replace c20 : ¬ 9 < a := fun h => c20 ((nI_ltI (by omega) (by omega)).mpr h)
        refine r_iload_n (q := 24) (i := 3) (j := 3) (x := z) X rfl rfl dX6_see_23 rfl ?_
        refine r_if_lt (q := 27) (tgt := 45) X (by decide) dX6_see_24 rfl (fun c24 => ?_) (fun c24 => ?_)
        · skip
          refine r_bipush (q := 47) (v := (-2)) X kb_m2 dX6_see_45 rfl ?_
          refine r_iret X Y ?_ dX6_see_47
          refine ⟨Or.inr ⟨k, hkn, rfl, Or.inl ⟨rfl, fun h => ?_, rfl⟩⟩, rfl⟩
          obtain ⟨a9, b9, c9, h1, h2, h3, e1, e2, e3⟩ := h
          first
          | (rw [e2] at c24; exact absurd c24 (nI_pos (by omega)))
          | (have q1 := (kI_eq (by omega) (by omega)).mp e1; omega)
          | (have q2 := (kI_eq (by omega) (by omega)).mp e2; omega)
          | (have q3 := (kI_eq (by omega) (by omega)).mp e3; omega)
        · skip
          obtain ⟨b, hb, rfl⟩ := nI_of c24
          refine r_iload_n (q := 28) (i := 3) (j := 3) (x := nI (b)) X rfl rfl dX6_see_27 rfl ?_
          refine r_bipush (q := 30) (v := nI 9) X kb_9 dX6_see_28 rfl ?_
          refine r_icmp_gt (q := 33) (tgt := 45) X (by decide) dX6_see_30 rfl (fun c30 => ?_) (fun c30 => ?_)
          · replace c30 : 9 < b := (nI_ltI (by omega) (by omega)).mp c30
            refine r_bipush (q := 47) (v := (-2)) X kb_m2 dX6_see_45 rfl ?_
            refine r_iret X Y ?_ dX6_see_47
            refine ⟨Or.inr ⟨k, hkn, rfl, Or.inl ⟨rfl, fun h => ?_, rfl⟩⟩, rfl⟩
            obtain ⟨a9, b9, c9, h1, h2, h3, e1, e2, e3⟩ := h
            first
            | (rw [e3] at c35; exact absurd c35 (nI_pos (by omega)))
            | (have q1 := (kI_eq (by omega) (by omega)).mp e1; omega)
            | (have q2 := (kI_eq (by omega) (by omega)).mp e2; omega)
            | (have q3 := (kI_eq (by omega) (by omega)).mp e3; omega)
          · replace c30 : ¬ 9 < b := fun h => c30 ((nI_ltI (by omega) (by omega)).mpr h)
            refine r_iload (q := 35) (i := 4) (x := u) X rfl dX6_see_33 rfl ?_
            refine r_if_lt (q := 38) (tgt := 45) X (by decide) dX6_see_35 rfl (fun c35 => ?_) (fun c35 => ?_)
            · skip
              refine r_bipush (q := 47) (v := (-2)) X kb_m2 dX6_see_45 rfl ?_
              refine r_iret X Y ?_ dX6_see_47
              refine ⟨Or.inr ⟨k, hkn, rfl, Or.inl ⟨rfl, fun h => ?_, rfl⟩⟩, rfl⟩
              obtain ⟨a9, b9, c9, h1, h2, h3, e1, e2, e3⟩ := h
              first
              | (rw [e3] at c35; exact absurd c35 (nI_pos (by omega)))
              | (have q1 := (kI_eq (by omega) (by omega)).mp e1; omega)
              | (have q2 := (kI_eq (by omega) (by omega)).mp e2; omega)
              | (have q3 := (kI_eq (by omega) (by omega)).mp e3; omega)
            · skip
              obtain ⟨c, hc, rfl⟩ := nI_of c35
              refine r_iload (q := 40) (i := 4) (x := nI (c)) X rfl dX6_see_38 rfl ?_
              refine r_bipush (q := 42) (v := nI 10) X kb_10 dX6_see_40 rfl ?_
              refine r_icmp_le (q := 45) (tgt := 48) X (by decide) dX6_see_42 rfl (fun c42 => ?_) (fun c42 => ?_)
              · replace c42 : c ≤ 10 := (nI_leI (by omega) (by omega)).mp c42
                refine r_aload_n (q := 49) (i := 0) (j := 0) (x := base + 0) X rfl rfl dX6_see_48 rfl ?_
                refine r_getf (q := 52) (i := 0) (v := .ref (base + 35)) X fk_X6_50 kh_0 rfl rfl dX6_see_49 rfl ?_
                refine r_getf (q := 55) (i := 35) (v := .int (nI (Mx 35 4))) X fk_X6_115 kh_35 rfl rfl dX6_see_52 rfl ?_
                refine r_bipush (q := 57) (v := nI 6) X kb_6 dX6_see_55 rfl ?_
                refine r_icmp_lt (q := 60) (tgt := 63) X (by decide) dX6_see_57 rfl (fun c57 => ?_) (fun c57 => ?_)
                · replace c57 : (Mx 35 4) < 6 := (nI_ltI (by omega) (by omega)).mp c57
                  refine r_aload_n (q := 64) (i := 0) (j := 0) (x := base + 0) X rfl rfl dX6_see_63 rfl ?_
                  refine r_getf (q := 67) (i := 0) (v := .ref (base + 35)) X fk_X6_50 kh_0 rfl rfl dX6_see_64 rfl ?_
                  refine r_iload_n (q := 68) (i := 1) (j := 1) (x := nI (k)) X rfl rfl dX6_see_67 rfl ?_
                  refine r_iload_n (q := 69) (i := 2) (j := 2) (x := nI (a)) X rfl rfl dX6_see_68 rfl ?_
                  refine r_iload_n (q := 70) (i := 3) (j := 3) (x := nI (b)) X rfl rfl dX6_see_69 rfl ?_
                  refine r_iload (q := 72) (i := 4) (x := nI (c)) X rfl dX6_see_70 rfl ?_
                  refine r_callVv (q := 75) X (c_seenAdd K.2.1 G base Mx Lx k a b c (by omega)) kh_35 rfl ks_RX6_189 (by decide) (by decide) ⟨Nat.zero_le _, Nat.zero_le _⟩ rfl (Nat.le_of_ble_eq_true rfl) dX6_see_72 rfl (fun M1 L1 hp => ?_)
                  obtain ⟨e2, e3⟩ := hp
                  replace e2 := e2.symm
                  subst e2
                  replace e3 := e3.symm
                  subst e3
                  refine r_aload_n (q := 76) (i := 0) (j := 0) (x := base + 0) X rfl rfl dX6_see_75 rfl ?_
                  refine r_getf (q := 79) (i := 0) (v := .ref (base + 35)) X fk_X6_50 kh_0 rfl rfl dX6_see_76 rfl ?_
                  refine r_getf (q := 82) (i := 35) (v := .int (nI (Mx 35 4 + 1))) X fk_X6_115 kh_35 rfl (kv (by simp [add6, up2])) dX6_see_79 rfl ?_
                  refine r_iret X Y ?_ dX6_see_82
                  exact ⟨Or.inr ⟨k, hkn, rfl, Or.inr ⟨a, b, c, by omega, by omega, by omega, rfl, rfl, rfl, Or.inr ⟨by omega, rfl, rfl⟩⟩⟩, rfl⟩
                · replace c57 : ¬ (Mx 35 4) < 6 := fun h => c57 ((nI_ltI (by omega) (by omega)).mpr h)
                  refine r_bipush (q := 62) (v := (-4)) X kb_m4 dX6_see_60 rfl ?_
                  refine r_iret X Y ?_ dX6_see_62
                  exact ⟨Or.inr ⟨k, hkn, rfl, Or.inr ⟨a, b, c, by omega, by omega, by omega, rfl, rfl, rfl, Or.inl ⟨by omega, rfl, rfl⟩⟩⟩, rfl⟩
              · replace c42 : ¬ c ≤ 10 := fun h => c42 ((nI_leI (by omega) (by omega)).mpr h)
                refine r_bipush (q := 47) (v := (-2)) X kb_m2 dX6_see_45 rfl ?_
                refine r_iret X Y ?_ dX6_see_47
                refine ⟨Or.inr ⟨k, hkn, rfl, Or.inl ⟨rfl, fun h => ?_, rfl⟩⟩, rfl⟩
                obtain ⟨a9, b9, c9, h1, h2, h3, e1, e2, e3⟩ := h
                have q3 := (kI_eq (by omega) (by omega)).mp e3
                omega
  · subst e1
    obtain ⟨e2, e3⟩ := hp2
    replace e2 := e2.symm
    subst e2
    replace e3 := e3.symm
    subst e3
    refine r_if_ne (q := 11) (tgt := 13) X (by decide) dX6_see_8 rfl (fun c => absurd c (by decide)) (fun _ => ?_)
    refine r_iconst (q := 12) (v := (-1)) X kc_m1 dX6_see_11 rfl ?_
    refine r_iret X Y ?_ dX6_see_12
    exact ⟨Or.inl ⟨rfl, hno, rfl⟩, rfl⟩
def add7 (M : ks_M) (a b c d : Nat) : ks_M := up2 (up2 (up2 (up2 (up2 M 55 (M 44 17) a) 56 (M 44 17) b) 57 (M 44 17) c) 58 (M 44 17) d) 44 17 (M 44 17 + 1)
set_option maxHeartbeats 8000000 in
theorem c7_see (l : Launch) (G : ks_G) (base : Nat) (Mx : ks_M) (Lx : ks_L) (x y z u : Int32) (hth : Mx 44 0 = 0) (hn : Mx 44 4 ≤ 6) (hc : Mx 44 17 ≤ 6) : KI l G base 2 yX7_see cX7_see 5 .int [.ref (base + 44), .int (x), .int (y), .int (z), .int (u)] SH Mx Lx (fun rr M1 L1 => ((rr = (-1) ∧ (∀ k, k < Mx 44 4 → x ≠ nI k) ∧ M1 = Mx) ∨ (∃ k, k < Mx 44 4 ∧ x = nI k ∧ ((rr = (-2) ∧ ¬ (∃ a b c, a ≤ 9 ∧ b ≤ 9 ∧ c ≤ 10 ∧ y = nI a ∧ z = nI b ∧ u = nI c) ∧ M1 = Mx) ∨ (∃ a b c, a ≤ 9 ∧ b ≤ 9 ∧ c ≤ 10 ∧ y = nI a ∧ z = nI b ∧ u = nI c ∧ ((Mx 44 17 = 6 ∧ rr = (-4) ∧ M1 = Mx) ∨ (Mx 44 17 < 6 ∧ rr = nI (Mx 44 17 + 1) ∧ M1 = add7 Mx k a b c)))))) ∧ L1 = Lx) := by
  refine k_meti (by decide) (Nat.le_of_ble_eq_true rfl) (fun K hK X Y => ?_)
  subst hK
  refine r_pl [(0, .ref (base + 44)), (1, .int (x)), (2, .int (y)), (3, .int (z)), (4, .int (u))] ⟨rfl, rfl, rfl, rfl, rfl, trivial⟩ ?_
  refine r_aload_n (q := 1) (i := 0) (j := 0) (x := base + 44) X rfl rfl dX7_see_0 rfl ?_
  refine r_iconst (q := 2) (v := nI 0) X kc_0 dX7_see_1 rfl ?_
  refine r_puti (q := 5) (i := 44) (n := 0) X fk_X7_59 kp_X7_0 kh_44 rfl dX7_see_2 rfl ?_
  refine r_mem Mx (up2_id hth) ?_
  refine r_aload_n (q := 6) (i := 0) (j := 0) (x := base + 44) X rfl rfl dX7_see_5 rfl ?_
  refine r_iload_n (q := 7) (i := 1) (j := 1) (x := x) X rfl rfl dX7_see_6 rfl ?_
  refine r_callVi (q := 10) X (c_noHouse K.2.1 G base Mx Lx x hn) kh_44 rfl ks_RX7_109 (by decide) (by decide) ⟨Nat.zero_le _, Nat.zero_le _⟩ rfl (Nat.le_of_ble_eq_true rfl) dX7_see_7 rfl (fun r M1 L1 hp => ?_)
  rcases hp with ⟨k, e1, hkn, hxe, hp2⟩ | ⟨e1, hno, hp2⟩
  · subst e1
    obtain ⟨e2, e3⟩ := hp2
    replace e2 := e2.symm
    subst e2
    replace e3 := e3.symm
    subst e3
    subst hxe
    refine r_if_eq (q := 13) (tgt := 15) X (by decide) dX7_see_10 rfl (fun _ => ?_) (fun c => absurd c (by decide))
    refine r_iload_n (q := 16) (i := 2) (j := 2) (x := y) X rfl rfl dX7_see_15 rfl ?_
    refine r_i2l (q := 17) (v := y.toInt64) X rfl dX7_see_16 rfl ?_
    refine r_lconst (q := 18) (v := 0) X rfl dX7_see_17 rfl ?_
    refine r_ldc2 (q := 21) (v := 9) X kl_RX7_169 dX7_see_18 rfl ?_
    refine r_callSi (q := 24) X (c_in K.2.1 G base Mx Lx y.toInt64 0 9) ks_RX7_66 (by decide) (by decide) ⟨Nat.zero_le _, Nat.zero_le _⟩ rfl (Nat.le_of_ble_eq_true rfl) dX7_see_21 rfl (fun r M1 L1 hp => ?_)
    have hky := kIn (x := y) (y := 0) (z := 9) (a := 0) (b := 9) rfl rfl (by omega) (by omega)
    rcases hp with ⟨e1, hiny, hp2⟩ | ⟨e1, hiny, hp2⟩
    · subst e1
      obtain ⟨e2, e3⟩ := hp2
      replace e2 := e2.symm
      subst e2
      replace e3 := e3.symm
      subst e3
      rw [hky] at hiny
      obtain ⟨jy, hloy, hby, rfl⟩ := hiny
      refine r_if_eq (q := 27) (tgt := 52) X (by decide) dX7_see_24 rfl (fun c => absurd c (by decide)) (fun _ => ?_)
      refine r_iload_n (q := 28) (i := 3) (j := 3) (x := z) X rfl rfl dX7_see_27 rfl ?_
      refine r_i2l (q := 29) (v := z.toInt64) X rfl dX7_see_28 rfl ?_
      refine r_lconst (q := 30) (v := 0) X rfl dX7_see_29 rfl ?_
      refine r_ldc2 (q := 33) (v := 9) X kl_RX7_169 dX7_see_30 rfl ?_
      refine r_callSi (q := 36) X (c_in K.2.1 G base Mx Lx z.toInt64 0 9) ks_RX7_66 (by decide) (by decide) ⟨Nat.zero_le _, Nat.zero_le _⟩ rfl (Nat.le_of_ble_eq_true rfl) dX7_see_33 rfl (fun r M1 L1 hp => ?_)
      have hkz := kIn (x := z) (y := 0) (z := 9) (a := 0) (b := 9) rfl rfl (by omega) (by omega)
      rcases hp with ⟨e1, hinz, hp2⟩ | ⟨e1, hinz, hp2⟩
      · subst e1
        obtain ⟨e2, e3⟩ := hp2
        replace e2 := e2.symm
        subst e2
        replace e3 := e3.symm
        subst e3
        rw [hkz] at hinz
        obtain ⟨jz, hloz, hbz, rfl⟩ := hinz
        refine r_if_eq (q := 39) (tgt := 52) X (by decide) dX7_see_36 rfl (fun c => absurd c (by decide)) (fun _ => ?_)
        refine r_iload (q := 41) (i := 4) (x := u) X rfl dX7_see_39 rfl ?_
        refine r_i2l (q := 42) (v := u.toInt64) X rfl dX7_see_41 rfl ?_
        refine r_lconst (q := 43) (v := 0) X rfl dX7_see_42 rfl ?_
        refine r_ldc2 (q := 46) (v := 10) X kl_RX7_171 dX7_see_43 rfl ?_
        refine r_callSi (q := 49) X (c_in K.2.1 G base Mx Lx u.toInt64 0 10) ks_RX7_66 (by decide) (by decide) ⟨Nat.zero_le _, Nat.zero_le _⟩ rfl (Nat.le_of_ble_eq_true rfl) dX7_see_46 rfl (fun r M1 L1 hp => ?_)
        have hku := kIn (x := u) (y := 0) (z := 10) (a := 0) (b := 10) rfl rfl (by omega) (by omega)
        rcases hp with ⟨e1, hinu, hp2⟩ | ⟨e1, hinu, hp2⟩
        · subst e1
          obtain ⟨e2, e3⟩ := hp2
          replace e2 := e2.symm
          subst e2
          replace e3 := e3.symm
          subst e3
          rw [hku] at hinu
          obtain ⟨ju, hlou, hbu, rfl⟩ := hinu
          refine r_if_ne (q := 52) (tgt := 55) X (by decide) dX7_see_49 rfl (fun _ => ?_) (fun c => absurd c (by decide))
          refine r_aload_n (q := 56) (i := 0) (j := 0) (x := base + 44) X rfl rfl dX7_see_55 rfl ?_
          refine r_getf (q := 59) (i := 44) (v := .int (nI (Mx 44 17))) X fk_X7_106 kh_44 rfl rfl dX7_see_56 rfl ?_
          refine r_bipush (q := 61) (v := nI 6) X kb_6 dX7_see_59 rfl ?_
          refine r_icmp_ne (q := 64) (tgt := 67) X (by decide) dX7_see_61 rfl (fun c61 => ?_) (fun c61 => ?_)
          · replace c61 : ¬ (Mx 44 17) = 6 := fun h => c61 ((kI_eq (by omega) (by omega)).mpr h)
            refine r_aload_n (q := 68) (i := 0) (j := 0) (x := base + 44) X rfl rfl dX7_see_67 rfl ?_
            refine r_getf (q := 71) (i := 44) (v := .ref (base + 55)) X fk_X7_41 kh_44 rfl rfl dX7_see_68 rfl ?_
            refine r_aload_n (q := 72) (i := 0) (j := 0) (x := base + 44) X rfl rfl dX7_see_71 rfl ?_
            refine r_getf (q := 75) (i := 44) (v := .int (nI (Mx 44 17))) X fk_X7_106 kh_44 rfl rfl dX7_see_72 rfl ?_
            refine r_iload_n (q := 76) (i := 1) (j := 1) (x := nI (k)) X rfl rfl dX7_see_75 rfl ?_
            refine r_iast (q := 77) (i := 55) (j := Mx 44 17) (v := k) X kh_55 (by omega) (Nat.le_of_ble_eq_true rfl) dX7_see_76 rfl ?_
            refine r_aload_n (q := 78) (i := 0) (j := 0) (x := base + 44) X rfl rfl dX7_see_77 rfl ?_
            refine r_getf (q := 81) (i := 44) (v := .ref (base + 56)) X fk_X7_44 kh_44 rfl rfl dX7_see_78 rfl ?_
            refine r_aload_n (q := 82) (i := 0) (j := 0) (x := base + 44) X rfl rfl dX7_see_81 rfl ?_
            refine r_getf (q := 85) (i := 44) (v := .int (nI (Mx 44 17))) X fk_X7_106 kh_44 rfl (by simp [ks_v, up2]) dX7_see_82 rfl ?_
            refine r_iload_n (q := 86) (i := 2) (j := 2) (x := nI (jy)) X rfl rfl dX7_see_85 rfl ?_
            refine r_iast (q := 87) (i := 56) (j := Mx 44 17) (v := jy) X kh_56 (by omega) (Nat.le_of_ble_eq_true rfl) dX7_see_86 rfl ?_
            refine r_aload_n (q := 88) (i := 0) (j := 0) (x := base + 44) X rfl rfl dX7_see_87 rfl ?_
            refine r_getf (q := 91) (i := 44) (v := .ref (base + 57)) X fk_X7_47 kh_44 rfl rfl dX7_see_88 rfl ?_
            refine r_aload_n (q := 92) (i := 0) (j := 0) (x := base + 44) X rfl rfl dX7_see_91 rfl ?_
            refine r_getf (q := 95) (i := 44) (v := .int (nI (Mx 44 17))) X fk_X7_106 kh_44 rfl (by simp [ks_v, up2]) dX7_see_92 rfl ?_
            refine r_iload_n (q := 96) (i := 3) (j := 3) (x := nI (jz)) X rfl rfl dX7_see_95 rfl ?_
            refine r_iast (q := 97) (i := 57) (j := Mx 44 17) (v := jz) X kh_57 (by omega) (Nat.le_of_ble_eq_true rfl) dX7_see_96 rfl ?_
            refine r_aload_n (q := 98) (i := 0) (j := 0) (x := base + 44) X rfl rfl dX7_see_97 rfl ?_
            refine r_getf (q := 101) (i := 44) (v := .ref (base + 58)) X fk_X7_50 kh_44 rfl rfl dX7_see_98 rfl ?_
            refine r_aload_n (q := 102) (i := 0) (j := 0) (x := base + 44) X rfl rfl dX7_see_101 rfl ?_
            refine r_getf (q := 105) (i := 44) (v := .int (nI (Mx 44 17))) X fk_X7_106 kh_44 rfl (by simp [ks_v, up2]) dX7_see_102 rfl ?_
            refine r_iload (q := 107) (i := 4) (x := nI (ju)) X rfl dX7_see_105 rfl ?_
            refine r_iast (q := 108) (i := 58) (j := Mx 44 17) (v := ju) X kh_58 (by omega) (Nat.le_of_ble_eq_true rfl) dX7_see_107 rfl ?_
            refine r_aload_n (q := 109) (i := 0) (j := 0) (x := base + 44) X rfl rfl dX7_see_108 rfl ?_
            refine r_dup (q := 110) X rfl dX7_see_109 rfl ?_
            refine r_getf (q := 113) (i := 44) (v := .int (nI (Mx 44 17))) X fk_X7_106 kh_44 rfl (by simp [ks_v, up2]) dX7_see_110 rfl ?_
            refine r_iconst (q := 114) (v := nI 1) X kc_1 dX7_see_113 rfl ?_
            refine r_iaddR (q := 115) (x := nI (Mx 44 17)) (y := nI 1) (v := nI ((Mx 44 17) + 1)) X (nI_add _ _) dX7_see_114 rfl ?_
            refine r_puti (q := 118) (i := 44) (n := (Mx 44 17) + 1) X fk_X7_106 kp_X7_17 kh_44 rfl dX7_see_115 rfl ?_
            refine r_aload_n (q := 119) (i := 0) (j := 0) (x := base + 44) X rfl rfl dX7_see_118 rfl ?_
            refine r_getf (q := 122) (i := 44) (v := .int (nI ((Mx 44 17) + 1))) X fk_X7_106 kh_44 rfl (by simp [ks_v, up2]) dX7_see_119 rfl ?_
            refine r_iret X Y ?_ dX7_see_122
            exact ⟨Or.inr ⟨k, hkn, rfl, Or.inr ⟨jy, jz, ju, by omega, by omega, by omega, rfl, rfl, rfl, Or.inr ⟨by omega, rfl, rfl⟩⟩⟩, rfl⟩
          · replace c61 : (Mx 44 17) = 6 := (kI_eq (by omega) (by omega)).mp c61
            refine r_bipush (q := 66) (v := (-4)) X kb_m4 dX7_see_64 rfl ?_
            refine r_iret X Y ?_ dX7_see_66
            exact ⟨Or.inr ⟨k, hkn, rfl, Or.inr ⟨jy, jz, ju, by omega, by omega, by omega, rfl, rfl, rfl, Or.inl ⟨by omega, rfl, rfl⟩⟩⟩, rfl⟩
        · subst e1
          obtain ⟨e2, e3⟩ := hp2
          replace e2 := e2.symm
          subst e2
          replace e3 := e3.symm
          subst e3
          rw [hku] at hinu
          refine r_if_ne (q := 52) (tgt := 55) X (by decide) dX7_see_49 rfl (fun c => absurd c (by decide)) (fun _ => ?_)
          refine r_bipush (q := 54) (v := (-2)) X kb_m2 dX7_see_52 rfl ?_
          refine r_iret X Y ?_ dX7_see_54
          refine ⟨Or.inr ⟨k, hkn, rfl, Or.inl ⟨rfl, fun h => ?_, rfl⟩⟩, rfl⟩
          obtain ⟨a9, b9, c9, h1, h2, h3, e1, e2, e3⟩ := h
          exact hinu ⟨c9, by omega, by omega, e3⟩
      · subst e1
        obtain ⟨e2, e3⟩ := hp2
        replace e2 := e2.symm
        subst e2
        replace e3 := e3.symm
        subst e3
        rw [hkz] at hinz
        refine r_if_eq (q := 39) (tgt := 52) X (by decide) dX7_see_36 rfl (fun _ => ?_) (fun c => absurd c (by decide))
        refine r_bipush (q := 54) (v := (-2)) X kb_m2 dX7_see_52 rfl ?_
        refine r_iret X Y ?_ dX7_see_54
        refine ⟨Or.inr ⟨k, hkn, rfl, Or.inl ⟨rfl, fun h => ?_, rfl⟩⟩, rfl⟩
        obtain ⟨a9, b9, c9, h1, h2, h3, e1, e2, e3⟩ := h
        exact hinz ⟨b9, by omega, by omega, e2⟩
    · subst e1
      obtain ⟨e2, e3⟩ := hp2
      replace e2 := e2.symm
      subst e2
      replace e3 := e3.symm
      subst e3
      rw [hky] at hiny
      refine r_if_eq (q := 27) (tgt := 52) X (by decide) dX7_see_24 rfl (fun _ => ?_) (fun c => absurd c (by decide))
      refine r_bipush (q := 54) (v := (-2)) X kb_m2 dX7_see_52 rfl ?_
      refine r_iret X Y ?_ dX7_see_54
      refine ⟨Or.inr ⟨k, hkn, rfl, Or.inl ⟨rfl, fun h => ?_, rfl⟩⟩, rfl⟩
      obtain ⟨a9, b9, c9, h1, h2, h3, e1, e2, e3⟩ := h
      exact hiny ⟨a9, by omega, by omega, e1⟩
  · subst e1
    obtain ⟨e2, e3⟩ := hp2
    replace e2 := e2.symm
    subst e2
    replace e3 := e3.symm
    subst e3
    refine r_if_eq (q := 13) (tgt := 15) X (by decide) dX7_see_10 rfl (fun c => absurd c (by decide)) (fun _ => ?_)
    refine r_iconst (q := 14) (v := (-1)) X kc_m1 dX7_see_13 rfl ?_
    refine r_iret X Y ?_ dX7_see_14
    exact ⟨Or.inl ⟨rfl, hno, rfl⟩, rfl⟩
