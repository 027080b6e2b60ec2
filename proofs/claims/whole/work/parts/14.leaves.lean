/-! LEAVES: arithmetic, copies -/
theorem c_power6 (l : Launch) (G : ks_G) (base : Nat) (Mx : ks_M) (Lx : ks_L) (a n : Nat) (hn : n < 1000) : KI l G base 0 yX6_power cX6_power 4 .int [.int (nI (a)), .int (nI (n))] SH Mx Lx (fun r M1 L1 => r = nI (a ^ n) ∧ M1 = Mx ∧ L1 = Lx) := by
  refine k_meti (by decide) (Nat.le_of_ble_eq_true rfl) (fun K hK X Y => ?_)
  subst hK
  have lp : ∀ (fuel : Nat) (k : Nat), n - k < fuel → k ≤ n → RN K G base 4 0 0 SH Mx Lx 4 [(0, .int (nI (a))), (1, .int (nI (n))), (2, .int (nI (a ^ k))), (3, .int (nI (k)))] [] := by
    intro fuel
    induction fuel with
    | zero => intro k hfu; exact absurd hfu (Nat.not_lt_zero _)
    | succ fuel ih =>
      intro k hfu hk
      refine r_iload_n (q := 5) (i := 3) (j := 3) (x := nI (k)) X rfl rfl dX6_power_4 rfl ?_
      refine r_iload_n (q := 6) (i := 1) (j := 1) (x := nI (n)) X rfl rfl dX6_power_5 rfl ?_
      refine r_icmp_ge (q := 9) (tgt := 19) X (by decide) dX6_power_6 rfl (fun c6 => ?_) (fun c6 => ?_)
      · replace c6 : n ≤ k := (nI_leI (by omega) (by omega)).mp c6
        refine r_iload_n (q := 20) (i := 2) (j := 2) (x := nI (a ^ k)) X rfl rfl dX6_power_19 rfl ?_
        refine r_iret X Y ?_ dX6_power_20
        exact ⟨by rw [show k = n by omega], rfl, rfl⟩
      · replace c6 : ¬ n ≤ k := fun h => c6 ((nI_leI (by omega) (by omega)).mpr h)
        refine r_iload_n (q := 10) (i := 2) (j := 2) (x := nI (a ^ k)) X rfl rfl dX6_power_9 rfl ?_
        refine r_iload_n (q := 11) (i := 0) (j := 0) (x := nI (a)) X rfl rfl dX6_power_10 rfl ?_
        refine r_imulR (q := 12) (x := nI (a ^ k)) (y := nI (a)) (v := nI ((a ^ k) * a)) X (pk_mul _ _) dX6_power_11 rfl ?_
        refine r_istore_n (q := 13) (i := 2) (j := 2) X rfl (Nat.le_of_ble_eq_true rfl) dX6_power_12 rfl ?_
        refine r_iinc (q := 16) (i := 3) (x := nI (k)) (v := nI (k + 1)) X rfl (Nat.le_of_ble_eq_true rfl) (kinc 1 rfl) dX6_power_13 rfl ?_
        refine r_goto (tgt := 4) X (by decide) dX6_power_16 ?_
        refine r_pl [(0, .int (nI (a))), (1, .int (nI (n))), (2, .int (nI (a ^ (k + 1)))), (3, .int (nI (k + 1)))] ⟨rfl, rfl, rfl, rfl, trivial⟩ ?_
        exact ih (k + 1) (by omega) (by omega)
  refine r_pl [(0, .int (nI (a))), (1, .int (nI (n)))] ⟨rfl, rfl, trivial⟩ ?_
  refine r_iconst (q := 1) (v := nI 1) X kc_1 dX6_power_0 rfl ?_
  refine r_istore_n (q := 2) (i := 2) (j := 2) X rfl (Nat.le_of_ble_eq_true rfl) dX6_power_1 rfl ?_
  refine r_iconst (q := 3) (v := nI 0) X kc_0 dX6_power_2 rfl ?_
  refine r_istore_n (q := 4) (i := 3) (j := 3) X rfl (Nat.le_of_ble_eq_true rfl) dX6_power_3 rfl ?_
  refine r_pl [(0, .int (nI (a))), (1, .int (nI (n))), (2, .int (nI (a ^ 0))), (3, .int (nI (0)))] ⟨rfl, rfl, rfl, rfl, trivial⟩ ?_
  exact lp (n + 1) 0 (by omega) (by omega)
theorem c_power7 (l : Launch) (G : ks_G) (base : Nat) (Mx : ks_M) (Lx : ks_L) (a n : Nat) (hn : n < 1000) : KI l G base 0 yX7_power cX7_power 4 .int [.int (nI (a)), .int (nI (n))] SH Mx Lx (fun r M1 L1 => r = nI (a ^ n) ∧ M1 = Mx ∧ L1 = Lx) := by
  refine k_meti (by decide) (Nat.le_of_ble_eq_true rfl) (fun K hK X Y => ?_)
  subst hK
  have lp : ∀ (fuel : Nat) (k : Nat), n - k < fuel → k ≤ n → RN K G base 4 0 0 SH Mx Lx 4 [(0, .int (nI (a))), (1, .int (nI (n))), (2, .int (nI (a ^ k))), (3, .int (nI (k)))] [] := by
    intro fuel
    induction fuel with
    | zero => intro k hfu; exact absurd hfu (Nat.not_lt_zero _)
    | succ fuel ih =>
      intro k hfu hk
      refine r_iload_n (q := 5) (i := 3) (j := 3) (x := nI (k)) X rfl rfl dX7_power_4 rfl ?_
      refine r_iload_n (q := 6) (i := 1) (j := 1) (x := nI (n)) X rfl rfl dX7_power_5 rfl ?_
      refine r_icmp_ge (q := 9) (tgt := 19) X (by decide) dX7_power_6 rfl (fun c6 => ?_) (fun c6 => ?_)
      · replace c6 : n ≤ k := (nI_leI (by omega) (by omega)).mp c6
        refine r_iload_n (q := 20) (i := 2) (j := 2) (x := nI (a ^ k)) X rfl rfl dX7_power_19 rfl ?_
        refine r_iret X Y ?_ dX7_power_20
        exact ⟨by rw [show k = n by omega], rfl, rfl⟩
      · replace c6 : ¬ n ≤ k := fun h => c6 ((nI_leI (by omega) (by omega)).mpr h)
        refine r_iload_n (q := 10) (i := 2) (j := 2) (x := nI (a ^ k)) X rfl rfl dX7_power_9 rfl ?_
        refine r_iload_n (q := 11) (i := 0) (j := 0) (x := nI (a)) X rfl rfl dX7_power_10 rfl ?_
        refine r_imulR (q := 12) (x := nI (a ^ k)) (y := nI (a)) (v := nI ((a ^ k) * a)) X (pk_mul _ _) dX7_power_11 rfl ?_
        refine r_istore_n (q := 13) (i := 2) (j := 2) X rfl (Nat.le_of_ble_eq_true rfl) dX7_power_12 rfl ?_
        refine r_iinc (q := 16) (i := 3) (x := nI (k)) (v := nI (k + 1)) X rfl (Nat.le_of_ble_eq_true rfl) (kinc 1 rfl) dX7_power_13 rfl ?_
        refine r_goto (tgt := 4) X (by decide) dX7_power_16 ?_
        refine r_pl [(0, .int (nI (a))), (1, .int (nI (n))), (2, .int (nI (a ^ (k + 1)))), (3, .int (nI (k + 1)))] ⟨rfl, rfl, rfl, rfl, trivial⟩ ?_
        exact ih (k + 1) (by omega) (by omega)
  refine r_pl [(0, .int (nI (a))), (1, .int (nI (n)))] ⟨rfl, rfl, trivial⟩ ?_
  refine r_iconst (q := 1) (v := nI 1) X kc_1 dX7_power_0 rfl ?_
  refine r_istore_n (q := 2) (i := 2) (j := 2) X rfl (Nat.le_of_ble_eq_true rfl) dX7_power_1 rfl ?_
  refine r_iconst (q := 3) (v := nI 0) X kc_0 dX7_power_2 rfl ?_
  refine r_istore_n (q := 4) (i := 3) (j := 3) X rfl (Nat.le_of_ble_eq_true rfl) dX7_power_3 rfl ?_
  refine r_pl [(0, .int (nI (a))), (1, .int (nI (n))), (2, .int (nI (a ^ 0))), (3, .int (nI (0)))] ⟨rfl, rfl, rfl, rfl, trivial⟩ ?_
  exact lp (n + 1) 0 (by omega) (by omega)
