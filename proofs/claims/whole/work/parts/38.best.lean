/-! The searches of the class: best, fewest -/
set_option maxHeartbeats 8000000 in
theorem c6_best (l : Launch) (G : ks_G) (base : Nat) (Mx : ks_M) (Lx : ks_L) (x : Int32) (b : Nat) (hb : b < 2) (ok : okN Mx) (hn : Mx 3 3 ≤ 6) (h0n : Mx 7 0 < Mx 3 3 ∨ Mx 7 0 = 0) (hS : ∀ k, Mx 6 k < 1000) (hJ : Mx 7 3 < 1000000000) : KI l G base 12 yX6_best cX6_best 3 .int [.ref (base + 0), .int (x), .int (nI (b))] SH Mx Lx (fun rr M1 L1 => (rr = (-2) ∧ (∀ n, 1 ≤ n → n ≤ 6 → x ≠ nI n) ∧ M1 = Mx ∧ L1 = Lx) ∨ (∃ n, 1 ≤ n ∧ n ≤ 6 ∧ x = nI n ∧ (b = 0 → rr = nI (bst (Mx 6) (Mx 3 3) n (Mx 7))) ∧ (b ≠ 0 → rr = nI (gro (Mx 6) (Mx 3 3) (Mx 7 3 + bst (Mx 6) (Mx 3 3) n (Mx 7)) n (Mx 7) 1)) ∧ (∀ a, (a < 27 ∨ 35 ≤ a) → M1 a = Mx a) ∧ L1 = Lx)) := by
  refine k_meti (by decide) (Nat.le_of_ble_eq_true rfl) (fun K hK X Y => ?_)
  subst hK
  refine r_pl [(0, .ref (base + 0)), (1, .int (x)), (2, .int (nI (b)))] ⟨rfl, rfl, rfl, trivial⟩ ?_
  refine r_iload_n (q := 1) (i := 1) (j := 1) (x := x) X rfl rfl dX6_best_0 rfl ?_
  refine r_iconst (q := 2) (v := nI 1) X kc_1 dX6_best_1 rfl ?_
  refine r_icmp_lt (q := 5) (tgt := 11) X (by decide) dX6_best_2 rfl (fun c2 => ?_) (fun c2 => ?_)
  · skip
    refine r_bipush (q := 13) (v := (-2)) X kb_m2 dX6_best_11 rfl ?_
    refine r_iret X Y ?_ dX6_best_13
    refine Or.inl ⟨rfl, fun n2 h1 h2 h3 => ?_, rfl, rfl⟩
    subst h3
    exact absurd c2 (fun h => by have := (nI_ltI (by omega) (by omega)).mp h; omega)
  · skip
    obtain ⟨n, hn9, rfl⟩ : ∃ n, n < 2147483648 ∧ x = nI n := by
      obtain ⟨n, h1, h2⟩ := nI_of (x := x) (fun h => c2 (fa_lt0 h))
      exact ⟨n, h1, h2⟩
    replace c2 : ¬ n < 1 := fun h => c2 ((nI_ltI (by omega) (by omega)).mpr h)
    refine r_iload_n (q := 6) (i := 1) (j := 1) (x := nI (n)) X rfl rfl dX6_best_5 rfl ?_
    refine r_bipush (q := 8) (v := nI 6) X kb_6 dX6_best_6 rfl ?_
    refine r_icmp_le (q := 11) (tgt := 14) X (by decide) dX6_best_8 rfl (fun c8 => ?_) (fun c8 => ?_)
    · replace c8 : n ≤ 6 := (nI_leI (by omega) (by omega)).mp c8
      refine r_iload_n (q := 15) (i := 2) (j := 2) (x := nI (b)) X rfl rfl dX6_best_14 rfl ?_
      refine r_if_eq (q := 18) (tgt := 37) X (by decide) dX6_best_15 rfl (fun c15 => ?_) (fun c15 => ?_)
      · replace c15 : b = 0 := (kI_eq0 (by omega)).mp c15
        refine r_aload_n (q := 38) (i := 0) (j := 0) (x := base + 0) X rfl rfl dX6_best_37 rfl ?_
        refine r_getf (q := 41) (i := 0) (v := .ref (base + 25)) X fk_X6_43 kh_0 rfl rfl dX6_best_38 rfl ?_
        refine r_aload_n (q := 42) (i := 0) (j := 0) (x := base + 0) X rfl rfl dX6_best_41 rfl ?_
        refine r_getf (q := 45) (i := 0) (v := .ref (base + 3)) X fk_X6_19 kh_0 rfl rfl dX6_best_42 rfl ?_
        refine r_aload_n (q := 46) (i := 0) (j := 0) (x := base + 0) X rfl rfl dX6_best_45 rfl ?_
        refine r_getf (q := 49) (i := 0) (v := .ref (base + 7)) X fk_X6_26 kh_0 rfl rfl dX6_best_46 rfl ?_
        refine r_iload_n (q := 50) (i := 1) (j := 1) (x := nI (n)) X rfl rfl dX6_best_49 rfl ?_
        refine r_callVi (q := 53) X (c_most K.2.1 G base Mx Lx 7 n 100000 (Or.inl (by decide)) kh_7 (by omega) (by omega) hn hS (okN_rok ok h0n) (by omega)) kh_25 rfl ks_RX6_157 (by omega) (by decide) ⟨Nat.zero_le _, Nat.zero_le _⟩ rfl (Nat.le_of_ble_eq_true rfl) dX6_best_50 rfl (fun r M1 L1 hp => ?_)
        obtain ⟨e1, hfr, e3⟩ := hp
        subst e1
        replace e3 := e3.symm
        subst e3
        refine r_iret X Y ?_ dX6_best_53
        exact Or.inr ⟨n, by omega, by omega, rfl, fun h => by first | rfl | exact absurd h c15, fun h => by first | rfl | exact absurd c15 h, fun a ha => hfr a (by omega), rfl⟩
      · replace c15 : ¬ b = 0 := fun h => (c15 ((kI_eq0 (by omega)).mpr h))
        refine r_aload_n (q := 19) (i := 0) (j := 0) (x := base + 0) X rfl rfl dX6_best_18 rfl ?_
        refine r_getf (q := 22) (i := 0) (v := .ref (base + 25)) X fk_X6_43 kh_0 rfl rfl dX6_best_19 rfl ?_
        refine r_aload_n (q := 23) (i := 0) (j := 0) (x := base + 0) X rfl rfl dX6_best_22 rfl ?_
        refine r_getf (q := 26) (i := 0) (v := .ref (base + 3)) X fk_X6_19 kh_0 rfl rfl dX6_best_23 rfl ?_
        refine r_aload_n (q := 27) (i := 0) (j := 0) (x := base + 0) X rfl rfl dX6_best_26 rfl ?_
        refine r_getf (q := 30) (i := 0) (v := .ref (base + 7)) X fk_X6_26 kh_0 rfl rfl dX6_best_27 rfl ?_
        refine r_iload_n (q := 31) (i := 1) (j := 1) (x := nI (n)) X rfl rfl dX6_best_30 rfl ?_
        refine r_callVi (q := 34) X (c_bestRow K.2.1 G base Mx Lx 7 n 100000 (by decide) kh_7 (by omega) (by omega) hn hS (okN_rok ok h0n) (by omega)) kh_25 rfl ks_RX6_153 (by omega) (by decide) ⟨Nat.zero_le _, Nat.zero_le _⟩ rfl (Nat.le_of_ble_eq_true rfl) dX6_best_31 rfl (fun r M1 L1 hp => ?_)
        obtain ⟨e1, hfr, e3⟩ := hp
        subst e1
        replace e3 := e3.symm
        subst e3
        refine r_goto (tgt := 53) X (by decide) dX6_best_34 ?_
        refine r_iret X Y ?_ dX6_best_53
        exact Or.inr ⟨n, by omega, by omega, rfl, fun h => by first | rfl | exact absurd h c15, fun h => by first | rfl | exact absurd c15 h, fun a ha => hfr a (by omega), rfl⟩
    · replace c8 : ¬ n ≤ 6 := fun h => c8 ((nI_leI (by omega) (by omega)).mpr h)
      refine r_bipush (q := 13) (v := (-2)) X kb_m2 dX6_best_11 rfl ?_
      refine r_iret X Y ?_ dX6_best_13
      refine Or.inl ⟨rfl, fun n2 h1 h2 h3 => ?_, rfl, rfl⟩
      have := (kI_eq (by omega) (by omega)).mp h3; omega
set_option maxHeartbeats 8000000 in
theorem c6_fewest (l : Launch) (G : ks_G) (base : Nat) (Mx : ks_M) (Lx : ks_L) (x : Int32) (ok : okN Mx) (hn : Mx 3 3 ≤ 6) (h0n : Mx 7 0 < Mx 3 3 ∨ Mx 7 0 = 0) (hS : ∀ k, Mx 6 k < 1000) (hJ : Mx 7 3 < 1000000000) : KI l G base 12 yX6_fewest cX6_fewest 3 .int [.ref (base + 0), .int (x)] SH Mx Lx (fun rr M1 L1 => (rr = (-2) ∧ (∀ n, 1 ≤ n → n ≤ 99 → x ≠ nI n) ∧ M1 = Mx ∧ L1 = Lx) ∨ (∃ n, 1 ≤ n ∧ n ≤ 99 ∧ x = nI n ∧ ((∃ k, 1 ≤ k ∧ k ≤ 6 ∧ rr = nI k ∧ n ≤ bst (Mx 6) (Mx 3 3) k (Mx 7) ∧ ∀ q, 1 ≤ q → q < k → bst (Mx 6) (Mx 3 3) q (Mx 7) < n) ∨ (rr = (-9) ∧ ∀ q, 1 ≤ q → q ≤ 6 → bst (Mx 6) (Mx 3 3) q (Mx 7) < n)) ∧ (∀ a, (a < 27 ∨ 35 ≤ a) → M1 a = Mx a) ∧ L1 = Lx)) := by
  refine k_meti (by decide) (Nat.le_of_ble_eq_true rfl) (fun K hK X Y => ?_)
  subst hK
  refine r_pl [(0, .ref (base + 0)), (1, .int (x))] ⟨rfl, rfl, trivial⟩ ?_
  refine r_iload_n (q := 1) (i := 1) (j := 1) (x := x) X rfl rfl dX6_fewest_0 rfl ?_
  refine r_iconst (q := 2) (v := nI 1) X kc_1 dX6_fewest_1 rfl ?_
  refine r_icmp_lt (q := 5) (tgt := 11) X (by decide) dX6_fewest_2 rfl (fun c2 => ?_) (fun c2 => ?_)
  · skip
    refine r_bipush (q := 13) (v := (-2)) X kb_m2 dX6_fewest_11 rfl ?_
    refine r_iret X Y ?_ dX6_fewest_13
    refine Or.inl ⟨rfl, fun n2 h1 h2 h3 => ?_, rfl, rfl⟩
    subst h3
    exact absurd c2 (fun h => by have := (nI_ltI (by omega) (by omega)).mp h; omega)
  · skip
    obtain ⟨n, hn9, rfl⟩ : ∃ n, n < 2147483648 ∧ x = nI n := by
      obtain ⟨n, h1, h2⟩ := nI_of (x := x) (fun h => c2 (fa_lt0 h))
      exact ⟨n, h1, h2⟩
    replace c2 : ¬ n < 1 := fun h => c2 ((nI_ltI (by omega) (by omega)).mpr h)
    refine r_iload_n (q := 6) (i := 1) (j := 1) (x := nI (n)) X rfl rfl dX6_fewest_5 rfl ?_
    refine r_bipush (q := 8) (v := nI 99) X kb_99 dX6_fewest_6 rfl ?_
    refine r_icmp_le (q := 11) (tgt := 14) X (by decide) dX6_fewest_8 rfl (fun c8 => ?_) (fun c8 => ?_)
    · replace c8 : n ≤ 99 := (nI_leI (by omega) (by omega)).mp c8
      refine r_iconst (q := 15) (v := nI 1) X kc_1 dX6_fewest_14 rfl ?_
      refine r_istore_n (q := 16) (i := 2) (j := 2) X rfl (Nat.le_of_ble_eq_true rfl) dX6_fewest_15 rfl ?_
      have lp : ∀ (fuel : Nat) (k : Nat) (Mv : ks_M), 7 - k < fuel → (1 ≤ k) → (k ≤ 7) → ((∀ a, (a < 27 ∨ 35 ≤ a) → Mv a = Mx a)) → (∀ q, 1 ≤ q → q < k → bst (Mx 6) (Mx 3 3) q (Mx 7) < n) → RN K G base 3 0 0 SH Mv Lx 16 [(0, .ref (base + 0)), (1, .int (nI (n))), (2, .int (nI (k)))] [] := by
        intro fuel
        induction fuel with
        | zero => intro k Mv hfu; exact absurd hfu (Nat.not_lt_zero _)
        | succ fuel ih =>
          intro k Mv hfu hk1 hk7 hfv hno
          refine r_iload_n (q := 17) (i := 2) (j := 2) (x := nI (k)) X rfl rfl dX6_fewest_16 rfl ?_
          refine r_bipush (q := 19) (v := nI 6) X kb_6 dX6_fewest_17 rfl ?_
          refine r_icmp_gt (q := 22) (tgt := 50) X (by decide) dX6_fewest_19 rfl (fun c19 => ?_) (fun c19 => ?_)
          · replace c19 : 6 < k := (nI_ltI (by omega) (by omega)).mp c19
            refine r_bipush (q := 52) (v := (-9)) X kb_m9 dX6_fewest_50 rfl ?_
            refine r_iret X Y ?_ dX6_fewest_52
            exact Or.inr ⟨n, by omega, by omega, rfl, Or.inr ⟨rfl, fun q h1 h2 => hno q h1 (by omega)⟩, hfv, rfl⟩
          · replace c19 : ¬ 6 < k := fun h => c19 ((nI_ltI (by omega) (by omega)).mpr h)
            refine r_aload_n (q := 23) (i := 0) (j := 0) (x := base + 0) X rfl rfl dX6_fewest_22 rfl ?_
            refine r_getf (q := 26) (i := 0) (v := .ref (base + 25)) X fk_X6_43 kh_0 rfl rfl dX6_fewest_23 rfl ?_
            refine r_aload_n (q := 27) (i := 0) (j := 0) (x := base + 0) X rfl rfl dX6_fewest_26 rfl ?_
            refine r_getf (q := 30) (i := 0) (v := .ref (base + 3)) X fk_X6_19 kh_0 rfl rfl dX6_fewest_27 rfl ?_
            refine r_aload_n (q := 31) (i := 0) (j := 0) (x := base + 0) X rfl rfl dX6_fewest_30 rfl ?_
            refine r_getf (q := 34) (i := 0) (v := .ref (base + 7)) X fk_X6_26 kh_0 rfl rfl dX6_fewest_31 rfl ?_
            refine r_iload_n (q := 35) (i := 2) (j := 2) (x := nI (k)) X rfl rfl dX6_fewest_34 rfl ?_
            refine r_callVi (q := 38) X (c_most K.2.1 G base Mv Lx 7 k 100000 (Or.inl (by decide)) kh_7 (by omega) (by omega) (by rw [(hfv 3 (Or.inl (by decide)))]; exact hn) (fun q => by rw [(hfv 6 (Or.inl (by decide)))]; exact hS q) (by rw [(hfv 3 (Or.inl (by decide))), (hfv 7 (Or.inl (by decide)))]; exact okN_rok ok h0n) (by rw [(hfv 7 (Or.inl (by decide)))]; omega)) kh_25 rfl ks_RX6_157 (by omega) (by decide) ⟨Nat.zero_le _, Nat.zero_le _⟩ rfl (Nat.le_of_ble_eq_true rfl) dX6_fewest_35 rfl (fun r M1 L1 hp => ?_)
            rw [(hfv 3 (Or.inl (by decide))), (hfv 6 (Or.inl (by decide))), (hfv 7 (Or.inl (by decide)))] at hp
            obtain ⟨e1, hfr, e3⟩ := hp
            subst e1
            replace e3 := e3.symm
            subst e3
            have hbs := bst_le hS (Mx 3 3) k (Mx 7)
            refine r_iload_n (q := 39) (i := 1) (j := 1) (x := nI (n)) X rfl rfl dX6_fewest_38 rfl ?_
            refine r_icmp_lt (q := 42) (tgt := 44) X (by decide) dX6_fewest_39 rfl (fun c39 => ?_) (fun c39 => ?_)
            · replace c39 : (bst (Mx 6) (Mx 3 3) k (Mx 7)) < n := (nI_ltI (by omega) (by omega)).mp c39
              refine r_iinc (q := 47) (i := 2) (x := nI (k)) (v := nI (k + 1)) X rfl (Nat.le_of_ble_eq_true rfl) (kinc 1 rfl) dX6_fewest_44 rfl ?_
              refine r_goto (tgt := 16) X (by decide) dX6_fewest_47 ?_
              refine r_pl [(0, .ref (base + 0)), (1, .int (nI (n))), (2, .int (nI (k + 1)))] ⟨rfl, rfl, rfl, trivial⟩ ?_
              exact ih (k + 1) M1 (by omega) (by omega) (by omega) (fun a ha => (hfr a (by omega)).trans (hfv a ha)) (fun q h1 h2 => by rcases (show q < k ∨ q = k by omega) with h9 | h9; exact hno q h1 h9; subst h9; omega)
            · replace c39 : ¬ (bst (Mx 6) (Mx 3 3) k (Mx 7)) < n := fun h => c39 ((nI_ltI (by omega) (by omega)).mpr h)
              refine r_iload_n (q := 43) (i := 2) (j := 2) (x := nI (k)) X rfl rfl dX6_fewest_42 rfl ?_
              refine r_iret X Y ?_ dX6_fewest_43
              exact Or.inr ⟨n, by omega, by omega, rfl, Or.inl ⟨k, hk1, by omega, rfl, by omega, hno⟩, fun a ha => (hfr a (by omega)).trans (hfv a ha), rfl⟩
      refine r_pl [(0, .ref (base + 0)), (1, .int (nI (n))), (2, .int (nI (1)))] ⟨rfl, rfl, rfl, trivial⟩ ?_
      exact lp 7 1 Mx (by omega) (by omega) (by omega) (fun a _ => rfl) (fun q h1 h2 => absurd h1 (by omega))
    · replace c8 : ¬ n ≤ 99 := fun h => c8 ((nI_leI (by omega) (by omega)).mpr h)
      refine r_bipush (q := 13) (v := (-2)) X kb_m2 dX6_fewest_11 rfl ?_
      refine r_iret X Y ?_ dX6_fewest_13
      refine Or.inl ⟨rfl, fun n2 h1 h2 h3 => ?_, rfl, rfl⟩
      have := (kI_eq (by omega) (by omega)).mp h3; omega
