/-! The class's keys -/
/-- the sets below s gone through: what is found, and how many keys it has -/
def kyo (S : Nat → Nat) (m n j : Nat) (x : Nat → Nat) : Nat → Int32 × Nat
  | 0 => (-9, 7)
  | s + 1 => if s &&& x 5 = 0 ∧ mnk s 6 < (kyo S m n j x s).2 ∧ bst S m n (up1 x 5 (x 5 ||| s)) ≤ j then (nI s, mnk s 6) else kyo S m n j x s
theorem kyo_7 (S : Nat → Nat) (m n j : Nat) (x : Nat → Nat) : ∀ s, (kyo S m n j x s).2 ≤ 7
  | 0 => Nat.le_refl _
  | s + 1 => by
    have h := kyo_7 S m n j x s
    unfold kyo; split
    · next h9 => have := h9.2.1; show mnk s 6 ≤ 7; omega
    · exact h
theorem kyo_y {S : Nat → Nat} {m n j s : Nat} {x : Nat → Nat} (h : s &&& x 5 = 0 ∧ mnk s 6 < (kyo S m n j x s).2 ∧ bst S m n (up1 x 5 (x 5 ||| s)) ≤ j) : kyo S m n j x (s + 1) = (nI s, mnk s 6) := if_pos h
theorem kyo_n {S : Nat → Nat} {m n j s : Nat} {x : Nat → Nat} (h : ¬ (s &&& x 5 = 0 ∧ mnk s 6 < (kyo S m n j x s).2 ∧ bst S m n (up1 x 5 (x 5 ||| s)) ≤ j)) : kyo S m n j x (s + 1) = kyo S m n j x s := if_neg h
theorem k1s {n : Nat} (h : n ≤ 6) : 1 <<< n ≤ 64 := by
  rcases (show n = 0 ∨ n = 1 ∨ n = 2 ∨ n = 3 ∨ n = 4 ∨ n = 5 ∨ n = 6 by omega) with rfl | rfl | rfl | rfl | rfl | rfl | rfl <;> decide
theorem mnk_6 (s : Nat) : mnk s 6 ≤ 6 := mnk_le s 6
set_option maxHeartbeats 8000000 in
theorem c6_keys (l : Launch) (G : ks_G) (base : Nat) (Mx : ks_M) (Lx : ks_L) (x z : Int32) (ok : okN Mx) (hn : Mx 3 3 ≤ 6) (h0n : Mx 7 0 < Mx 3 3 ∨ Mx 7 0 = 0) (hS : ∀ k, Mx 6 k < 1000) (hJ : Mx 7 3 < 1000000000) : KI l G base 14 yX6_keys cX6_keys 7 .int [.ref (base + 0), .int (x), .int (z)] SH Mx Lx (fun rr M1 L1 => (rr = (-2) ∧ (∀ n j, 1 ≤ n → n ≤ 3 → j ≤ 99 → x = nI n → z ≠ nI j) ∧ M1 = Mx ∧ L1 = Lx) ∨ (∃ n j, 1 ≤ n ∧ n ≤ 3 ∧ j ≤ 99 ∧ x = nI n ∧ z = nI j ∧ rr = (kyo (Mx 6) (Mx 3 3) n j (Mx 7) (1 <<< Mx 3 3)).1 ∧ (∀ a, (a < 27 ∧ a ≠ 8 ∨ 35 ≤ a) → M1 a = Mx a) ∧ L1 = Lx)) := by
  refine k_meti (by decide) (Nat.le_of_ble_eq_true rfl) (fun K hK X Y => ?_)
  subst hK
  refine r_pl [(0, .ref (base + 0)), (1, .int (x)), (2, .int (z))] ⟨rfl, rfl, rfl, trivial⟩ ?_
  refine r_iload_n (q := 1) (i := 1) (j := 1) (x := x) X rfl rfl dX6_keys_0 rfl ?_
  refine r_iconst (q := 2) (v := nI 1) X kc_1 dX6_keys_1 rfl ?_
  refine r_icmp_lt (q := 5) (tgt := 20) X (by decide) dX6_keys_2 rfl (fun c2 => ?_) (fun c2 => ?_)
  · skip
    refine r_bipush (q := 22) (v := (-2)) X kb_m2 dX6_keys_20 rfl ?_
    refine r_iret X Y ?_ dX6_keys_22
    refine Or.inl ⟨rfl, fun n2 j2 h1 h2 h3 h4 h5 => ?_, rfl, rfl⟩
    subst h4
    exact absurd c2 (fun h => by have := (nI_ltI (by omega) (by omega)).mp h; omega)
  · skip
    obtain ⟨n, hn9, rfl⟩ : ∃ n, n < 2147483648 ∧ x = nI n := by
      obtain ⟨n, h1, h2⟩ := nI_of (x := x) (fun h => c2 (fa_lt0 h))
      exact ⟨n, h1, h2⟩
    replace c2 : ¬ n < 1 := fun h => c2 ((nI_ltI (by omega) (by omega)).mpr h)
    refine r_iload_n (q := 6) (i := 1) (j := 1) (x := nI (n)) X rfl rfl dX6_keys_5 rfl ?_
    refine r_iconst (q := 7) (v := nI 3) X kc_3 dX6_keys_6 rfl ?_
    refine r_icmp_gt (q := 10) (tgt := 20) X (by decide) dX6_keys_7 rfl (fun c7 => ?_) (fun c7 => ?_)
    · replace c7 : 3 < n := (nI_ltI (by omega) (by omega)).mp c7
      refine r_bipush (q := 22) (v := (-2)) X kb_m2 dX6_keys_20 rfl ?_
      refine r_iret X Y ?_ dX6_keys_22
      refine Or.inl ⟨rfl, fun n2 j2 h1 h2 h3 h4 h5 => ?_, rfl, rfl⟩
      have h9 := (kI_eq (by omega) (by omega)).mp h4
      first
      | omega
      | (subst h5; exact absurd ((kI_lt0 (by omega)).mp c11) (by omega))
    · replace c7 : ¬ 3 < n := fun h => c7 ((nI_ltI (by omega) (by omega)).mpr h)
      refine r_iload_n (q := 11) (i := 2) (j := 2) (x := z) X rfl rfl dX6_keys_10 rfl ?_
      refine r_if_lt (q := 14) (tgt := 20) X (by decide) dX6_keys_11 rfl (fun c11 => ?_) (fun c11 => ?_)
      · skip
        refine r_bipush (q := 22) (v := (-2)) X kb_m2 dX6_keys_20 rfl ?_
        refine r_iret X Y ?_ dX6_keys_22
        refine Or.inl ⟨rfl, fun n2 j2 h1 h2 h3 h4 h5 => ?_, rfl, rfl⟩
        have h9 := (kI_eq (by omega) (by omega)).mp h4
        first
        | omega
        | (subst h5; exact absurd ((kI_lt0 (by omega)).mp c11) (by omega))
      · skip
        obtain ⟨j, hj9, rfl⟩ : ∃ j, j < 2147483648 ∧ z = nI j := by
          obtain ⟨j, h1, h2⟩ := nI_of (x := z) (fun h => c11 h)
          exact ⟨j, h1, h2⟩
        refine r_iload_n (q := 15) (i := 2) (j := 2) (x := nI (j)) X rfl rfl dX6_keys_14 rfl ?_
        refine r_bipush (q := 17) (v := nI 99) X kb_99 dX6_keys_15 rfl ?_
        refine r_icmp_le (q := 20) (tgt := 23) X (by decide) dX6_keys_17 rfl (fun c17 => ?_) (fun c17 => ?_)
        · replace c17 : j ≤ 99 := (nI_leI (by omega) (by omega)).mp c17
          refine r_bipush (q := 25) (v := (-9)) X kb_m9 dX6_keys_23 rfl ?_
          refine r_istore_n (q := 26) (i := 3) (j := 3) X rfl (Nat.le_of_ble_eq_true rfl) dX6_keys_25 rfl ?_
          refine r_bipush (q := 28) (v := nI 7) X kb_7 dX6_keys_26 rfl ?_
          refine r_istore (q := 30) (i := 4) X (Nat.le_of_ble_eq_true rfl) dX6_keys_28 rfl ?_
          refine r_iconst (q := 31) (v := nI 0) X kc_0 dX6_keys_30 rfl ?_
          refine r_istore (q := 33) (i := 5) X (Nat.le_of_ble_eq_true rfl) dX6_keys_31 rfl ?_
          have lp : ∀ (fuel : Nat) (s : Nat) (Mv : ks_M), 65 - s < fuel → (s ≤ 1 <<< Mx 3 3) → ((∀ a, (a < 27 ∧ a ≠ 8 ∨ 35 ≤ a) → Mv a = Mx a)) → RN K G base 7 0 0 SH Mv Lx 33 [(0, .ref (base + 0)), (1, .int (nI (n))), (2, .int (nI (j))), (3, .int ((kyo (Mx 6) (Mx 3 3) n j (Mx 7) (s)).1)), (4, .int (nI ((kyo (Mx 6) (Mx 3 3) n j (Mx 7) (s)).2))), (5, .int (nI (s)))] [] := by
            intro fuel
            induction fuel with
            | zero => intro s Mv hfu; exact absurd hfu (Nat.not_lt_zero _)
            | succ fuel ih =>
              intro s Mv hfu hs9 hfv
              have e3 := hfv 3 (Or.inl (by decide))
              have e6 := hfv 6 (Or.inl (by decide))
              have e7 := hfv 7 (Or.inl (by decide))
              have e9 := hfv 9 (Or.inl (by decide))
              have e33 : Mv 3 3 = Mx 3 3 := congrFun e3 3
              have hs64 : s ≤ 64 := Nat.le_trans hs9 (k1s hn)
              have hk5 := (okN_rok ok h0n).2.2.2.2.2.1
              refine r_iload (q := 35) (i := 5) (x := nI (s)) X rfl dX6_keys_33 rfl ?_
              refine r_iconst (q := 36) (v := nI 1) X kc_1 dX6_keys_35 rfl ?_
              refine r_aload_n (q := 37) (i := 0) (j := 0) (x := base + 0) X rfl rfl dX6_keys_36 rfl ?_
              refine r_getf (q := 40) (i := 0) (v := .ref (base + 3)) X fk_X6_19 kh_0 rfl rfl dX6_keys_37 rfl ?_
              refine r_getf (q := 43) (i := 3) (v := .int (nI (Mv 3 3))) X fk_X6_96 kh_3 rfl rfl dX6_keys_40 rfl ?_
              refine r_ishlR (q := 44) (x := nI 1) (y := nI (Mv 3 3)) (v := nI (1 <<< (Mv 3 3))) X (k_shl (by omega)) dX6_keys_43 rfl ?_
              have h64 : 1 <<< Mv 3 3 ≤ 64 := k1s (by rw [e3]; exact hn)
              refine r_icmp_ge (q := 47) (tgt := 98) X (by decide) dX6_keys_44 rfl (fun c44 => ?_) (fun c44 => ?_)
              · replace c44 : (1 <<< (Mv 3 3)) ≤ s := (nI_leI (by omega) (by omega)).mp c44
                refine r_iload_n (q := 99) (i := 3) (j := 3) (x := (kyo (Mx 6) (Mx 3 3) n j (Mx 7) (s)).1) X rfl rfl dX6_keys_98 rfl ?_
                refine r_iret X Y ?_ dX6_keys_99
                have hse : s = 1 <<< Mx 3 3 := by have : Mv 3 3 = Mx 3 3 := congrFun e3 3; rw [this] at c44; omega
                subst hse
                exact Or.inr ⟨n, j, by omega, by omega, by omega, rfl, rfl, rfl, hfv, rfl⟩
              · replace c44 : ¬ (1 <<< (Mv 3 3)) ≤ s := fun h => c44 ((nI_leI (by omega) (by omega)).mpr h)
                refine r_iload (q := 49) (i := 5) (x := nI (s)) X rfl dX6_keys_47 rfl ?_
                refine r_callSi (q := 52) X (c_bits K.2.1 G base Mv Lx s (by omega)) ks_RX6_160 (by omega) (by decide) ⟨Nat.zero_le _, Nat.zero_le _⟩ rfl (Nat.le_of_ble_eq_true rfl) dX6_keys_49 rfl (fun r M1 L1 hp => ?_)
                obtain ⟨e1, e2, e3⟩ := hp
                subst e1
                replace e2 := e2.symm
                subst e2
                replace e3 := e3.symm
                subst e3
                refine r_istore (q := 54) (i := 6) X (Nat.le_of_ble_eq_true rfl) dX6_keys_52 rfl ?_
                refine r_iload (q := 56) (i := 5) (x := nI (s)) X rfl dX6_keys_54 rfl ?_
                refine r_aload_n (q := 57) (i := 0) (j := 0) (x := base + 0) X rfl rfl dX6_keys_56 rfl ?_
                refine r_getf (q := 60) (i := 0) (v := .ref (base + 7)) X fk_X6_26 kh_0 rfl rfl dX6_keys_57 rfl ?_
                refine r_getf (q := 63) (i := 7) (v := .int (nI (Mv 7 5))) X fk_X6_112 kh_7 rfl rfl dX6_keys_60 rfl ?_
                refine r_iandR (q := 64) (x := nI (s)) (y := nI (Mv 7 5)) (v := nI (s &&& (Mv 7 5))) X (fa_and _ _) dX6_keys_63 rfl ?_
                have hand : s &&& Mv 7 5 < 2147483648 := k_and31 (by omega)
                have hmk := mnk_6 s
                have h77 := kyo_7 (Mx 6) (Mx 3 3) n j (Mx 7) s
                have e75 : Mv 7 5 = Mx 7 5 := congrFun e7 5
                refine r_if_ne (q := 67) (tgt := 92) X (by decide) dX6_keys_64 rfl (fun c64 => ?_) (fun c64 => ?_)
                · replace c64 : ¬ (s &&& (Mv 7 5)) = 0 := fun h => c64 ((kI_eq0 (by omega)).mpr h)
                  refine r_iinc (q := 95) (i := 5) (x := nI (s)) (v := nI (s + 1)) X rfl (Nat.le_of_ble_eq_true rfl) (kinc 1 rfl) dX6_keys_92 rfl ?_
                  refine r_goto (tgt := 33) X (by decide) dX6_keys_95 ?_
                  have eb : kyo (Mx 6) (Mx 3 3) n j (Mx 7) (s + 1) = (kyo (Mx 6) (Mx 3 3) n j (Mx 7) (s)) := kyo_n (fun h => by have h1 := h.1; have h2 := h.2.1; rw [← e75] at h1; omega)
                  refine r_pl [(0, .ref (base + 0)), (1, .int (nI (n))), (2, .int (nI (j))), (3, .int ((kyo (Mx 6) (Mx 3 3) n j (Mx 7) (s + 1)).1)), (4, .int (nI ((kyo (Mx 6) (Mx 3 3) n j (Mx 7) (s + 1)).2))), (5, .int (nI (s + 1)))] ⟨rfl, rfl, rfl, by rw [eb]; rfl, by rw [eb]; rfl, rfl, trivial⟩ ?_
                  exact ih (s + 1) Mv (by omega) (by have : Mv 3 3 = Mx 3 3 := congrFun e3 3; rw [this] at c44; omega) hfv
                · replace c64 : (s &&& (Mv 7 5)) = 0 := (kI_eq0 (by omega)).mp c64
                  refine r_iload (q := 69) (i := 6) (x := nI (mnk s 6)) X rfl dX6_keys_67 rfl ?_
                  refine r_iload (q := 71) (i := 4) (x := nI ((kyo (Mx 6) (Mx 3 3) n j (Mx 7) (s)).2)) X rfl dX6_keys_69 rfl ?_
                  refine r_icmp_ge (q := 74) (tgt := 92) X (by decide) dX6_keys_71 rfl (fun c71 => ?_) (fun c71 => ?_)
                  · replace c71 : ((kyo (Mx 6) (Mx 3 3) n j (Mx 7) (s)).2) ≤ (mnk s 6) := (nI_leI (by omega) (by omega)).mp c71
                    refine r_iinc (q := 95) (i := 5) (x := nI (s)) (v := nI (s + 1)) X rfl (Nat.le_of_ble_eq_true rfl) (kinc 1 rfl) dX6_keys_92 rfl ?_
                    refine r_goto (tgt := 33) X (by decide) dX6_keys_95 ?_
                    have eb : kyo (Mx 6) (Mx 3 3) n j (Mx 7) (s + 1) = (kyo (Mx 6) (Mx 3 3) n j (Mx 7) (s)) := kyo_n (fun h => by have h1 := h.1; have h2 := h.2.1; rw [← e75] at h1; omega)
                    refine r_pl [(0, .ref (base + 0)), (1, .int (nI (n))), (2, .int (nI (j))), (3, .int ((kyo (Mx 6) (Mx 3 3) n j (Mx 7) (s + 1)).1)), (4, .int (nI ((kyo (Mx 6) (Mx 3 3) n j (Mx 7) (s + 1)).2))), (5, .int (nI (s + 1)))] ⟨rfl, rfl, rfl, by rw [eb]; rfl, by rw [eb]; rfl, rfl, trivial⟩ ?_
                    exact ih (s + 1) Mv (by omega) (by have : Mv 3 3 = Mx 3 3 := congrFun e3 3; rw [this] at c44; omega) hfv
                  · replace c71 : ¬ ((kyo (Mx 6) (Mx 3 3) n j (Mx 7) (s)).2) ≤ (mnk s 6) := fun h => c71 ((nI_leI (by omega) (by omega)).mpr h)
                    refine r_aload_n (q := 75) (i := 0) (j := 0) (x := base + 0) X rfl rfl dX6_keys_74 rfl ?_
                    refine r_iload_n (q := 76) (i := 1) (j := 1) (x := nI (n)) X rfl rfl dX6_keys_75 rfl ?_
                    refine r_iload (q := 78) (i := 5) (x := nI (s)) X rfl dX6_keys_76 rfl ?_
                    refine r_callVi (q := 81) X (c_bestWithKeys K.2.1 G base Mv Lx n s (by omega) (by omega) (by unfold okN; rw [e3, e7, e9]; exact ok) (by rw [e3]; exact hn) (by rw [e3, e7]; exact h0n) (fun q => by rw [e6]; exact hS q) (by rw [e7]; exact hJ)) kh_0 rfl ks_RX6_165 (by omega) (by decide) ⟨Nat.zero_le _, Nat.zero_le _⟩ rfl (Nat.le_of_ble_eq_true rfl) dX6_keys_78 rfl (fun r M1 L1 hp => ?_)
                    rw [e3, e6, e7] at hp
                    obtain ⟨e1, hfr, e4⟩ := hp
                    subst e1
                    replace e4 := e4.symm
                    subst e4
                    have hbs := bst_le hS (Mx 3 3) n (up1 (Mx 7) 5 (Mx 7 5 ||| s))
                    refine r_iload_n (q := 82) (i := 2) (j := 2) (x := nI (j)) X rfl rfl dX6_keys_81 rfl ?_
                    refine r_icmp_gt (q := 85) (tgt := 92) X (by decide) dX6_keys_82 rfl (fun c82 => ?_) (fun c82 => ?_)
                    · replace c82 : j < (bst (Mx 6) (Mx 3 3) n (up1 (Mx 7) 5 (Mx 7 5 ||| s))) := (nI_ltI (by omega) (by omega)).mp c82
                      refine r_iinc (q := 95) (i := 5) (x := nI (s)) (v := nI (s + 1)) X rfl (Nat.le_of_ble_eq_true rfl) (kinc 1 rfl) dX6_keys_92 rfl ?_
                      refine r_goto (tgt := 33) X (by decide) dX6_keys_95 ?_
                      have eb : kyo (Mx 6) (Mx 3 3) n j (Mx 7) (s + 1) = (kyo (Mx 6) (Mx 3 3) n j (Mx 7) (s)) := kyo_n (fun h => by have h1 := h.1; have h2 := h.2.1; have h3 := h.2.2; rw [← e75] at h1; omega)
                      refine r_pl [(0, .ref (base + 0)), (1, .int (nI (n))), (2, .int (nI (j))), (3, .int ((kyo (Mx 6) (Mx 3 3) n j (Mx 7) (s + 1)).1)), (4, .int (nI ((kyo (Mx 6) (Mx 3 3) n j (Mx 7) (s + 1)).2))), (5, .int (nI (s + 1)))] ⟨rfl, rfl, rfl, by rw [eb]; rfl, by rw [eb]; rfl, rfl, trivial⟩ ?_
                      exact ih (s + 1) M1 (by omega) (by have : Mv 3 3 = Mx 3 3 := congrFun e3 3; rw [this] at c44; omega) (fun a ha => (hfr a (by omega)).trans (hfv a ha))
                    · replace c82 : ¬ j < (bst (Mx 6) (Mx 3 3) n (up1 (Mx 7) 5 (Mx 7 5 ||| s))) := fun h => c82 ((nI_ltI (by omega) (by omega)).mpr h)
                      refine r_iload (q := 87) (i := 5) (x := nI (s)) X rfl dX6_keys_85 rfl ?_
                      refine r_istore_n (q := 88) (i := 3) (j := 3) X rfl (Nat.le_of_ble_eq_true rfl) dX6_keys_87 rfl ?_
                      refine r_iload (q := 90) (i := 6) (x := nI (mnk s 6)) X rfl dX6_keys_88 rfl ?_
                      refine r_istore (q := 92) (i := 4) X (Nat.le_of_ble_eq_true rfl) dX6_keys_90 rfl ?_
                      refine r_iinc (q := 95) (i := 5) (x := nI (s)) (v := nI (s + 1)) X rfl (Nat.le_of_ble_eq_true rfl) (kinc 1 rfl) dX6_keys_92 rfl ?_
                      refine r_goto (tgt := 33) X (by decide) dX6_keys_95 ?_
                      have eb : kyo (Mx 6) (Mx 3 3) n j (Mx 7) (s + 1) = (nI s, mnk s 6) := kyo_y ⟨by rw [← e75]; omega, by omega, by omega⟩
                      refine r_pl [(0, .ref (base + 0)), (1, .int (nI (n))), (2, .int (nI (j))), (3, .int ((kyo (Mx 6) (Mx 3 3) n j (Mx 7) (s + 1)).1)), (4, .int (nI ((kyo (Mx 6) (Mx 3 3) n j (Mx 7) (s + 1)).2))), (5, .int (nI (s + 1)))] ⟨rfl, rfl, rfl, by rw [eb]; rfl, by rw [eb]; rfl, rfl, trivial⟩ ?_
                      exact ih (s + 1) M1 (by omega) (by have : Mv 3 3 = Mx 3 3 := congrFun e3 3; rw [this] at c44; omega) (fun a ha => (hfr a (by omega)).trans (hfv a ha))
          refine r_pl [(0, .ref (base + 0)), (1, .int (nI (n))), (2, .int (nI (j))), (3, .int ((kyo (Mx 6) (Mx 3 3) n j (Mx 7) (0)).1)), (4, .int (nI ((kyo (Mx 6) (Mx 3 3) n j (Mx 7) (0)).2))), (5, .int (nI (0)))] ⟨rfl, rfl, rfl, rfl, rfl, rfl, trivial⟩ ?_
          exact lp 66 0 Mx (by omega) (Nat.zero_le _) (fun a _ => rfl)
        · replace c17 : ¬ j ≤ 99 := fun h => c17 ((nI_leI (by omega) (by omega)).mpr h)
          refine r_bipush (q := 22) (v := (-2)) X kb_m2 dX6_keys_20 rfl ?_
          refine r_iret X Y ?_ dX6_keys_22
          refine Or.inl ⟨rfl, fun n2 j2 h1 h2 h3 h4 h5 => ?_, rfl, rfl⟩
          have h9 := (kI_eq (by omega) (by omega)).mp h4
          have h8 := (kI_eq (by omega) (by omega)).mp h5
          omega
