/-! The reference's best, fewest, keys, share -/
theorem smS_eq {S : Nat → Nat} {M M' : ks_M} {n : Nat} (h1 : M' 46 = M 46) (h2 : M' 47 = M 47) (h : smS S M n) : smS S M' n := by
  intro a ha t ht; rw [h1, h2]; exact h a ha t ht
theorem kyo_r (S : Nat → Nat) (m n j : Nat) (x : Nat → Nat) : ∀ s, ((kyo S m n j x s).1 = (-9) ∧ (kyo S m n j x s).2 = 7) ∨ ∃ b, (kyo S m n j x s).1 = nI b ∧ (kyo S m n j x s).2 = mnk b 6 ∧ b < s
  | 0 => Or.inl ⟨rfl, rfl⟩
  | s + 1 => by
    by_cases h : s &&& x 5 = 0 ∧ mnk s 6 < (kyo S m n j x s).2 ∧ bst S m n (up1 x 5 (x 5 ||| s)) ≤ j
    · rw [kyo_y h]; exact Or.inr ⟨s, rfl, rfl, Nat.lt_succ_self s⟩
    · rw [kyo_n h]
      rcases kyo_r S m n j x s with h1 | ⟨b, h1, h2, h3⟩
      · exact Or.inl h1
      · exact Or.inr ⟨b, h1, h2, by omega⟩
theorem come_lt2 : ∀ m, m ≤ 6 → ∀ h, h < m → ∀ s, s < 1 <<< m → s ||| 1 <<< h < 1 <<< m := by decide +kernel
theorem hsb_1 (s k : Nat) : hsb s k = 1 ↔ ¬ s >>> k &&& 1 = 0 := by
  unfold hsb
  have h : s >>> k &&& 1 ≤ 1 := Nat.and_le_right
  by_cases c : s >>> k &&& 1 = 1
  · rw [if_pos c]; omega
  · rw [if_neg c]; omega
set_option maxHeartbeats 8000000 in
theorem c7_best (l : Launch) (G : ks_G) (base : Nat) (Mx : ks_M) (Lx : ks_L) (z : Int32) (b : Nat) (hb : b < 2) (S x : Nat → Nat) (ok : okP Mx) (hSS : smS S Mx (Mx 44 4)) (hS : ∀ k, S k < 1000) (hsm : smr x (Mx 49)) (hro : rok (Mx 44 4) 100000 x) (hJ : x 3 < 1000000000) : KI l G base 4 yX7_best cX7_best 3 .int [.ref (base + 44), .int (z), .int (nI (b))] SH Mx Lx (fun rr M1 L1 => (rr = (-2) ∧ (∀ n, 1 ≤ n → n ≤ 6 → z ≠ nI n) ∧ M1 = Mx ∧ L1 = Lx) ∨ (∃ n, 1 ≤ n ∧ n ≤ 6 ∧ z = nI n ∧ (b = 0 → rr = nI (bst S (Mx 44 4) n x)) ∧ (b ≠ 0 → rr = nI (gro S (Mx 44 4) (x 3 + bst S (Mx 44 4) n x) n x 1)) ∧ (∀ a, a ≠ 44 → a ≠ 50 → a ≠ 51 → M1 a = Mx a) ∧ (∀ c, c ≠ 23 → c ≠ 24 → M1 44 c = Mx 44 c) ∧ L1 = Lx)) := by
  refine k_meti (by decide) (Nat.le_of_ble_eq_true rfl) (fun K hK X Y => ?_)
  subst hK
  refine r_pl [(0, .ref (base + 44)), (1, .int (z)), (2, .int (nI (b)))] ⟨rfl, rfl, rfl, trivial⟩ ?_
  have hth := ok.1
  have hn := ok.2.1
  refine r_aload_n (q := 1) (i := 0) (j := 0) (x := base + 44) X rfl rfl dX7_best_0 rfl ?_
  refine r_iconst (q := 2) (v := nI 0) X kc_0 dX7_best_1 rfl ?_
  refine r_puti (q := 5) (i := 44) (n := 0) X fk_X7_59 kp_X7_0 kh_44 rfl dX7_best_2 rfl ?_
  refine r_mem Mx (up2_id hth) ?_
  refine r_iload_n (q := 6) (i := 1) (j := 1) (x := z) X rfl rfl dX7_best_5 rfl ?_
  refine r_i2l (q := 7) (v := z.toInt64) X rfl dX7_best_6 rfl ?_
  refine r_lconst (q := 8) (v := 1) X rfl dX7_best_7 rfl ?_
  refine r_ldc2 (q := 11) (v := 6) X kl_RX7_146 dX7_best_8 rfl ?_
  refine r_callSi (q := 14) X (c_in K.2.1 G base Mx Lx z.toInt64 1 6) ks_RX7_66 (by decide) (by decide) ⟨Nat.zero_le _, Nat.zero_le _⟩ rfl (Nat.le_of_ble_eq_true rfl) dX7_best_11 rfl (fun r M1 L1 hp => ?_)
  have hkn := kIn (x := z) (y := 1) (z := 6) (a := 1) (b := 6) rfl rfl (by omega) (by omega)
  rcases hp with ⟨e1, hin, hp2⟩ | ⟨e1, hin, hp2⟩
  · subst e1
    obtain ⟨e2, e3⟩ := hp2
    replace e2 := e2.symm
    subst e2
    replace e3 := e3.symm
    subst e3
    rw [hkn] at hin
    obtain ⟨n, hn1, hn2, rfl⟩ := hin
    refine r_if_ne (q := 17) (tgt := 20) X (by decide) dX7_best_14 rfl (fun _ => ?_) (fun c => absurd c (by decide))
    refine r_aload_n (q := 21) (i := 0) (j := 0) (x := base + 44) X rfl rfl dX7_best_20 rfl ?_
    refine r_getf (q := 24) (i := 44) (v := .ref (base + 49)) X fk_X7_22 kh_44 rfl rfl dX7_best_21 rfl ?_
    refine r_aload_n (q := 25) (i := 0) (j := 0) (x := base + 44) X rfl rfl dX7_best_24 rfl ?_
    refine r_getf (q := 28) (i := 44) (v := .ref (base + 51)) X fk_X7_28 kh_44 rfl rfl dX7_best_25 rfl ?_
    refine r_callSv (q := 31) X (c_copy7 K.2.1 G base Mx Lx 49 51 kh_49 kh_51 (by decide)) ks_RX7_142 (by decide) (by decide) ⟨Nat.zero_le _, Nat.zero_le _⟩ rfl (Nat.le_of_ble_eq_true rfl) dX7_best_28 rfl (fun M1 L1 hp => ?_)
    obtain ⟨e2, e3⟩ := hp
    rw [cpk_sr] at e2
    replace e2 := e2.symm
    subst e2
    replace e3 := e3.symm
    subst e3
    refine r_aload_n (q := 32) (i := 0) (j := 0) (x := base + 44) X rfl rfl dX7_best_31 rfl ?_
    refine r_iload_n (q := 33) (i := 1) (j := 1) (x := nI (n)) X rfl rfl dX7_best_32 rfl ?_
    refine r_callVv (q := 36) X (c_findBest K.2.1 G base (sr Mx 51 (cp12 (Mx 51) (Mx 49))) Lx S x n 100000 (by omega) (by omega) (by rw [(show sr Mx 51 (cp12 (Mx 51) (Mx 49)) 44 4 = Mx 44 4 from congrFun (sr_o (by decide)) 4)]; exact ok.2.1) (fun q => by rw [(show sr Mx 51 (cp12 (Mx 51) (Mx 49)) 46 = Mx 46 from sr_o (by decide))]; exact ok.2.2.2.2.2.2.2.2.2.1 q) (fun q => by rw [(show sr Mx 51 (cp12 (Mx 51) (Mx 49)) 47 = Mx 47 from sr_o (by decide))]; exact ok.2.2.2.2.2.2.2.2.2.2 q) (by rw [(show sr Mx 51 (cp12 (Mx 51) (Mx 49)) 44 4 = Mx 44 4 from congrFun (sr_o (by decide)) 4)]; exact smS_eq (show sr Mx 51 (cp12 (Mx 51) (Mx 49)) 46 = Mx 46 from sr_o (by decide)) (show sr Mx 51 (cp12 (Mx 51) (Mx 49)) 47 = Mx 47 from sr_o (by decide)) hSS) hS (by rw [sr_s]; exact sm_cpr hsm) (by rw [(show sr Mx 51 (cp12 (Mx 51) (Mx 49)) 44 4 = Mx 44 4 from congrFun (sr_o (by decide)) 4)]; exact hro) (by omega)) kh_44 rfl ks_RX7_148 (by decide) (by decide) ⟨Nat.zero_le _, Nat.zero_le _⟩ rfl (Nat.le_of_ble_eq_true rfl) dX7_best_33 rfl (fun M1 L1 hp => ?_)
    rw [(show sr Mx 51 (cp12 (Mx 51) (Mx 49)) 44 4 = Mx 44 4 from congrFun (sr_o (by decide)) 4)] at hp
    obtain ⟨hq1, hq2, hqa, hqc, e3⟩ := hp
    replace e3 := e3.symm
    subst e3
    refine r_iload_n (q := 37) (i := 2) (j := 2) (x := nI (b)) X rfl rfl dX7_best_36 rfl ?_
    refine r_if_eq (q := 40) (tgt := 47) X (by decide) dX7_best_37 rfl (fun c37 => ?_) (fun c37 => ?_)
    · replace c37 : b = 0 := (kI_eq0 (by omega)).mp c37
      refine r_aload_n (q := 48) (i := 0) (j := 0) (x := base + 44) X rfl rfl dX7_best_47 rfl ?_
      refine r_getf (q := 51) (i := 44) (v := .int (nI (bst S (Mx 44 4) n x))) X fk_X7_132 kh_44 rfl (kv hq1) dX7_best_48 rfl ?_
      refine r_iret X Y ?_ dX7_best_51
      exact Or.inr ⟨n, by omega, by omega, rfl, fun h => by first | rfl | exact absurd h c37, fun h => by first | rfl | exact absurd c37 h, fun a h1 h2 h3 => (hqa a h1 h2).trans (sr_o h3), fun c h1 h2 => (hqc c h1 h2).trans (congrFun (sr_o (by decide)) c), rfl⟩
    · replace c37 : ¬ b = 0 := fun h => (c37 ((kI_eq0 (by omega)).mpr h))
      refine r_aload_n (q := 41) (i := 0) (j := 0) (x := base + 44) X rfl rfl dX7_best_40 rfl ?_
      refine r_getf (q := 44) (i := 44) (v := .int (nI (gro S (Mx 44 4) (x 3 + bst S (Mx 44 4) n x) n x 1))) X fk_X7_135 kh_44 rfl (kv hq2) dX7_best_41 rfl ?_
      refine r_goto (tgt := 51) X (by decide) dX7_best_44 ?_
      refine r_iret X Y ?_ dX7_best_51
      exact Or.inr ⟨n, by omega, by omega, rfl, fun h => by first | rfl | exact absurd h c37, fun h => by first | rfl | exact absurd c37 h, fun a h1 h2 h3 => (hqa a h1 h2).trans (sr_o h3), fun c h1 h2 => (hqc c h1 h2).trans (congrFun (sr_o (by decide)) c), rfl⟩
  · subst e1
    obtain ⟨e2, e3⟩ := hp2
    replace e2 := e2.symm
    subst e2
    replace e3 := e3.symm
    subst e3
    rw [hkn] at hin
    refine r_if_ne (q := 17) (tgt := 20) X (by decide) dX7_best_14 rfl (fun c => absurd c (by decide)) (fun _ => ?_)
    refine r_bipush (q := 19) (v := (-2)) X kb_m2 dX7_best_17 rfl ?_
    refine r_iret X Y ?_ dX7_best_19
    exact Or.inl ⟨rfl, fun n h1 h2 h3 => hin ⟨n, by omega, by omega, h3⟩, rfl, rfl⟩
set_option maxHeartbeats 8000000 in
theorem c7_fewest (l : Launch) (G : ks_G) (base : Nat) (Mx : ks_M) (Lx : ks_L) (z : Int32) (S x : Nat → Nat) (ok : okP Mx) (hSS : smS S Mx (Mx 44 4)) (hS : ∀ k, S k < 1000) (hsm : smr x (Mx 49)) (hro : rok (Mx 44 4) 100000 x) (hJ : x 3 < 1000000000) : KI l G base 4 yX7_fewest cX7_fewest 4 .int [.ref (base + 44), .int (z)] SH Mx Lx (fun rr M1 L1 => (rr = (-2) ∧ (∀ n, 1 ≤ n → n ≤ 99 → z ≠ nI n) ∧ M1 = Mx ∧ L1 = Lx) ∨ (∃ n, 1 ≤ n ∧ n ≤ 99 ∧ z = nI n ∧ ((∃ k, 1 ≤ k ∧ k ≤ 6 ∧ rr = nI k ∧ n ≤ bst S (Mx 44 4) k x ∧ ∀ q, 1 ≤ q → q < k → bst S (Mx 44 4) q x < n) ∨ (rr = (-9) ∧ ∀ q, 1 ≤ q → q ≤ 6 → bst S (Mx 44 4) q x < n)) ∧ (∀ a, a ≠ 44 → a ≠ 50 → a ≠ 51 → M1 a = Mx a) ∧ (∀ c, c ≠ 23 → c ≠ 24 → M1 44 c = Mx 44 c) ∧ L1 = Lx)) := by
  refine k_meti (by decide) (Nat.le_of_ble_eq_true rfl) (fun K hK X Y => ?_)
  subst hK
  refine r_pl [(0, .ref (base + 44)), (1, .int (z))] ⟨rfl, rfl, trivial⟩ ?_
  have hth := ok.1
  have hn := ok.2.1
  refine r_aload_n (q := 1) (i := 0) (j := 0) (x := base + 44) X rfl rfl dX7_fewest_0 rfl ?_
  refine r_iconst (q := 2) (v := nI 0) X kc_0 dX7_fewest_1 rfl ?_
  refine r_puti (q := 5) (i := 44) (n := 0) X fk_X7_59 kp_X7_0 kh_44 rfl dX7_fewest_2 rfl ?_
  refine r_mem Mx (up2_id hth) ?_
  refine r_iload_n (q := 6) (i := 1) (j := 1) (x := z) X rfl rfl dX7_fewest_5 rfl ?_
  refine r_i2l (q := 7) (v := z.toInt64) X rfl dX7_fewest_6 rfl ?_
  refine r_lconst (q := 8) (v := 1) X rfl dX7_fewest_7 rfl ?_
  refine r_ldc2 (q := 11) (v := 99) X kl_RX7_115 dX7_fewest_8 rfl ?_
  refine r_callSi (q := 14) X (c_in K.2.1 G base Mx Lx z.toInt64 1 99) ks_RX7_66 (by decide) (by decide) ⟨Nat.zero_le _, Nat.zero_le _⟩ rfl (Nat.le_of_ble_eq_true rfl) dX7_fewest_11 rfl (fun r M1 L1 hp => ?_)
  have hkn := kIn (x := z) (y := 1) (z := 99) (a := 1) (b := 99) rfl rfl (by omega) (by omega)
  rcases hp with ⟨e1, hin, hp2⟩ | ⟨e1, hin, hp2⟩
  · subst e1
    obtain ⟨e2, e3⟩ := hp2
    replace e2 := e2.symm
    subst e2
    replace e3 := e3.symm
    subst e3
    rw [hkn] at hin
    obtain ⟨n, hn1, hn2, rfl⟩ := hin
    refine r_if_ne (q := 17) (tgt := 20) X (by decide) dX7_fewest_14 rfl (fun _ => ?_) (fun c => absurd c (by decide))
    refine r_aload_n (q := 21) (i := 0) (j := 0) (x := base + 44) X rfl rfl dX7_fewest_20 rfl ?_
    refine r_getf (q := 24) (i := 44) (v := .ref (base + 49)) X fk_X7_22 kh_44 rfl rfl dX7_fewest_21 rfl ?_
    refine r_aload_n (q := 25) (i := 0) (j := 0) (x := base + 44) X rfl rfl dX7_fewest_24 rfl ?_
    refine r_getf (q := 28) (i := 44) (v := .ref (base + 51)) X fk_X7_28 kh_44 rfl rfl dX7_fewest_25 rfl ?_
    refine r_callSv (q := 31) X (c_copy7 K.2.1 G base Mx Lx 49 51 kh_49 kh_51 (by decide)) ks_RX7_142 (by decide) (by decide) ⟨Nat.zero_le _, Nat.zero_le _⟩ rfl (Nat.le_of_ble_eq_true rfl) dX7_fewest_28 rfl (fun M1 L1 hp => ?_)
    obtain ⟨e2, e3⟩ := hp
    rw [cpk_sr] at e2
    replace e2 := e2.symm
    subst e2
    replace e3 := e3.symm
    subst e3
    refine r_bipush (q := 33) (v := (-9)) X kb_m9 dX7_fewest_31 rfl ?_
    refine r_istore_n (q := 34) (i := 2) (j := 2) X rfl (Nat.le_of_ble_eq_true rfl) dX7_fewest_33 rfl ?_
    refine r_iconst (q := 35) (v := nI 1) X kc_1 dX7_fewest_34 rfl ?_
    refine r_istore_n (q := 36) (i := 3) (j := 3) X rfl (Nat.le_of_ble_eq_true rfl) dX7_fewest_35 rfl ?_
    have lp : ∀ (fuel : Nat) (k : Nat) (fd : Int32) (Mv : ks_M), 7 - k < fuel → (1 ≤ k) → (k ≤ 7) → ((∀ a, a ≠ 44 → a ≠ 50 → a ≠ 51 → Mv a = Mx a)) → (Mv 51 = (cp12 (Mx 51) (Mx 49))) → ((∀ c, c ≠ 23 → c ≠ 24 → Mv 44 c = Mx 44 c)) → ((fd = (-9) ∧ ∀ q, 1 ≤ q → q < k → bst S (Mx 44 4) q x < n) ∨ (∃ i, fd = nI i ∧ 1 ≤ i ∧ i ≤ 6 ∧ n ≤ bst S (Mx 44 4) i x ∧ ∀ q, 1 ≤ q → q < i → bst S (Mx 44 4) q x < n)) → RN K G base 4 0 0 SH Mv Lx 36 [(0, .ref (base + 44)), (1, .int (nI (n))), (2, .int (fd)), (3, .int (nI (k)))] [] := by
      intro fuel
      induction fuel with
      | zero => intro k fd Mv hfu; exact absurd hfu (Nat.not_lt_zero _)
      | succ fuel ih =>
        intro k fd Mv hfu hk1 hk7 hfv h51 hfc hi
        refine r_iload_n (q := 37) (i := 3) (j := 3) (x := nI (k)) X rfl rfl dX7_fewest_36 rfl ?_
        refine r_bipush (q := 39) (v := nI 7) X kb_7 dX7_fewest_37 rfl ?_
        refine r_icmp_ge (q := 42) (tgt := 73) X (by decide) dX7_fewest_39 rfl (fun c39 => ?_) (fun c39 => ?_)
        · replace c39 : 7 ≤ k := (nI_leI (by omega) (by omega)).mp c39
          refine r_iload_n (q := 74) (i := 2) (j := 2) (x := fd) X rfl rfl dX7_fewest_73 rfl ?_
          refine r_iret X Y ?_ dX7_fewest_74
          refine Or.inr ⟨n, by omega, by omega, rfl, ?_, hfv, hfc, rfl⟩
          rcases hi with ⟨h1, h2⟩ | ⟨i, h1, h2, h3, h4, h5⟩
          · exact Or.inr ⟨h1, fun q h3 h4 => h2 q h3 (by first | omega | exact absurd h1 c45)⟩
          · exact Or.inl ⟨i, h2, h3, h1, h4, h5⟩
        · replace c39 : ¬ 7 ≤ k := fun h => c39 ((nI_leI (by omega) (by omega)).mpr h)
          refine r_iload_n (q := 43) (i := 2) (j := 2) (x := fd) X rfl rfl dX7_fewest_42 rfl ?_
          refine r_bipush (q := 45) (v := (-9)) X kb_m9 dX7_fewest_43 rfl ?_
          refine r_icmp_ne (q := 48) (tgt := 73) X (by decide) dX7_fewest_45 rfl (fun c45 => ?_) (fun c45 => ?_)
          · skip
            refine r_iload_n (q := 74) (i := 2) (j := 2) (x := fd) X rfl rfl dX7_fewest_73 rfl ?_
            refine r_iret X Y ?_ dX7_fewest_74
            refine Or.inr ⟨n, by omega, by omega, rfl, ?_, hfv, hfc, rfl⟩
            rcases hi with ⟨h1, h2⟩ | ⟨i, h1, h2, h3, h4, h5⟩
            · exact Or.inr ⟨h1, fun q h3 h4 => h2 q h3 (by first | omega | exact absurd h1 c45)⟩
            · exact Or.inl ⟨i, h2, h3, h1, h4, h5⟩
          · skip
            refine r_aload_n (q := 49) (i := 0) (j := 0) (x := base + 44) X rfl rfl dX7_fewest_48 rfl ?_
            refine r_iload_n (q := 50) (i := 3) (j := 3) (x := nI (k)) X rfl rfl dX7_fewest_49 rfl ?_
            refine r_callVv (q := 53) X (c_findBest K.2.1 G base Mv Lx S x k 100000 (by omega) (by omega) (by rw [(hfc 4 (by decide) (by decide))]; exact ok.2.1) (fun q => by rw [(hfv 46 (by decide) (by decide) (by decide))]; exact ok.2.2.2.2.2.2.2.2.2.1 q) (fun q => by rw [(hfv 47 (by decide) (by decide) (by decide))]; exact ok.2.2.2.2.2.2.2.2.2.2 q) (by rw [(hfc 4 (by decide) (by decide))]; exact smS_eq (hfv 46 (by decide) (by decide) (by decide)) (hfv 47 (by decide) (by decide) (by decide)) hSS) hS (by rw [h51]; exact sm_cpr hsm) (by rw [(hfc 4 (by decide) (by decide))]; exact hro) (by omega)) kh_44 rfl ks_RX7_148 (by decide) (by decide) ⟨Nat.zero_le _, Nat.zero_le _⟩ rfl (Nat.le_of_ble_eq_true rfl) dX7_fewest_50 rfl (fun M1 L1 hp => ?_)
            rw [(hfc 4 (by decide) (by decide))] at hp
            obtain ⟨hq1, hq2, hqa, hqc, e3⟩ := hp
            replace e3 := e3.symm
            subst e3
            have hbl := bst_le hS (Mx 44 4) k x
            refine r_aload_n (q := 54) (i := 0) (j := 0) (x := base + 44) X rfl rfl dX7_fewest_53 rfl ?_
            refine r_getf (q := 57) (i := 44) (v := .int (nI (bst S (Mx 44 4) k x))) X fk_X7_132 kh_44 rfl (kv hq1) dX7_fewest_54 rfl ?_
            refine r_iload_n (q := 58) (i := 1) (j := 1) (x := nI (n)) X rfl rfl dX7_fewest_57 rfl ?_
            refine r_icmp_lt (q := 61) (tgt := 65) X (by decide) dX7_fewest_58 rfl (fun c58 => ?_) (fun c58 => ?_)
            · replace c58 : (bst S (Mx 44 4) k x) < n := (nI_ltI (by omega) (by omega)).mp c58
              refine r_iload_n (q := 66) (i := 2) (j := 2) (x := fd) X rfl rfl dX7_fewest_65 rfl ?_
              refine r_istore_n (q := 67) (i := 2) (j := 2) X rfl (Nat.le_of_ble_eq_true rfl) dX7_fewest_66 rfl ?_
              refine r_iinc (q := 70) (i := 3) (x := nI (k)) (v := nI (k + 1)) X rfl (Nat.le_of_ble_eq_true rfl) (kinc 1 rfl) dX7_fewest_67 rfl ?_
              refine r_goto (tgt := 36) X (by decide) dX7_fewest_70 ?_
              have hno : ∀ q, 1 ≤ q → q < k → bst S (Mx 44 4) q x < n := by
                rcases hi with ⟨h1, h2⟩ | ⟨i, h1, h2, h3, h4, h5⟩
                · exact h2
                · exact absurd (c45.symm.trans h1) (fun h => k_ne9 (n := i) (by omega) h.symm)
              refine r_pl [(0, .ref (base + 44)), (1, .int (nI (n))), (2, .int (fd)), (3, .int (nI (k + 1)))] ⟨rfl, rfl, rfl, rfl, trivial⟩ ?_
              exact ih (k + 1) _ M1 (by omega) (by omega) (by omega) (fun a h1 h2 h3 => (hqa a h1 h2).trans (hfv a h1 h2 h3)) ((hqa 51 (by decide) (by decide)).trans h51) (fun c h1 h2 => (hqc c h1 h2).trans (hfc c h1 h2)) (Or.inl ⟨c45, fun q h1 h2 => by rcases (show q < k ∨ q = k by omega) with h9 | h9; exact hno q h1 h9; subst h9; omega⟩)
            · replace c58 : ¬ (bst S (Mx 44 4) k x) < n := fun h => c58 ((nI_ltI (by omega) (by omega)).mpr h)
              refine r_iload_n (q := 62) (i := 3) (j := 3) (x := nI (k)) X rfl rfl dX7_fewest_61 rfl ?_
              refine r_goto (tgt := 66) X (by decide) dX7_fewest_62 ?_
              refine r_istore_n (q := 67) (i := 2) (j := 2) X rfl (Nat.le_of_ble_eq_true rfl) dX7_fewest_66 rfl ?_
              refine r_iinc (q := 70) (i := 3) (x := nI (k)) (v := nI (k + 1)) X rfl (Nat.le_of_ble_eq_true rfl) (kinc 1 rfl) dX7_fewest_67 rfl ?_
              refine r_goto (tgt := 36) X (by decide) dX7_fewest_70 ?_
              have hno : ∀ q, 1 ≤ q → q < k → bst S (Mx 44 4) q x < n := by
                rcases hi with ⟨h1, h2⟩ | ⟨i, h1, h2, h3, h4, h5⟩
                · exact h2
                · exact absurd (c45.symm.trans h1) (fun h => k_ne9 (n := i) (by omega) h.symm)
              refine r_pl [(0, .ref (base + 44)), (1, .int (nI (n))), (2, .int (nI (k))), (3, .int (nI (k + 1)))] ⟨rfl, rfl, rfl, rfl, trivial⟩ ?_
              exact ih (k + 1) _ M1 (by omega) (by omega) (by omega) (fun a h1 h2 h3 => (hqa a h1 h2).trans (hfv a h1 h2 h3)) ((hqa 51 (by decide) (by decide)).trans h51) (fun c h1 h2 => (hqc c h1 h2).trans (hfc c h1 h2)) (Or.inr ⟨k, rfl, by omega, by omega, by omega, hno⟩)
    refine r_pl [(0, .ref (base + 44)), (1, .int (nI (n))), (2, .int ((-9))), (3, .int (nI (1)))] ⟨rfl, rfl, rfl, rfl, trivial⟩ ?_
    exact lp 7 1 (-9) (sr Mx 51 (cp12 (Mx 51) (Mx 49))) (by omega) (by omega) (by omega) (fun a h1 h2 h3 => sr_o h3) (sr_s _ _ _) (fun c h1 h2 => congrFun (sr_o (by decide)) c) (Or.inl ⟨rfl, fun q h1 h2 => absurd h1 (by omega)⟩)
  · subst e1
    obtain ⟨e2, e3⟩ := hp2
    replace e2 := e2.symm
    subst e2
    replace e3 := e3.symm
    subst e3
    rw [hkn] at hin
    refine r_if_ne (q := 17) (tgt := 20) X (by decide) dX7_fewest_14 rfl (fun c => absurd c (by decide)) (fun _ => ?_)
    refine r_bipush (q := 19) (v := (-2)) X kb_m2 dX7_fewest_17 rfl ?_
    refine r_iret X Y ?_ dX7_fewest_19
    exact Or.inl ⟨rfl, fun n h1 h2 h3 => hin ⟨n, by omega, by omega, h3⟩, rfl, rfl⟩
set_option maxHeartbeats 8000000 in
theorem c7_keys (l : Launch) (G : ks_G) (base : Nat) (Mx : ks_M) (Lx : ks_L) (z u : Int32) (S x : Nat → Nat) (ok : okP Mx) (hSS : smS S Mx (Mx 44 4)) (hS : ∀ k, S k < 1000) (hsm : smr x (Mx 49)) (hro : rok (Mx 44 4) 100000 x) (hJ : x 3 < 1000000000) : KI l G base 4 yX7_keys cX7_keys 5 .int [.ref (base + 44), .int (z), .int (u)] SH Mx Lx (fun rr M1 L1 => (rr = (-2) ∧ (∀ n j, 1 ≤ n → n ≤ 3 → j ≤ 99 → z = nI n → u ≠ nI j) ∧ M1 = Mx ∧ L1 = Lx) ∨ (∃ n j, 1 ≤ n ∧ n ≤ 3 ∧ j ≤ 99 ∧ z = nI n ∧ u = nI j ∧ rr = (kyo S (Mx 44 4) n j x (1 <<< Mx 44 4)).1 ∧ (∀ a, a ≠ 44 → a ≠ 50 → a ≠ 51 → M1 a = Mx a) ∧ (∀ c, c ≠ 23 → c ≠ 24 → M1 44 c = Mx 44 c) ∧ L1 = Lx)) := by
  refine k_meti (by decide) (Nat.le_of_ble_eq_true rfl) (fun K hK X Y => ?_)
  subst hK
  refine r_pl [(0, .ref (base + 44)), (1, .int (z)), (2, .int (u))] ⟨rfl, rfl, rfl, trivial⟩ ?_
  have hth := ok.1
  have hn := ok.2.1
  refine r_aload_n (q := 1) (i := 0) (j := 0) (x := base + 44) X rfl rfl dX7_keys_0 rfl ?_
  refine r_iconst (q := 2) (v := nI 0) X kc_0 dX7_keys_1 rfl ?_
  refine r_puti (q := 5) (i := 44) (n := 0) X fk_X7_59 kp_X7_0 kh_44 rfl dX7_keys_2 rfl ?_
  refine r_mem Mx (up2_id hth) ?_
  refine r_iload_n (q := 6) (i := 1) (j := 1) (x := z) X rfl rfl dX7_keys_5 rfl ?_
  refine r_i2l (q := 7) (v := z.toInt64) X rfl dX7_keys_6 rfl ?_
  refine r_lconst (q := 8) (v := 1) X rfl dX7_keys_7 rfl ?_
  refine r_ldc2 (q := 11) (v := 3) X kl_RX7_113 dX7_keys_8 rfl ?_
  refine r_callSi (q := 14) X (c_in K.2.1 G base Mx Lx z.toInt64 1 3) ks_RX7_66 (by decide) (by decide) ⟨Nat.zero_le _, Nat.zero_le _⟩ rfl (Nat.le_of_ble_eq_true rfl) dX7_keys_11 rfl (fun r M1 L1 hp => ?_)
  have hkn := kIn (x := z) (y := 1) (z := 3) (a := 1) (b := 3) rfl rfl (by omega) (by omega)
  rcases hp with ⟨e1, hin, hp2⟩ | ⟨e1, hin, hp2⟩
  · subst e1
    obtain ⟨e2, e3⟩ := hp2
    replace e2 := e2.symm
    subst e2
    replace e3 := e3.symm
    subst e3
    rw [hkn] at hin
    obtain ⟨n, hn1, hn2, rfl⟩ := hin
    refine r_if_eq (q := 17) (tgt := 29) X (by decide) dX7_keys_14 rfl (fun c => absurd c (by decide)) (fun _ => ?_)
    refine r_iload_n (q := 18) (i := 2) (j := 2) (x := u) X rfl rfl dX7_keys_17 rfl ?_
    refine r_i2l (q := 19) (v := u.toInt64) X rfl dX7_keys_18 rfl ?_
    refine r_lconst (q := 20) (v := 0) X rfl dX7_keys_19 rfl ?_
    refine r_ldc2 (q := 23) (v := 99) X kl_RX7_115 dX7_keys_20 rfl ?_
    refine r_callSi (q := 26) X (c_in K.2.1 G base Mx Lx u.toInt64 0 99) ks_RX7_66 (by decide) (by decide) ⟨Nat.zero_le _, Nat.zero_le _⟩ rfl (Nat.le_of_ble_eq_true rfl) dX7_keys_23 rfl (fun r M1 L1 hp => ?_)
    have hkj := kIn (x := u) (y := 0) (z := 99) (a := 0) (b := 99) rfl rfl (by omega) (by omega)
    rcases hp with ⟨e1, hi2, hp2⟩ | ⟨e1, hi2, hp2⟩
    · subst e1
      obtain ⟨e2, e3⟩ := hp2
      replace e2 := e2.symm
      subst e2
      replace e3 := e3.symm
      subst e3
      rw [hkj] at hi2
      obtain ⟨j, hj1, hj2, rfl⟩ := hi2
      refine r_if_ne (q := 29) (tgt := 32) X (by decide) dX7_keys_26 rfl (fun _ => ?_) (fun c => absurd c (by decide))
      refine r_bipush (q := 34) (v := (-9)) X kb_m9 dX7_keys_32 rfl ?_
      refine r_istore_n (q := 35) (i := 3) (j := 3) X rfl (Nat.le_of_ble_eq_true rfl) dX7_keys_34 rfl ?_
      refine r_iconst (q := 36) (v := nI 0) X kc_0 dX7_keys_35 rfl ?_
      refine r_istore (q := 38) (i := 4) X (Nat.le_of_ble_eq_true rfl) dX7_keys_36 rfl ?_
      have lp : ∀ (fuel : Nat) (s : Nat) (Mv : ks_M), 65 - s < fuel → (s ≤ 1 <<< Mx 44 4) → ((∀ a, a ≠ 44 → a ≠ 50 → a ≠ 51 → Mv a = Mx a)) → ((∀ c, c ≠ 23 → c ≠ 24 → Mv 44 c = Mx 44 c)) → RN K G base 5 0 0 SH Mv Lx 38 [(0, .ref (base + 44)), (1, .int (nI (n))), (2, .int (nI (j))), (3, .int ((kyo S (Mx 44 4) n j x (s)).1)), (4, .int (nI (s)))] [] := by
        intro fuel
        induction fuel with
        | zero => intro s Mv hfu; exact absurd hfu (Nat.not_lt_zero _)
        | succ fuel ih =>
          intro s Mv hfu hs9 hfv hfc
          have h64 : 1 <<< Mx 44 4 ≤ 64 := k1s ok.2.1
          have hs64 : s ≤ 64 := Nat.le_trans hs9 h64
          have hx5 := hro.2.2.2.2.2.1
          refine r_iload (q := 40) (i := 4) (x := nI (s)) X rfl dX7_keys_38 rfl ?_
          refine r_iconst (q := 41) (v := nI 1) X kc_1 dX7_keys_40 rfl ?_
          refine r_aload_n (q := 42) (i := 0) (j := 0) (x := base + 44) X rfl rfl dX7_keys_41 rfl ?_
          refine r_getf (q := 45) (i := 44) (v := .int (nI (Mx 44 4))) X fk_X7_63 kh_44 rfl (kv (hfc 4 (by decide) (by decide))) dX7_keys_42 rfl ?_
          refine r_ishlR (q := 46) (x := nI 1) (y := nI (Mx 44 4)) (v := nI (1 <<< (Mx 44 4))) X (k_shl (by omega)) dX7_keys_45 rfl ?_
          refine r_icmp_ge (q := 49) (tgt := 127) X (by decide) dX7_keys_46 rfl (fun c46 => ?_) (fun c46 => ?_)
          · replace c46 : (1 <<< (Mx 44 4)) ≤ s := (nI_leI (by omega) (by omega)).mp c46
            refine r_iload_n (q := 128) (i := 3) (j := 3) (x := (kyo S (Mx 44 4) n j x (s)).1) X rfl rfl dX7_keys_127 rfl ?_
            refine r_iret X Y ?_ dX7_keys_128
            have hse : s = 1 <<< Mx 44 4 := by omega
            subst hse
            exact Or.inr ⟨n, j, by omega, by omega, by omega, rfl, rfl, rfl, hfv, hfc, rfl⟩
          · replace c46 : ¬ (1 <<< (Mx 44 4)) ≤ s := fun h => c46 ((nI_leI (by omega) (by omega)).mpr h)
            refine r_iload (q := 51) (i := 4) (x := nI (s)) X rfl dX7_keys_49 rfl ?_
            refine r_aload_n (q := 52) (i := 0) (j := 0) (x := base + 44) X rfl rfl dX7_keys_51 rfl ?_
            refine r_getf (q := 55) (i := 44) (v := .ref (base + 49)) X fk_X7_22 kh_44 rfl rfl dX7_keys_52 rfl ?_
            refine r_iconst (q := 56) (v := nI 5) X kc_5 dX7_keys_55 rfl ?_
            refine r_iald (q := 57) (i := 49) (j := 5) (v := Mx 49 5) X kh_49 (by omega) (Nat.le_of_ble_eq_true rfl) (congrFun (hfv 49 (by decide) (by decide) (by decide)) 5) dX7_keys_56 rfl ?_
            refine r_iandR (q := 58) (x := nI (s)) (y := nI (Mx 49 5)) (v := nI (s &&& (Mx 49 5))) X (fa_and _ _) dX7_keys_57 rfl ?_
            have hand : s &&& Mx 49 5 < 2147483648 := k_and31 (by omega)
            have h75 : Mx 49 5 = x 5 := hsm.1 5 (by decide)
            have hmk := mnk_6 s
            refine r_if_ne (q := 61) (tgt := 121) X (by decide) dX7_keys_58 rfl (fun c58 => ?_) (fun c58 => ?_)
            · replace c58 : ¬ (s &&& (Mx 49 5)) = 0 := fun h => c58 ((kI_eq0 (by omega)).mpr h)
              refine r_iinc (q := 124) (i := 4) (x := nI (s)) (v := nI (s + 1)) X rfl (Nat.le_of_ble_eq_true rfl) (kinc 1 rfl) dX7_keys_121 rfl ?_
              refine r_goto (tgt := 38) X (by decide) dX7_keys_124 ?_
              have eb : (kyo S (Mx 44 4) n j x (s + 1)) = (kyo S (Mx 44 4) n j x (s)) := kyo_n (fun h => by have h1 := h.1; have h2 := h.2.1; rw [← h75] at h1; omega)
              refine r_pl [(0, .ref (base + 44)), (1, .int (nI (n))), (2, .int (nI (j))), (3, .int ((kyo S (Mx 44 4) n j x (s + 1)).1)), (4, .int (nI (s + 1)))] ⟨rfl, rfl, rfl, by rw [eb]; rfl, rfl, trivial⟩ ?_
              exact ih (s + 1) Mv (by omega) (by omega) hfv hfc
            · replace c58 : (s &&& (Mx 49 5)) = 0 := (kI_eq0 (by omega)).mp c58
              refine r_iload_n (q := 62) (i := 3) (j := 3) (x := (kyo S (Mx 44 4) n j x (s)).1) X rfl rfl dX7_keys_61 rfl ?_
              refine r_bipush (q := 64) (v := (-9)) X kb_m9 dX7_keys_62 rfl ?_
              refine r_icmp_eq (q := 67) (tgt := 79) X (by decide) dX7_keys_64 rfl (fun c64 => ?_) (fun c64 => ?_)
              · skip
                have hs7 : (kyo S (Mx 44 4) n j x (s)).2 = 7 := by rcases kyo_r S (Mx 44 4) n j x s with h9 | ⟨b, h9, h8, h7⟩; exact h9.2; exact absurd (h9.symm.trans c64) (k_ne9 (by omega))
                refine r_aload_n (q := 80) (i := 0) (j := 0) (x := base + 44) X rfl rfl dX7_keys_79 rfl ?_
                refine r_getf (q := 83) (i := 44) (v := .ref (base + 49)) X fk_X7_22 kh_44 rfl rfl dX7_keys_80 rfl ?_
                refine r_aload_n (q := 84) (i := 0) (j := 0) (x := base + 44) X rfl rfl dX7_keys_83 rfl ?_
                refine r_getf (q := 87) (i := 44) (v := .ref (base + 51)) X fk_X7_28 kh_44 rfl rfl dX7_keys_84 rfl ?_
                refine r_callSv (q := 90) X (c_copy7 K.2.1 G base Mv Lx 49 51 kh_49 kh_51 (by decide)) ks_RX7_142 (by decide) (by decide) ⟨Nat.zero_le _, Nat.zero_le _⟩ rfl (Nat.le_of_ble_eq_true rfl) dX7_keys_87 rfl (fun M1 L1 hp => ?_)
                obtain ⟨e2, e3⟩ := hp
                rw [cpk_sr] at e2
                replace e2 := e2.symm
                subst e2
                replace e3 := e3.symm
                subst e3
                refine r_aload_n (q := 91) (i := 0) (j := 0) (x := base + 44) X rfl rfl dX7_keys_90 rfl ?_
                refine r_getf (q := 94) (i := 44) (v := .ref (base + 51)) X fk_X7_28 kh_44 rfl rfl dX7_keys_91 rfl ?_
                refine r_iconst (q := 95) (v := nI 5) X kc_5 dX7_keys_94 rfl ?_
                refine r_dup2 (q := 96) X rfl rfl dX7_keys_95 rfl ?_
                refine r_iald (q := 97) (i := 51) (j := 5) (v := (cp12 (Mv 51) (Mv 49)) 5) X kh_51 (by omega) (Nat.le_of_ble_eq_true rfl) (congrFun (sr_s _ _ _) _) dX7_keys_96 rfl ?_
                refine r_iload (q := 99) (i := 4) (x := nI (s)) X rfl dX7_keys_97 rfl ?_
                refine r_iorR (q := 100) (x := nI ((cp12 (Mv 51) (Mv 49)) 5)) (y := nI (s)) (v := nI (((cp12 (Mv 51) (Mv 49)) 5) ||| s)) X (fa_or _ _) dX7_keys_99 rfl ?_
                refine r_iast (q := 101) (i := 51) (j := 5) (v := ((cp12 (Mv 51) (Mv 49)) 5) ||| s) X kh_51 (by omega) (Nat.le_of_ble_eq_true rfl) dX7_keys_100 rfl ?_
                refine r_mem (sr Mv 51 (up1 (cp12 (Mv 51) (Mv 49)) 5 ((cp12 (Mv 51) (Mv 49)) 5 ||| s))) (by rw [sr_up, sr_s, sr_sr]) ?_
                refine r_aload_n (q := 102) (i := 0) (j := 0) (x := base + 44) X rfl rfl dX7_keys_101 rfl ?_
                refine r_iload_n (q := 103) (i := 1) (j := 1) (x := nI (n)) X rfl rfl dX7_keys_102 rfl ?_
                refine r_callVv (q := 106) X (c_findBest K.2.1 G base (sr Mv 51 (up1 (cp12 (Mv 51) (Mv 49)) 5 ((cp12 (Mv 51) (Mv 49)) 5 ||| s))) Lx S (up1 x 5 (x 5 ||| s)) n 100000 (by omega) (by omega) (by rw [(show (sr Mv 51 (up1 (cp12 (Mv 51) (Mv 49)) 5 ((cp12 (Mv 51) (Mv 49)) 5 ||| s))) 44 4 = Mx 44 4 from (congrFun (sr_o (by decide)) 4).trans (hfc 4 (by decide) (by decide)))]; exact ok.2.1) (fun q => by rw [(show (sr Mv 51 (up1 (cp12 (Mv 51) (Mv 49)) 5 ((cp12 (Mv 51) (Mv 49)) 5 ||| s))) 46 = Mx 46 from (sr_o (by decide)).trans (hfv 46 (by decide) (by decide) (by decide)))]; exact ok.2.2.2.2.2.2.2.2.2.1 q) (fun q => by rw [(show (sr Mv 51 (up1 (cp12 (Mv 51) (Mv 49)) 5 ((cp12 (Mv 51) (Mv 49)) 5 ||| s))) 47 = Mx 47 from (sr_o (by decide)).trans (hfv 47 (by decide) (by decide) (by decide)))]; exact ok.2.2.2.2.2.2.2.2.2.2 q) (by rw [(show (sr Mv 51 (up1 (cp12 (Mv 51) (Mv 49)) 5 ((cp12 (Mv 51) (Mv 49)) 5 ||| s))) 44 4 = Mx 44 4 from (congrFun (sr_o (by decide)) 4).trans (hfc 4 (by decide) (by decide)))]; exact smS_eq (show (sr Mv 51 (up1 (cp12 (Mv 51) (Mv 49)) 5 ((cp12 (Mv 51) (Mv 49)) 5 ||| s))) 46 = Mx 46 from (sr_o (by decide)).trans (hfv 46 (by decide) (by decide) (by decide))) (show (sr Mv 51 (up1 (cp12 (Mv 51) (Mv 49)) 5 ((cp12 (Mv 51) (Mv 49)) 5 ||| s))) 47 = Mx 47 from (sr_o (by decide)).trans (hfv 47 (by decide) (by decide) (by decide))) hSS) hS (by rw [sr_s, show (cp12 (Mv 51) (Mv 49)) 5 = x 5 from (by show (if 5 < 12 then Mv 49 5 else _) = _; rw [if_pos (by decide), (hfv 49 (by decide) (by decide) (by decide))]; exact h75)]; exact sm_u5 (sm_cpr (by rw [(hfv 49 (by decide) (by decide) (by decide))]; exact hsm)) _) (by rw [(show (sr Mv 51 (up1 (cp12 (Mv 51) (Mv 49)) 5 ((cp12 (Mv 51) (Mv 49)) 5 ||| s))) 44 4 = Mx 44 4 from (congrFun (sr_o (by decide)) 4).trans (hfc 4 (by decide) (by decide)))]; exact rok_k hro (Nat.or_lt_two_pow (n := 6) hro.2.2.2.2.2.1 (by omega))) (by show x 3 + _ < _; omega)) kh_44 rfl ks_RX7_148 (by decide) (by decide) ⟨Nat.zero_le _, Nat.zero_le _⟩ rfl (Nat.le_of_ble_eq_true rfl) dX7_keys_103 rfl (fun M1 L1 hp => ?_)
                rw [(show (sr Mv 51 (up1 (cp12 (Mv 51) (Mv 49)) 5 ((cp12 (Mv 51) (Mv 49)) 5 ||| s))) 44 4 = Mx 44 4 from (congrFun (sr_o (by decide)) 4).trans (hfc 4 (by decide) (by decide)))] at hp
                obtain ⟨hq1, hq2, hqa, hqc, e3⟩ := hp
                replace e3 := e3.symm
                subst e3
                have hbl := bst_le hS (Mx 44 4) n (up1 x 5 (x 5 ||| s))
                refine r_aload_n (q := 107) (i := 0) (j := 0) (x := base + 44) X rfl rfl dX7_keys_106 rfl ?_
                refine r_getf (q := 110) (i := 44) (v := .int (nI (bst S (Mx 44 4) n (up1 x 5 (x 5 ||| s))))) X fk_X7_132 kh_44 rfl (kv hq1) dX7_keys_107 rfl ?_
                refine r_iload_n (q := 111) (i := 2) (j := 2) (x := nI (j)) X rfl rfl dX7_keys_110 rfl ?_
                refine r_icmp_gt (q := 114) (tgt := 119) X (by decide) dX7_keys_111 rfl (fun c111 => ?_) (fun c111 => ?_)
                · replace c111 : j < (bst S (Mx 44 4) n (up1 x 5 (x 5 ||| s))) := (nI_ltI (by omega) (by omega)).mp c111
                  refine r_iload_n (q := 120) (i := 3) (j := 3) (x := (kyo S (Mx 44 4) n j x (s)).1) X rfl rfl dX7_keys_119 rfl ?_
                  refine r_istore_n (q := 121) (i := 3) (j := 3) X rfl (Nat.le_of_ble_eq_true rfl) dX7_keys_120 rfl ?_
                  refine r_iinc (q := 124) (i := 4) (x := nI (s)) (v := nI (s + 1)) X rfl (Nat.le_of_ble_eq_true rfl) (kinc 1 rfl) dX7_keys_121 rfl ?_
                  refine r_goto (tgt := 38) X (by decide) dX7_keys_124 ?_
                  have eb : (kyo S (Mx 44 4) n j x (s + 1)) = (kyo S (Mx 44 4) n j x (s)) := kyo_n (fun h => by have h3 := h.2.2; omega)
                  refine r_pl [(0, .ref (base + 44)), (1, .int (nI (n))), (2, .int (nI (j))), (3, .int ((kyo S (Mx 44 4) n j x (s + 1)).1)), (4, .int (nI (s + 1)))] ⟨rfl, rfl, rfl, by rw [eb]; rfl, rfl, trivial⟩ ?_
                  exact ih (s + 1) M1 (by omega) (by omega) (fun a h1 h2 h3 => (hqa a h1 h2).trans ((sr_o h3).trans (hfv a h1 h2 h3))) (fun c h1 h2 => (hqc c h1 h2).trans ((congrFun (sr_o (by decide)) c).trans (hfc c h1 h2)))
                · replace c111 : ¬ j < (bst S (Mx 44 4) n (up1 x 5 (x 5 ||| s))) := fun h => c111 ((nI_ltI (by omega) (by omega)).mpr h)
                  refine r_iload (q := 116) (i := 4) (x := nI (s)) X rfl dX7_keys_114 rfl ?_
                  refine r_goto (tgt := 120) X (by decide) dX7_keys_116 ?_
                  refine r_istore_n (q := 121) (i := 3) (j := 3) X rfl (Nat.le_of_ble_eq_true rfl) dX7_keys_120 rfl ?_
                  refine r_iinc (q := 124) (i := 4) (x := nI (s)) (v := nI (s + 1)) X rfl (Nat.le_of_ble_eq_true rfl) (kinc 1 rfl) dX7_keys_121 rfl ?_
                  refine r_goto (tgt := 38) X (by decide) dX7_keys_124 ?_
                  have eb : (kyo S (Mx 44 4) n j x (s + 1)) = (nI s, mnk s 6) := kyo_y ⟨by rw [← h75]; omega, by omega, by omega⟩
                  refine r_pl [(0, .ref (base + 44)), (1, .int (nI (n))), (2, .int (nI (j))), (3, .int ((kyo S (Mx 44 4) n j x (s + 1)).1)), (4, .int (nI (s + 1)))] ⟨rfl, rfl, rfl, by rw [eb]; rfl, rfl, trivial⟩ ?_
                  exact ih (s + 1) M1 (by omega) (by omega) (fun a h1 h2 h3 => (hqa a h1 h2).trans ((sr_o h3).trans (hfv a h1 h2 h3))) (fun c h1 h2 => (hqc c h1 h2).trans ((congrFun (sr_o (by decide)) c).trans (hfc c h1 h2)))
              · skip
                obtain ⟨bb, hb1, hb2, hb3⟩ := (kyo_r S (Mx 44 4) n j x s).resolve_left (fun h => c64 h.1)
                refine r_pl [(0, .ref (base + 44)), (1, .int (nI (n))), (2, .int (nI (j))), (3, .int (nI (bb))), (4, .int (nI (s)))] ⟨rfl, rfl, rfl, by rw [← hb1]; rfl, rfl, trivial⟩ ?_
                refine r_iload (q := 69) (i := 4) (x := nI (s)) X rfl dX7_keys_67 rfl ?_
                refine r_callSi (q := 72) X (c_many K.2.1 G base Mv Lx s (by omega)) ks_RX7_152 (by decide) (by decide) ⟨Nat.zero_le _, Nat.zero_le _⟩ rfl (Nat.le_of_ble_eq_true rfl) dX7_keys_69 rfl (fun r M1 L1 hp => ?_)
                obtain ⟨e1, e2, e3⟩ := hp
                subst e1
                replace e2 := e2.symm
                subst e2
                replace e3 := e3.symm
                subst e3
                refine r_iload_n (q := 73) (i := 3) (j := 3) (x := nI (bb)) X rfl rfl dX7_keys_72 rfl ?_
                refine r_callSi (q := 76) X (c_many K.2.1 G base Mv Lx bb (by omega)) ks_RX7_152 (by decide) (by decide) ⟨Nat.zero_le _, Nat.zero_le _⟩ rfl (Nat.le_of_ble_eq_true rfl) dX7_keys_73 rfl (fun r M1 L1 hp => ?_)
                obtain ⟨e1, e2, e3⟩ := hp
                subst e1
                replace e2 := e2.symm
                subst e2
                replace e3 := e3.symm
                subst e3
                have hmb := mnk_6 bb
                refine r_icmp_ge (q := 79) (tgt := 121) X (by decide) dX7_keys_76 rfl (fun c76 => ?_) (fun c76 => ?_)
                · replace c76 : (mnk bb 6) ≤ (mnk s 6) := (nI_leI (by omega) (by omega)).mp c76
                  refine r_iinc (q := 124) (i := 4) (x := nI (s)) (v := nI (s + 1)) X rfl (Nat.le_of_ble_eq_true rfl) (kinc 1 rfl) dX7_keys_121 rfl ?_
                  refine r_goto (tgt := 38) X (by decide) dX7_keys_124 ?_
                  have eb : (kyo S (Mx 44 4) n j x (s + 1)) = (kyo S (Mx 44 4) n j x (s)) := kyo_n (fun h => by have h1 := h.1; have h2 := h.2.1; rw [← h75] at h1; omega)
                  refine r_pl [(0, .ref (base + 44)), (1, .int (nI (n))), (2, .int (nI (j))), (3, .int ((kyo S (Mx 44 4) n j x (s + 1)).1)), (4, .int (nI (s + 1)))] ⟨rfl, rfl, rfl, by rw [eb, hb1]; rfl, rfl, trivial⟩ ?_
                  exact ih (s + 1) Mv (by omega) (by omega) hfv hfc
                · replace c76 : ¬ (mnk bb 6) ≤ (mnk s 6) := fun h => c76 ((nI_leI (by omega) (by omega)).mpr h)
                  refine r_aload_n (q := 80) (i := 0) (j := 0) (x := base + 44) X rfl rfl dX7_keys_79 rfl ?_
                  refine r_getf (q := 83) (i := 44) (v := .ref (base + 49)) X fk_X7_22 kh_44 rfl rfl dX7_keys_80 rfl ?_
                  refine r_aload_n (q := 84) (i := 0) (j := 0) (x := base + 44) X rfl rfl dX7_keys_83 rfl ?_
                  refine r_getf (q := 87) (i := 44) (v := .ref (base + 51)) X fk_X7_28 kh_44 rfl rfl dX7_keys_84 rfl ?_
                  refine r_callSv (q := 90) X (c_copy7 K.2.1 G base Mv Lx 49 51 kh_49 kh_51 (by decide)) ks_RX7_142 (by decide) (by decide) ⟨Nat.zero_le _, Nat.zero_le _⟩ rfl (Nat.le_of_ble_eq_true rfl) dX7_keys_87 rfl (fun M1 L1 hp => ?_)
                  obtain ⟨e2, e3⟩ := hp
                  rw [cpk_sr] at e2
                  replace e2 := e2.symm
                  subst e2
                  replace e3 := e3.symm
                  subst e3
                  refine r_aload_n (q := 91) (i := 0) (j := 0) (x := base + 44) X rfl rfl dX7_keys_90 rfl ?_
                  refine r_getf (q := 94) (i := 44) (v := .ref (base + 51)) X fk_X7_28 kh_44 rfl rfl dX7_keys_91 rfl ?_
                  refine r_iconst (q := 95) (v := nI 5) X kc_5 dX7_keys_94 rfl ?_
                  refine r_dup2 (q := 96) X rfl rfl dX7_keys_95 rfl ?_
                  refine r_iald (q := 97) (i := 51) (j := 5) (v := (cp12 (Mv 51) (Mv 49)) 5) X kh_51 (by omega) (Nat.le_of_ble_eq_true rfl) (congrFun (sr_s _ _ _) _) dX7_keys_96 rfl ?_
                  refine r_iload (q := 99) (i := 4) (x := nI (s)) X rfl dX7_keys_97 rfl ?_
                  refine r_iorR (q := 100) (x := nI ((cp12 (Mv 51) (Mv 49)) 5)) (y := nI (s)) (v := nI (((cp12 (Mv 51) (Mv 49)) 5) ||| s)) X (fa_or _ _) dX7_keys_99 rfl ?_
                  refine r_iast (q := 101) (i := 51) (j := 5) (v := ((cp12 (Mv 51) (Mv 49)) 5) ||| s) X kh_51 (by omega) (Nat.le_of_ble_eq_true rfl) dX7_keys_100 rfl ?_
                  refine r_mem (sr Mv 51 (up1 (cp12 (Mv 51) (Mv 49)) 5 ((cp12 (Mv 51) (Mv 49)) 5 ||| s))) (by rw [sr_up, sr_s, sr_sr]) ?_
                  refine r_aload_n (q := 102) (i := 0) (j := 0) (x := base + 44) X rfl rfl dX7_keys_101 rfl ?_
                  refine r_iload_n (q := 103) (i := 1) (j := 1) (x := nI (n)) X rfl rfl dX7_keys_102 rfl ?_
                  refine r_callVv (q := 106) X (c_findBest K.2.1 G base (sr Mv 51 (up1 (cp12 (Mv 51) (Mv 49)) 5 ((cp12 (Mv 51) (Mv 49)) 5 ||| s))) Lx S (up1 x 5 (x 5 ||| s)) n 100000 (by omega) (by omega) (by rw [(show (sr Mv 51 (up1 (cp12 (Mv 51) (Mv 49)) 5 ((cp12 (Mv 51) (Mv 49)) 5 ||| s))) 44 4 = Mx 44 4 from (congrFun (sr_o (by decide)) 4).trans (hfc 4 (by decide) (by decide)))]; exact ok.2.1) (fun q => by rw [(show (sr Mv 51 (up1 (cp12 (Mv 51) (Mv 49)) 5 ((cp12 (Mv 51) (Mv 49)) 5 ||| s))) 46 = Mx 46 from (sr_o (by decide)).trans (hfv 46 (by decide) (by decide) (by decide)))]; exact ok.2.2.2.2.2.2.2.2.2.1 q) (fun q => by rw [(show (sr Mv 51 (up1 (cp12 (Mv 51) (Mv 49)) 5 ((cp12 (Mv 51) (Mv 49)) 5 ||| s))) 47 = Mx 47 from (sr_o (by decide)).trans (hfv 47 (by decide) (by decide) (by decide)))]; exact ok.2.2.2.2.2.2.2.2.2.2 q) (by rw [(show (sr Mv 51 (up1 (cp12 (Mv 51) (Mv 49)) 5 ((cp12 (Mv 51) (Mv 49)) 5 ||| s))) 44 4 = Mx 44 4 from (congrFun (sr_o (by decide)) 4).trans (hfc 4 (by decide) (by decide)))]; exact smS_eq (show (sr Mv 51 (up1 (cp12 (Mv 51) (Mv 49)) 5 ((cp12 (Mv 51) (Mv 49)) 5 ||| s))) 46 = Mx 46 from (sr_o (by decide)).trans (hfv 46 (by decide) (by decide) (by decide))) (show (sr Mv 51 (up1 (cp12 (Mv 51) (Mv 49)) 5 ((cp12 (Mv 51) (Mv 49)) 5 ||| s))) 47 = Mx 47 from (sr_o (by decide)).trans (hfv 47 (by decide) (by decide) (by decide))) hSS) hS (by rw [sr_s, show (cp12 (Mv 51) (Mv 49)) 5 = x 5 from (by show (if 5 < 12 then Mv 49 5 else _) = _; rw [if_pos (by decide), (hfv 49 (by decide) (by decide) (by decide))]; exact h75)]; exact sm_u5 (sm_cpr (by rw [(hfv 49 (by decide) (by decide) (by decide))]; exact hsm)) _) (by rw [(show (sr Mv 51 (up1 (cp12 (Mv 51) (Mv 49)) 5 ((cp12 (Mv 51) (Mv 49)) 5 ||| s))) 44 4 = Mx 44 4 from (congrFun (sr_o (by decide)) 4).trans (hfc 4 (by decide) (by decide)))]; exact rok_k hro (Nat.or_lt_two_pow (n := 6) hro.2.2.2.2.2.1 (by omega))) (by show x 3 + _ < _; omega)) kh_44 rfl ks_RX7_148 (by decide) (by decide) ⟨Nat.zero_le _, Nat.zero_le _⟩ rfl (Nat.le_of_ble_eq_true rfl) dX7_keys_103 rfl (fun M1 L1 hp => ?_)
                  rw [(show (sr Mv 51 (up1 (cp12 (Mv 51) (Mv 49)) 5 ((cp12 (Mv 51) (Mv 49)) 5 ||| s))) 44 4 = Mx 44 4 from (congrFun (sr_o (by decide)) 4).trans (hfc 4 (by decide) (by decide)))] at hp
                  obtain ⟨hq1, hq2, hqa, hqc, e3⟩ := hp
                  replace e3 := e3.symm
                  subst e3
                  have hbl := bst_le hS (Mx 44 4) n (up1 x 5 (x 5 ||| s))
                  refine r_aload_n (q := 107) (i := 0) (j := 0) (x := base + 44) X rfl rfl dX7_keys_106 rfl ?_
                  refine r_getf (q := 110) (i := 44) (v := .int (nI (bst S (Mx 44 4) n (up1 x 5 (x 5 ||| s))))) X fk_X7_132 kh_44 rfl (kv hq1) dX7_keys_107 rfl ?_
                  refine r_iload_n (q := 111) (i := 2) (j := 2) (x := nI (j)) X rfl rfl dX7_keys_110 rfl ?_
                  refine r_icmp_gt (q := 114) (tgt := 119) X (by decide) dX7_keys_111 rfl (fun c111 => ?_) (fun c111 => ?_)
                  · replace c111 : j < (bst S (Mx 44 4) n (up1 x 5 (x 5 ||| s))) := (nI_ltI (by omega) (by omega)).mp c111
                    refine r_iload_n (q := 120) (i := 3) (j := 3) (x := nI (bb)) X rfl rfl dX7_keys_119 rfl ?_
                    refine r_istore_n (q := 121) (i := 3) (j := 3) X rfl (Nat.le_of_ble_eq_true rfl) dX7_keys_120 rfl ?_
                    refine r_iinc (q := 124) (i := 4) (x := nI (s)) (v := nI (s + 1)) X rfl (Nat.le_of_ble_eq_true rfl) (kinc 1 rfl) dX7_keys_121 rfl ?_
                    refine r_goto (tgt := 38) X (by decide) dX7_keys_124 ?_
                    have eb : (kyo S (Mx 44 4) n j x (s + 1)) = (kyo S (Mx 44 4) n j x (s)) := kyo_n (fun h => by have h3 := h.2.2; omega)
                    refine r_pl [(0, .ref (base + 44)), (1, .int (nI (n))), (2, .int (nI (j))), (3, .int ((kyo S (Mx 44 4) n j x (s + 1)).1)), (4, .int (nI (s + 1)))] ⟨rfl, rfl, rfl, by rw [eb, hb1]; rfl, rfl, trivial⟩ ?_
                    exact ih (s + 1) M1 (by omega) (by omega) (fun a h1 h2 h3 => (hqa a h1 h2).trans ((sr_o h3).trans (hfv a h1 h2 h3))) (fun c h1 h2 => (hqc c h1 h2).trans ((congrFun (sr_o (by decide)) c).trans (hfc c h1 h2)))
                  · replace c111 : ¬ j < (bst S (Mx 44 4) n (up1 x 5 (x 5 ||| s))) := fun h => c111 ((nI_ltI (by omega) (by omega)).mpr h)
                    refine r_iload (q := 116) (i := 4) (x := nI (s)) X rfl dX7_keys_114 rfl ?_
                    refine r_goto (tgt := 120) X (by decide) dX7_keys_116 ?_
                    refine r_istore_n (q := 121) (i := 3) (j := 3) X rfl (Nat.le_of_ble_eq_true rfl) dX7_keys_120 rfl ?_
                    refine r_iinc (q := 124) (i := 4) (x := nI (s)) (v := nI (s + 1)) X rfl (Nat.le_of_ble_eq_true rfl) (kinc 1 rfl) dX7_keys_121 rfl ?_
                    refine r_goto (tgt := 38) X (by decide) dX7_keys_124 ?_
                    have eb : (kyo S (Mx 44 4) n j x (s + 1)) = (nI s, mnk s 6) := kyo_y ⟨by rw [← h75]; omega, by omega, by omega⟩
                    refine r_pl [(0, .ref (base + 44)), (1, .int (nI (n))), (2, .int (nI (j))), (3, .int ((kyo S (Mx 44 4) n j x (s + 1)).1)), (4, .int (nI (s + 1)))] ⟨rfl, rfl, rfl, by rw [eb]; rfl, rfl, trivial⟩ ?_
                    exact ih (s + 1) M1 (by omega) (by omega) (fun a h1 h2 h3 => (hqa a h1 h2).trans ((sr_o h3).trans (hfv a h1 h2 h3))) (fun c h1 h2 => (hqc c h1 h2).trans ((congrFun (sr_o (by decide)) c).trans (hfc c h1 h2)))
      refine r_pl [(0, .ref (base + 44)), (1, .int (nI (n))), (2, .int (nI (j))), (3, .int ((kyo S (Mx 44 4) n j x (0)).1)), (4, .int (nI (0)))] ⟨rfl, rfl, rfl, rfl, rfl, trivial⟩ ?_
      exact lp 66 0 Mx (by omega) (Nat.zero_le _) (fun a _ _ _ => rfl) (fun c _ _ => rfl)
    · subst e1
      obtain ⟨e2, e3⟩ := hp2
      replace e2 := e2.symm
      subst e2
      replace e3 := e3.symm
      subst e3
      rw [hkj] at hi2
      refine r_if_ne (q := 29) (tgt := 32) X (by decide) dX7_keys_26 rfl (fun c => absurd c (by decide)) (fun _ => ?_)
      refine r_bipush (q := 31) (v := (-2)) X kb_m2 dX7_keys_29 rfl ?_
      refine r_iret X Y ?_ dX7_keys_31
      exact Or.inl ⟨rfl, fun n2 j2 h1 h2 h3 h4 h5 => hi2 ⟨j2, by omega, by omega, h5⟩, rfl, rfl⟩
  · subst e1
    obtain ⟨e2, e3⟩ := hp2
    replace e2 := e2.symm
    subst e2
    replace e3 := e3.symm
    subst e3
    rw [hkn] at hin
    refine r_if_eq (q := 17) (tgt := 29) X (by decide) dX7_keys_14 rfl (fun _ => ?_) (fun c => absurd c (by decide))
    refine r_bipush (q := 31) (v := (-2)) X kb_m2 dX7_keys_29 rfl ?_
    refine r_iret X Y ?_ dX7_keys_31
    exact Or.inl ⟨rfl, fun n2 j2 h1 h2 h3 h4 h5 => hin ⟨n2, by omega, by omega, h4⟩, rfl, rfl⟩
set_option maxHeartbeats 8000000 in
theorem c7_share (l : Launch) (G : ks_G) (base : Nat) (Mx : ks_M) (Lx : ks_L) (z : Int32) (b : Nat) (hb : b < 2) (S x : Nat → Nat) (ok : okP Mx) (hSS : smS S Mx (Mx 44 4)) (hS : ∀ k, S k < 1000) (hsm : smr x (Mx 49)) (hro : rok (Mx 44 4) 100000 x) (hJ : x 3 < 1000000000) : KI l G base 4 yX7_share cX7_share 6 .int [.ref (base + 44), .int (z), .int (nI (b))] SH Mx Lx (fun rr M1 L1 => (rr = (-1) ∧ (∀ k, k < Mx 44 4 → z ≠ nI k) ∧ M1 = Mx ∧ L1 = Lx) ∨ (∃ k, k < Mx 44 4 ∧ z = nI k ∧ rr = nI (frc (sho S (Mx 44 4) k x (1 <<< Mx 44 4)) (fct (Mx 44 4)) b) ∧ (∀ a, a ≠ 44 → a ≠ 50 → a ≠ 51 → a ≠ 59 → M1 a = Mx a) ∧ (∀ c, c ≠ 23 → c ≠ 24 → M1 44 c = Mx 44 c) ∧ L1 = Lx)) := by
  refine k_meti (by decide) (Nat.le_of_ble_eq_true rfl) (fun K hK X Y => ?_)
  subst hK
  refine r_pl [(0, .ref (base + 44)), (1, .int (z)), (2, .int (nI (b)))] ⟨rfl, rfl, rfl, trivial⟩ ?_
  have hth := ok.1
  have hn := ok.2.1
  refine r_aload_n (q := 1) (i := 0) (j := 0) (x := base + 44) X rfl rfl dX7_share_0 rfl ?_
  refine r_iconst (q := 2) (v := nI 0) X kc_0 dX7_share_1 rfl ?_
  refine r_puti (q := 5) (i := 44) (n := 0) X fk_X7_59 kp_X7_0 kh_44 rfl dX7_share_2 rfl ?_
  refine r_mem Mx (up2_id hth) ?_
  refine r_aload_n (q := 6) (i := 0) (j := 0) (x := base + 44) X rfl rfl dX7_share_5 rfl ?_
  refine r_iload_n (q := 7) (i := 1) (j := 1) (x := z) X rfl rfl dX7_share_6 rfl ?_
  refine r_callVi (q := 10) X (c_noHouse K.2.1 G base Mx Lx z ok.2.1) kh_44 rfl ks_RX7_109 (by decide) (by decide) ⟨Nat.zero_le _, Nat.zero_le _⟩ rfl (Nat.le_of_ble_eq_true rfl) dX7_share_7 rfl (fun r M1 L1 hp => ?_)
  rcases hp with ⟨k, e1, hkn, hxe, hp2⟩ | ⟨e1, hno, hp2⟩
  · subst e1
    obtain ⟨e2, e3⟩ := hp2
    replace e2 := e2.symm
    subst e2
    replace e3 := e3.symm
    subst e3
    subst hxe
    refine r_if_eq (q := 13) (tgt := 15) X (by decide) dX7_share_10 rfl (fun _ => ?_) (fun c => absurd c (by decide))
    refine r_iconst (q := 16) (v := nI 0) X kc_0 dX7_share_15 rfl ?_
    refine r_istore_n (q := 17) (i := 3) (j := 3) X rfl (Nat.le_of_ble_eq_true rfl) dX7_share_16 rfl ?_
    have lp : ∀ (fuel : Nat) (s : Nat) (Mv : ks_M), 65 - s < fuel → (s ≤ 1 <<< Mx 44 4) → ((∀ a, a ≠ 44 → a ≠ 50 → a ≠ 51 → a ≠ 59 → Mv a = Mx a)) → ((∀ c, c ≠ 23 → c ≠ 24 → Mv 44 c = Mx 44 c)) → ((∀ q, q < s → Mv 59 q = bam S (Mx 44 4) x q)) → RN K G base 6 0 0 SH Mv Lx 17 [(0, .ref (base + 44)), (1, .int (nI (k))), (2, .int (nI (b))), (3, .int (nI (s)))] [] := by
      intro fuel
      induction fuel with
      | zero => intro s Mv hfu; exact absurd hfu (Nat.not_lt_zero _)
      | succ fuel ih =>
        intro s Mv hfu hs9 hfv hfc hval
        have h64 : 1 <<< Mx 44 4 ≤ 64 := k1s ok.2.1
        have hs64 : s ≤ 64 := Nat.le_trans hs9 h64
        refine r_iload_n (q := 18) (i := 3) (j := 3) (x := nI (s)) X rfl rfl dX7_share_17 rfl ?_
        refine r_iconst (q := 19) (v := nI 1) X kc_1 dX7_share_18 rfl ?_
        refine r_aload_n (q := 20) (i := 0) (j := 0) (x := base + 44) X rfl rfl dX7_share_19 rfl ?_
        refine r_getf (q := 23) (i := 44) (v := .int (nI (Mx 44 4))) X fk_X7_63 kh_44 rfl (kv (hfc 4 (by decide) (by decide))) dX7_share_20 rfl ?_
        refine r_ishlR (q := 24) (x := nI 1) (y := nI (Mx 44 4)) (v := nI (1 <<< (Mx 44 4))) X (k_shl (by omega)) dX7_share_23 rfl ?_
        refine r_icmp_ge (q := 27) (tgt := 69) X (by decide) dX7_share_24 rfl (fun c24 => ?_) (fun c24 => ?_)
        · replace c24 : (1 <<< (Mx 44 4)) ≤ s := (nI_leI (by omega) (by omega)).mp c24
          refine r_iconst (q := 70) (v := nI 0) X kc_0 dX7_share_69 rfl ?_
          refine r_istore_n (q := 71) (i := 3) (j := 3) X rfl (Nat.le_of_ble_eq_true rfl) dX7_share_70 rfl ?_
          refine r_iconst (q := 72) (v := nI 0) X kc_0 dX7_share_71 rfl ?_
          refine r_istore (q := 74) (i := 4) X (Nat.le_of_ble_eq_true rfl) dX7_share_72 rfl ?_
          obtain rfl : s = 1 <<< Mx 44 4 := by omega
          have lq : ∀ (fuel2 : Nat) (s : Nat), 65 - s < fuel2 → (s ≤ 1 <<< Mx 44 4) → RN K G base 6 0 0 SH Mv Lx 74 [(0, .ref (base + 44)), (1, .int (nI (k))), (2, .int (nI (b))), (3, .int (nI (sho S (Mx 44 4) k x (s)))), (4, .int (nI (s)))] [] := by
            intro fuel2
            induction fuel2 with
            | zero => intro s hfu2; exact absurd hfu2 (Nat.not_lt_zero _)
            | succ fuel2 ih2 =>
              intro s hfu2 hs9
              have hs64 : s ≤ 64 := Nat.le_trans hs9 h64
              refine r_iload (q := 76) (i := 4) (x := nI (s)) X rfl dX7_share_74 rfl ?_
              refine r_iconst (q := 77) (v := nI 1) X kc_1 dX7_share_76 rfl ?_
              refine r_aload_n (q := 78) (i := 0) (j := 0) (x := base + 44) X rfl rfl dX7_share_77 rfl ?_
              refine r_getf (q := 81) (i := 44) (v := .int (nI (Mx 44 4))) X fk_X7_63 kh_44 rfl (kv (hfc 4 (by decide) (by decide))) dX7_share_78 rfl ?_
              refine r_ishlR (q := 82) (x := nI 1) (y := nI (Mx 44 4)) (v := nI (1 <<< (Mx 44 4))) X (k_shl (by omega)) dX7_share_81 rfl ?_
              refine r_icmp_ge (q := 85) (tgt := 148) X (by decide) dX7_share_82 rfl (fun c82 => ?_) (fun c82 => ?_)
              · replace c82 : (1 <<< (Mx 44 4)) ≤ s := (nI_leI (by omega) (by omega)).mp c82
                refine r_iload_n (q := 149) (i := 3) (j := 3) (x := nI (sho S (Mx 44 4) k x (s))) X rfl rfl dX7_share_148 rfl ?_
                refine r_aload_n (q := 150) (i := 0) (j := 0) (x := base + 44) X rfl rfl dX7_share_149 rfl ?_
                refine r_getf (q := 153) (i := 44) (v := .int (nI (Mx 44 4))) X fk_X7_63 kh_44 rfl (kv (hfc 4 (by decide) (by decide))) dX7_share_150 rfl ?_
                refine r_callSi (q := 156) X (c_fct7 K.2.1 G base Mv Lx (Mx 44 4) (by omega)) ks_RX7_162 (by decide) (by decide) ⟨Nat.zero_le _, Nat.zero_le _⟩ rfl (Nat.le_of_ble_eq_true rfl) dX7_share_153 rfl (fun r M1 L1 hp => ?_)
                obtain ⟨e1, e2, e3⟩ := hp
                subst e1
                replace e2 := e2.symm
                subst e2
                replace e3 := e3.symm
                subst e3
                refine r_iload_n (q := 157) (i := 2) (j := 2) (x := nI (b)) X rfl rfl dX7_share_156 rfl ?_
                refine r_callSi (q := 160) X (c_fraction K.2.1 G base Mv Lx (sho S (Mx 44 4) k x (s)) (fct (Mx 44 4)) b (by have := sho_le (X := x) hS ok.2.1 hkn s hs9; omega) (by have := (fct_b _ ok.2.1).2; omega) (fct_b _ ok.2.1).1 hb) ks_RX7_165 (by decide) (by decide) ⟨Nat.zero_le _, Nat.zero_le _⟩ rfl (Nat.le_of_ble_eq_true rfl) dX7_share_157 rfl (fun r M1 L1 hp => ?_)
                obtain ⟨e1, e2, e3⟩ := hp
                subst e1
                replace e2 := e2.symm
                subst e2
                replace e3 := e3.symm
                subst e3
                refine r_iret X Y ?_ dX7_share_160
                have hse : s = 1 <<< Mx 44 4 := by omega
                subst hse
                exact Or.inr ⟨k, hkn, rfl, rfl, hfv, hfc, rfl⟩
              · replace c82 : ¬ (1 <<< (Mx 44 4)) ≤ s := fun h => c82 ((nI_leI (by omega) (by omega)).mpr h)
                refine r_iload (q := 87) (i := 4) (x := nI (s)) X rfl dX7_share_85 rfl ?_
                refine r_iload_n (q := 88) (i := 1) (j := 1) (x := nI (k)) X rfl rfl dX7_share_87 rfl ?_
                refine r_callSi (q := 91) X (c_has7 K.2.1 G base Mv Lx s k (by omega) (by omega)) ks_RX7_98 (by decide) (by decide) ⟨Nat.zero_le _, Nat.zero_le _⟩ rfl (Nat.le_of_ble_eq_true rfl) dX7_share_88 rfl (fun r M1 L1 hp => ?_)
                obtain ⟨e1, e2, e3⟩ := hp
                subst e1
                replace e2 := e2.symm
                subst e2
                replace e3 := e3.symm
                subst e3
                have hsk := hsb_2 s k
                have hs1 := hsb_1 s k
                refine r_if_ne (q := 94) (tgt := 142) X (by decide) dX7_share_91 rfl (fun c91 => ?_) (fun c91 => ?_)
                · replace c91 : ¬ (hsb s k) = 0 := fun h => c91 ((kI_eq0 (by omega)).mpr h)
                  refine r_iinc (q := 145) (i := 4) (x := nI (s)) (v := nI (s + 1)) X rfl (Nat.le_of_ble_eq_true rfl) (kinc 1 rfl) dX7_share_142 rfl ?_
                  refine r_goto (tgt := 74) X (by decide) dX7_share_145 ?_
                  have eb : sho S (Mx 44 4) k x (s + 1) = sho S (Mx 44 4) k x (s) := sho_n (hs1.mp (by omega))
                  refine r_pl [(0, .ref (base + 44)), (1, .int (nI (k))), (2, .int (nI (b))), (3, .int (nI (sho S (Mx 44 4) k x (s + 1)))), (4, .int (nI (s + 1)))] ⟨rfl, rfl, rfl, by rw [eb]; rfl, rfl, trivial⟩ ?_
                  exact ih2 (s + 1) (by omega) (by omega)
                · replace c91 : (hsb s k) = 0 := (kI_eq0 (by omega)).mp c91
                  have hbit : s >>> k &&& 1 = 0 := Decidable.byContradiction (fun h9 => absurd (hs1.mpr h9) (by omega))
                  have hmk := mnk_lt (Mx 44 4) ok.2.1 k hkn s (by omega) hbit
                  refine r_iload (q := 96) (i := 4) (x := nI (s)) X rfl dX7_share_94 rfl ?_
                  refine r_callSi (q := 99) X (c_many K.2.1 G base Mv Lx s (by omega)) ks_RX7_152 (by decide) (by decide) ⟨Nat.zero_le _, Nat.zero_le _⟩ rfl (Nat.le_of_ble_eq_true rfl) dX7_share_96 rfl (fun r M1 L1 hp => ?_)
                  obtain ⟨e1, e2, e3⟩ := hp
                  subst e1
                  replace e2 := e2.symm
                  subst e2
                  replace e3 := e3.symm
                  subst e3
                  refine r_istore (q := 101) (i := 5) X (Nat.le_of_ble_eq_true rfl) dX7_share_99 rfl ?_
                  refine r_iload_n (q := 102) (i := 3) (j := 3) (x := nI (sho S (Mx 44 4) k x (s))) X rfl rfl dX7_share_101 rfl ?_
                  refine r_iload (q := 104) (i := 5) (x := nI (mnk s 6)) X rfl dX7_share_102 rfl ?_
                  refine r_callSi (q := 107) X (c_fct7 K.2.1 G base Mv Lx (mnk s 6) (by omega)) ks_RX7_162 (by decide) (by decide) ⟨Nat.zero_le _, Nat.zero_le _⟩ rfl (Nat.le_of_ble_eq_true rfl) dX7_share_104 rfl (fun r M1 L1 hp => ?_)
                  obtain ⟨e1, e2, e3⟩ := hp
                  subst e1
                  replace e2 := e2.symm
                  subst e2
                  replace e3 := e3.symm
                  subst e3
                  refine r_aload_n (q := 108) (i := 0) (j := 0) (x := base + 44) X rfl rfl dX7_share_107 rfl ?_
                  refine r_getf (q := 111) (i := 44) (v := .int (nI (Mx 44 4))) X fk_X7_63 kh_44 rfl (kv (hfc 4 (by decide) (by decide))) dX7_share_108 rfl ?_
                  refine r_iconst (q := 112) (v := nI 1) X kc_1 dX7_share_111 rfl ?_
                  refine r_isubR (q := 113) (x := nI (Mx 44 4)) (y := nI 1) (v := nI ((Mx 44 4) - 1)) X (pk_sub (by omega)) dX7_share_112 rfl ?_
                  refine r_iload (q := 115) (i := 5) (x := nI (mnk s 6)) X rfl dX7_share_113 rfl ?_
                  refine r_isubR (q := 116) (x := nI ((Mx 44 4) - 1)) (y := nI (mnk s 6)) (v := nI (Mx 44 4 - mnk s 6 - 1)) X (by rw [pk_sub (by omega), show Mx 44 4 - 1 - mnk s 6 = Mx 44 4 - mnk s 6 - 1 by omega]) dX7_share_115 rfl ?_
                  refine r_callSi (q := 119) X (c_fct7 K.2.1 G base Mv Lx (Mx 44 4 - mnk s 6 - 1) (by omega)) ks_RX7_162 (by decide) (by decide) ⟨Nat.zero_le _, Nat.zero_le _⟩ rfl (Nat.le_of_ble_eq_true rfl) dX7_share_116 rfl (fun r M1 L1 hp => ?_)
                  obtain ⟨e1, e2, e3⟩ := hp
                  subst e1
                  replace e2 := e2.symm
                  subst e2
                  replace e3 := e3.symm
                  subst e3
                  refine r_imulR (q := 120) (x := nI (fct (mnk s 6))) (y := nI (fct (Mx 44 4 - mnk s 6 - 1))) (v := nI ((fct (mnk s 6)) * (fct (Mx 44 4 - mnk s 6 - 1)))) X (pk_mul _ _) dX7_share_119 rfl ?_
                  refine r_aload_n (q := 121) (i := 0) (j := 0) (x := base + 44) X rfl rfl dX7_share_120 rfl ?_
                  refine r_getf (q := 124) (i := 44) (v := .ref (base + 59)) X fk_X7_53 kh_44 rfl rfl dX7_share_121 rfl ?_
                  refine r_iload (q := 126) (i := 4) (x := nI (s)) X rfl dX7_share_124 rfl ?_
                  refine r_iconst (q := 127) (v := nI 1) X kc_1 dX7_share_126 rfl ?_
                  refine r_iload_n (q := 128) (i := 1) (j := 1) (x := nI (k)) X rfl rfl dX7_share_127 rfl ?_
                  refine r_ishlR (q := 129) (x := nI 1) (y := nI (k)) (v := nI (1 <<< k)) X (k_shl (by omega)) dX7_share_128 rfl ?_
                  refine r_iorR (q := 130) (x := nI (s)) (y := nI (1 <<< k)) (v := nI (s ||| (1 <<< k))) X (fa_or _ _) dX7_share_129 rfl ?_
                  have hcl := come_lt2 (Mx 44 4) ok.2.1 k hkn s (by omega)
                  refine r_iald (q := 131) (i := 59) (j := s ||| (1 <<< k)) (v := bam S (Mx 44 4) x (s ||| 1 <<< k)) X kh_59 (by omega) (Nat.le_of_ble_eq_true rfl) (hval _ hcl) dX7_share_130 rfl ?_
                  refine r_aload_n (q := 132) (i := 0) (j := 0) (x := base + 44) X rfl rfl dX7_share_131 rfl ?_
                  refine r_getf (q := 135) (i := 44) (v := .ref (base + 59)) X fk_X7_53 kh_44 rfl rfl dX7_share_132 rfl ?_
                  refine r_iload (q := 137) (i := 4) (x := nI (s)) X rfl dX7_share_135 rfl ?_
                  refine r_iald (q := 138) (i := 59) (j := s) (v := bam S (Mx 44 4) x s) X kh_59 (by omega) (Nat.le_of_ble_eq_true rfl) (hval s (by omega)) dX7_share_137 rfl ?_
                  refine r_isubR (q := 139) (x := nI (bam S (Mx 44 4) x (s ||| 1 <<< k))) (y := nI (bam S (Mx 44 4) x s)) (v := nI ((bam S (Mx 44 4) x (s ||| 1 <<< k)) - (bam S (Mx 44 4) x s))) X (pk_sub (bst_come _ _ _ _ _ _)) dX7_share_138 rfl ?_
                  refine r_imulR (q := 140) (x := nI ((fct (mnk s 6)) * (fct (Mx 44 4 - mnk s 6 - 1)))) (y := nI ((bam S (Mx 44 4) x (s ||| 1 <<< k)) - (bam S (Mx 44 4) x s))) (v := nI (((fct (mnk s 6)) * (fct (Mx 44 4 - mnk s 6 - 1))) * ((bam S (Mx 44 4) x (s ||| 1 <<< k)) - (bam S (Mx 44 4) x s)))) X (pk_mul _ _) dX7_share_139 rfl ?_
                  refine r_iaddR (q := 141) (x := nI (sho S (Mx 44 4) k x (s))) (y := nI (((fct (mnk s 6)) * (fct (Mx 44 4 - mnk s 6 - 1))) * ((bam S (Mx 44 4) x (s ||| 1 <<< k)) - (bam S (Mx 44 4) x s)))) (v := nI ((sho S (Mx 44 4) k x (s)) + (((fct (mnk s 6)) * (fct (Mx 44 4 - mnk s 6 - 1))) * ((bam S (Mx 44 4) x (s ||| 1 <<< k)) - (bam S (Mx 44 4) x s))))) X (nI_add _ _) dX7_share_140 rfl ?_
                  refine r_istore_n (q := 142) (i := 3) (j := 3) X rfl (Nat.le_of_ble_eq_true rfl) dX7_share_141 rfl ?_
                  refine r_iinc (q := 145) (i := 4) (x := nI (s)) (v := nI (s + 1)) X rfl (Nat.le_of_ble_eq_true rfl) (kinc 1 rfl) dX7_share_142 rfl ?_
                  refine r_goto (tgt := 74) X (by decide) dX7_share_145 ?_
                  have eb : sho S (Mx 44 4) k x (s + 1) = (sho S (Mx 44 4) k x (s)) + (((fct (mnk s 6)) * (fct (Mx 44 4 - mnk s 6 - 1))) * ((bam S (Mx 44 4) x (s ||| 1 <<< k)) - (bam S (Mx 44 4) x s))) := sho_y hbit
                  refine r_pl [(0, .ref (base + 44)), (1, .int (nI (k))), (2, .int (nI (b))), (3, .int (nI (sho S (Mx 44 4) k x (s + 1)))), (4, .int (nI (s + 1)))] ⟨rfl, rfl, rfl, by rw [eb]; rfl, rfl, trivial⟩ ?_
                  exact ih2 (s + 1) (by omega) (by omega)
          refine r_pl [(0, .ref (base + 44)), (1, .int (nI (k))), (2, .int (nI (b))), (3, .int (nI (sho S (Mx 44 4) k x (0)))), (4, .int (nI (0)))] ⟨rfl, rfl, rfl, rfl, rfl, trivial⟩ ?_
          exact lq 66 0 (by omega) (Nat.zero_le _)
        · replace c24 : ¬ (1 <<< (Mx 44 4)) ≤ s := fun h => c24 ((nI_leI (by omega) (by omega)).mpr h)
          refine r_aload_n (q := 28) (i := 0) (j := 0) (x := base + 44) X rfl rfl dX7_share_27 rfl ?_
          refine r_getf (q := 31) (i := 44) (v := .ref (base + 49)) X fk_X7_22 kh_44 rfl rfl dX7_share_28 rfl ?_
          refine r_aload_n (q := 32) (i := 0) (j := 0) (x := base + 44) X rfl rfl dX7_share_31 rfl ?_
          refine r_getf (q := 35) (i := 44) (v := .ref (base + 51)) X fk_X7_28 kh_44 rfl rfl dX7_share_32 rfl ?_
          refine r_callSv (q := 38) X (c_copy7 K.2.1 G base Mv Lx 49 51 kh_49 kh_51 (by decide)) ks_RX7_142 (by decide) (by decide) ⟨Nat.zero_le _, Nat.zero_le _⟩ rfl (Nat.le_of_ble_eq_true rfl) dX7_share_35 rfl (fun M1 L1 hp => ?_)
          obtain ⟨e2, e3⟩ := hp
          rw [cpk_sr] at e2
          replace e2 := e2.symm
          subst e2
          replace e3 := e3.symm
          subst e3
          refine r_aload_n (q := 39) (i := 0) (j := 0) (x := base + 44) X rfl rfl dX7_share_38 rfl ?_
          refine r_getf (q := 42) (i := 44) (v := .ref (base + 51)) X fk_X7_28 kh_44 rfl rfl dX7_share_39 rfl ?_
          refine r_iconst (q := 43) (v := nI 4) X kc_4 dX7_share_42 rfl ?_
          refine r_dup2 (q := 44) X rfl rfl dX7_share_43 rfl ?_
          refine r_iald (q := 45) (i := 51) (j := 4) (v := (cp12 (Mv 51) (Mv 49)) 4) X kh_51 (by omega) (Nat.le_of_ble_eq_true rfl) (congrFun (sr_s _ _ _) _) dX7_share_44 rfl ?_
          refine r_iload_n (q := 46) (i := 3) (j := 3) (x := nI (s)) X rfl rfl dX7_share_45 rfl ?_
          refine r_iandR (q := 47) (x := nI ((cp12 (Mv 51) (Mv 49)) 4)) (y := nI (s)) (v := nI (((cp12 (Mv 51) (Mv 49)) 4) &&& s)) X (fa_and _ _) dX7_share_46 rfl ?_
          refine r_iast (q := 48) (i := 51) (j := 4) (v := ((cp12 (Mv 51) (Mv 49)) 4) &&& s) X kh_51 (by omega) (Nat.le_of_ble_eq_true rfl) dX7_share_47 rfl ?_
          refine r_mem (sr Mv 51 (up1 (cp12 (Mv 51) (Mv 49)) 4 ((cp12 (Mv 51) (Mv 49)) 4 &&& s))) (by rw [sr_up, sr_s, sr_sr]) ?_
          refine r_aload_n (q := 49) (i := 0) (j := 0) (x := base + 44) X rfl rfl dX7_share_48 rfl ?_
          refine r_iconst (q := 50) (v := nI 3) X kc_3 dX7_share_49 rfl ?_
          refine r_callVv (q := 53) X (c_findBest K.2.1 G base (sr Mv 51 (up1 (cp12 (Mv 51) (Mv 49)) 4 ((cp12 (Mv 51) (Mv 49)) 4 &&& s))) Lx S (up1 x 4 (x 4 &&& s)) 3 100000 (by omega) (by omega) (by rw [(show (sr Mv 51 (up1 (cp12 (Mv 51) (Mv 49)) 4 ((cp12 (Mv 51) (Mv 49)) 4 &&& s))) 44 4 = Mx 44 4 from (congrFun (sr_o (by decide)) 4).trans (hfc 4 (by decide) (by decide)))]; exact ok.2.1) (fun q => by rw [(show (sr Mv 51 (up1 (cp12 (Mv 51) (Mv 49)) 4 ((cp12 (Mv 51) (Mv 49)) 4 &&& s))) 46 = Mx 46 from (sr_o (by decide)).trans (hfv 46 (by decide) (by decide) (by decide) (by decide)))]; exact ok.2.2.2.2.2.2.2.2.2.1 q) (fun q => by rw [(show (sr Mv 51 (up1 (cp12 (Mv 51) (Mv 49)) 4 ((cp12 (Mv 51) (Mv 49)) 4 &&& s))) 47 = Mx 47 from (sr_o (by decide)).trans (hfv 47 (by decide) (by decide) (by decide) (by decide)))]; exact ok.2.2.2.2.2.2.2.2.2.2 q) (by rw [(show (sr Mv 51 (up1 (cp12 (Mv 51) (Mv 49)) 4 ((cp12 (Mv 51) (Mv 49)) 4 &&& s))) 44 4 = Mx 44 4 from (congrFun (sr_o (by decide)) 4).trans (hfc 4 (by decide) (by decide)))]; exact smS_eq (show (sr Mv 51 (up1 (cp12 (Mv 51) (Mv 49)) 4 ((cp12 (Mv 51) (Mv 49)) 4 &&& s))) 46 = Mx 46 from (sr_o (by decide)).trans (hfv 46 (by decide) (by decide) (by decide) (by decide))) (show (sr Mv 51 (up1 (cp12 (Mv 51) (Mv 49)) 4 ((cp12 (Mv 51) (Mv 49)) 4 &&& s))) 47 = Mx 47 from (sr_o (by decide)).trans (hfv 47 (by decide) (by decide) (by decide) (by decide))) hSS) hS (by rw [sr_s, show (cp12 (Mv 51) (Mv 49)) 4 = x 4 from (by show (if 4 < 12 then Mv 49 4 else _) = _; rw [if_pos (by decide), (hfv 49 (by decide) (by decide) (by decide) (by decide))]; exact hsm.1 4 (by decide))]; exact sm_u4 (sm_cpr (by rw [(hfv 49 (by decide) (by decide) (by decide) (by decide))]; exact hsm)) _) (by rw [(show (sr Mv 51 (up1 (cp12 (Mv 51) (Mv 49)) 4 ((cp12 (Mv 51) (Mv 49)) 4 &&& s))) 44 4 = Mx 44 4 from (congrFun (sr_o (by decide)) 4).trans (hfc 4 (by decide) (by decide)))]; exact rok_l hro (Nat.lt_of_le_of_lt Nat.and_le_left hro.2.2.2.2.1)) (by show x 3 + _ < _; omega)) kh_44 rfl ks_RX7_148 (by decide) (by decide) ⟨Nat.zero_le _, Nat.zero_le _⟩ rfl (Nat.le_of_ble_eq_true rfl) dX7_share_50 rfl (fun M1 L1 hp => ?_)
          rw [(show (sr Mv 51 (up1 (cp12 (Mv 51) (Mv 49)) 4 ((cp12 (Mv 51) (Mv 49)) 4 &&& s))) 44 4 = Mx 44 4 from (congrFun (sr_o (by decide)) 4).trans (hfc 4 (by decide) (by decide)))] at hp
          obtain ⟨hq1, hq2, hqa, hqc, e3⟩ := hp
          replace e3 := e3.symm
          subst e3
          refine r_aload_n (q := 54) (i := 0) (j := 0) (x := base + 44) X rfl rfl dX7_share_53 rfl ?_
          refine r_getf (q := 57) (i := 44) (v := .ref (base + 59)) X fk_X7_53 kh_44 rfl rfl dX7_share_54 rfl ?_
          refine r_iload_n (q := 58) (i := 3) (j := 3) (x := nI (s)) X rfl rfl dX7_share_57 rfl ?_
          refine r_aload_n (q := 59) (i := 0) (j := 0) (x := base + 44) X rfl rfl dX7_share_58 rfl ?_
          refine r_getf (q := 62) (i := 44) (v := .int (nI (bst S (Mx 44 4) 3 (up1 x 4 (x 4 &&& s))))) X fk_X7_132 kh_44 rfl (kv hq1) dX7_share_59 rfl ?_
          refine r_iast (q := 63) (i := 59) (j := s) (v := bst S (Mx 44 4) 3 (up1 x 4 (x 4 &&& s))) X kh_59 (by omega) (Nat.le_of_ble_eq_true rfl) dX7_share_62 rfl ?_
          refine r_iinc (q := 66) (i := 3) (x := nI (s)) (v := nI (s + 1)) X rfl (Nat.le_of_ble_eq_true rfl) (kinc 1 rfl) dX7_share_63 rfl ?_
          refine r_goto (tgt := 17) X (by decide) dX7_share_66 ?_
          refine r_pl [(0, .ref (base + 44)), (1, .int (nI (k))), (2, .int (nI (b))), (3, .int (nI (s + 1)))] ⟨rfl, rfl, rfl, rfl, trivial⟩ ?_
          refine ih (s + 1) (up2 M1 59 s (bst S (Mx 44 4) 3 (up1 x 4 (x 4 &&& s)))) (by omega) (by omega) (fun a h1 h2 h3 h4 => ?_) (fun c h1 h2 => ?_) (fun q hq => ?_)
          · funext b2; rw [up2_o h4, hqa a h1 h2, sr_o h3]; exact congrFun (hfv a h1 h2 h3 h4) b2
          · rw [up2_o (by decide), hqc c h1 h2, sr_o (by decide)]; exact hfc c h1 h2
          · by_cases h9 : q = s
            · subst h9; rw [up2_s]; rfl
            · rw [up2_k h9, hqa 59 (by decide) (by decide), sr_o (by decide)]; exact hval q (by omega)
    refine r_pl [(0, .ref (base + 44)), (1, .int (nI (k))), (2, .int (nI (b))), (3, .int (nI (0)))] ⟨rfl, rfl, rfl, rfl, trivial⟩ ?_
    exact lp 66 0 Mx (by omega) (Nat.zero_le _) (fun a _ _ _ _ => rfl) (fun c _ _ => rfl) (fun q hq => absurd hq (Nat.not_lt_zero _))
  · subst e1
    obtain ⟨e2, e3⟩ := hp2
    replace e2 := e2.symm
    subst e2
    replace e3 := e3.symm
    subst e3
    refine r_if_eq (q := 13) (tgt := 15) X (by decide) dX7_share_10 rfl (fun c => absurd c (by decide)) (fun _ => ?_)
    refine r_iconst (q := 14) (v := (-1)) X kc_m1 dX7_share_13 rfl ?_
    refine r_iret X Y ?_ dX7_share_14
    exact Or.inl ⟨rfl, hno, rfl, rfl⟩
