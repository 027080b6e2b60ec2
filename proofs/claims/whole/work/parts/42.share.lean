/-! The class's share -/
/-- the best of three turns with the lamps of those that have come -/
def bam (S : Nat → Nat) (m : Nat) (X : Nat → Nat) (s : Nat) : Nat := bst S m 3 (up1 X 4 (X 4 &&& s))
/-- the sum over the sets below s of those that came before h -/
def sho (S : Nat → Nat) (m h : Nat) (X : Nat → Nat) : Nat → Nat
  | 0 => 0
  | s + 1 => if s >>> h &&& 1 = 0 then sho S m h X s + fct (mnk s 6) * fct (m - mnk s 6 - 1) * (bam S m X (s ||| 1 <<< h) - bam S m X s) else sho S m h X s
theorem sho_y {S : Nat → Nat} {m h s : Nat} {X : Nat → Nat} (e : s >>> h &&& 1 = 0) : sho S m h X (s + 1) = sho S m h X s + fct (mnk s 6) * fct (m - mnk s 6 - 1) * (bam S m X (s ||| 1 <<< h) - bam S m X s) := if_pos e
theorem sho_n {S : Nat → Nat} {m h s : Nat} {X : Nat → Nat} (e : ¬ s >>> h &&& 1 = 0) : sho S m h X (s + 1) = sho S m h X s := if_neg e
theorem fct_b : ∀ n, n ≤ 6 → 0 < fct n ∧ fct n ≤ 720 := by decide +kernel
theorem fct_c : ∀ a, a < 6 → ∀ b, b < 6 → a + b ≤ 5 → fct a * fct b ≤ 120 := by decide +kernel
theorem bam_le {S : Nat → Nat} (hS : ∀ k, S k < 1000) (m : Nat) (X : Nat → Nat) (s : Nat) : bam S m X s ≤ 3000 := bst_le hS m 3 _
theorem sho_le {S : Nat → Nat} {m h : Nat} {X : Nat → Nat} (hS : ∀ k, S k < 1000) (hm : m ≤ 6) (hh : h < m) : ∀ s, s ≤ 1 <<< m → sho S m h X s ≤ s * 360000
  | 0, _ => Nat.zero_le _
  | s + 1, hs => by
    have ih := sho_le (X := X) hS hm hh s (by omega)
    by_cases e : s >>> h &&& 1 = 0
    · rw [sho_y e]
      have h1 := mnk_lt m hm h hh s (by omega) e
      have h2 := fct_c (mnk s 6) (by omega) (m - mnk s 6 - 1) (by omega) (by omega)
      have h3 : bam S m X (s ||| 1 <<< h) - bam S m X s ≤ 3000 := Nat.le_trans (Nat.sub_le _ _) (bam_le hS m X _)
      have h4 := Nat.mul_le_mul h2 h3
      rw [Nat.succ_mul]; exact Nat.add_le_add ih (Nat.le_trans h4 (Nat.le_of_ble_eq_true rfl))
    · rw [sho_n e, Nat.succ_mul]; exact Nat.le_trans ih (Nat.le_add_right _ _)
set_option maxHeartbeats 8000000 in
theorem c6_share (l : Launch) (G : ks_G) (base : Nat) (Mx : ks_M) (Lx : ks_L) (x : Int32) (b : Nat) (hb : b < 2) (ok : okN Mx) (hn : Mx 3 3 ≤ 6) (h0n : Mx 7 0 < Mx 3 3 ∨ Mx 7 0 = 0) (hS : ∀ k, Mx 6 k < 1000) (hJ : Mx 7 3 < 1000000000) : KI l G base 14 yX6_share cX6_share 7 .int [.ref (base + 0), .int (x), .int (nI (b))] SH Mx Lx (fun rr M1 L1 => ((rr = (-1) ∧ ∀ k, k < Mx 3 3 → x ≠ nI k) ∨ (∃ k, k < Mx 3 3 ∧ x = nI k ∧ rr = nI (frc (sho (Mx 6) (Mx 3 3) k (Mx 7) (1 <<< Mx 3 3)) (fct (Mx 3 3)) b))) ∧ (∀ a, (a < 27 ∧ a ≠ 8 ∨ 35 ≤ a) → M1 a = Mx a) ∧ L1 = Lx) := by
  refine k_meti (by decide) (Nat.le_of_ble_eq_true rfl) (fun K hK X Y => ?_)
  subst hK
  refine r_pl [(0, .ref (base + 0)), (1, .int (x)), (2, .int (nI (b)))] ⟨rfl, rfl, rfl, trivial⟩ ?_
  refine r_aload_n (q := 1) (i := 0) (j := 0) (x := base + 0) X rfl rfl dX6_share_0 rfl ?_
  refine r_getf (q := 4) (i := 0) (v := .ref (base + 3)) X fk_X6_19 kh_0 rfl rfl dX6_share_1 rfl ?_
  refine r_iload_n (q := 5) (i := 1) (j := 1) (x := x) X rfl rfl dX6_share_4 rfl ?_
  refine r_callVi (q := 8) X (c_has6 K.2.1 G base Mx Lx x hn) kh_3 rfl ks_RX6_116 (by omega) (by decide) ⟨Nat.zero_le _, Nat.zero_le _⟩ rfl (Nat.le_of_ble_eq_true rfl) dX6_share_5 rfl (fun r M1 L1 hp => ?_)
  rcases hp with ⟨k, e1, hkn, hxe, hp2⟩ | ⟨e1, hno, hp2⟩
  · subst e1
    obtain ⟨e2, e3⟩ := hp2
    replace e2 := e2.symm
    subst e2
    replace e3 := e3.symm
    subst e3
    subst hxe
    refine r_if_ne (q := 11) (tgt := 13) X (by decide) dX6_share_8 rfl (fun _ => ?_) (fun c => absurd c (by decide))
    refine r_iconst (q := 14) (v := nI 0) X kc_0 dX6_share_13 rfl ?_
    refine r_istore_n (q := 15) (i := 3) (j := 3) X rfl (Nat.le_of_ble_eq_true rfl) dX6_share_14 rfl ?_
    refine r_iconst (q := 16) (v := nI 0) X kc_0 dX6_share_15 rfl ?_
    refine r_istore (q := 18) (i := 4) X (Nat.le_of_ble_eq_true rfl) dX6_share_16 rfl ?_
    have lp : ∀ (fuel : Nat) (s : Nat) (Mv : ks_M), 65 - s < fuel → (s ≤ 1 <<< Mx 3 3) → ((∀ a, (a < 27 ∧ a ≠ 8 ∨ 35 ≤ a) → Mv a = Mx a)) → RN K G base 7 0 0 SH Mv Lx 18 [(0, .ref (base + 0)), (1, .int (nI (k))), (2, .int (nI (b))), (3, .int (nI (sho (Mx 6) (Mx 3 3) k (Mx 7) (s)))), (4, .int (nI (s)))] [] := by
      intro fuel
      induction fuel with
      | zero => intro s Mv hfu; exact absurd hfu (Nat.not_lt_zero _)
      | succ fuel ih =>
        intro s Mv hfu hs9 hfv
        have e3 := hfv 3 (Or.inl (by decide))
        have e6 := hfv 6 (Or.inl (by decide))
        have e7 := hfv 7 (Or.inl (by decide))
        have e9 := hfv 9 (Or.inl (by decide))
        have e33 : Mv 3 3 = Mx 3 3 := congrFun e3 3
        have hs64 : s ≤ 64 := Nat.le_trans hs9 (k1s hn)
        refine r_iload (q := 20) (i := 4) (x := nI (s)) X rfl dX6_share_18 rfl ?_
        refine r_iconst (q := 21) (v := nI 1) X kc_1 dX6_share_20 rfl ?_
        refine r_aload_n (q := 22) (i := 0) (j := 0) (x := base + 0) X rfl rfl dX6_share_21 rfl ?_
        refine r_getf (q := 25) (i := 0) (v := .ref (base + 3)) X fk_X6_19 kh_0 rfl rfl dX6_share_22 rfl ?_
        refine r_getf (q := 28) (i := 3) (v := .int (nI (Mx 3 3))) X fk_X6_96 kh_3 rfl (kv e33) dX6_share_25 rfl ?_
        refine r_ishlR (q := 29) (x := nI 1) (y := nI (Mx 3 3)) (v := nI (1 <<< (Mx 3 3))) X (k_shl (by omega)) dX6_share_28 rfl ?_
        have h64 : 1 <<< Mx 3 3 ≤ 64 := k1s hn
        refine r_icmp_ge (q := 32) (tgt := 100) X (by decide) dX6_share_29 rfl (fun c29 => ?_) (fun c29 => ?_)
        · replace c29 : (1 <<< (Mx 3 3)) ≤ s := (nI_leI (by omega) (by omega)).mp c29
          refine r_iload_n (q := 101) (i := 3) (j := 3) (x := nI (sho (Mx 6) (Mx 3 3) k (Mx 7) (s))) X rfl rfl dX6_share_100 rfl ?_
          refine r_aload_n (q := 102) (i := 0) (j := 0) (x := base + 0) X rfl rfl dX6_share_101 rfl ?_
          refine r_getf (q := 105) (i := 0) (v := .ref (base + 3)) X fk_X6_19 kh_0 rfl rfl dX6_share_102 rfl ?_
          refine r_getf (q := 108) (i := 3) (v := .int (nI (Mx 3 3))) X fk_X6_96 kh_3 rfl (kv e33) dX6_share_105 rfl ?_
          refine r_callSi (q := 111) X (c_fct6 K.2.1 G base Mv Lx (Mx 3 3) (by omega)) ks_RX6_179 (by omega) (by decide) ⟨Nat.zero_le _, Nat.zero_le _⟩ rfl (Nat.le_of_ble_eq_true rfl) dX6_share_108 rfl (fun r M1 L1 hp => ?_)
          obtain ⟨e1, e2, e3⟩ := hp
          subst e1
          replace e2 := e2.symm
          subst e2
          replace e3 := e3.symm
          subst e3
          refine r_iload_n (q := 112) (i := 2) (j := 2) (x := nI (b)) X rfl rfl dX6_share_111 rfl ?_
          refine r_callSi (q := 115) X (c_partOf K.2.1 G base Mv Lx (sho (Mx 6) (Mx 3 3) k (Mx 7) (s)) (fct (Mx 3 3)) b (by have := sho_le (X := Mx 7) hS hn hkn s hs9; omega) (by have := (fct_b _ hn).2; omega) (fct_b _ hn).1 hb) ks_RX6_185 (by omega) (by decide) ⟨Nat.zero_le _, Nat.zero_le _⟩ rfl (Nat.le_of_ble_eq_true rfl) dX6_share_112 rfl (fun r M1 L1 hp => ?_)
          obtain ⟨e1, e2, e3⟩ := hp
          subst e1
          replace e2 := e2.symm
          subst e2
          replace e3 := e3.symm
          subst e3
          refine r_iret X Y ?_ dX6_share_115
          have hse : s = 1 <<< Mx 3 3 := by omega
          subst hse
          exact ⟨Or.inr ⟨k, hkn, rfl, rfl⟩, hfv, rfl⟩
        · replace c29 : ¬ (1 <<< (Mx 3 3)) ≤ s := fun h => c29 ((nI_leI (by omega) (by omega)).mpr h)
          refine r_iload (q := 34) (i := 4) (x := nI (s)) X rfl dX6_share_32 rfl ?_
          refine r_iload_n (q := 35) (i := 1) (j := 1) (x := nI (k)) X rfl rfl dX6_share_34 rfl ?_
          refine r_ishrR (q := 36) (x := nI (s)) (y := nI (k)) (v := nI (s >>> k)) X (k_shr (by omega) (by omega)) dX6_share_35 rfl ?_
          refine r_iconst (q := 37) (v := nI 1) X kc_1 dX6_share_36 rfl ?_
          refine r_iandR (q := 38) (x := nI (s >>> k)) (y := nI 1) (v := nI ((s >>> k) &&& 1)) X (fa_and _ _) dX6_share_37 rfl ?_
          have hk1 := k_and1 (s >>> k)
          refine r_if_ne (q := 41) (tgt := 94) X (by decide) dX6_share_38 rfl (fun c38 => ?_) (fun c38 => ?_)
          · replace c38 : ¬ ((s >>> k) &&& 1) = 0 := fun h => c38 ((kI_eq0 (by omega)).mpr h)
            refine r_iinc (q := 97) (i := 4) (x := nI (s)) (v := nI (s + 1)) X rfl (Nat.le_of_ble_eq_true rfl) (kinc 1 rfl) dX6_share_94 rfl ?_
            refine r_goto (tgt := 18) X (by decide) dX6_share_97 ?_
            have eb : sho (Mx 6) (Mx 3 3) k (Mx 7) (s + 1) = sho (Mx 6) (Mx 3 3) k (Mx 7) (s) := sho_n c38
            refine r_pl [(0, .ref (base + 0)), (1, .int (nI (k))), (2, .int (nI (b))), (3, .int (nI (sho (Mx 6) (Mx 3 3) k (Mx 7) (s + 1)))), (4, .int (nI (s + 1)))] ⟨rfl, rfl, rfl, by rw [eb]; rfl, rfl, trivial⟩ ?_
            exact ih (s + 1) Mv (by omega) (by omega) hfv
          · replace c38 : ((s >>> k) &&& 1) = 0 := (kI_eq0 (by omega)).mp c38
            refine r_iload (q := 43) (i := 4) (x := nI (s)) X rfl dX6_share_41 rfl ?_
            have hmk := mnk_lt (Mx 3 3) hn k hkn s (by omega) c38
            refine r_callSi (q := 46) X (c_bits K.2.1 G base Mv Lx s (by omega)) ks_RX6_160 (by omega) (by decide) ⟨Nat.zero_le _, Nat.zero_le _⟩ rfl (Nat.le_of_ble_eq_true rfl) dX6_share_43 rfl (fun r M1 L1 hp => ?_)
            obtain ⟨e1, e2, e3⟩ := hp
            subst e1
            replace e2 := e2.symm
            subst e2
            replace e3 := e3.symm
            subst e3
            refine r_istore (q := 48) (i := 5) X (Nat.le_of_ble_eq_true rfl) dX6_share_46 rfl ?_
            refine r_iload (q := 50) (i := 5) (x := nI (mnk s 6)) X rfl dX6_share_48 rfl ?_
            refine r_callSi (q := 53) X (c_fct6 K.2.1 G base Mv Lx (mnk s 6) (by omega)) ks_RX6_179 (by omega) (by decide) ⟨Nat.zero_le _, Nat.zero_le _⟩ rfl (Nat.le_of_ble_eq_true rfl) dX6_share_50 rfl (fun r M1 L1 hp => ?_)
            obtain ⟨e1, e2, e3⟩ := hp
            subst e1
            replace e2 := e2.symm
            subst e2
            replace e3 := e3.symm
            subst e3
            refine r_aload_n (q := 54) (i := 0) (j := 0) (x := base + 0) X rfl rfl dX6_share_53 rfl ?_
            refine r_getf (q := 57) (i := 0) (v := .ref (base + 3)) X fk_X6_19 kh_0 rfl rfl dX6_share_54 rfl ?_
            refine r_getf (q := 60) (i := 3) (v := .int (nI (Mx 3 3))) X fk_X6_96 kh_3 rfl (kv e33) dX6_share_57 rfl ?_
            refine r_iload (q := 62) (i := 5) (x := nI (mnk s 6)) X rfl dX6_share_60 rfl ?_
            refine r_isubR (q := 63) (x := nI (Mx 3 3)) (y := nI (mnk s 6)) (v := nI ((Mx 3 3) - (mnk s 6))) X (pk_sub (by omega)) dX6_share_62 rfl ?_
            refine r_iconst (q := 64) (v := nI 1) X kc_1 dX6_share_63 rfl ?_
            refine r_isubR (q := 65) (x := nI ((Mx 3 3) - (mnk s 6))) (y := nI 1) (v := nI (((Mx 3 3) - (mnk s 6)) - 1)) X (pk_sub (by omega)) dX6_share_64 rfl ?_
            refine r_callSi (q := 68) X (c_fct6 K.2.1 G base Mv Lx (Mx 3 3 - mnk s 6 - 1) (by omega)) ks_RX6_179 (by omega) (by decide) ⟨Nat.zero_le _, Nat.zero_le _⟩ rfl (Nat.le_of_ble_eq_true rfl) dX6_share_65 rfl (fun r M1 L1 hp => ?_)
            obtain ⟨e1, e2, e3⟩ := hp
            subst e1
            replace e2 := e2.symm
            subst e2
            replace e3 := e3.symm
            subst e3
            refine r_imulR (q := 69) (x := nI (fct (mnk s 6))) (y := nI (fct (Mx 3 3 - mnk s 6 - 1))) (v := nI ((fct (mnk s 6)) * (fct (Mx 3 3 - mnk s 6 - 1)))) X (pk_mul _ _) dX6_share_68 rfl ?_
            refine r_istore (q := 71) (i := 6) X (Nat.le_of_ble_eq_true rfl) dX6_share_69 rfl ?_
            refine r_iload_n (q := 72) (i := 3) (j := 3) (x := nI (sho (Mx 6) (Mx 3 3) k (Mx 7) (s))) X rfl rfl dX6_share_71 rfl ?_
            refine r_iload (q := 74) (i := 6) (x := nI ((fct (mnk s 6)) * (fct (Mx 3 3 - mnk s 6 - 1)))) X rfl dX6_share_72 rfl ?_
            refine r_aload_n (q := 75) (i := 0) (j := 0) (x := base + 0) X rfl rfl dX6_share_74 rfl ?_
            refine r_iload (q := 77) (i := 4) (x := nI (s)) X rfl dX6_share_75 rfl ?_
            refine r_iconst (q := 78) (v := nI 1) X kc_1 dX6_share_77 rfl ?_
            refine r_iload_n (q := 79) (i := 1) (j := 1) (x := nI (k)) X rfl rfl dX6_share_78 rfl ?_
            refine r_ishlR (q := 80) (x := nI 1) (y := nI (k)) (v := nI (1 <<< k)) X (k_shl (by omega)) dX6_share_79 rfl ?_
            refine r_iorR (q := 81) (x := nI (s)) (y := nI (1 <<< k)) (v := nI (s ||| (1 <<< k))) X (fa_or _ _) dX6_share_80 rfl ?_
            refine r_callVi (q := 84) X (c_bestAmong K.2.1 G base Mv Lx (s ||| 1 <<< k) (come_lt k (by omega) s (by omega)) (by unfold okN; rw [e3, e7, e9]; exact ok) (by rw [e3]; exact hn) (by rw [e3, e7]; exact h0n) (fun q => by rw [e6]; exact hS q) (by rw [e7]; exact hJ)) kh_0 rfl ks_RX6_182 (by omega) (by decide) ⟨Nat.zero_le _, Nat.zero_le _⟩ rfl (Nat.le_of_ble_eq_true rfl) dX6_share_81 rfl (fun r M1 L1 hp => ?_)
            rw [e3, e6, e7] at hp
            obtain ⟨e1, hfr, e4⟩ := hp
            subst e1
            replace e4 := e4.symm
            subst e4
            have hbe := bam_le hS (Mx 3 3) (Mx 7) (s ||| 1 <<< k)
            obtain ⟨Ma, hMa⟩ : ∃ m, m = M1 := ⟨_, rfl⟩
            subst hMa
            have hfe : ∀ a, (a < 27 ∧ a ≠ 8 ∨ 35 ≤ a) → Ma a = Mx a := fun a ha => (hfr a ha).trans (hfv a ha)
            have g3 := hfe 3 (Or.inl (by decide))
            have g6 := hfe 6 (Or.inl (by decide))
            have g7 := hfe 7 (Or.inl (by decide))
            have g9 := hfe 9 (Or.inl (by decide))
            refine r_aload_n (q := 85) (i := 0) (j := 0) (x := base + 0) X rfl rfl dX6_share_84 rfl ?_
            refine r_iload (q := 87) (i := 4) (x := nI (s)) X rfl dX6_share_85 rfl ?_
            refine r_callVi (q := 90) X (c_bestAmong K.2.1 G base Ma Lx (s) (by omega) (by unfold okN; rw [g3, g7, g9]; exact ok) (by rw [g3]; exact hn) (by rw [g3, g7]; exact h0n) (fun q => by rw [g6]; exact hS q) (by rw [g7]; exact hJ)) kh_0 rfl ks_RX6_182 (by omega) (by decide) ⟨Nat.zero_le _, Nat.zero_le _⟩ rfl (Nat.le_of_ble_eq_true rfl) dX6_share_87 rfl (fun r M1 L1 hp => ?_)
            rw [g3, g6, g7] at hp
            obtain ⟨e1, hfr, e4⟩ := hp
            subst e1
            replace e4 := e4.symm
            subst e4
            have hbg := bam_le hS (Mx 3 3) (Mx 7) (s)
            obtain ⟨Ma, hMa⟩ : ∃ m, m = M1 := ⟨_, rfl⟩
            subst hMa
            have hfg : ∀ a, (a < 27 ∧ a ≠ 8 ∨ 35 ≤ a) → Ma a = Mx a := fun a ha => (hfr a ha).trans (hfe a ha)
            refine r_isubR (q := 91) (x := nI (bam (Mx 6) (Mx 3 3) (Mx 7) (s ||| 1 <<< k))) (y := nI (bam (Mx 6) (Mx 3 3) (Mx 7) (s))) (v := nI ((bam (Mx 6) (Mx 3 3) (Mx 7) (s ||| 1 <<< k)) - (bam (Mx 6) (Mx 3 3) (Mx 7) (s)))) X (pk_sub (bst_come _ _ _ _ _ _)) dX6_share_90 rfl ?_
            refine r_imulR (q := 92) (x := nI ((fct (mnk s 6)) * (fct (Mx 3 3 - mnk s 6 - 1)))) (y := nI ((bam (Mx 6) (Mx 3 3) (Mx 7) (s ||| 1 <<< k)) - (bam (Mx 6) (Mx 3 3) (Mx 7) (s)))) (v := nI (((fct (mnk s 6)) * (fct (Mx 3 3 - mnk s 6 - 1))) * ((bam (Mx 6) (Mx 3 3) (Mx 7) (s ||| 1 <<< k)) - (bam (Mx 6) (Mx 3 3) (Mx 7) (s))))) X (pk_mul _ _) dX6_share_91 rfl ?_
            refine r_iaddR (q := 93) (x := nI (sho (Mx 6) (Mx 3 3) k (Mx 7) (s))) (y := nI (((fct (mnk s 6)) * (fct (Mx 3 3 - mnk s 6 - 1))) * ((bam (Mx 6) (Mx 3 3) (Mx 7) (s ||| 1 <<< k)) - (bam (Mx 6) (Mx 3 3) (Mx 7) (s))))) (v := nI ((sho (Mx 6) (Mx 3 3) k (Mx 7) (s)) + (((fct (mnk s 6)) * (fct (Mx 3 3 - mnk s 6 - 1))) * ((bam (Mx 6) (Mx 3 3) (Mx 7) (s ||| 1 <<< k)) - (bam (Mx 6) (Mx 3 3) (Mx 7) (s)))))) X (nI_add _ _) dX6_share_92 rfl ?_
            refine r_istore_n (q := 94) (i := 3) (j := 3) X rfl (Nat.le_of_ble_eq_true rfl) dX6_share_93 rfl ?_
            refine r_iinc (q := 97) (i := 4) (x := nI (s)) (v := nI (s + 1)) X rfl (Nat.le_of_ble_eq_true rfl) (kinc 1 rfl) dX6_share_94 rfl ?_
            refine r_goto (tgt := 18) X (by decide) dX6_share_97 ?_
            have eb : sho (Mx 6) (Mx 3 3) k (Mx 7) (s + 1) = (sho (Mx 6) (Mx 3 3) k (Mx 7) (s)) + (((fct (mnk s 6)) * (fct (Mx 3 3 - mnk s 6 - 1))) * ((bam (Mx 6) (Mx 3 3) (Mx 7) (s ||| 1 <<< k)) - (bam (Mx 6) (Mx 3 3) (Mx 7) (s)))) := sho_y c38
            refine r_pl [(0, .ref (base + 0)), (1, .int (nI (k))), (2, .int (nI (b))), (3, .int (nI (sho (Mx 6) (Mx 3 3) k (Mx 7) (s + 1)))), (4, .int (nI (s + 1)))] ⟨rfl, rfl, rfl, by rw [eb]; rfl, rfl, trivial⟩ ?_
            exact ih (s + 1) Ma (by omega) (by omega) hfg
    refine r_pl [(0, .ref (base + 0)), (1, .int (nI (k))), (2, .int (nI (b))), (3, .int (nI (sho (Mx 6) (Mx 3 3) k (Mx 7) (0)))), (4, .int (nI (0)))] ⟨rfl, rfl, rfl, rfl, rfl, trivial⟩ ?_
    exact lp 66 0 Mx (by omega) (Nat.zero_le _) (fun a _ => rfl)
  · subst e1
    obtain ⟨e2, e3⟩ := hp2
    replace e2 := e2.symm
    subst e2
    replace e3 := e3.symm
    subst e3
    refine r_if_ne (q := 11) (tgt := 13) X (by decide) dX6_share_8 rfl (fun c => absurd c (by decide)) (fun _ => ?_)
    refine r_iconst (q := 12) (v := (-1)) X kc_m1 dX6_share_11 rfl ?_
    refine r_iret X Y ?_ dX6_share_12
    exact ⟨Or.inl ⟨rfl, hno⟩, fun a _ => rfl, rfl⟩
