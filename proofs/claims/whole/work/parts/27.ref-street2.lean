/-! THE STREET MADE by the reference -/
def stI (Mr Mv : ks_M) (n a b : Nat) : Prop := (∀ r, r ≠ 44 → r ≠ 46 → r ≠ 47 → Mv r = Mr r) ∧ (∀ c, c ≠ 4 → Mv 44 c = Mr 44 c) ∧ Mv 44 4 = n ∧ (∀ q, q < a → Mv 46 q = Mr 48 (4 * q)) ∧ (∀ q, a ≤ q → Mv 46 q = Mr 46 q) ∧ (∀ q, q < b → Mv 47 q = Mr 48 (4 * (q / 3) + 1 + q % 3)) ∧ (∀ q, b ≤ q → Mv 47 q = Mr 47 q)
theorem stI_a {Mr Mv : ks_M} {n a b : Nat} (h : stI Mr Mv n a b) : stI Mr (up2 Mv 46 a (Mr 48 (4 * a))) n (a + 1) b := by
  obtain ⟨h1, h2, h3, h4, h5, h6, h7⟩ := h
  refine ⟨fun r e1 e2 e3 => by funext k; rw [up2_o e2, h1 r e1 e2 e3], fun c e => by rw [up2_o (by decide)]; exact h2 c e, by rw [up2_o (by decide)]; exact h3, fun q hq => ?_, fun q hq => by rw [up2_k (by omega)]; exact h5 q (by omega), fun q hq => by rw [up2_o (by decide)]; exact h6 q hq, fun q hq => by rw [up2_o (by decide)]; exact h7 q hq⟩
  by_cases e : q = a
  · subst e; rw [up2_s]
  · rw [up2_k e]; exact h4 q (by omega)
theorem stI_b {Mr Mv : ks_M} {n a b v : Nat} (h : stI Mr Mv n a b) (hv : v = Mr 48 (4 * (b / 3) + 1 + b % 3)) : stI Mr (up2 Mv 47 b v) n a (b + 1) := by
  obtain ⟨h1, h2, h3, h4, h5, h6, h7⟩ := h
  refine ⟨fun r e1 e2 e3 => by funext k; rw [up2_o e3, h1 r e1 e2 e3], fun c e => by rw [up2_o (by decide)]; exact h2 c e, by rw [up2_o (by decide)]; exact h3, fun q hq => by rw [up2_o (by decide)]; exact h4 q hq, fun q hq => by rw [up2_o (by decide)]; exact h5 q hq, fun q hq => ?_, fun q hq => by rw [up2_k (by omega)]; exact h7 q (by omega)⟩
  by_cases e : q = b
  · subst e; rw [up2_s, hv]
  · rw [up2_k e]; exact h6 q (by omega)
def zr (M : ks_M) (k : Nat) : ks_M := sr M 49 (fun c => if c < k then 0 else M 49 c)
theorem zr_0 (M : ks_M) : M = zr M 0 := by funext a c; by_cases h : a = 49 <;> simp [zr, sr, h]
theorem zr_s (M : ks_M) (k : Nat) : up2 (zr M k) 49 k 0 = zr M (k + 1) := by
  funext a c
  by_cases h : a = 49
  · by_cases h2 : c = k
    · simp [up2, zr, sr, h, h2]
    · by_cases h3 : c < k
      · simp [up2, zr, sr, h, h2, h3, Nat.lt_succ_of_lt h3]
      · simp [up2, zr, sr, h, h2, h3, show ¬ c < k + 1 by omega]
  · simp [up2, zr, sr, h]
theorem zr_o {M : ks_M} {k a : Nat} (h : a ≠ 49) : zr M k a = M a := sr_o h
def bg7 (M : ks_M) : ks_M := up2 (up2 (up2 (up2 (up2 (zr M 12) 49 1 (M 44 7)) 49 4 (1 <<< M 44 4 - 1)) 44 14 0) 54 0 0) 54 1 0
set_option maxHeartbeats 8000000 in
theorem c7_street (l : Launch) (G : ks_G) (base : Nat) (Mx : ks_M) (Lx : ks_L) (hth : Mx 44 0 = 0) (hlen : Mx 44 2 ≤ 48) (hby : ∀ k, k < Mx 44 2 → Mx 45 k < 256) : KI l G base 4 yX7_street cX7_street 3 .int [.ref (base + 44)] SH Mx Lx (fun rr M1 L1 => ((rr = (-3) ∧ ¬ okT (Mx 45) (Mx 44 2) ∧ rsF Mx M1) ∨ (okT (Mx 45) (Mx 44 2) ∧ rr = nI ((Mx 44 2 - 2) / 5) ∧ ∃ Mr Mv, rsI Mx Mr ((Mx 44 2 - 2) / 5) ∧ stI Mr Mv ((Mx 44 2 - 2) / 5) ((Mx 44 2 - 2) / 5) (3 * ((Mx 44 2 - 2) / 5)) ∧ M1 = bg7 Mv)) ∧ L1 = Lx) := by
  refine k_meti (by decide) (Nat.le_of_ble_eq_true rfl) (fun K hK X Y => ?_)
  subst hK
  refine r_pl [(0, .ref (base + 44))] ⟨rfl, trivial⟩ ?_
  refine r_aload_n (q := 1) (i := 0) (j := 0) (x := base + 44) X rfl rfl dX7_street_0 rfl ?_
  refine r_iconst (q := 2) (v := nI 0) X kc_0 dX7_street_1 rfl ?_
  refine r_puti (q := 5) (i := 44) (n := 0) X fk_X7_59 kp_X7_0 kh_44 rfl dX7_street_2 rfl ?_
  refine r_mem Mx (up2_id hth) ?_
  refine r_aload_n (q := 6) (i := 0) (j := 0) (x := base + 44) X rfl rfl dX7_street_5 rfl ?_
  refine r_callVi (q := 9) X (c7_readStreet K.2.1 G base Mx Lx hlen hby) kh_44 rfl ks_RX7_91 (by decide) (by decide) ⟨Nat.zero_le _, Nat.zero_le _⟩ rfl (Nat.le_of_ble_eq_true rfl) dX7_street_6 rfl (fun r M1 L1 hp => ?_)
  rcases hp with ⟨v, e1, hv, hbad, hF, e3⟩ | ⟨e1, hok, hlq, hR, e3⟩
  · subst e1
    replace e3 := e3.symm
    subst e3
    refine r_bipush (q := 11) (v := (-9)) X kb_m9 dX7_street_9 rfl ?_
    refine r_icmp_eq (q := 14) (tgt := 17) X (by decide) dX7_street_11 rfl (fun c11 => ?_) (fun c11 => ?_)
    · skip
      exact absurd c11 (k_ne9 (by omega))
    · skip
      refine r_bipush (q := 16) (v := (-3)) X kb_m3 dX7_street_14 rfl ?_
      refine r_iret X Y ?_ dX7_street_16
      refine ⟨Or.inl ⟨rfl, fun h => ?_, hF⟩, rfl⟩
      rcases hbad with ⟨hb1, hb2⟩
      rcases hb2 with ⟨hb3, hb4⟩ | ⟨hb3, hb4⟩
      · exact hb4 (h.1 v hb3)
      · exact hb4 h
  · subst e1
    replace e3 := e3.symm
    subst e3
    refine r_bipush (q := 11) (v := (-9)) X kb_m9 dX7_street_9 rfl ?_
    refine r_icmp_eq (q := 14) (tgt := 17) X (by decide) dX7_street_11 rfl (fun c11 => ?_) (fun c11 => ?_)
    · skip
      refine r_aload_n (q := 18) (i := 0) (j := 0) (x := base + 44) X rfl rfl dX7_street_17 rfl ?_
      refine r_aload_n (q := 19) (i := 0) (j := 0) (x := base + 44) X rfl rfl dX7_street_18 rfl ?_
      refine r_getf (q := 22) (i := 44) (v := .int (nI (((Mx 44 2 - 2) / 5)))) X fk_X7_82 kh_44 rfl (kv hR.2.2.1) dX7_street_19 rfl ?_
      refine r_puti (q := 25) (i := 44) (n := ((Mx 44 2 - 2) / 5)) X fk_X7_63 kp_X7_4 kh_44 rfl dX7_street_22 rfl ?_
      refine r_iconst (q := 26) (v := nI 0) X kc_0 dX7_street_25 rfl ?_
      refine r_istore_n (q := 27) (i := 1) (j := 1) X rfl (Nat.le_of_ble_eq_true rfl) dX7_street_26 rfl ?_
      have hn6 := okT_n hok
      have lp : ∀ (fuel : Nat) (h : Nat) (Mv : ks_M), ((Mx 44 2 - 2) / 5) - h < fuel → (h ≤ ((Mx 44 2 - 2) / 5)) → (stI M1 Mv ((Mx 44 2 - 2) / 5) h (3 * h)) → RN K G base 3 0 0 SH Mv Lx 27 [(0, .ref (base + 44)), (1, .int (nI (h)))] [] := by
        intro fuel
        induction fuel with
        | zero => intro h Mv hfu; exact absurd hfu (Nat.not_lt_zero _)
        | succ fuel ih =>
          intro h Mv hfu hh hI
          refine r_iload_n (q := 28) (i := 1) (j := 1) (x := nI (h)) X rfl rfl dX7_street_27 rfl ?_
          refine r_aload_n (q := 29) (i := 0) (j := 0) (x := base + 44) X rfl rfl dX7_street_28 rfl ?_
          refine r_getf (q := 32) (i := 44) (v := .int (nI (((Mx 44 2 - 2) / 5)))) X fk_X7_63 kh_44 rfl (kv hI.2.2.1) dX7_street_29 rfl ?_
          refine r_icmp_ge (q := 35) (tgt := 90) X (by decide) dX7_street_32 rfl (fun c32 => ?_) (fun c32 => ?_)
          · replace c32 : (((Mx 44 2 - 2) / 5)) ≤ h := (nI_leI (by omega) (by omega)).mp c32
            refine r_iconst (q := 91) (v := nI 0) X kc_0 dX7_street_90 rfl ?_
            refine r_istore_n (q := 92) (i := 1) (j := 1) X rfl (Nat.le_of_ble_eq_true rfl) dX7_street_91 rfl ?_
            obtain rfl : h = ((Mx 44 2 - 2) / 5) := by omega
            have lz : ∀ (fuel3 : Nat) (k : Nat), 12 - k < fuel3 → (k ≤ 12) → RN K G base 3 0 0 SH ((zr Mv k)) Lx 92 [(0, .ref (base + 44)), (1, .int (nI (k)))] [] := by
              intro fuel3
              induction fuel3 with
              | zero => intro k hfu3; exact absurd hfu3 (Nat.not_lt_zero _)
              | succ fuel3 ih3 =>
                intro k hfu3 hk
                refine r_iload_n (q := 93) (i := 1) (j := 1) (x := nI (k)) X rfl rfl dX7_street_92 rfl ?_
                refine r_bipush (q := 95) (v := nI 12) X kb_12 dX7_street_93 rfl ?_
                refine r_icmp_ge (q := 98) (tgt := 111) X (by decide) dX7_street_95 rfl (fun c95 => ?_) (fun c95 => ?_)
                · replace c95 : 12 ≤ k := (nI_leI (by omega) (by omega)).mp c95
                  refine r_aload_n (q := 112) (i := 0) (j := 0) (x := base + 44) X rfl rfl dX7_street_111 rfl ?_
                  refine r_getf (q := 115) (i := 44) (v := .ref (base + 49)) X fk_X7_22 kh_44 rfl rfl dX7_street_112 rfl ?_
                  refine r_iconst (q := 116) (v := nI 1) X kc_1 dX7_street_115 rfl ?_
                  refine r_aload_n (q := 117) (i := 0) (j := 0) (x := base + 44) X rfl rfl dX7_street_116 rfl ?_
                  refine r_getf (q := 120) (i := 44) (v := .int (nI (Mv 44 7))) X fk_X7_85 kh_44 rfl (kv (congrFun (zr_o (by decide)) _)) dX7_street_117 rfl ?_
                  refine r_iast (q := 121) (i := 49) (j := 1) (v := Mv 44 7) X kh_49 (by omega) (Nat.le_of_ble_eq_true rfl) dX7_street_120 rfl ?_
                  refine r_aload_n (q := 122) (i := 0) (j := 0) (x := base + 44) X rfl rfl dX7_street_121 rfl ?_
                  refine r_getf (q := 125) (i := 44) (v := .ref (base + 49)) X fk_X7_22 kh_44 rfl rfl dX7_street_122 rfl ?_
                  refine r_iconst (q := 126) (v := nI 4) X kc_4 dX7_street_125 rfl ?_
                  refine r_iconst (q := 127) (v := nI 1) X kc_1 dX7_street_126 rfl ?_
                  refine r_aload_n (q := 128) (i := 0) (j := 0) (x := base + 44) X rfl rfl dX7_street_127 rfl ?_
                  refine r_getf (q := 131) (i := 44) (v := .int (nI (Mv 44 4))) X fk_X7_63 kh_44 rfl (kv (by rw [up2_o (by decide)]; exact congrFun (zr_o (by decide)) _)) dX7_street_128 rfl ?_
                  have hn4 : Mv 44 4 ≤ 6 := by rw [hI.2.2.1]; exact hn6
                  refine r_ishlR (q := 132) (x := nI 1) (y := nI (Mv 44 4)) (v := nI (1 <<< (Mv 44 4))) X (k_shl (by omega)) dX7_street_131 rfl ?_
                  refine r_iconst (q := 133) (v := nI 1) X kc_1 dX7_street_132 rfl ?_
                  refine r_isubR (q := 134) (x := nI (1 <<< (Mv 44 4))) (y := nI 1) (v := nI ((1 <<< (Mv 44 4)) - 1)) X (pk_sub (kone_shl _)) dX7_street_133 rfl ?_
                  refine r_iast (q := 135) (i := 49) (j := 4) (v := (1 <<< (Mv 44 4)) - 1) X kh_49 (by omega) (Nat.le_of_ble_eq_true rfl) dX7_street_134 rfl ?_
                  refine r_aload_n (q := 136) (i := 0) (j := 0) (x := base + 44) X rfl rfl dX7_street_135 rfl ?_
                  refine r_iconst (q := 137) (v := nI 0) X kc_0 dX7_street_136 rfl ?_
                  refine r_puti (q := 140) (i := 44) (n := 0) X fk_X7_95 kp_X7_14 kh_44 rfl dX7_street_137 rfl ?_
                  refine r_aload_n (q := 141) (i := 0) (j := 0) (x := base + 44) X rfl rfl dX7_street_140 rfl ?_
                  refine r_getf (q := 144) (i := 44) (v := .ref (base + 54)) X fk_X7_37 kh_44 rfl rfl dX7_street_141 rfl ?_
                  refine r_iconst (q := 145) (v := nI 0) X kc_0 dX7_street_144 rfl ?_
                  refine r_iconst (q := 146) (v := nI 0) X kc_0 dX7_street_145 rfl ?_
                  refine r_bast (q := 147) (i := 54) (j := 0) (v := 0) X kh_54 (by omega) (Nat.le_of_ble_eq_true rfl) (by decide) dX7_street_146 rfl ?_
                  refine r_aload_n (q := 148) (i := 0) (j := 0) (x := base + 44) X rfl rfl dX7_street_147 rfl ?_
                  refine r_getf (q := 151) (i := 44) (v := .ref (base + 54)) X fk_X7_37 kh_44 rfl rfl dX7_street_148 rfl ?_
                  refine r_iconst (q := 152) (v := nI 1) X kc_1 dX7_street_151 rfl ?_
                  refine r_iconst (q := 153) (v := nI 0) X kc_0 dX7_street_152 rfl ?_
                  refine r_bast (q := 154) (i := 54) (j := 1) (v := 0) X kh_54 (by omega) (Nat.le_of_ble_eq_true rfl) (by decide) dX7_street_153 rfl ?_
                  refine r_aload_n (q := 155) (i := 0) (j := 0) (x := base + 44) X rfl rfl dX7_street_154 rfl ?_
                  refine r_getf (q := 158) (i := 44) (v := .int (nI (((Mx 44 2 - 2) / 5)))) X fk_X7_63 kh_44 rfl (kv (by simp [up2]; rw [zr_o (by decide)]; exact hI.2.2.1)) dX7_street_155 rfl ?_
                  refine r_iret X Y ?_ dX7_street_158
                  obtain rfl : k = 12 := by omega
                  exact ⟨Or.inr ⟨hok, rfl, _, _, hR, hI, rfl⟩, rfl⟩
                · replace c95 : ¬ 12 ≤ k := fun h => c95 ((nI_leI (by omega) (by omega)).mpr h)
                  refine r_aload_n (q := 99) (i := 0) (j := 0) (x := base + 44) X rfl rfl dX7_street_98 rfl ?_
                  refine r_getf (q := 102) (i := 44) (v := .ref (base + 49)) X fk_X7_22 kh_44 rfl rfl dX7_street_99 rfl ?_
                  refine r_iload_n (q := 103) (i := 1) (j := 1) (x := nI (k)) X rfl rfl dX7_street_102 rfl ?_
                  refine r_iconst (q := 104) (v := nI 0) X kc_0 dX7_street_103 rfl ?_
                  refine r_iast (q := 105) (i := 49) (j := k) (v := 0) X kh_49 (by omega) (Nat.le_of_ble_eq_true rfl) dX7_street_104 rfl ?_
                  refine r_iinc (q := 108) (i := 1) (x := nI (k)) (v := nI (k + 1)) X rfl (Nat.le_of_ble_eq_true rfl) (kinc 1 rfl) dX7_street_105 rfl ?_
                  refine r_goto (tgt := 92) X (by decide) dX7_street_108 ?_
                  refine r_pl [(0, .ref (base + 44)), (1, .int (nI (k + 1)))] ⟨rfl, rfl, trivial⟩ ?_
                  exact r_mem _ (zr_s Mv k) (ih3 (k + 1) (by omega) (by omega))
            refine r_pl [(0, .ref (base + 44)), (1, .int (nI (0)))] ⟨rfl, rfl, trivial⟩ ?_
            exact r_mem _ (zr_0 Mv) (lz 13 0 (by omega) (by omega))
          · replace c32 : ¬ (((Mx 44 2 - 2) / 5)) ≤ h := fun h => c32 ((nI_leI (by omega) (by omega)).mpr h)
            refine r_aload_n (q := 36) (i := 0) (j := 0) (x := base + 44) X rfl rfl dX7_street_35 rfl ?_
            refine r_getf (q := 39) (i := 44) (v := .ref (base + 46)) X fk_X7_13 kh_44 rfl rfl dX7_street_36 rfl ?_
            refine r_iload_n (q := 40) (i := 1) (j := 1) (x := nI (h)) X rfl rfl dX7_street_39 rfl ?_
            refine r_aload_n (q := 41) (i := 0) (j := 0) (x := base + 44) X rfl rfl dX7_street_40 rfl ?_
            refine r_getf (q := 44) (i := 44) (v := .ref (base + 48)) X fk_X7_19 kh_44 rfl rfl dX7_street_41 rfl ?_
            refine r_iconst (q := 45) (v := nI 4) X kc_4 dX7_street_44 rfl ?_
            refine r_iload_n (q := 46) (i := 1) (j := 1) (x := nI (h)) X rfl rfl dX7_street_45 rfl ?_
            refine r_imulR (q := 47) (x := nI 4) (y := nI (h)) (v := nI (4 * h)) X (pk_mul _ _) dX7_street_46 rfl ?_
            refine r_iald (q := 48) (i := 48) (j := 4 * h) (v := M1 48 (4 * h)) X kh_48 (by omega) (Nat.le_of_ble_eq_true rfl) (congrFun (hI.1 48 (by decide) (by decide) (by decide)) _) dX7_street_47 rfl ?_
            refine r_iast (q := 49) (i := 46) (j := h) (v := M1 48 (4 * h)) X kh_46 (by omega) (Nat.le_of_ble_eq_true rfl) dX7_street_48 rfl ?_
            refine r_iconst (q := 50) (v := nI 0) X kc_0 dX7_street_49 rfl ?_
            refine r_istore_n (q := 51) (i := 2) (j := 2) X rfl (Nat.le_of_ble_eq_true rfl) dX7_street_50 rfl ?_
            have li : ∀ (fuel2 : Nat) (i : Nat) (Mv : ks_M), 3 - i < fuel2 → (i ≤ 3) → (stI M1 Mv ((Mx 44 2 - 2) / 5) (h + 1) (3 * h + i)) → RN K G base 3 0 0 SH Mv Lx 51 [(0, .ref (base + 44)), (1, .int (nI (h))), (2, .int (nI (i)))] [] := by
              intro fuel2
              induction fuel2 with
              | zero => intro i Mv hfu2; exact absurd hfu2 (Nat.not_lt_zero _)
              | succ fuel2 ih2 =>
                intro i Mv hfu2 hi hI
                refine r_iload_n (q := 52) (i := 2) (j := 2) (x := nI (i)) X rfl rfl dX7_street_51 rfl ?_
                refine r_iconst (q := 53) (v := nI 3) X kc_3 dX7_street_52 rfl ?_
                refine r_icmp_ge (q := 56) (tgt := 84) X (by decide) dX7_street_53 rfl (fun c53 => ?_) (fun c53 => ?_)
                · replace c53 : 3 ≤ i := (nI_leI (by omega) (by omega)).mp c53
                  refine r_iinc (q := 87) (i := 1) (x := nI (h)) (v := nI (h + 1)) X rfl (Nat.le_of_ble_eq_true rfl) (kinc 1 rfl) dX7_street_84 rfl ?_
                  refine r_goto (tgt := 27) X (by decide) dX7_street_87 ?_
                  refine r_pl [(0, .ref (base + 44)), (1, .int (nI (h + 1)))] ⟨rfl, rfl, trivial⟩ ?_
                  obtain rfl : i = 3 := by omega
                  exact ih (h + 1) Mv (by omega) (by omega) (by rw [show 3 * (h + 1) = 3 * h + 3 by omega]; exact hI)
                · replace c53 : ¬ 3 ≤ i := fun h => c53 ((nI_leI (by omega) (by omega)).mpr h)
                  refine r_aload_n (q := 57) (i := 0) (j := 0) (x := base + 44) X rfl rfl dX7_street_56 rfl ?_
                  refine r_getf (q := 60) (i := 44) (v := .ref (base + 47)) X fk_X7_16 kh_44 rfl rfl dX7_street_57 rfl ?_
                  refine r_iconst (q := 61) (v := nI 3) X kc_3 dX7_street_60 rfl ?_
                  refine r_iload_n (q := 62) (i := 1) (j := 1) (x := nI (h)) X rfl rfl dX7_street_61 rfl ?_
                  refine r_imulR (q := 63) (x := nI 3) (y := nI (h)) (v := nI (3 * h)) X (pk_mul _ _) dX7_street_62 rfl ?_
                  refine r_iload_n (q := 64) (i := 2) (j := 2) (x := nI (i)) X rfl rfl dX7_street_63 rfl ?_
                  refine r_iaddR (q := 65) (x := nI (3 * h)) (y := nI (i)) (v := nI ((3 * h) + i)) X (nI_add _ _) dX7_street_64 rfl ?_
                  refine r_aload_n (q := 66) (i := 0) (j := 0) (x := base + 44) X rfl rfl dX7_street_65 rfl ?_
                  refine r_getf (q := 69) (i := 44) (v := .ref (base + 48)) X fk_X7_19 kh_44 rfl rfl dX7_street_66 rfl ?_
                  refine r_iconst (q := 70) (v := nI 4) X kc_4 dX7_street_69 rfl ?_
                  refine r_iload_n (q := 71) (i := 1) (j := 1) (x := nI (h)) X rfl rfl dX7_street_70 rfl ?_
                  refine r_imulR (q := 72) (x := nI 4) (y := nI (h)) (v := nI (4 * h)) X (pk_mul _ _) dX7_street_71 rfl ?_
                  refine r_iconst (q := 73) (v := nI 1) X kc_1 dX7_street_72 rfl ?_
                  refine r_iaddR (q := 74) (x := nI (4 * h)) (y := nI 1) (v := nI ((4 * h) + 1)) X (nI_add _ _) dX7_street_73 rfl ?_
                  refine r_iload_n (q := 75) (i := 2) (j := 2) (x := nI (i)) X rfl rfl dX7_street_74 rfl ?_
                  refine r_iaddR (q := 76) (x := nI ((4 * h) + 1)) (y := nI (i)) (v := nI (((4 * h) + 1) + i)) X (nI_add _ _) dX7_street_75 rfl ?_
                  refine r_iald (q := 77) (i := 48) (j := ((4 * h) + 1) + i) (v := M1 48 (((4 * h) + 1) + i)) X kh_48 (by omega) (Nat.le_of_ble_eq_true rfl) (congrFun (hI.1 48 (by decide) (by decide) (by decide)) _) dX7_street_76 rfl ?_
                  refine r_iast (q := 78) (i := 47) (j := (3 * h) + i) (v := M1 48 (((4 * h) + 1) + i)) X kh_47 (by omega) (Nat.le_of_ble_eq_true rfl) dX7_street_77 rfl ?_
                  refine r_iinc (q := 81) (i := 2) (x := nI (i)) (v := nI (i + 1)) X rfl (Nat.le_of_ble_eq_true rfl) (kinc 1 rfl) dX7_street_78 rfl ?_
                  refine r_goto (tgt := 51) X (by decide) dX7_street_81 ?_
                  refine r_pl [(0, .ref (base + 44)), (1, .int (nI (h))), (2, .int (nI (i + 1)))] ⟨rfl, rfl, rfl, trivial⟩ ?_
                  exact ih2 (i + 1) _ (by omega) (by omega) (stI_b hI (by rw [show (3 * h + i) / 3 = h by omega, show (3 * h + i) % 3 = i by omega]))
            refine r_pl [(0, .ref (base + 44)), (1, .int (nI (h))), (2, .int (nI (0)))] ⟨rfl, rfl, rfl, trivial⟩ ?_
            exact li 4 0 _ (by omega) (by omega) (stI_a hI)
      refine r_pl [(0, .ref (base + 44)), (1, .int (nI (0)))] ⟨rfl, rfl, trivial⟩ ?_
      refine lp 7 0 _ (by omega) (by omega) ⟨fun r e1 e2 e3 => by funext k; rw [up2_o e1], fun c e => by rw [up2_k e], by rw [up2_s], fun q hq => absurd hq (Nat.not_lt_zero _), fun q hq => by rw [up2_o (by decide)], fun q hq => absurd hq (Nat.not_lt_zero _), fun q hq => by rw [up2_o (by decide)]⟩
    · skip
      exact absurd rfl c11
set_option maxHeartbeats 8000000 in
theorem c7_fault (l : Launch) (G : ks_G) (base : Nat) (Mx : ks_M) (Lx : ks_L) (hth : Mx 44 0 = 0) (hlen : Mx 44 2 ≤ 48) (hby : ∀ k, k < Mx 44 2 → Mx 45 k < 256) : KI l G base 4 yX7_fault cX7_fault 1 .int [.ref (base + 44)] SH Mx Lx (fun rr M1 L1 => (∃ v, rr = nI v ∧ v ≤ Mx 44 2 ∧ badT (Mx 45) (Mx 44 2) v ∧ rsF Mx M1 ∧ L1 = Lx) ∨ (rr = (-9) ∧ okT (Mx 45) (Mx 44 2) ∧ rsF Mx M1 ∧ L1 = Lx)) := by
  refine k_meti (by decide) (Nat.le_of_ble_eq_true rfl) (fun K hK X Y => ?_)
  subst hK
  refine r_pl [(0, .ref (base + 44))] ⟨rfl, trivial⟩ ?_
  refine r_aload_n (q := 1) (i := 0) (j := 0) (x := base + 44) X rfl rfl dX7_fault_0 rfl ?_
  refine r_iconst (q := 2) (v := nI 0) X kc_0 dX7_fault_1 rfl ?_
  refine r_puti (q := 5) (i := 44) (n := 0) X fk_X7_59 kp_X7_0 kh_44 rfl dX7_fault_2 rfl ?_
  refine r_mem Mx (up2_id hth) ?_
  refine r_aload_n (q := 6) (i := 0) (j := 0) (x := base + 44) X rfl rfl dX7_fault_5 rfl ?_
  refine r_callVi (q := 9) X (c7_readStreet K.2.1 G base Mx Lx hlen hby) kh_44 rfl ks_RX7_91 (by decide) (by decide) ⟨Nat.zero_le _, Nat.zero_le _⟩ rfl (Nat.le_of_ble_eq_true rfl) dX7_fault_6 rfl (fun r M1 L1 hp => ?_)
  refine r_iret X Y ?_ dX7_fault_9
  rcases hp with ⟨v, e1, hv, hbad, hF, e3⟩ | ⟨e1, hok, hlq, hR, e3⟩
  · exact Or.inl ⟨v, e1, hv, hbad, hF, e3⟩
  · exact Or.inr ⟨e1, hok, hR.1, e3⟩
