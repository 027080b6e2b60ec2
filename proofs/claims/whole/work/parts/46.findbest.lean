/-! The reference's findBest -/
set_option maxHeartbeats 8000000 in
theorem c_findBest (l : Launch) (G : ks_G) (base : Nat) (Mx : ks_M) (Lx : ks_L) (S x : Nat → Nat) (n B : Nat) (hn6 : n ≤ 6) (hB : B + n < 200000) (hn : Mx 44 4 ≤ 6) (hs4 : ∀ k, Mx 46 k < 4) (hw : ∀ k, Mx 47 k < 10) (hSS : smS S Mx (Mx 44 4)) (hS : ∀ k, S k < 1000) (hsm : smr x (Mx 51)) (hro : rok (Mx 44 4) B x) (hJ : x 3 + 1000 * n < 2000000000) : KV l G base 3 0 0 yX7_findBest cX7_findBest 7 [.ref (base + 44), .int (nI (n))] SH SH Mx Lx (fun M1 L1 => M1 44 23 = bst S (Mx 44 4) n x ∧ M1 44 24 = gro S (Mx 44 4) (x 3 + bst S (Mx 44 4) n x) n x 1 ∧ (∀ a, a ≠ 44 → a ≠ 50 → M1 a = Mx a) ∧ (∀ c, c ≠ 23 → c ≠ 24 → M1 44 c = Mx 44 c) ∧ L1 = Lx) := by
  refine k_metv (by decide) (Nat.le_of_ble_eq_true rfl) (fun K hK hRm X Y => ?_)
  subst hK
  have lp : ∀ (fuel : Nat) (r : Nat) (Mv : ks_M), 4 ^ n + 1 - r < fuel → (r ≤ 4 ^ n) → ((∀ a, a ≠ 44 → a ≠ 50 → Mv a = Mx a)) → ((∀ c, c ≠ 23 → c ≠ 24 → Mv 44 c = Mx 44 c)) → (Mv 44 23 = bj (x 3) (fnb S (Mx 44 4) n x (r))) → (Mv 44 24 = bf (fnb S (Mx 44 4) n x (r))) → RN K G base 7 0 0 SH Mv Lx 14 [(0, .ref (base + 44)), (1, .int (nI (n))), (2, .int (nI (r)))] [] := by
    intro fuel
    induction fuel with
    | zero => intro r Mv hfu; exact absurd hfu (Nat.not_lt_zero _)
    | succ fuel ih =>
      intro r Mv hfu hrn hfv hfc hj hk
      refine r_iload_n (q := 15) (i := 2) (j := 2) (x := nI (r)) X rfl rfl dX7_findBest_14 rfl ?_
      refine r_iconst (q := 16) (v := nI 4) X kc_4 dX7_findBest_15 rfl ?_
      refine r_iload_n (q := 17) (i := 1) (j := 1) (x := nI (n)) X rfl rfl dX7_findBest_16 rfl ?_
      refine r_callSi (q := 20) X (c_power7 K.2.1 G base Mv Lx 4 n (by omega)) ks_RX7_138 (by decide) (by decide) ⟨Nat.zero_le _, Nat.zero_le _⟩ rfl (Nat.le_of_ble_eq_true rfl) dX7_findBest_17 rfl (fun r M1 L1 hp => ?_)
      obtain ⟨e1, e2, e3⟩ := hp
      subst e1
      replace e2 := e2.symm
      subst e2
      replace e3 := e3.symm
      subst e3
      have h4n : 4 ^ n ≤ 4 ^ 6 := Nat.pow_le_pow_right (by decide) hn6
      refine r_icmp_ge (q := 23) (tgt := 154) X (by decide) dX7_findBest_20 rfl (fun c20 => ?_) (fun c20 => ?_)
      · replace c20 : (4 ^ n) ≤ r := (nI_leI (by omega) (by omega)).mp c20
        refine r_vret X Y ?_ dX7_findBest_154
        have hre : r = 4 ^ n := by omega
        subst hre
        rw [fnb_end] at hj hk
        refine ⟨?_, ?_, hfv, hfc, rfl⟩
        · rw [hj]; unfold bj; rw [if_neg (Nat.succ_ne_zero _)]; show x 3 + _ + 1 - 1 - x 3 = _; omega
        · rw [hk]; exact if_neg (Nat.succ_ne_zero _)
      · replace c20 : ¬ (4 ^ n) ≤ r := fun h => c20 ((nI_leI (by omega) (by omega)).mpr h)
        refine r_aload_n (q := 24) (i := 0) (j := 0) (x := base + 44) X rfl rfl dX7_findBest_23 rfl ?_
        refine r_getf (q := 27) (i := 44) (v := .ref (base + 51)) X fk_X7_28 kh_44 rfl rfl dX7_findBest_24 rfl ?_
        refine r_aload_n (q := 28) (i := 0) (j := 0) (x := base + 44) X rfl rfl dX7_findBest_27 rfl ?_
        refine r_getf (q := 31) (i := 44) (v := .ref (base + 50)) X fk_X7_25 kh_44 rfl rfl dX7_findBest_28 rfl ?_
        refine r_callSv (q := 34) X (c_copy7 K.2.1 G base Mv Lx 51 50 kh_51 kh_50 (by decide)) ks_RX7_142 (by decide) (by decide) ⟨Nat.zero_le _, Nat.zero_le _⟩ rfl (Nat.le_of_ble_eq_true rfl) dX7_findBest_31 rfl (fun M1 L1 hp => ?_)
        obtain ⟨e2, e3⟩ := hp
        rw [cpk_sr] at e2
        replace e2 := e2.symm
        subst e2
        replace e3 := e3.symm
        subst e3
        refine r_iconst (q := 35) (v := nI 1) X kc_1 dX7_findBest_34 rfl ?_
        refine r_istore_n (q := 36) (i := 3) (j := 3) X rfl (Nat.le_of_ble_eq_true rfl) dX7_findBest_35 rfl ?_
        refine r_iconst (q := 37) (v := nI 1) X kc_1 dX7_findBest_36 rfl ?_
        refine r_istore (q := 39) (i := 4) X (Nat.le_of_ble_eq_true rfl) dX7_findBest_37 rfl ?_
        refine r_iload_n (q := 40) (i := 1) (j := 1) (x := nI (n)) X rfl rfl dX7_findBest_39 rfl ?_
        refine r_iconst (q := 41) (v := nI 1) X kc_1 dX7_findBest_40 rfl ?_
        refine r_isubR (q := 42) (x := nI (n)) (y := nI 1) (v := (nI (n)) - (nI 1)) X rfl dX7_findBest_41 rfl ?_
        refine r_istore (q := 44) (i := 5) X (Nat.le_of_ble_eq_true rfl) dX7_findBest_42 rfl ?_
        have lq : ∀ (fuel2 : Nat) (q : Nat) (z : Nat → Nat) (y : Nat → Nat) (f : Nat) (fl : Nat), q < fuel2 → (q ≤ n) → ((fl = 1 ∧ smr z y ∧ rok (Mx 44 4) (B + (n - q)) z ∧ x 3 ≤ z 3 ∧ z 3 + 1000 * q ≤ x 3 + 1000 * n ∧ lnr S (Mx 44 4) r q z f = lnr S (Mx 44 4) r n x 1) ∨ (fl = 0 ∧ lnr S (Mx 44 4) r n x 1 = (0, 0))) → RN K G base 7 0 0 SH ((sr Mv 50 y)) Lx 44 [(0, .ref (base + 44)), (1, .int (nI (n))), (2, .int (nI (r))), (3, .int (nI (f))), (4, .int (nI (fl))), (5, .int (nI (q) - nI 1))] [] := by
          intro fuel2
          induction fuel2 with
          | zero => intro q z y f fl hfu2; exact absurd hfu2 (Nat.not_lt_zero _)
          | succ fuel2 ih2 =>
            intro q z y f fl hfu2 hqn hfl
            have hfl2 : fl < 2 := by omega
            refine r_iload (q := 46) (i := 5) (x := nI (q) - nI 1) X rfl dX7_findBest_44 rfl ?_
            refine r_if_lt (q := 49) (tgt := 108) X (by decide) dX7_findBest_46 rfl (fun c46 => ?_) (fun c46 => ?_)
            · skip
              have hq0 : q = 0 := (kq_lt (by omega)).mp c46
              subst hq0
              refine r_aload_n (q := 109) (i := 0) (j := 0) (x := base + 44) X rfl rfl dX7_findBest_108 rfl ?_
              refine r_getf (q := 112) (i := 44) (v := .ref (base + 50)) X fk_X7_25 kh_44 rfl rfl dX7_findBest_109 rfl ?_
              refine r_iconst (q := 113) (v := nI 3) X kc_3 dX7_findBest_112 rfl ?_
              refine r_iald (q := 114) (i := 50) (j := 3) (v := y 3) X kh_50 (by omega) (Nat.le_of_ble_eq_true rfl) (congrFun (sr_s _ _ _) _) dX7_findBest_113 rfl ?_
              refine r_aload_n (q := 115) (i := 0) (j := 0) (x := base + 44) X rfl rfl dX7_findBest_114 rfl ?_
              refine r_getf (q := 118) (i := 44) (v := .ref (base + 51)) X fk_X7_28 kh_44 rfl rfl dX7_findBest_115 rfl ?_
              refine r_iconst (q := 119) (v := nI 3) X kc_3 dX7_findBest_118 rfl ?_
              refine r_iald (q := 120) (i := 51) (j := 3) (v := Mx 51 3) X kh_51 (by omega) (Nat.le_of_ble_eq_true rfl) (congrFun ((sr_o (by decide)).trans (hfv 51 (by decide) (by decide))) _) dX7_findBest_119 rfl ?_
              refine r_isubR (q := 121) (x := nI (y 3)) (y := nI (Mx 51 3)) (v := (nI (y 3)) - (nI (Mx 51 3))) X rfl dX7_findBest_120 rfl ?_
              refine r_istore (q := 123) (i := 5) X (Nat.le_of_ble_eq_true rfl) dX7_findBest_121 rfl ?_
              refine r_iload (q := 125) (i := 4) (x := nI (fl)) X rfl dX7_findBest_123 rfl ?_
              refine r_if_eq (q := 128) (tgt := 148) X (by decide) dX7_findBest_125 rfl (fun c125 => ?_) (fun c125 => ?_)
              · replace c125 : fl = 0 := (kI_eq0 (by omega)).mp c125
                refine r_iinc (q := 151) (i := 2) (x := nI (r)) (v := nI (r + 1)) X rfl (Nat.le_of_ble_eq_true rfl) (kinc 1 rfl) dX7_findBest_148 rfl ?_
                refine r_goto (tgt := 14) X (by decide) dX7_findBest_151 ?_
                refine r_pl [(0, .ref (base + 44)), (1, .int (nI (n))), (2, .int (nI (r + 1)))] ⟨rfl, rfl, rfl, trivial⟩ ?_
                have hz0 : lnr S (Mx 44 4) r n x 1 = (0, 0) := by rcases hfl with h9 | h9; exact absurd h9.1 (by omega); exact h9.2
                have eA : (fnb S (Mx 44 4) n x (r + 1)) = (fnb S (Mx 44 4) n x (r)) := by rw [fnb_s, hz0]; exact stp_n (Nat.not_lt_zero _)
                exact ih (r + 1) (sr Mv 50 y) (by omega) (by omega) (fun a h1 h2 => (sr_o h2).trans (hfv a h1 h2)) (fun c h1 h2 => by rw [sr_o (by decide)]; exact hfc c h1 h2) (by rw [sr_o (by decide), eA]; exact hj) (by rw [sr_o (by decide), eA]; exact hk)
              · replace c125 : ¬ fl = 0 := fun h => (c125 ((kI_eq0 (by omega)).mpr h))
                obtain ⟨hf1, hsy, hroz, hz1, hz2, hln⟩ := hfl.resolve_right (fun h9 => c125 h9.1)
                replace hln : (z 3 + 1, f) = lnr S (Mx 44 4) r n x 1 := hln
                have hAb := fnb_b hS (Mx 44 4) n x r
                refine r_pl [(0, .ref (base + 44)), (1, .int (nI (n))), (2, .int (nI (r))), (3, .int (nI (f))), (4, .int (nI (fl))), (5, .int (nI (z 3 - x 3)))] ⟨rfl, rfl, rfl, rfl, rfl, by rw [← pk_sub hz1, ← hsy.1 3 (by decide), ← hsm.1 3 (by decide)]; rfl, trivial⟩ ?_
                refine r_iload (q := 130) (i := 5) (x := nI (z 3 - x 3)) X rfl dX7_findBest_128 rfl ?_
                refine r_aload_n (q := 131) (i := 0) (j := 0) (x := base + 44) X rfl rfl dX7_findBest_130 rfl ?_
                refine r_getf (q := 134) (i := 44) (v := .int (nI (bj (x 3) (fnb S (Mx 44 4) n x (r))))) X fk_X7_132 kh_44 rfl (kv (by show sr Mv 50 y 44 23 = _; rw [sr_o (by decide)]; exact hj)) dX7_findBest_131 rfl ?_
                refine r_icmp_le (q := 137) (tgt := 148) X (by decide) dX7_findBest_134 rfl (fun c134 => ?_) (fun c134 => ?_)
                · skip
                  replace c134 := (bj_cmp hz1 (by omega) (by omega) (by omega)).mp c134
                  refine r_iinc (q := 151) (i := 2) (x := nI (r)) (v := nI (r + 1)) X rfl (Nat.le_of_ble_eq_true rfl) (kinc 1 rfl) dX7_findBest_148 rfl ?_
                  refine r_goto (tgt := 14) X (by decide) dX7_findBest_151 ?_
                  refine r_pl [(0, .ref (base + 44)), (1, .int (nI (n))), (2, .int (nI (r + 1)))] ⟨rfl, rfl, rfl, trivial⟩ ?_
                  have eA : (fnb S (Mx 44 4) n x (r + 1)) = (fnb S (Mx 44 4) n x (r)) := by rw [fnb_s, ← hln]; exact stp_n (by show ¬ _ < z 3 + 1; omega)
                  exact ih (r + 1) (sr Mv 50 y) (by omega) (by omega) (fun a h1 h2 => (sr_o h2).trans (hfv a h1 h2)) (fun c h1 h2 => by rw [sr_o (by decide)]; exact hfc c h1 h2) (by rw [sr_o (by decide), eA]; exact hj) (by rw [sr_o (by decide), eA]; exact hk)
                · skip
                  replace c134 : ¬ z 3 + 1 ≤ (fnb S (Mx 44 4) n x (r)).1 := fun h9 => c134 ((bj_cmp hz1 (by omega) (by omega) (by omega)).mpr h9)
                  refine r_aload_n (q := 138) (i := 0) (j := 0) (x := base + 44) X rfl rfl dX7_findBest_137 rfl ?_
                  refine r_iload (q := 140) (i := 5) (x := nI (z 3 - x 3)) X rfl dX7_findBest_138 rfl ?_
                  refine r_puti (q := 143) (i := 44) (n := z 3 - x 3) X fk_X7_132 kp_X7_23 kh_44 rfl dX7_findBest_140 rfl ?_
                  refine r_aload_n (q := 144) (i := 0) (j := 0) (x := base + 44) X rfl rfl dX7_findBest_143 rfl ?_
                  refine r_iload_n (q := 145) (i := 3) (j := 3) (x := nI (f)) X rfl rfl dX7_findBest_144 rfl ?_
                  refine r_puti (q := 148) (i := 44) (n := f) X fk_X7_135 kp_X7_24 kh_44 rfl dX7_findBest_145 rfl ?_
                  refine r_iinc (q := 151) (i := 2) (x := nI (r)) (v := nI (r + 1)) X rfl (Nat.le_of_ble_eq_true rfl) (kinc 1 rfl) dX7_findBest_148 rfl ?_
                  refine r_goto (tgt := 14) X (by decide) dX7_findBest_151 ?_
                  refine r_pl [(0, .ref (base + 44)), (1, .int (nI (n))), (2, .int (nI (r + 1)))] ⟨rfl, rfl, rfl, trivial⟩ ?_
                  have eA : (fnb S (Mx 44 4) n x (r + 1)) = (z 3 + 1, f) := by rw [fnb_s, ← hln]; exact stp_y (by show _ < z 3 + 1; omega)
                  refine ih (r + 1) (up2 (up2 (sr Mv 50 y) 44 23 (z 3 - x 3)) 44 24 f) (by omega) (by omega) (fun a h1 h2 => ?_) (fun c h1 h2 => ?_) ?_ ?_
                  · funext b; rw [up2_o h1, up2_o h1, sr_o h2]; exact congrFun (hfv a h1 h2) b
                  · rw [up2_k h2, up2_k h1, sr_o (by decide)]; exact hfc c h1 h2
                  · rw [up2_k (by decide), up2_s, eA]; unfold bj; rw [if_neg (Nat.succ_ne_zero _)]; show z 3 - x 3 = z 3 + 1 - 1 - x 3; omega
                  · rw [up2_s, eA]; exact (if_neg (Nat.succ_ne_zero _)).symm
            · skip
              have hq1 : q ≠ 0 := fun h => c46 ((kq_lt (by omega)).mpr h)
              obtain ⟨p, rfl⟩ : ∃ p, q = p + 1 := ⟨q - 1, by omega⟩
              refine r_pl [(0, .ref (base + 44)), (1, .int (nI (n))), (2, .int (nI (r))), (3, .int (nI (f))), (4, .int (nI (fl))), (5, .int (nI (p)))] ⟨rfl, rfl, rfl, rfl, rfl, by rw [show nI p = nI (p + 1) - nI 1 from (by rw [pk_sub (by omega), Nat.add_sub_cancel])]; rfl, trivial⟩ ?_
              refine r_iload (q := 51) (i := 4) (x := nI (fl)) X rfl dX7_findBest_49 rfl ?_
              refine r_if_eq (q := 54) (tgt := 108) X (by decide) dX7_findBest_51 rfl (fun c51 => ?_) (fun c51 => ?_)
              · replace c51 : fl = 0 := (kI_eq0 (by omega)).mp c51
                refine r_aload_n (q := 109) (i := 0) (j := 0) (x := base + 44) X rfl rfl dX7_findBest_108 rfl ?_
                refine r_getf (q := 112) (i := 44) (v := .ref (base + 50)) X fk_X7_25 kh_44 rfl rfl dX7_findBest_109 rfl ?_
                refine r_iconst (q := 113) (v := nI 3) X kc_3 dX7_findBest_112 rfl ?_
                refine r_iald (q := 114) (i := 50) (j := 3) (v := y 3) X kh_50 (by omega) (Nat.le_of_ble_eq_true rfl) (congrFun (sr_s _ _ _) _) dX7_findBest_113 rfl ?_
                refine r_aload_n (q := 115) (i := 0) (j := 0) (x := base + 44) X rfl rfl dX7_findBest_114 rfl ?_
                refine r_getf (q := 118) (i := 44) (v := .ref (base + 51)) X fk_X7_28 kh_44 rfl rfl dX7_findBest_115 rfl ?_
                refine r_iconst (q := 119) (v := nI 3) X kc_3 dX7_findBest_118 rfl ?_
                refine r_iald (q := 120) (i := 51) (j := 3) (v := Mx 51 3) X kh_51 (by omega) (Nat.le_of_ble_eq_true rfl) (congrFun ((sr_o (by decide)).trans (hfv 51 (by decide) (by decide))) _) dX7_findBest_119 rfl ?_
                refine r_isubR (q := 121) (x := nI (y 3)) (y := nI (Mx 51 3)) (v := (nI (y 3)) - (nI (Mx 51 3))) X rfl dX7_findBest_120 rfl ?_
                refine r_istore (q := 123) (i := 5) X (Nat.le_of_ble_eq_true rfl) dX7_findBest_121 rfl ?_
                refine r_iload (q := 125) (i := 4) (x := nI (fl)) X rfl dX7_findBest_123 rfl ?_
                refine r_if_eq (q := 128) (tgt := 148) X (by decide) dX7_findBest_125 rfl (fun c125 => ?_) (fun c125 => ?_)
                · replace c125 : fl = 0 := (kI_eq0 (by omega)).mp c125
                  refine r_iinc (q := 151) (i := 2) (x := nI (r)) (v := nI (r + 1)) X rfl (Nat.le_of_ble_eq_true rfl) (kinc 1 rfl) dX7_findBest_148 rfl ?_
                  refine r_goto (tgt := 14) X (by decide) dX7_findBest_151 ?_
                  refine r_pl [(0, .ref (base + 44)), (1, .int (nI (n))), (2, .int (nI (r + 1)))] ⟨rfl, rfl, rfl, trivial⟩ ?_
                  have hz0 : lnr S (Mx 44 4) r n x 1 = (0, 0) := by rcases hfl with h9 | h9; exact absurd h9.1 (by omega); exact h9.2
                  have eA : (fnb S (Mx 44 4) n x (r + 1)) = (fnb S (Mx 44 4) n x (r)) := by rw [fnb_s, hz0]; exact stp_n (Nat.not_lt_zero _)
                  exact ih (r + 1) (sr Mv 50 y) (by omega) (by omega) (fun a h1 h2 => (sr_o h2).trans (hfv a h1 h2)) (fun c h1 h2 => by rw [sr_o (by decide)]; exact hfc c h1 h2) (by rw [sr_o (by decide), eA]; exact hj) (by rw [sr_o (by decide), eA]; exact hk)
                · replace c125 : ¬ fl = 0 := fun h => (c125 ((kI_eq0 (by omega)).mpr h))
                  exact absurd c51 c125
              · replace c51 : ¬ fl = 0 := fun h => (c51 ((kI_eq0 (by omega)).mpr h))
                obtain ⟨hf1, hsy, hroz, hz1, hz2, hln⟩ := hfl.resolve_right (fun h9 => c51 h9.1)
                have hp1 : 0 < 4 ^ p := Nat.pow_pos (by decide)
                have hp2 : 4 ^ p ≤ 4 ^ 6 := Nat.pow_le_pow_right (by decide) (by omega)
                have hdl : r / 4 ^ p ≤ r := Nat.div_le_self _ _
                have ht4 : (r / 4 ^ p % 4) < 4 := Nat.mod_lt _ (by decide)
                have hcn := cn_2 (Mx 44 4) z (r / 4 ^ p % 4)
                have hy0 := hsy.1 0 (by decide)
                have hy1 := hsy.1 1 (by decide)
                have hy2 := hsy.1 2 (by decide)
                have hy4 := hsy.1 4 (by decide)
                have hy5 := hsy.1 5 (by decide)
                obtain ⟨hr0, hr0n, hr1, hr2, hr4, hr5, hr6⟩ := hroz
                have hroz : rok (Mx 44 4) (B + (n - (p + 1))) z := ⟨hr0, hr0n, hr1, hr2, hr4, hr5, hr6⟩
                have hy6 : y (6 + y 0) < 8 := by rw [hy0, hsy.2 _ hr0]; exact Nat.lt_of_le_of_lt Nat.and_le_right (by decide)
                refine r_iload_n (q := 55) (i := 2) (j := 2) (x := nI (r)) X rfl rfl dX7_findBest_54 rfl ?_
                refine r_iconst (q := 56) (v := nI 4) X kc_4 dX7_findBest_55 rfl ?_
                refine r_iload (q := 58) (i := 5) (x := nI (p)) X rfl dX7_findBest_56 rfl ?_
                refine r_callSi (q := 61) X (c_power7 K.2.1 G base _ Lx 4 p (by omega)) ks_RX7_138 (by decide) (by decide) ⟨Nat.zero_le _, Nat.zero_le _⟩ rfl (Nat.le_of_ble_eq_true rfl) dX7_findBest_58 rfl (fun r M1 L1 hp => ?_)
                obtain ⟨e1, e2, e3⟩ := hp
                subst e1
                replace e2 := e2.symm
                subst e2
                replace e3 := e3.symm
                subst e3
                refine r_idivR (q := 62) (x := nI (r)) (y := nI (4 ^ p)) (v := nI (r / (4 ^ p))) X (nI_ne0 (by omega) (by omega)) (pk_div (by omega) (by omega) (by omega)) dX7_findBest_61 rfl ?_
                refine r_iconst (q := 63) (v := nI 4) X kc_4 dX7_findBest_62 rfl ?_
                refine r_iremR (q := 64) (x := nI (r / (4 ^ p))) (y := nI 4) (v := nI (r / 4 ^ p % 4)) X (by decide) (pk_rem (by omega) (by omega) (by omega)) dX7_findBest_63 rfl ?_
                refine r_istore (q := 66) (i := 6) X (Nat.le_of_ble_eq_true rfl) dX7_findBest_64 rfl ?_
                refine r_bipush (q := 68) (v := nI 10) X kb_10 dX7_findBest_66 rfl ?_
                refine r_iload_n (q := 69) (i := 3) (j := 3) (x := nI (f)) X rfl rfl dX7_findBest_68 rfl ?_
                refine r_imulR (q := 70) (x := nI 10) (y := nI (f)) (v := nI (f * 10)) X (by rw [Nat.mul_comm]; exact pk_mul _ _) dX7_findBest_69 rfl ?_
                refine r_iload (q := 72) (i := 6) (x := nI (r / 4 ^ p % 4)) X rfl dX7_findBest_70 rfl ?_
                refine r_iaddR (q := 73) (x := nI (f * 10)) (y := nI (r / 4 ^ p % 4)) (v := nI ((f * 10) + (r / 4 ^ p % 4))) X (nI_add _ _) dX7_findBest_72 rfl ?_
                refine r_istore_n (q := 74) (i := 3) (j := 3) X rfl (Nat.le_of_ble_eq_true rfl) dX7_findBest_73 rfl ?_
                refine r_aload_n (q := 75) (i := 0) (j := 0) (x := base + 44) X rfl rfl dX7_findBest_74 rfl ?_
                refine r_aload_n (q := 76) (i := 0) (j := 0) (x := base + 44) X rfl rfl dX7_findBest_75 rfl ?_
                refine r_getf (q := 79) (i := 44) (v := .ref (base + 50)) X fk_X7_25 kh_44 rfl rfl dX7_findBest_76 rfl ?_
                refine r_iload (q := 81) (i := 6) (x := nI (r / 4 ^ p % 4)) X rfl dX7_findBest_79 rfl ?_
                refine r_callVi (q := 84) X (c_can7 K.2.1 G base (sr Mv 50 y) Lx 50 (r / 4 ^ p % 4) kh_50 (by omega) (by rw [sr_s]; omega) (by rw [sr_s]; omega) (by rw [sr_o (by decide), hfc 4 (by decide) (by decide)]; exact hn)) kh_44 rfl ks_RX7_121 (by decide) (by decide) ⟨Nat.zero_le _, Nat.zero_le _⟩ rfl (Nat.le_of_ble_eq_true rfl) dX7_findBest_81 rfl (fun r M1 L1 hp => ?_)
                rw [sr_s, show (sr Mv 50 y) 44 4 = Mx 44 4 from (congrFun (sr_o (by decide)) 4).trans (hfc 4 (by decide) (by decide)), sm_cn hsy hr0n ht4] at hp
                obtain ⟨e1, e2, e3⟩ := hp
                subst e1
                replace e2 := e2.symm
                subst e2
                replace e3 := e3.symm
                subst e3
                refine r_istore (q := 86) (i := 4) X (Nat.le_of_ble_eq_true rfl) dX7_findBest_84 rfl ?_
                refine r_iload (q := 88) (i := 4) (x := nI (cn (Mx 44 4) z (r / 4 ^ p % 4))) X rfl dX7_findBest_86 rfl ?_
                refine r_if_eq (q := 91) (tgt := 102) X (by decide) dX7_findBest_88 rfl (fun c88 => ?_) (fun c88 => ?_)
                · replace c88 : (cn (Mx 44 4) z (r / 4 ^ p % 4)) = 0 := (kI_eq0 (by omega)).mp c88
                  refine r_iinc (q := 105) (i := 5) (x := nI (p)) (v := nI (p) + Int32.ofInt (-1)) X rfl (Nat.le_of_ble_eq_true rfl) rfl dX7_findBest_102 rfl ?_
                  refine r_goto (tgt := 44) X (by decide) dX7_findBest_105 ?_
                  refine r_pl [(0, .ref (base + 44)), (1, .int (nI (n))), (2, .int (nI (r))), (3, .int (nI ((f * 10) + (r / 4 ^ p % 4)))), (4, .int (nI (cn (Mx 44 4) z (r / 4 ^ p % 4)))), (5, .int (nI (p) - nI 1))] ⟨rfl, rfl, rfl, rfl, rfl, by rw [← kq_dec]; rfl, trivial⟩ ?_
                  exact ih2 p z y _ _ (by omega) (by omega) (Or.inr ⟨by omega, by rw [← hln]; exact lnr_n (by omega)⟩)
                · replace c88 : ¬ (cn (Mx 44 4) z (r / 4 ^ p % 4)) = 0 := fun h => (c88 ((kI_eq0 (by omega)).mpr h))
                  have hc1 : cn (Mx 44 4) z (r / 4 ^ p % 4) = 1 := by omega
                  refine r_aload_n (q := 92) (i := 0) (j := 0) (x := base + 44) X rfl rfl dX7_findBest_91 rfl ?_
                  refine r_aload_n (q := 93) (i := 0) (j := 0) (x := base + 44) X rfl rfl dX7_findBest_92 rfl ?_
                  refine r_getf (q := 96) (i := 44) (v := .ref (base + 50)) X fk_X7_25 kh_44 rfl rfl dX7_findBest_93 rfl ?_
                  refine r_iload (q := 98) (i := 6) (x := nI (r / 4 ^ p % 4)) X rfl dX7_findBest_96 rfl ?_
                  refine r_callVi (q := 101) X (c_go7 K.2.1 G base (sr Mv 50 y) Lx 50 (r / 4 ^ p % 4) kh_50 ht4 (by rw [sr_s]; omega) (by rw [sr_s]; omega) (by rw [sr_s]; omega) (by rw [sr_s]; omega) (by rw [sr_s]; omega) (fun q => by rw [((sr_o (by decide)).trans (hfv 46 (by decide) (by decide)))]; have := hs4 q; omega) (fun q => by rw [((sr_o (by decide)).trans (hfv 47 (by decide) (by decide)))]; have := hw q; omega) (fun h => by rw [sr_s, hy0]; rw [h] at hc1; exact cn_0 hc1) (fun h => by rw [sr_s, hy1]; rw [h] at hc1; exact cn_look hc1)) kh_44 rfl ks_RX7_128 (by decide) (by decide) ⟨Nat.zero_le _, Nat.zero_le _⟩ rfl (Nat.le_of_ble_eq_true rfl) dX7_findBest_98 rfl (fun r M1 L1 hp => ?_)
                  rw [sr_s, gn7_eq (M := Mx) ((sr_o (by decide)).trans (hfv 46 (by decide) (by decide))) ((sr_o (by decide)).trans (hfv 47 (by decide) (by decide))), tk7_eq (M := Mx) ((sr_o (by decide)).trans (hfv 46 (by decide) (by decide))) ((sr_o (by decide)).trans (hfv 47 (by decide) (by decide))), sr_sr] at hp
                  obtain ⟨e1, e2, e3⟩ := hp
                  subst e1
                  replace e2 := e2.symm
                  subst e2
                  replace e3 := e3.symm
                  subst e3
                  refine r_pop (q := 102) X rfl dX7_findBest_101 rfl ?_
                  refine r_iinc (q := 105) (i := 5) (x := nI (p)) (v := nI (p) + Int32.ofInt (-1)) X rfl (Nat.le_of_ble_eq_true rfl) rfl dX7_findBest_102 rfl ?_
                  refine r_goto (tgt := 44) X (by decide) dX7_findBest_105 ?_
                  refine r_pl [(0, .ref (base + 44)), (1, .int (nI (n))), (2, .int (nI (r))), (3, .int (nI ((f * 10) + (r / 4 ^ p % 4)))), (4, .int (nI (cn (Mx 44 4) z (r / 4 ^ p % 4)))), (5, .int (nI (p) - nI 1))] ⟨rfl, rfl, rfl, rfl, rfl, by rw [← kq_dec]; rfl, trivial⟩ ?_
                  have h3v := tk_3v S z ht4
                  have h3g : (if r / 4 ^ p % 4 = 2 then gn S z else 0) < 1000 := by have := gn_1000 hS z; split <;> omega
                  exact ih2 p (tk S z (r / 4 ^ p % 4)) (tk7 Mx y (r / 4 ^ p % 4)) _ _ (by omega) (by omega) (Or.inl ⟨hc1, sm_tk hSS hsy hroz hc1 ht4, (by rw [show B + (n - p) = B + (n - (p + 1)) + 1 by omega]; exact tk_ok hn hroz hc1 ht4), by omega, by omega, by rw [← hln, lnr_y hc1]⟩)
        refine r_pl [(0, .ref (base + 44)), (1, .int (nI (n))), (2, .int (nI (r))), (3, .int (nI (1))), (4, .int (nI (1))), (5, .int (nI (n) - nI 1))] ⟨rfl, rfl, rfl, rfl, rfl, rfl, trivial⟩ ?_
        exact lq (n + 1) n x (cp12 (Mv 50) (Mv 51)) 1 1 (by omega) (Nat.le_refl _) (Or.inl ⟨rfl, sm_cpr (by rw [hfv 51 (by decide) (by decide)]; exact hsm), by rw [Nat.sub_self]; exact hro, Nat.le_refl _, Nat.le_refl _, rfl⟩)
  refine r_pl [(0, .ref (base + 44)), (1, .int (nI (n)))] ⟨rfl, rfl, trivial⟩ ?_
  refine r_aload_n (q := 1) (i := 0) (j := 0) (x := base + 44) X rfl rfl dX7_findBest_0 rfl ?_
  refine r_bipush (q := 3) (v := (-9)) X kb_m9 dX7_findBest_1 rfl ?_
  rw [show ((-9) : Int32) = nI (4294967287) from kM9]
  refine r_puti (q := 6) (i := 44) (n := 4294967287) X fk_X7_132 kp_X7_23 kh_44 rfl dX7_findBest_3 rfl ?_
  refine r_aload_n (q := 7) (i := 0) (j := 0) (x := base + 44) X rfl rfl dX7_findBest_6 rfl ?_
  refine r_bipush (q := 9) (v := (-9)) X kb_m9 dX7_findBest_7 rfl ?_
  rw [show ((-9) : Int32) = nI (4294967287) from kM9]
  refine r_puti (q := 12) (i := 44) (n := 4294967287) X fk_X7_135 kp_X7_24 kh_44 rfl dX7_findBest_9 rfl ?_
  refine r_iconst (q := 13) (v := nI 0) X kc_0 dX7_findBest_12 rfl ?_
  refine r_istore_n (q := 14) (i := 2) (j := 2) X rfl (Nat.le_of_ble_eq_true rfl) dX7_findBest_13 rfl ?_
  refine r_pl [(0, .ref (base + 44)), (1, .int (nI (n))), (2, .int (nI (0)))] ⟨rfl, rfl, rfl, trivial⟩ ?_
  exact lp (4 ^ n + 2) 0 (up2 (up2 Mx 44 23 4294967287) 44 24 4294967287) (Nat.lt_succ_self _) (Nat.zero_le _) (fun a h1 h2 => by funext b; rw [up2_o h1, up2_o h1]) (fun c h1 h2 => by rw [up2_k h2, up2_k h1]) (by rw [up2_k (by decide), up2_s]; rfl) (by rw [up2_s]; rfl)
