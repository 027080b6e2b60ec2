/-! The reference's chance -/
set_option maxHeartbeats 8000000 in
theorem c_layLooks (l : Launch) (G : ks_G) (base : Nat) (Mx : ks_M) (Lx : ks_L) (n ro : Nat) (hn6 : n ≤ 6) (hr10 : ro < 2147483648) (hdig : ∀ p, p < n → dg n ro p < 4) (S x : Nat → Nat) (ok : okP Mx) (hSS : smS S Mx (Mx 44 4)) (hS : ∀ k, S k < 1000) (hsm : smr x (Mx 49)) (hro : rok (Mx 44 4) 100000 x) (hJ : x 3 < 1000000000) : KI l G base 3 yX7_layLooks cX7_layLooks 7 .boolean [.ref (base + 44), .int (nI (n)), .int (nI (ro))] SH Mx Lx (fun rr M1 L1 => ((rr = nI 1 ∧ (∀ q, q < n → cn (Mx 44 4) (rn S x (dg n ro) (q)) (dg n ro q) = 1) ∧ M1 44 29 = lkn (dg n ro) (n) ∧ gat S x (dg n ro) (M1 60) (n)) ∨ (rr = nI 0 ∧ ∃ q, q < n ∧ ¬ cn (Mx 44 4) (rn S x (dg n ro) (q)) (dg n ro q) = 1)) ∧ (∀ a, a ≠ 44 → a ≠ 50 → a ≠ 60 → M1 a = Mx a) ∧ (∀ c, c ≠ 29 → M1 44 c = Mx 44 c) ∧ L1 = Lx) := by
  refine k_meti (by decide) (Nat.le_of_ble_eq_true rfl) (fun K hK X Y => ?_)
  subst hK
  refine r_pl [(0, .ref (base + 44)), (1, .int (nI (n))), (2, .int (nI (ro)))] ⟨rfl, rfl, rfl, trivial⟩ ?_
  have hn := ok.2.1
  refine r_aload_n (q := 1) (i := 0) (j := 0) (x := base + 44) X rfl rfl dX7_layLooks_0 rfl ?_
  refine r_getf (q := 4) (i := 44) (v := .ref (base + 49)) X fk_X7_22 kh_44 rfl rfl dX7_layLooks_1 rfl ?_
  refine r_aload_n (q := 5) (i := 0) (j := 0) (x := base + 44) X rfl rfl dX7_layLooks_4 rfl ?_
  refine r_getf (q := 8) (i := 44) (v := .ref (base + 50)) X fk_X7_25 kh_44 rfl rfl dX7_layLooks_5 rfl ?_
  refine r_callSv (q := 11) X (c_copy7 K.2.1 G base Mx Lx 49 50 kh_49 kh_50 (by decide)) ks_RX7_142 (by decide) (by decide) ⟨Nat.zero_le _, Nat.zero_le _⟩ rfl (Nat.le_of_ble_eq_true rfl) dX7_layLooks_8 rfl (fun M1 L1 hp => ?_)
  obtain ⟨e2, e3⟩ := hp
  rw [cpk_sr] at e2
  replace e2 := e2.symm
  subst e2
  replace e3 := e3.symm
  subst e3
  refine r_aload_n (q := 12) (i := 0) (j := 0) (x := base + 44) X rfl rfl dX7_layLooks_11 rfl ?_
  refine r_iconst (q := 13) (v := nI 0) X kc_0 dX7_layLooks_12 rfl ?_
  refine r_puti (q := 16) (i := 44) (n := 0) X fk_X7_185 kp_X7_29 kh_44 rfl dX7_layLooks_13 rfl ?_
  refine r_iconst (q := 17) (v := nI 1) X kc_1 dX7_layLooks_16 rfl ?_
  refine r_istore_n (q := 18) (i := 3) (j := 3) X rfl (Nat.le_of_ble_eq_true rfl) dX7_layLooks_17 rfl ?_
  refine r_iload_n (q := 19) (i := 1) (j := 1) (x := nI (n)) X rfl rfl dX7_layLooks_18 rfl ?_
  refine r_iconst (q := 20) (v := nI 1) X kc_1 dX7_layLooks_19 rfl ?_
  refine r_isubR (q := 21) (x := nI (n)) (y := nI 1) (v := (nI (n)) - (nI 1)) X rfl dX7_layLooks_20 rfl ?_
  refine r_istore (q := 23) (i := 4) X (Nat.le_of_ble_eq_true rfl) dX7_layLooks_21 rfl ?_
  have lp : ∀ (fuel : Nat) (q : Nat) (e : Nat) (y : Nat → Nat) (fl : Nat) (Mv : ks_M), q < fuel → (q + e = n) → ((∀ a, a ≠ 44 → a ≠ 50 → a ≠ 60 → Mv a = Mx a)) → ((∀ c, c ≠ 29 → Mv 44 c = Mx 44 c)) → ((fl = 1 ∧ (∀ q, q < e → cn (Mx 44 4) (rn S x (dg n ro) (q)) (dg n ro q) = 1) ∧ smr (rn S x (dg n ro) (e)) y ∧ Mv 44 29 = lkn (dg n ro) (e) ∧ gat S x (dg n ro) (Mv 60) (e)) ∨ (fl = 0 ∧ ∃ q, q < n ∧ ¬ cn (Mx 44 4) (rn S x (dg n ro) (q)) (dg n ro q) = 1)) → RN K G base 7 0 0 SH ((sr Mv 50 y)) Lx 23 [(0, .ref (base + 44)), (1, .int (nI (n))), (2, .int (nI (ro))), (3, .int (nI (fl))), (4, .int (nI (q) - nI 1))] [] := by
    intro fuel
    induction fuel with
    | zero => intro q e y fl Mv hfu; exact absurd hfu (Nat.not_lt_zero _)
    | succ fuel ih =>
      intro q e y fl Mv hfu hqn hfv hfc hfl
      have hfl2 : fl < 2 := by omega
      refine r_iload (q := 25) (i := 4) (x := nI (q) - nI 1) X rfl dX7_layLooks_23 rfl ?_
      refine r_if_lt (q := 28) (tgt := 114) X (by decide) dX7_layLooks_25 rfl (fun c25 => ?_) (fun c25 => ?_)
      · skip
        have hq0 : q = 0 := (kq_lt (by omega)).mp c25
        subst hq0
        obtain rfl : e = n := by omega
        refine r_iload_n (q := 115) (i := 3) (j := 3) (x := nI (fl)) X rfl rfl dX7_layLooks_114 rfl ?_
        refine r_zret X Y (k_nar (by omega)) ?_ dX7_layLooks_115
        rcases hfl with ⟨h1, h2, h3, h4, h5⟩ | ⟨h1, h2⟩
        · exact ⟨Or.inl ⟨by rw [h1], h2, by rw [sr_o (by decide)]; exact h4, by rw [sr_o (by decide)]; exact h5⟩, fun a h6 h7 h8 => (sr_o h7).trans (hfv a h6 h7 h8), fun c h6 => (congrFun (sr_o (by decide)) c).trans (hfc c h6), rfl⟩
        · exact ⟨Or.inr ⟨by rw [h1], h2⟩, fun a h6 h7 h8 => (sr_o h7).trans (hfv a h6 h7 h8), fun c h6 => (congrFun (sr_o (by decide)) c).trans (hfc c h6), rfl⟩
      · skip
        have hq1 : q ≠ 0 := fun h => c25 ((kq_lt (by omega)).mpr h)
        obtain ⟨p, rfl⟩ : ∃ p, q = p + 1 := ⟨q - 1, by omega⟩
        refine r_pl [(0, .ref (base + 44)), (1, .int (nI (n))), (2, .int (nI (ro))), (3, .int (nI (fl))), (4, .int (nI (p)))] ⟨rfl, rfl, rfl, rfl, by rw [show nI p = nI (p + 1) - nI 1 from (by rw [pk_sub (by omega), Nat.add_sub_cancel])]; rfl, trivial⟩ ?_
        refine r_iload_n (q := 29) (i := 3) (j := 3) (x := nI (fl)) X rfl rfl dX7_layLooks_28 rfl ?_
        refine r_if_eq (q := 32) (tgt := 114) X (by decide) dX7_layLooks_29 rfl (fun c29 => ?_) (fun c29 => ?_)
        · replace c29 : fl = 0 := (kI_eq0 (by omega)).mp c29
          refine r_iload_n (q := 115) (i := 3) (j := 3) (x := nI (fl)) X rfl rfl dX7_layLooks_114 rfl ?_
          refine r_zret X Y (k_nar (by omega)) ?_ dX7_layLooks_115
          rcases hfl with ⟨h1, h2, h3, h4, h5⟩ | ⟨h1, h2⟩
          · exact absurd h1 (by omega)
          · skip
            exact ⟨Or.inr ⟨by rw [h1], h2⟩, fun a h6 h7 h8 => (sr_o h7).trans (hfv a h6 h7 h8), fun c h6 => (congrFun (sr_o (by decide)) c).trans (hfc c h6), rfl⟩
        · replace c29 : ¬ fl = 0 := fun h => (c29 ((kI_eq0 (by omega)).mpr h))
          obtain ⟨hf1, hall, hsy, hlk, hg⟩ := hfl.resolve_right (fun h9 => c29 h9.1)
          have hp1 : 0 < 10 ^ p := Nat.pow_pos (by decide)
          have hp2 := kp10 (n := p) (by omega)
          have hdl : ro / 10 ^ p ≤ ro := Nat.div_le_self _ _
          have ht4 : (dg n ro e) < 4 := hdig e (by omega)
          have hroz := rn_ok hn hdig hro e (by omega) hall
          have hcn := cn_2 (Mx 44 4) (rn S x (dg n ro) (e)) (dg n ro e)
          have hy0 := hsy.1 0 (by decide)
          have hy1 := hsy.1 1 (by decide)
          have hy2 := hsy.1 2 (by decide)
          have hy4 := hsy.1 4 (by decide)
          have hy5 := hsy.1 5 (by decide)
          obtain ⟨hr0, hr0n, hr1, hr2, hr4, hr5, hr6⟩ := hroz
          have hroz : rok (Mx 44 4) (100000 + e) (rn S x (dg n ro) (e)) := ⟨hr0, hr0n, hr1, hr2, hr4, hr5, hr6⟩
          have hy6 : y (6 + y 0) < 8 := by rw [hy0, hsy.2 _ hr0]; exact Nat.lt_of_le_of_lt Nat.and_le_right (by decide)
          have hlke := lkn_le (dg n ro) e
          refine r_iload_n (q := 33) (i := 2) (j := 2) (x := nI (ro)) X rfl rfl dX7_layLooks_32 rfl ?_
          refine r_bipush (q := 35) (v := nI 10) X kb_10 dX7_layLooks_33 rfl ?_
          refine r_iload (q := 37) (i := 4) (x := nI (p)) X rfl dX7_layLooks_35 rfl ?_
          refine r_callSi (q := 40) X (c_power7 K.2.1 G base _ Lx 10 p (by omega)) ks_RX7_138 (by decide) (by decide) ⟨Nat.zero_le _, Nat.zero_le _⟩ rfl (Nat.le_of_ble_eq_true rfl) dX7_layLooks_37 rfl (fun r M1 L1 hp => ?_)
          obtain ⟨e1, e2, e3⟩ := hp
          subst e1
          replace e2 := e2.symm
          subst e2
          replace e3 := e3.symm
          subst e3
          refine r_idivR (q := 41) (x := nI (ro)) (y := nI (10 ^ p)) (v := nI (ro / (10 ^ p))) X (nI_ne0 (by omega) (by omega)) (pk_div (by omega) (by omega) (by omega)) dX7_layLooks_40 rfl ?_
          refine r_bipush (q := 43) (v := nI 10) X kb_10 dX7_layLooks_41 rfl ?_
          refine r_iremR (q := 44) (x := nI (ro / (10 ^ p))) (y := nI 10) (v := nI (dg n ro e)) X (by decide) (by rw [pk_rem (by omega) (by omega) (by omega)]; unfold dg; rw [show n - 1 - e = p by omega]) dX7_layLooks_43 rfl ?_
          refine r_istore (q := 46) (i := 5) X (Nat.le_of_ble_eq_true rfl) dX7_layLooks_44 rfl ?_
          refine r_aload_n (q := 47) (i := 0) (j := 0) (x := base + 44) X rfl rfl dX7_layLooks_46 rfl ?_
          refine r_aload_n (q := 48) (i := 0) (j := 0) (x := base + 44) X rfl rfl dX7_layLooks_47 rfl ?_
          refine r_getf (q := 51) (i := 44) (v := .ref (base + 50)) X fk_X7_25 kh_44 rfl rfl dX7_layLooks_48 rfl ?_
          refine r_iload (q := 53) (i := 5) (x := nI (dg n ro e)) X rfl dX7_layLooks_51 rfl ?_
          refine r_callVi (q := 56) X (c_can7 K.2.1 G base (sr Mv 50 y) Lx 50 (dg n ro e) kh_50 (by omega) (by rw [sr_s]; omega) (by rw [sr_s]; omega) (by rw [sr_o (by decide), hfc 4 (by decide)]; exact hn)) kh_44 rfl ks_RX7_121 (by decide) (by decide) ⟨Nat.zero_le _, Nat.zero_le _⟩ rfl (Nat.le_of_ble_eq_true rfl) dX7_layLooks_53 rfl (fun r M1 L1 hp => ?_)
          rw [sr_s, show (sr Mv 50 y) 44 4 = Mx 44 4 from (congrFun (sr_o (by decide)) 4).trans (hfc 4 (by decide)), sm_cn hsy hr0n ht4] at hp
          obtain ⟨e1, e2, e3⟩ := hp
          subst e1
          replace e2 := e2.symm
          subst e2
          replace e3 := e3.symm
          subst e3
          refine r_istore_n (q := 57) (i := 3) (j := 3) X rfl (Nat.le_of_ble_eq_true rfl) dX7_layLooks_56 rfl ?_
          refine r_iload_n (q := 58) (i := 3) (j := 3) (x := nI (cn (Mx 44 4) (rn S x (dg n ro) (e)) (dg n ro e))) X rfl rfl dX7_layLooks_57 rfl ?_
          refine r_if_eq (q := 61) (tgt := 74) X (by decide) dX7_layLooks_58 rfl (fun c58 => ?_) (fun c58 => ?_)
          · replace c58 : (cn (Mx 44 4) (rn S x (dg n ro) (e)) (dg n ro e)) = 0 := (kI_eq0 (by omega)).mp c58
            refine r_iconst (q := 75) (v := nI 0) X kc_0 dX7_layLooks_74 rfl ?_
            refine r_istore (q := 77) (i := 6) X (Nat.le_of_ble_eq_true rfl) dX7_layLooks_75 rfl ?_
            refine r_iload_n (q := 78) (i := 3) (j := 3) (x := nI (cn (Mx 44 4) (rn S x (dg n ro) (e)) (dg n ro e))) X rfl rfl dX7_layLooks_77 rfl ?_
            refine r_if_eq (q := 81) (tgt := 108) X (by decide) dX7_layLooks_78 rfl (fun c78 => ?_) (fun c78 => ?_)
            · replace c78 : (cn (Mx 44 4) (rn S x (dg n ro) (e)) (dg n ro e)) = 0 := (kI_eq0 (by omega)).mp c78
              refine r_iinc (q := 111) (i := 4) (x := nI (p)) (v := nI (p) + Int32.ofInt (-1)) X rfl (Nat.le_of_ble_eq_true rfl) rfl dX7_layLooks_108 rfl ?_
              refine r_goto (tgt := 23) X (by decide) dX7_layLooks_111 ?_
              refine r_pl [(0, .ref (base + 44)), (1, .int (nI (n))), (2, .int (nI (ro))), (3, .int (nI (cn (Mx 44 4) (rn S x (dg n ro) (e)) (dg n ro e)))), (4, .int (nI (p) - nI 1))] ⟨rfl, rfl, rfl, rfl, by rw [← kq_dec]; rfl, trivial⟩ ?_
              exact ih p (e + 1) y _ Mv (by omega) (by omega) hfv hfc (Or.inr ⟨by omega, e, by omega, by omega⟩)
            · replace c78 : ¬ (cn (Mx 44 4) (rn S x (dg n ro) (e)) (dg n ro e)) = 0 := fun h => (c78 ((kI_eq0 (by omega)).mpr h))
              exact absurd c58 c78
          · replace c58 : ¬ (cn (Mx 44 4) (rn S x (dg n ro) (e)) (dg n ro e)) = 0 := fun h => (c58 ((kI_eq0 (by omega)).mpr h))
            have hc1 : cn (Mx 44 4) (rn S x (dg n ro) (e)) (dg n ro e) = 1 := by omega
            refine r_aload_n (q := 62) (i := 0) (j := 0) (x := base + 44) X rfl rfl dX7_layLooks_61 rfl ?_
            refine r_aload_n (q := 63) (i := 0) (j := 0) (x := base + 44) X rfl rfl dX7_layLooks_62 rfl ?_
            refine r_getf (q := 66) (i := 44) (v := .ref (base + 50)) X fk_X7_25 kh_44 rfl rfl dX7_layLooks_63 rfl ?_
            refine r_iload (q := 68) (i := 5) (x := nI (dg n ro e)) X rfl dX7_layLooks_66 rfl ?_
            refine r_callVi (q := 71) X (c_go7 K.2.1 G base (sr Mv 50 y) Lx 50 (dg n ro e) kh_50 ht4 (by rw [sr_s]; omega) (by rw [sr_s]; omega) (by rw [sr_s]; omega) (by rw [sr_s]; omega) (by rw [sr_s]; omega) (fun q => by rw [((sr_o (by decide)).trans (hfv 46 (by decide) (by decide) (by decide)))]; have := ok.2.2.2.2.2.2.2.2.2.1 q; omega) (fun q => by rw [((sr_o (by decide)).trans (hfv 47 (by decide) (by decide) (by decide)))]; have := ok.2.2.2.2.2.2.2.2.2.2 q; omega) (fun h => by rw [sr_s, hy0]; rw [h] at hc1; exact cn_0 hc1) (fun h => by rw [sr_s, hy1]; rw [h] at hc1; exact cn_look hc1)) kh_44 rfl ks_RX7_128 (by decide) (by decide) ⟨Nat.zero_le _, Nat.zero_le _⟩ rfl (Nat.le_of_ble_eq_true rfl) dX7_layLooks_68 rfl (fun r M1 L1 hp => ?_)
            rw [sr_s, gn7_eq (M := Mx) ((sr_o (by decide)).trans (hfv 46 (by decide) (by decide) (by decide))) ((sr_o (by decide)).trans (hfv 47 (by decide) (by decide) (by decide))), tk7_eq (M := Mx) ((sr_o (by decide)).trans (hfv 46 (by decide) (by decide) (by decide))) ((sr_o (by decide)).trans (hfv 47 (by decide) (by decide) (by decide))), sr_sr] at hp
            obtain ⟨e1, e2, e3⟩ := hp
            subst e1
            replace e2 := e2.symm
            subst e2
            replace e3 := e3.symm
            subst e3
            refine r_goto (tgt := 75) X (by decide) dX7_layLooks_71 ?_
            refine r_istore (q := 77) (i := 6) X (Nat.le_of_ble_eq_true rfl) dX7_layLooks_75 rfl ?_
            refine r_iload_n (q := 78) (i := 3) (j := 3) (x := nI (cn (Mx 44 4) (rn S x (dg n ro) (e)) (dg n ro e))) X rfl rfl dX7_layLooks_77 rfl ?_
            refine r_if_eq (q := 81) (tgt := 108) X (by decide) dX7_layLooks_78 rfl (fun c78 => ?_) (fun c78 => ?_)
            · replace c78 : (cn (Mx 44 4) (rn S x (dg n ro) (e)) (dg n ro e)) = 0 := (kI_eq0 (by omega)).mp c78
              exact absurd c78 c58
            · replace c78 : ¬ (cn (Mx 44 4) (rn S x (dg n ro) (e)) (dg n ro e)) = 0 := fun h => (c78 ((kI_eq0 (by omega)).mpr h))
              refine r_iload (q := 83) (i := 5) (x := nI (dg n ro e)) X rfl dX7_layLooks_81 rfl ?_
              refine r_iconst (q := 84) (v := nI 2) X kc_2 dX7_layLooks_83 rfl ?_
              refine r_icmp_ne (q := 87) (tgt := 108) X (by decide) dX7_layLooks_84 rfl (fun c84 => ?_) (fun c84 => ?_)
              · replace c84 : ¬ (dg n ro e) = 2 := fun h => c84 ((kI_eq (by omega) (by omega)).mpr h)
                refine r_iinc (q := 111) (i := 4) (x := nI (p)) (v := nI (p) + Int32.ofInt (-1)) X rfl (Nat.le_of_ble_eq_true rfl) rfl dX7_layLooks_108 rfl ?_
                refine r_goto (tgt := 23) X (by decide) dX7_layLooks_111 ?_
                refine r_pl [(0, .ref (base + 44)), (1, .int (nI (n))), (2, .int (nI (ro))), (3, .int (nI (cn (Mx 44 4) (rn S x (dg n ro) (e)) (dg n ro e)))), (4, .int (nI (p) - nI 1))] ⟨rfl, rfl, rfl, rfl, by rw [← kq_dec]; rfl, trivial⟩ ?_
                exact ih p (e + 1) (tk7 Mx y (dg n ro e)) _ Mv (by omega) (by omega) hfv hfc (Or.inl ⟨hc1, (fun q hq => by rcases (show q < e ∨ q = e by omega) with h9 | h9; exact hall q h9; subst h9; exact hc1), sm_tk hSS hsy hroz hc1 ht4, by rw [lkn_n c84]; exact hlk, gat_n hg c84⟩)
              · replace c84 : (dg n ro e) = 2 := (kI_eq (by omega) (by omega)).mp c84
                refine r_aload_n (q := 88) (i := 0) (j := 0) (x := base + 44) X rfl rfl dX7_layLooks_87 rfl ?_
                refine r_getf (q := 91) (i := 44) (v := .ref (base + 60)) X fk_X7_56 kh_44 rfl rfl dX7_layLooks_88 rfl ?_
                refine r_aload_n (q := 92) (i := 0) (j := 0) (x := base + 44) X rfl rfl dX7_layLooks_91 rfl ?_
                refine r_getf (q := 95) (i := 44) (v := .int (nI (lkn (dg n ro) (e)))) X fk_X7_185 kh_44 rfl (kv (by rw [sr_o (by decide)]; exact hlk)) dX7_layLooks_92 rfl ?_
                refine r_iload (q := 97) (i := 6) (x := nI (if (dg n ro e) = 2 then gn7 Mx y else 0)) X rfl dX7_layLooks_95 rfl ?_
                refine r_iast (q := 98) (i := 60) (j := lkn (dg n ro) (e)) (v := if (dg n ro e) = 2 then gn7 Mx y else 0) X kh_60 (by omega) (Nat.le_of_ble_eq_true rfl) dX7_layLooks_97 rfl ?_
                refine r_aload_n (q := 99) (i := 0) (j := 0) (x := base + 44) X rfl rfl dX7_layLooks_98 rfl ?_
                refine r_dup (q := 100) X rfl dX7_layLooks_99 rfl ?_
                refine r_getf (q := 103) (i := 44) (v := .int (nI (lkn (dg n ro) (e)))) X fk_X7_185 kh_44 rfl (kv (by rw [up2_o (by decide), sr_o (by decide)]; exact hlk)) dX7_layLooks_100 rfl ?_
                refine r_iconst (q := 104) (v := nI 1) X kc_1 dX7_layLooks_103 rfl ?_
                refine r_iaddR (q := 105) (x := nI (lkn (dg n ro) (e))) (y := nI 1) (v := nI ((lkn (dg n ro) (e)) + 1)) X (nI_add _ _) dX7_layLooks_104 rfl ?_
                refine r_puti (q := 108) (i := 44) (n := (lkn (dg n ro) (e)) + 1) X fk_X7_185 kp_X7_29 kh_44 rfl dX7_layLooks_105 rfl ?_
                refine r_iinc (q := 111) (i := 4) (x := nI (p)) (v := nI (p) + Int32.ofInt (-1)) X rfl (Nat.le_of_ble_eq_true rfl) rfl dX7_layLooks_108 rfl ?_
                refine r_goto (tgt := 23) X (by decide) dX7_layLooks_111 ?_
                refine r_pl [(0, .ref (base + 44)), (1, .int (nI (n))), (2, .int (nI (ro))), (3, .int (nI (cn (Mx 44 4) (rn S x (dg n ro) (e)) (dg n ro e)))), (4, .int (nI (p) - nI 1))] ⟨rfl, rfl, rfl, rfl, by rw [← kq_dec]; rfl, trivial⟩ ?_
                have hgg : gn7 Mx y = gn S (rn S x (dg n ro) (e)) := sm_gn hSS hsy hroz (cn_two (by rw [c84] at hc1; exact hc1)).1
                refine r_mem (sr (up2 (up2 Mv 60 (lkn (dg n ro) (e)) (gn S (rn S x (dg n ro) (e)))) 44 29 (lkn (dg n ro) (e) + 1)) 50 (tk7 Mx y (dg n ro e))) (by rw [if_pos c84, hgg, up2_sr (by decide), up2_sr (by decide)]) ?_
                exact ih p (e + 1) (tk7 Mx y (dg n ro e)) _ (up2 (up2 Mv 60 (lkn (dg n ro) (e)) (gn S (rn S x (dg n ro) (e)))) 44 29 (lkn (dg n ro) (e) + 1)) (by omega) (by omega) (fun a h1 h2 h3 => by rw [← hfv a h1 h2 h3]; funext b2; rw [up2_o h1, up2_o h3]) (fun c h1 => by rw [up2_k h1, up2_o (by decide)]; exact hfc c h1) (Or.inl ⟨hc1, (fun q hq => by rcases (show q < e ∨ q = e by omega) with h9 | h9; exact hall q h9; subst h9; exact hc1), sm_tk hSS hsy hroz hc1 ht4, by rw [up2_s, lkn_y c84], by rw [show (up2 (up2 Mv 60 (lkn (dg n ro) (e)) (gn S (rn S x (dg n ro) (e)))) 44 29 (lkn (dg n ro) (e) + 1)) 60 = up1 (Mv 60) (lkn (dg n ro) (e)) (gn S (rn S x (dg n ro) (e))) from (by funext b2; rw [up2_o (by decide), sr_up, sr_s])]; exact gat_y hg c84⟩)
  refine r_mem (sr (up2 Mx 44 29 0) 50 (cp12 (Mx 50) (Mx 49))) (up2_sr (by decide)) ?_
  refine r_pl [(0, .ref (base + 44)), (1, .int (nI (n))), (2, .int (nI (ro))), (3, .int (nI (1))), (4, .int (nI (n) - nI 1))] ⟨rfl, rfl, rfl, rfl, rfl, trivial⟩ ?_
  exact lp (n + 1) n 0 (cp12 (Mx 50) (Mx 49)) 1 (up2 Mx 44 29 0) (Nat.lt_succ_self _) rfl (fun a h1 h2 h3 => by funext b2; exact up2_o h1) (fun c h1 => up2_k h1) (Or.inl ⟨rfl, fun q hq => absurd hq (Nat.not_lt_zero _), sm_cpr hsm, up2_s _ _ _ _, fun q hq => absurd hq (Nat.not_lt_zero _)⟩)
def jyf (g : Nat → Nat) (c : Nat) : Nat → Nat
  | 0 => 0
  | i + 1 => jyf g c i + (if hsb c i = 1 then 0 else g i)
def wgf (x c : Nat) : Nat → Nat
  | 0 => 1
  | i + 1 => wgf x c i * (if hsb c i = 1 then x else 10 - x)
def gof (g : Nat → Nat) (k j x : Nat) : Nat → Nat
  | 0 => 0
  | c + 1 => gof g k j x c + (if j ≤ jyf g c k then wgf x c k else 0)
theorem jyf_le {g : Nat → Nat} {c : Nat} : ∀ i, (∀ q, q < i → g q < 1000) → jyf g c i ≤ 1000 * i
  | 0, _ => Nat.le_refl 0
  | i + 1, h => by
    have h1 := jyf_le (c := c) i (fun q hq => h q (by omega))
    have h3 := h i (by omega)
    show jyf g c i + (if hsb c i = 1 then 0 else g i) ≤ _
    split <;> omega
def smN (f : Nat → Nat) : Nat → Nat
  | 0 => 0
  | n + 1 => smN f n + f n
theorem smN_s (f : Nat → Nat) : ∀ n, smN f (n + 1) = f 0 + smN (fun c => f (c + 1)) n
  | 0 => by show 0 + f 0 = f 0 + 0; omega
  | n + 1 => by
    have h := smN_s f n
    show smN f (n + 1) + f (n + 1) = f 0 + (smN (fun c => f (c + 1)) n + f (n + 1))
    omega
theorem smN_c {f h : Nat → Nat} : ∀ n, (∀ c, c < n → f c = h c) → smN f n = smN h n
  | 0, _ => rfl
  | n + 1, e => by
    show smN f n + f n = smN h n + h n
    rw [smN_c n (fun c hc => e c (by omega)), e n (by omega)]
theorem smN_rev (f : Nat → Nat) : ∀ n, smN (fun c => f (n - 1 - c)) n = smN f n
  | 0 => rfl
  | n + 1 => by
    rw [smN_s]
    show f (n + 1 - 1 - 0) + smN (fun c => f (n + 1 - 1 - (c + 1))) n = smN f n + f n
    rw [smN_c (h := fun c => f (n - 1 - c)) n (fun c hc => by show f (n + 1 - 1 - (c + 1)) = f (n - 1 - c); congr 1; omega), smN_rev f n, show n + 1 - 1 - 0 = n by omega]
    omega
theorem goo_sm (g : Nat → Nat) (k j x : Nat) : ∀ c, goo g k j x c = smN (fun c => if j ≤ jyo g c k then wgt k c x else 0) c
  | 0 => rfl
  | c + 1 => by
    have h := goo_sm g k j x c
    show goo g k j x (c + 1) = smN _ c + (if j ≤ jyo g c k then wgt k c x else 0)
    by_cases e : j ≤ jyo g c k
    · rw [goo_y e, if_pos e, h]
    · rw [goo_n e, if_neg e, h]; rfl
theorem gof_sm (g : Nat → Nat) (k j x : Nat) : ∀ c, gof g k j x c = smN (fun c => if j ≤ jyf g c k then wgf x c k else 0) c
  | 0 => rfl
  | c + 1 => by
    show gof g k j x c + _ = smN _ c + _
    rw [gof_sm g k j x c]
theorem hsb_rev : ∀ k, k ≤ 6 → ∀ c, c < 1 <<< k → ∀ i, i < k → (hsb (1 <<< k - 1 - c) i = 1 ∧ c >>> i &&& 1 = 0 ∨ hsb (1 <<< k - 1 - c) i = 0 ∧ c >>> i &&& 1 = 1) := by decide +kernel
theorem mnk_cut : ∀ k, k ≤ 6 → ∀ c, c < 1 <<< k → mnk c 6 = mnk c k := by decide +kernel
theorem jy_rev {g : Nat → Nat} {k c : Nat} (hk : k ≤ 6) (hc : c < 1 <<< k) : ∀ i, i ≤ k → jyf g (1 <<< k - 1 - c) i = jyo g c i
  | 0, _ => rfl
  | i + 1, hi => by
    show jyf g (1 <<< k - 1 - c) i + (if hsb (1 <<< k - 1 - c) i = 1 then 0 else g i) = jyo g c i + (c >>> i &&& 1) * g i
    rw [jy_rev hk hc i (by omega)]
    rcases hsb_rev k hk c hc i (by omega) with ⟨h1, h2⟩ | ⟨h1, h2⟩
    · rw [if_pos h1, h2, Nat.zero_mul]
    · rw [if_neg (by rw [h1]; decide), h2, Nat.one_mul]
theorem wg_rev {x k c : Nat} (hk : k ≤ 6) (hc : c < 1 <<< k) : ∀ i, i ≤ k → wgf x (1 <<< k - 1 - c) i = (10 - x) ^ mnk c i * x ^ (i - mnk c i)
  | 0, _ => rfl
  | i + 1, hi => by
    have hm := mnk_le c i
    show wgf x (1 <<< k - 1 - c) i * (if hsb (1 <<< k - 1 - c) i = 1 then x else 10 - x) = (10 - x) ^ (mnk c i + (c >>> i &&& 1)) * x ^ (i + 1 - (mnk c i + (c >>> i &&& 1)))
    rw [wg_rev hk hc i (by omega)]
    rcases hsb_rev k hk c hc i (by omega) with ⟨h1, h2⟩ | ⟨h1, h2⟩
    · rw [if_pos h1, h2, Nat.add_zero, show i + 1 - mnk c i = (i - mnk c i) + 1 by omega, Nat.pow_succ, Nat.mul_assoc]
    · rw [if_neg (by rw [h1]; decide), h2, show i + 1 - (mnk c i + 1) = i - mnk c i by omega, Nat.pow_succ, Nat.mul_assoc, Nat.mul_assoc, Nat.mul_comm (10 - x)]
theorem gof_goo (g : Nat → Nat) {k : Nat} (j x : Nat) (hk : k ≤ 6) : gof g k j x (1 <<< k) = goo g k j x (1 <<< k) := by
  rw [gof_sm, goo_sm, ← smN_rev]
  refine smN_c _ (fun c hc => ?_)
  show (if j ≤ jyf g (1 <<< k - 1 - c) k then wgf x (1 <<< k - 1 - c) k else 0) = (if j ≤ jyo g c k then wgt k c x else 0)
  rw [jy_rev hk hc k (Nat.le_refl _), wg_rev hk hc k (Nat.le_refl _)]
  unfold wgt
  rw [mnk_cut k hk c hc]
theorem jyo_c {g h : Nat → Nat} {c : Nat} : ∀ i, (∀ q, q < i → g q = h q) → jyo g c i = jyo h c i
  | 0, _ => rfl
  | i + 1, e => by
    show jyo g c i + (c >>> i &&& 1) * g i = jyo h c i + (c >>> i &&& 1) * h i
    rw [jyo_c i (fun q hq => e q (by omega)), e i (by omega)]
theorem goo_c {g h : Nat → Nat} {k j x : Nat} (e : ∀ q, q < k → g q = h q) (c : Nat) : goo g k j x c = goo h k j x c := by
  rw [goo_sm, goo_sm]
  refine smN_c _ (fun c hc => ?_)
  show (if j ≤ jyo g c k then wgt k c x else 0) = (if j ≤ jyo h c k then wgt k c x else 0)
  rw [jyo_c k e]
theorem gat_c {S X d g h : Nat → Nat} {p : Nat} (h1 : gat S X d g p) (h2 : gat S X d h p) : ∀ q, q < lkn d p → g q = h q := fun q hq => by
  obtain ⟨i, a, b, c⟩ := lkn_at d p q hq
  rw [← c, h1 i a b, h2 i a b]
set_option maxHeartbeats 8000000 in
theorem c7_chance (l : Launch) (G : ks_G) (base : Nat) (Mx : ks_M) (Lx : ks_L) (z u v k : Int32) (b : Nat) (hb : b < 2) (S x : Nat → Nat) (ok : okP Mx) (hSS : smS S Mx (Mx 44 4)) (hS : ∀ k, S k < 1000) (hsm : smr x (Mx 49)) (hro : rok (Mx 44 4) 100000 x) (hJ : x 3 < 1000000000) : KI l G base 4 yX7_chance cX7_chance 11 .int [.ref (base + 44), .int (z), .int (u), .int (v), .int (k), .int (nI (b))] SH Mx Lx (fun rr M1 L1 => (rr = (-2) ∧ ¬ (∃ n ro j y, 1 ≤ n ∧ n ≤ 6 ∧ z = nI n ∧ okr n u ro ∧ j ≤ 99 ∧ v = nI j ∧ y ≤ 10 ∧ k = nI y) ∧ M1 = Mx ∧ L1 = Lx) ∨ (∃ n ro j y, 1 ≤ n ∧ n ≤ 6 ∧ z = nI n ∧ okr n u ro ∧ j ≤ 99 ∧ v = nI j ∧ y ≤ 10 ∧ k = nI y ∧ (((∃ q, q < n ∧ ¬ cn (Mx 44 4) (rn S x (dg n ro) (q)) (dg n ro q) = 1) ∧ rr = nI (frc 0 1 b)) ∨ ((∀ q, q < n → cn (Mx 44 4) (rn S x (dg n ro) (q)) (dg n ro q) = 1) ∧ ∃ g, gat S x (dg n ro) g n ∧ rr = nI (frc (goo g (lkn (dg n ro) (n)) j y (1 <<< lkn (dg n ro) (n))) (10 ^ (lkn (dg n ro) (n))) b))) ∧ (∀ a, a ≠ 44 → a ≠ 50 → a ≠ 60 → M1 a = Mx a) ∧ (∀ c, c ≠ 29 → M1 44 c = Mx 44 c) ∧ L1 = Lx)) := by
  refine k_meti (by decide) (Nat.le_of_ble_eq_true rfl) (fun K hK X Y => ?_)
  subst hK
  refine r_pl [(0, .ref (base + 44)), (1, .int (z)), (2, .int (u)), (3, .int (v)), (4, .int (k)), (5, .int (nI (b)))] ⟨rfl, rfl, rfl, rfl, rfl, rfl, trivial⟩ ?_
  have hth := ok.1
  have hn := ok.2.1
  refine r_aload_n (q := 1) (i := 0) (j := 0) (x := base + 44) X rfl rfl dX7_chance_0 rfl ?_
  refine r_iconst (q := 2) (v := nI 0) X kc_0 dX7_chance_1 rfl ?_
  refine r_puti (q := 5) (i := 44) (n := 0) X fk_X7_59 kp_X7_0 kh_44 rfl dX7_chance_2 rfl ?_
  refine r_mem Mx (up2_id hth) ?_
  refine r_iload_n (q := 6) (i := 1) (j := 1) (x := z) X rfl rfl dX7_chance_5 rfl ?_
  refine r_bipush (q := 8) (v := nI 6) X kb_6 dX7_chance_6 rfl ?_
  refine r_iload_n (q := 9) (i := 2) (j := 2) (x := u) X rfl rfl dX7_chance_8 rfl ?_
  refine r_callSi (q := 12) X (c_noRow K.2.1 G base Mx Lx z u 6 (by decide)) ks_RX7_155 (by decide) (by decide) ⟨Nat.zero_le _, Nat.zero_le _⟩ rfl (Nat.le_of_ble_eq_true rfl) dX7_chance_9 rfl (fun r M1 L1 hp => ?_)
  rcases hp with ⟨n, ro, e1, hn1, hn6, hxe, hok, hp2⟩ | ⟨e1, hno, hp2⟩
  · subst e1
    obtain ⟨e2, e3⟩ := hp2
    replace e2 := e2.symm
    subst e2
    replace e3 := e3.symm
    subst e3
    subst hxe
    obtain ⟨hz, hr10, hdig⟩ := hok
    subst hz
    have h10 := kp10 (n := n) (by omega)
    refine r_if_ne (q := 15) (tgt := 40) X (by decide) dX7_chance_12 rfl (fun c => absurd c (by decide)) (fun _ => ?_)
    refine r_iload_n (q := 16) (i := 3) (j := 3) (x := v) X rfl rfl dX7_chance_15 rfl ?_
    refine r_i2l (q := 17) (v := v.toInt64) X rfl dX7_chance_16 rfl ?_
    refine r_lconst (q := 18) (v := 0) X rfl dX7_chance_17 rfl ?_
    refine r_ldc2 (q := 21) (v := 99) X kl_RX7_115 dX7_chance_18 rfl ?_
    refine r_callSi (q := 24) X (c_in K.2.1 G base Mx Lx v.toInt64 0 99) ks_RX7_66 (by decide) (by decide) ⟨Nat.zero_le _, Nat.zero_le _⟩ rfl (Nat.le_of_ble_eq_true rfl) dX7_chance_21 rfl (fun r M1 L1 hp => ?_)
    have hkj := kIn (x := v) (y := 0) (z := 99) (a := 0) (b := 99) rfl rfl (by omega) (by omega)
    rcases hp with ⟨e1, hi2, hp2⟩ | ⟨e1, hi2, hp2⟩
    · subst e1
      obtain ⟨e2, e3⟩ := hp2
      replace e2 := e2.symm
      subst e2
      replace e3 := e3.symm
      subst e3
      rw [hkj] at hi2
      obtain ⟨j, hj1, hj2, rfl⟩ := hi2
      refine r_if_eq (q := 27) (tgt := 40) X (by decide) dX7_chance_24 rfl (fun c => absurd c (by decide)) (fun _ => ?_)
      refine r_iload (q := 29) (i := 4) (x := k) X rfl dX7_chance_27 rfl ?_
      refine r_i2l (q := 30) (v := k.toInt64) X rfl dX7_chance_29 rfl ?_
      refine r_lconst (q := 31) (v := 0) X rfl dX7_chance_30 rfl ?_
      refine r_ldc2 (q := 34) (v := 10) X kl_RX7_171 dX7_chance_31 rfl ?_
      refine r_callSi (q := 37) X (c_in K.2.1 G base Mx Lx k.toInt64 0 10) ks_RX7_66 (by decide) (by decide) ⟨Nat.zero_le _, Nat.zero_le _⟩ rfl (Nat.le_of_ble_eq_true rfl) dX7_chance_34 rfl (fun r M1 L1 hp => ?_)
      have hky := kIn (x := k) (y := 0) (z := 10) (a := 0) (b := 10) rfl rfl (by omega) (by omega)
      rcases hp with ⟨e1, hi3, hp2⟩ | ⟨e1, hi3, hp2⟩
      · subst e1
        obtain ⟨e2, e3⟩ := hp2
        replace e2 := e2.symm
        subst e2
        replace e3 := e3.symm
        subst e3
        rw [hky] at hi3
        obtain ⟨y, hy1, hy2, rfl⟩ := hi3
        refine r_if_ne (q := 40) (tgt := 43) X (by decide) dX7_chance_37 rfl (fun _ => ?_) (fun c => absurd c (by decide))
        refine r_aload_n (q := 44) (i := 0) (j := 0) (x := base + 44) X rfl rfl dX7_chance_43 rfl ?_
        refine r_iload_n (q := 45) (i := 1) (j := 1) (x := nI (n)) X rfl rfl dX7_chance_44 rfl ?_
        refine r_iload_n (q := 46) (i := 2) (j := 2) (x := nI (ro)) X rfl rfl dX7_chance_45 rfl ?_
        refine r_callVi (q := 49) X (c_layLooks K.2.1 G base Mx Lx n ro hn6 (by omega) hdig S x ok hSS hS hsm hro hJ) kh_44 rfl ks_RX7_188 (by decide) (by decide) ⟨Nat.zero_le _, Nat.zero_le _⟩ rfl (Nat.le_of_ble_eq_true rfl) dX7_chance_46 rfl (fun r M1 L1 hp => ?_)
        obtain ⟨hp, hfr, hfc, e3⟩ := hp
        replace e3 := e3.symm
        subst e3
        obtain ⟨Mg, hMg⟩ : ∃ m, m = M1 := ⟨_, rfl⟩
        subst hMg
        rcases hp with ⟨e1, hall, hlk, hg⟩ | ⟨e1, hbad⟩
        · subst e1
          have hlkn := lkn_le (dg n ro) n
          have h64 : 1 <<< lkn (dg n ro) (n) ≤ 64 := k1s (by omega)
          have hgb : ∀ q, q < lkn (dg n ro) (n) → Mg 60 q < 1000 := fun q hq => by obtain ⟨p, h1, h2, h3⟩ := lkn_at _ _ _ hq; rw [← h3, hg p h1 h2]; exact gn_1000 hS _
          refine r_if_ne (q := 52) (tgt := 63) X (by decide) dX7_chance_49 rfl (fun _ => ?_) (fun c => absurd c (by decide))
          refine r_iconst (q := 64) (v := nI 0) X kc_0 dX7_chance_63 rfl ?_
          refine r_istore (q := 66) (i := 6) X (Nat.le_of_ble_eq_true rfl) dX7_chance_64 rfl ?_
          refine r_iconst (q := 67) (v := nI 0) X kc_0 dX7_chance_66 rfl ?_
          refine r_istore (q := 69) (i := 7) X (Nat.le_of_ble_eq_true rfl) dX7_chance_67 rfl ?_
          have lp : ∀ (fuel : Nat) (s : Nat), 65 - s < fuel → (s ≤ 1 <<< lkn (dg n ro) (n)) → RN K G base 11 0 0 SH Mg Lx 69 [(0, .ref (base + 44)), (1, .int (nI (n))), (2, .int (nI (ro))), (3, .int (nI (j))), (4, .int (nI (y))), (5, .int (nI (b))), (6, .int (nI (gof (Mg 60) (lkn (dg n ro) (n)) j y (s)))), (7, .int (nI (s)))] [] := by
            intro fuel
            induction fuel with
            | zero => intro s hfu; exact absurd hfu (Nat.not_lt_zero _)
            | succ fuel ih =>
              intro s hfu hs9
              refine r_iload (q := 71) (i := 7) (x := nI (s)) X rfl dX7_chance_69 rfl ?_
              refine r_iconst (q := 72) (v := nI 1) X kc_1 dX7_chance_71 rfl ?_
              refine r_aload_n (q := 73) (i := 0) (j := 0) (x := base + 44) X rfl rfl dX7_chance_72 rfl ?_
              refine r_getf (q := 76) (i := 44) (v := .int (nI (lkn (dg n ro) (n)))) X fk_X7_185 kh_44 rfl (kv hlk) dX7_chance_73 rfl ?_
              refine r_ishlR (q := 77) (x := nI 1) (y := nI (lkn (dg n ro) (n))) (v := nI (1 <<< (lkn (dg n ro) (n)))) X (k_shl (by omega)) dX7_chance_76 rfl ?_
              refine r_icmp_ge (q := 80) (tgt := 178) X (by decide) dX7_chance_77 rfl (fun c77 => ?_) (fun c77 => ?_)
              · replace c77 : (1 <<< (lkn (dg n ro) (n))) ≤ s := (nI_leI (by omega) (by omega)).mp c77
                refine r_iload (q := 180) (i := 6) (x := nI (gof (Mg 60) (lkn (dg n ro) (n)) j y (s))) X rfl dX7_chance_178 rfl ?_
                refine r_bipush (q := 182) (v := nI 10) X kb_10 dX7_chance_180 rfl ?_
                refine r_aload_n (q := 183) (i := 0) (j := 0) (x := base + 44) X rfl rfl dX7_chance_182 rfl ?_
                refine r_getf (q := 186) (i := 44) (v := .int (nI (lkn (dg n ro) (n)))) X fk_X7_185 kh_44 rfl (kv hlk) dX7_chance_183 rfl ?_
                refine r_callSi (q := 189) X (c_power7 K.2.1 G base Mg Lx 10 (lkn (dg n ro) (n)) (by omega)) ks_RX7_138 (by decide) (by decide) ⟨Nat.zero_le _, Nat.zero_le _⟩ rfl (Nat.le_of_ble_eq_true rfl) dX7_chance_186 rfl (fun r M1 L1 hp => ?_)
                obtain ⟨e1, e2, e3⟩ := hp
                subst e1
                replace e2 := e2.symm
                subst e2
                replace e3 := e3.symm
                subst e3
                refine r_iload (q := 191) (i := 5) (x := nI (b)) X rfl dX7_chance_189 rfl ?_
                refine r_callSi (q := 194) X (c_fraction K.2.1 G base Mg Lx (gof (Mg 60) (lkn (dg n ro) (n)) j y (s)) (10 ^ (lkn (dg n ro) (n))) b (by rw [show s = 1 <<< lkn (dg n ro) (n) by omega, gof_goo _ _ _ (by omega)]; have := goo_le (g := Mg 60) (k := lkn (dg n ro) (n)) (j := j) (x := y) (by omega) (by omega) _ (Nat.le_refl _); omega) (by have := kp10 (n := lkn (dg n ro) (n)) (by omega); omega) (kp10q _) hb) ks_RX7_165 (by decide) (by decide) ⟨Nat.zero_le _, Nat.zero_le _⟩ rfl (Nat.le_of_ble_eq_true rfl) dX7_chance_191 rfl (fun r M1 L1 hp => ?_)
                obtain ⟨e1, e2, e3⟩ := hp
                subst e1
                replace e2 := e2.symm
                subst e2
                replace e3 := e3.symm
                subst e3
                refine r_iret X Y ?_ dX7_chance_194
                have hse : s = 1 <<< lkn (dg n ro) (n) := by omega
                subst hse
                rw [gof_goo _ _ _ (by omega)]
                exact Or.inr ⟨n, ro, j, y, by omega, by omega, rfl, ⟨rfl, hr10, hdig⟩, by omega, rfl, by omega, rfl, Or.inr ⟨hall, Mg 60, hg, rfl⟩, hfr, hfc, rfl⟩
              · replace c77 : ¬ (1 <<< (lkn (dg n ro) (n))) ≤ s := fun h => c77 ((nI_leI (by omega) (by omega)).mpr h)
                refine r_iconst (q := 81) (v := nI 0) X kc_0 dX7_chance_80 rfl ?_
                refine r_istore (q := 83) (i := 8) X (Nat.le_of_ble_eq_true rfl) dX7_chance_81 rfl ?_
                refine r_iconst (q := 84) (v := nI 1) X kc_1 dX7_chance_83 rfl ?_
                refine r_istore (q := 86) (i := 9) X (Nat.le_of_ble_eq_true rfl) dX7_chance_84 rfl ?_
                refine r_iconst (q := 87) (v := nI 0) X kc_0 dX7_chance_86 rfl ?_
                refine r_istore (q := 89) (i := 10) X (Nat.le_of_ble_eq_true rfl) dX7_chance_87 rfl ?_
                have lq : ∀ (fuel2 : Nat) (i : Nat), 7 - i < fuel2 → (i ≤ lkn (dg n ro) (n)) → RN K G base 11 0 0 SH Mg Lx 89 [(0, .ref (base + 44)), (1, .int (nI (n))), (2, .int (nI (ro))), (3, .int (nI (j))), (4, .int (nI (y))), (5, .int (nI (b))), (6, .int (nI (gof (Mg 60) (lkn (dg n ro) (n)) j y (s)))), (7, .int (nI (s))), (8, .int (nI (jyf (Mg 60) s (i)))), (9, .int (nI (wgf y s (i)))), (10, .int (nI (i)))] [] := by
                  intro fuel2
                  induction fuel2 with
                  | zero => intro i hfu2; exact absurd hfu2 (Nat.not_lt_zero _)
                  | succ fuel2 ih2 =>
                    intro i hfu2 hi
                    refine r_iload (q := 91) (i := 10) (x := nI (i)) X rfl dX7_chance_89 rfl ?_
                    refine r_aload_n (q := 92) (i := 0) (j := 0) (x := base + 44) X rfl rfl dX7_chance_91 rfl ?_
                    refine r_getf (q := 95) (i := 44) (v := .int (nI (lkn (dg n ro) (n)))) X fk_X7_185 kh_44 rfl (kv hlk) dX7_chance_92 rfl ?_
                    refine r_icmp_ge (q := 98) (tgt := 155) X (by decide) dX7_chance_95 rfl (fun c95 => ?_) (fun c95 => ?_)
                    · replace c95 : (lkn (dg n ro) (n)) ≤ i := (nI_leI (by omega) (by omega)).mp c95
                      refine r_iload (q := 157) (i := 6) (x := nI (gof (Mg 60) (lkn (dg n ro) (n)) j y (s))) X rfl dX7_chance_155 rfl ?_
                      refine r_iload (q := 159) (i := 8) (x := nI (jyf (Mg 60) s (i))) X rfl dX7_chance_157 rfl ?_
                      refine r_iload_n (q := 160) (i := 3) (j := 3) (x := nI (j)) X rfl rfl dX7_chance_159 rfl ?_
                      have hjb := jyf_le (c := s) (g := Mg 60) i (fun q hq => hgb q (by omega))
                      refine r_icmp_lt (q := 163) (tgt := 168) X (by decide) dX7_chance_160 rfl (fun c160 => ?_) (fun c160 => ?_)
                      · replace c160 : (jyf (Mg 60) s (i)) < j := (nI_ltI (by omega) (by omega)).mp c160
                        refine r_iconst (q := 169) (v := nI 0) X kc_0 dX7_chance_168 rfl ?_
                        refine r_iaddR (q := 170) (x := nI (gof (Mg 60) (lkn (dg n ro) (n)) j y (s))) (y := nI 0) (v := nI ((gof (Mg 60) (lkn (dg n ro) (n)) j y (s)) + 0)) X (nI_add _ _) dX7_chance_169 rfl ?_
                        refine r_istore (q := 172) (i := 6) X (Nat.le_of_ble_eq_true rfl) dX7_chance_170 rfl ?_
                        refine r_iinc (q := 175) (i := 7) (x := nI (s)) (v := nI (s + 1)) X rfl (Nat.le_of_ble_eq_true rfl) (kinc 1 rfl) dX7_chance_172 rfl ?_
                        refine r_goto (tgt := 69) X (by decide) dX7_chance_175 ?_
                        have hie : i = lkn (dg n ro) (n) := by omega
                        skip
                        refine r_pl [(0, .ref (base + 44)), (1, .int (nI (n))), (2, .int (nI (ro))), (3, .int (nI (j))), (4, .int (nI (y))), (5, .int (nI (b))), (6, .int (nI (gof (Mg 60) (lkn (dg n ro) (n)) j y (s + 1)))), (7, .int (nI (s + 1)))] ⟨rfl, rfl, rfl, rfl, rfl, rfl, by rw [show gof (Mg 60) (lkn (dg n ro) (n)) j y (s + 1) = (gof (Mg 60) (lkn (dg n ro) (n)) j y (s)) + 0 from by show _ + (if j ≤ jyf (Mg 60) s (lkn (dg n ro) (n)) then wgf y s (lkn (dg n ro) (n)) else 0) = _; rw [← hie, if_neg (by omega)]]; rfl, rfl, trivial⟩ ?_
                        exact ih (s + 1) (by omega) (by omega)
                      · replace c160 : ¬ (jyf (Mg 60) s (i)) < j := fun h => c160 ((nI_ltI (by omega) (by omega)).mpr h)
                        refine r_iload (q := 165) (i := 9) (x := nI (wgf y s (i))) X rfl dX7_chance_163 rfl ?_
                        refine r_goto (tgt := 169) X (by decide) dX7_chance_165 ?_
                        refine r_iaddR (q := 170) (x := nI (gof (Mg 60) (lkn (dg n ro) (n)) j y (s))) (y := nI (wgf y s (i))) (v := nI ((gof (Mg 60) (lkn (dg n ro) (n)) j y (s)) + (wgf y s (i)))) X (nI_add _ _) dX7_chance_169 rfl ?_
                        refine r_istore (q := 172) (i := 6) X (Nat.le_of_ble_eq_true rfl) dX7_chance_170 rfl ?_
                        refine r_iinc (q := 175) (i := 7) (x := nI (s)) (v := nI (s + 1)) X rfl (Nat.le_of_ble_eq_true rfl) (kinc 1 rfl) dX7_chance_172 rfl ?_
                        refine r_goto (tgt := 69) X (by decide) dX7_chance_175 ?_
                        have hie : i = lkn (dg n ro) (n) := by omega
                        skip
                        refine r_pl [(0, .ref (base + 44)), (1, .int (nI (n))), (2, .int (nI (ro))), (3, .int (nI (j))), (4, .int (nI (y))), (5, .int (nI (b))), (6, .int (nI (gof (Mg 60) (lkn (dg n ro) (n)) j y (s + 1)))), (7, .int (nI (s + 1)))] ⟨rfl, rfl, rfl, rfl, rfl, rfl, by rw [show gof (Mg 60) (lkn (dg n ro) (n)) j y (s + 1) = (gof (Mg 60) (lkn (dg n ro) (n)) j y (s)) + (wgf y s (i)) from by show _ + (if j ≤ jyf (Mg 60) s (lkn (dg n ro) (n)) then wgf y s (lkn (dg n ro) (n)) else 0) = _; rw [← hie, if_pos (by omega)]]; rfl, rfl, trivial⟩ ?_
                        exact ih (s + 1) (by omega) (by omega)
                    · replace c95 : ¬ (lkn (dg n ro) (n)) ≤ i := fun h => c95 ((nI_leI (by omega) (by omega)).mpr h)
                      refine r_iload (q := 100) (i := 8) (x := nI (jyf (Mg 60) s (i))) X rfl dX7_chance_98 rfl ?_
                      refine r_iload (q := 102) (i := 7) (x := nI (s)) X rfl dX7_chance_100 rfl ?_
                      refine r_iload (q := 104) (i := 10) (x := nI (i)) X rfl dX7_chance_102 rfl ?_
                      refine r_callSi (q := 107) X (c_has7 K.2.1 G base Mg Lx s i (by omega) (by omega)) ks_RX7_98 (by decide) (by decide) ⟨Nat.zero_le _, Nat.zero_le _⟩ rfl (Nat.le_of_ble_eq_true rfl) dX7_chance_104 rfl (fun r M1 L1 hp => ?_)
                      obtain ⟨e1, e2, e3⟩ := hp
                      subst e1
                      replace e2 := e2.symm
                      subst e2
                      replace e3 := e3.symm
                      subst e3
                      have hsk := hsb_2 s i
                      refine r_if_eq (q := 110) (tgt := 114) X (by decide) dX7_chance_107 rfl (fun c107 => ?_) (fun c107 => ?_)
                      · replace c107 : (hsb s i) = 0 := (kI_eq0 (by omega)).mp c107
                        refine r_aload_n (q := 115) (i := 0) (j := 0) (x := base + 44) X rfl rfl dX7_chance_114 rfl ?_
                        refine r_getf (q := 118) (i := 44) (v := .ref (base + 60)) X fk_X7_56 kh_44 rfl rfl dX7_chance_115 rfl ?_
                        refine r_iload (q := 120) (i := 10) (x := nI (i)) X rfl dX7_chance_118 rfl ?_
                        refine r_iald (q := 121) (i := 60) (j := i) (v := Mg 60 i) X kh_60 (by omega) (Nat.le_of_ble_eq_true rfl) rfl dX7_chance_120 rfl ?_
                        refine r_iaddR (q := 122) (x := nI (jyf (Mg 60) s (i))) (y := nI (Mg 60 i)) (v := nI ((jyf (Mg 60) s (i)) + (Mg 60 i))) X (nI_add _ _) dX7_chance_121 rfl ?_
                        refine r_istore (q := 124) (i := 8) X (Nat.le_of_ble_eq_true rfl) dX7_chance_122 rfl ?_
                        refine r_iload (q := 126) (i := 9) (x := nI (wgf y s (i))) X rfl dX7_chance_124 rfl ?_
                        refine r_iload (q := 128) (i := 7) (x := nI (s)) X rfl dX7_chance_126 rfl ?_
                        refine r_iload (q := 130) (i := 10) (x := nI (i)) X rfl dX7_chance_128 rfl ?_
                        refine r_callSi (q := 133) X (c_has7 K.2.1 G base Mg Lx s i (by omega) (by omega)) ks_RX7_98 (by decide) (by decide) ⟨Nat.zero_le _, Nat.zero_le _⟩ rfl (Nat.le_of_ble_eq_true rfl) dX7_chance_130 rfl (fun r M1 L1 hp => ?_)
                        obtain ⟨e1, e2, e3⟩ := hp
                        subst e1
                        replace e2 := e2.symm
                        subst e2
                        replace e3 := e3.symm
                        subst e3
                        refine r_if_eq (q := 136) (tgt := 141) X (by decide) dX7_chance_133 rfl (fun c133 => ?_) (fun c133 => ?_)
                        · replace c133 : (hsb s i) = 0 := (kI_eq0 (by omega)).mp c133
                          refine r_bipush (q := 143) (v := nI 10) X kb_10 dX7_chance_141 rfl ?_
                          refine r_iload (q := 145) (i := 4) (x := nI (y)) X rfl dX7_chance_143 rfl ?_
                          refine r_isubR (q := 146) (x := nI 10) (y := nI (y)) (v := nI (10 - y)) X (pk_sub (by omega)) dX7_chance_145 rfl ?_
                          refine r_imulR (q := 147) (x := nI (wgf y s (i))) (y := nI (10 - y)) (v := nI ((wgf y s (i)) * (10 - y))) X (pk_mul _ _) dX7_chance_146 rfl ?_
                          refine r_istore (q := 149) (i := 9) X (Nat.le_of_ble_eq_true rfl) dX7_chance_147 rfl ?_
                          refine r_iinc (q := 152) (i := 10) (x := nI (i)) (v := nI (i + 1)) X rfl (Nat.le_of_ble_eq_true rfl) (kinc 1 rfl) dX7_chance_149 rfl ?_
                          refine r_goto (tgt := 89) X (by decide) dX7_chance_152 ?_
                          refine r_pl [(0, .ref (base + 44)), (1, .int (nI (n))), (2, .int (nI (ro))), (3, .int (nI (j))), (4, .int (nI (y))), (5, .int (nI (b))), (6, .int (nI (gof (Mg 60) (lkn (dg n ro) (n)) j y (s)))), (7, .int (nI (s))), (8, .int (nI (jyf (Mg 60) s (i + 1)))), (9, .int (nI (wgf y s (i + 1)))), (10, .int (nI (i + 1)))] ⟨rfl, rfl, rfl, rfl, rfl, rfl, rfl, rfl, by rw [show jyf (Mg 60) s (i + 1) = jyf (Mg 60) s i + Mg 60 i from by show _ + (if hsb s i = 1 then 0 else Mg 60 i) = _; rw [if_neg (by omega)]]; rfl, by rw [show wgf y s (i + 1) = wgf y s i * (10 - y) from by show _ * (if hsb s i = 1 then y else 10 - y) = _; rw [if_neg (by omega)]]; rfl, rfl, trivial⟩ ?_
                          exact ih2 (i + 1) (by omega) (by omega)
                        · replace c133 : ¬ (hsb s i) = 0 := fun h => (c133 ((kI_eq0 (by omega)).mpr h))
                          exact absurd c107 c133
                      · replace c107 : ¬ (hsb s i) = 0 := fun h => (c107 ((kI_eq0 (by omega)).mpr h))
                        refine r_iconst (q := 111) (v := nI 0) X kc_0 dX7_chance_110 rfl ?_
                        refine r_goto (tgt := 121) X (by decide) dX7_chance_111 ?_
                        refine r_iaddR (q := 122) (x := nI (jyf (Mg 60) s (i))) (y := nI 0) (v := nI ((jyf (Mg 60) s (i)) + 0)) X (nI_add _ _) dX7_chance_121 rfl ?_
                        refine r_istore (q := 124) (i := 8) X (Nat.le_of_ble_eq_true rfl) dX7_chance_122 rfl ?_
                        refine r_iload (q := 126) (i := 9) (x := nI (wgf y s (i))) X rfl dX7_chance_124 rfl ?_
                        refine r_iload (q := 128) (i := 7) (x := nI (s)) X rfl dX7_chance_126 rfl ?_
                        refine r_iload (q := 130) (i := 10) (x := nI (i)) X rfl dX7_chance_128 rfl ?_
                        refine r_callSi (q := 133) X (c_has7 K.2.1 G base Mg Lx s i (by omega) (by omega)) ks_RX7_98 (by decide) (by decide) ⟨Nat.zero_le _, Nat.zero_le _⟩ rfl (Nat.le_of_ble_eq_true rfl) dX7_chance_130 rfl (fun r M1 L1 hp => ?_)
                        obtain ⟨e1, e2, e3⟩ := hp
                        subst e1
                        replace e2 := e2.symm
                        subst e2
                        replace e3 := e3.symm
                        subst e3
                        refine r_if_eq (q := 136) (tgt := 141) X (by decide) dX7_chance_133 rfl (fun c133 => ?_) (fun c133 => ?_)
                        · replace c133 : (hsb s i) = 0 := (kI_eq0 (by omega)).mp c133
                          exact absurd c133 c107
                        · replace c133 : ¬ (hsb s i) = 0 := fun h => (c133 ((kI_eq0 (by omega)).mpr h))
                          refine r_iload (q := 138) (i := 4) (x := nI (y)) X rfl dX7_chance_136 rfl ?_
                          refine r_goto (tgt := 146) X (by decide) dX7_chance_138 ?_
                          refine r_imulR (q := 147) (x := nI (wgf y s (i))) (y := nI (y)) (v := nI ((wgf y s (i)) * y)) X (pk_mul _ _) dX7_chance_146 rfl ?_
                          refine r_istore (q := 149) (i := 9) X (Nat.le_of_ble_eq_true rfl) dX7_chance_147 rfl ?_
                          refine r_iinc (q := 152) (i := 10) (x := nI (i)) (v := nI (i + 1)) X rfl (Nat.le_of_ble_eq_true rfl) (kinc 1 rfl) dX7_chance_149 rfl ?_
                          refine r_goto (tgt := 89) X (by decide) dX7_chance_152 ?_
                          refine r_pl [(0, .ref (base + 44)), (1, .int (nI (n))), (2, .int (nI (ro))), (3, .int (nI (j))), (4, .int (nI (y))), (5, .int (nI (b))), (6, .int (nI (gof (Mg 60) (lkn (dg n ro) (n)) j y (s)))), (7, .int (nI (s))), (8, .int (nI (jyf (Mg 60) s (i + 1)))), (9, .int (nI (wgf y s (i + 1)))), (10, .int (nI (i + 1)))] ⟨rfl, rfl, rfl, rfl, rfl, rfl, rfl, rfl, by rw [show jyf (Mg 60) s (i + 1) = jyf (Mg 60) s i + 0 from by show _ + (if hsb s i = 1 then 0 else Mg 60 i) = _; rw [if_pos (by omega)]]; rfl, by rw [show wgf y s (i + 1) = wgf y s i * y from by show _ * (if hsb s i = 1 then y else 10 - y) = _; rw [if_pos (by omega)]]; rfl, rfl, trivial⟩ ?_
                          exact ih2 (i + 1) (by omega) (by omega)
                refine r_pl [(0, .ref (base + 44)), (1, .int (nI (n))), (2, .int (nI (ro))), (3, .int (nI (j))), (4, .int (nI (y))), (5, .int (nI (b))), (6, .int (nI (gof (Mg 60) (lkn (dg n ro) (n)) j y (s)))), (7, .int (nI (s))), (8, .int (nI (jyf (Mg 60) s (0)))), (9, .int (nI (wgf y s (0)))), (10, .int (nI (0)))] ⟨rfl, rfl, rfl, rfl, rfl, rfl, rfl, rfl, rfl, rfl, rfl, trivial⟩ ?_
                exact lq 8 0 (by omega) (Nat.zero_le _)
          refine r_pl [(0, .ref (base + 44)), (1, .int (nI (n))), (2, .int (nI (ro))), (3, .int (nI (j))), (4, .int (nI (y))), (5, .int (nI (b))), (6, .int (nI (gof (Mg 60) (lkn (dg n ro) (n)) j y (0)))), (7, .int (nI (0)))] ⟨rfl, rfl, rfl, rfl, rfl, rfl, rfl, rfl, trivial⟩ ?_
          exact lp 66 0 (by omega) (Nat.zero_le _)
        · subst e1
          refine r_if_ne (q := 52) (tgt := 63) X (by decide) dX7_chance_49 rfl (fun c => absurd c (by decide)) (fun _ => ?_)
          refine r_iload (q := 54) (i := 5) (x := nI (b)) X rfl dX7_chance_52 rfl ?_
          refine r_if_eq (q := 57) (tgt := 61) X (by decide) dX7_chance_54 rfl (fun c54 => ?_) (fun c54 => ?_)
          · replace c54 : b = 0 := (kI_eq0 (by omega)).mp c54
            refine r_iconst (q := 62) (v := nI 1) X kc_1 dX7_chance_61 rfl ?_
            refine r_iret X Y ?_ dX7_chance_62
            exact Or.inr ⟨n, ro, j, y, by omega, by omega, rfl, ⟨rfl, hr10, hdig⟩, by omega, rfl, by omega, rfl, Or.inl ⟨hbad, by unfold frc; first | (rw [if_pos (by omega)]; rfl) | (rw [if_neg (by omega)]; rfl)⟩, hfr, hfc, rfl⟩
          · replace c54 : ¬ b = 0 := fun h => (c54 ((kI_eq0 (by omega)).mpr h))
            refine r_iconst (q := 58) (v := nI 0) X kc_0 dX7_chance_57 rfl ?_
            refine r_goto (tgt := 62) X (by decide) dX7_chance_58 ?_
            refine r_iret X Y ?_ dX7_chance_62
            exact Or.inr ⟨n, ro, j, y, by omega, by omega, rfl, ⟨rfl, hr10, hdig⟩, by omega, rfl, by omega, rfl, Or.inl ⟨hbad, by unfold frc; first | (rw [if_pos (by omega)]; rfl) | (rw [if_neg (by omega)]; rfl)⟩, hfr, hfc, rfl⟩
      · subst e1
        obtain ⟨e2, e3⟩ := hp2
        replace e2 := e2.symm
        subst e2
        replace e3 := e3.symm
        subst e3
        rw [hky] at hi3
        refine r_if_ne (q := 40) (tgt := 43) X (by decide) dX7_chance_37 rfl (fun c => absurd c (by decide)) (fun _ => ?_)
        refine r_bipush (q := 42) (v := (-2)) X kb_m2 dX7_chance_40 rfl ?_
        refine r_iret X Y ?_ dX7_chance_42
        refine Or.inl ⟨rfl, ?_, rfl, rfl⟩
        rintro ⟨n2, r2, j2, y2, h1, h2, h3, h4, h5, h6, h7, h8⟩
        exact hi3 ⟨y2, by omega, by omega, h8⟩
    · subst e1
      obtain ⟨e2, e3⟩ := hp2
      replace e2 := e2.symm
      subst e2
      replace e3 := e3.symm
      subst e3
      rw [hkj] at hi2
      refine r_if_eq (q := 27) (tgt := 40) X (by decide) dX7_chance_24 rfl (fun _ => ?_) (fun c => absurd c (by decide))
      refine r_bipush (q := 42) (v := (-2)) X kb_m2 dX7_chance_40 rfl ?_
      refine r_iret X Y ?_ dX7_chance_42
      refine Or.inl ⟨rfl, ?_, rfl, rfl⟩
      rintro ⟨n2, r2, j2, y2, h1, h2, h3, h4, h5, h6, h7, h8⟩
      exact hi2 ⟨j2, by omega, by omega, h6⟩
  · subst e1
    obtain ⟨e2, e3⟩ := hp2
    replace e2 := e2.symm
    subst e2
    replace e3 := e3.symm
    subst e3
    refine r_if_ne (q := 15) (tgt := 40) X (by decide) dX7_chance_12 rfl (fun _ => ?_) (fun c => absurd c (by decide))
    refine r_bipush (q := 42) (v := (-2)) X kb_m2 dX7_chance_40 rfl ?_
    refine r_iret X Y ?_ dX7_chance_42
    refine Or.inl ⟨rfl, ?_, rfl, rfl⟩
    rintro ⟨n2, r2, j2, y2, h1, h2, h3, h4, h5, h6, h7, h8⟩
    exact hno n2 r2 h1 h2 h3 h4
