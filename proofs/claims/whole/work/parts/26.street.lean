/-! THE STREET MADE by the class -/
theorem okT_n {T : Nat → Nat} {len : Nat} (h : okT T len) : (len - 2) / 5 ≤ 6 := by
  rcases Nat.lt_or_ge 6 ((len - 2) / 5) with h1 | h1
  · exfalso
    have h2 := h.1 (2 + 5 * 6) (by omega)
    unfold fitn at h2
    rw [if_neg (by decide), if_neg (by decide), if_pos (by decide), if_neg (fun h3 => absurd h3.2 (by decide))] at h2
    cases h2
  · exact h1
theorem isd_1 {c m : Nat} (h : isd c m = 1) : 48 ≤ c ∧ c ≤ 48 + m := by
  unfold isd at h; split at h
  · assumption
  · cases h
theorem okT_d {T : Nat → Nat} {len p : Nat} (h : okT T len) (hp : p < len) (h0 : 1 ≤ p) (h1 : p = 1 ∨ (p - 2) % 5 ≠ 0) : 48 ≤ T p ∧ T p ≤ 57 := by
  have h2 := h.1 p hp
  unfold fitn at h2
  rw [if_neg (by omega)] at h2
  by_cases h3 : p = 1
  · subst h3; rw [if_pos rfl] at h2; have := isd_1 h2; omega
  · rw [if_neg h3, if_neg (by omega)] at h2
    have h4 := isd_1 h2
    split at h4 <;> omega
theorem okT_s {T : Nat → Nat} {len p : Nat} (h : okT T len) (hp : p < len) (h1 : 2 ≤ p) (h5 : (p - 2) % 5 = 1) : T p ≤ 51 := by
  have h2 := h.1 p hp
  unfold fitn at h2
  rw [if_neg (by omega), if_neg (by omega), if_neg (by omega), if_pos h5] at h2
  have := isd_1 h2
  omega
def tkI (Mx Mv : ks_M) (n a b c : Nat) : Prop := (∀ r, r ≠ 3 → r ≠ 4 → r ≠ 5 → r ≠ 6 → Mv r = Mx r) ∧ Mv 3 3 = n ∧ Mv 3 4 = Mx 2 1 - 48 ∧ (∀ q, q < a → Mv 4 q = Mx 2 (3 + 5 * q) - 48) ∧ (∀ q, q < b → Mv 5 q = Mx 2 (4 + 5 * (q / 3) + q % 3) - 48) ∧ (∀ q, q < c → Mv 6 q = shw (Mx 2 (3 + 5 * (q / 6)) - 48) (Mx 2 (4 + 5 * (q / 6) + q % 3) - 48) (q % 6)) ∧ (∀ q, c ≤ q → Mv 6 q = Mx 6 q)
theorem tkI_a {Mx Mv : ks_M} {n a b c : Nat} (h : tkI Mx Mv n a b c) : tkI Mx (up2 Mv 4 a (Mx 2 (3 + 5 * a) - 48)) n (a + 1) b c := by
  obtain ⟨h1, h2, h3, h4, h5, h6, h7⟩ := h
  refine ⟨fun r e3 e4 e5 e6 => by funext k; rw [up2_o e4, h1 r e3 e4 e5 e6], by rw [up2_o (by decide)]; exact h2, by rw [up2_o (by decide)]; exact h3, fun q hq => ?_, fun q hq => by rw [up2_o (by decide)]; exact h5 q hq, fun q hq => by rw [up2_o (by decide)]; exact h6 q hq, fun q hq => by rw [up2_o (by decide)]; exact h7 q hq⟩
  by_cases e : q = a
  · subst e; rw [up2_s]
  · rw [up2_k e]; exact h4 q (by omega)
theorem tkI_b {Mx Mv : ks_M} {n a b c v : Nat} (h : tkI Mx Mv n a b c) (hv : v = Mx 2 (4 + 5 * (b / 3) + b % 3) - 48) : tkI Mx (up2 Mv 5 b v) n a (b + 1) c := by
  obtain ⟨h1, h2, h3, h4, h5, h6, h7⟩ := h
  refine ⟨fun r e3 e4 e5 e6 => by funext k; rw [up2_o e5, h1 r e3 e4 e5 e6], by rw [up2_o (by decide)]; exact h2, by rw [up2_o (by decide)]; exact h3, fun q hq => by rw [up2_o (by decide)]; exact h4 q hq, fun q hq => ?_, fun q hq => by rw [up2_o (by decide)]; exact h6 q hq, fun q hq => by rw [up2_o (by decide)]; exact h7 q hq⟩
  by_cases e : q = b
  · subst e; rw [up2_s, hv]
  · rw [up2_k e]; exact h5 q (by omega)
theorem tkI_c {Mx Mv : ks_M} {n a b c v : Nat} (h : tkI Mx Mv n a b c) (hv : v = shw (Mx 2 (3 + 5 * (c / 6)) - 48) (Mx 2 (4 + 5 * (c / 6) + c % 3) - 48) (c % 6)) : tkI Mx (up2 Mv 6 c v) n a b (c + 1) := by
  obtain ⟨h1, h2, h3, h4, h5, h6, h7⟩ := h
  refine ⟨fun r e3 e4 e5 e6 => by funext k; rw [up2_o e6, h1 r e3 e4 e5 e6], by rw [up2_o (by decide)]; exact h2, by rw [up2_o (by decide)]; exact h3, fun q hq => by rw [up2_o (by decide)]; exact h4 q hq, fun q hq => by rw [up2_o (by decide)]; exact h5 q hq, fun q hq => ?_, fun q hq => by rw [up2_k (by omega)]; exact h7 q (by omega)⟩
  by_cases e : q = c
  · subst e; rw [up2_s, hv]
  · rw [up2_k e]; exact h6 q (by omega)
theorem r_tk {Mx Mv : ks_M} {n a b c c' : Nat} (h : tkI Mx Mv n a b c) (e : c = c') : tkI Mx Mv n a b c' := e ▸ h
set_option maxHeartbeats 8000000 in
theorem c_takeFrom (l : Launch) (G : ks_G) (base : Nat) (Mx : ks_M) (Lx : ks_L) (hlen : Mx 1 1 ≤ 48) (hok : okT (Mx 2) (Mx 1 1)) : KV l G base 2 0 0 yX4_takeFrom cX4_takeFrom 5 [.ref (base + 3), .ref (base + 1)] SH SH Mx Lx (fun M1 L1 => tkI Mx M1 ((Mx 1 1 - 2) / 5) ((Mx 1 1 - 2) / 5) (3 * ((Mx 1 1 - 2) / 5)) (6 * ((Mx 1 1 - 2) / 5)) ∧ L1 = Lx) := by
  refine k_metv (by decide) (Nat.le_of_ble_eq_true rfl) (fun K hK hRm X Y => ?_)
  subst hK
  have hn6 := okT_n hok
  have h2len := hok.2.1
  have h5len := hok.2.2
  have lp : ∀ (fuel : Nat) (h : Nat) (Mv : ks_M), ((Mx 1 1 - 2) / 5) - h < fuel → (h ≤ ((Mx 1 1 - 2) / 5)) → (tkI Mx Mv ((Mx 1 1 - 2) / 5) h (3 * h) (6 * h)) → RN K G base 5 0 0 SH Mv Lx 24 [(0, .ref (base + 3)), (1, .ref (base + 1)), (2, .int (nI (h)))] [] := by
    intro fuel
    induction fuel with
    | zero => intro h Mv hfu; exact absurd hfu (Nat.not_lt_zero _)
    | succ fuel ih =>
      intro h Mv hfu hh hI
      refine r_iload_n (q := 25) (i := 2) (j := 2) (x := nI (h)) X rfl rfl dX4_takeFrom_24 rfl ?_
      refine r_aload_n (q := 26) (i := 0) (j := 0) (x := base + 3) X rfl rfl dX4_takeFrom_25 rfl ?_
      refine r_getf (q := 29) (i := 3) (v := .int (nI (((Mx 1 1 - 2) / 5)))) X fk_X4_21 kh_3 rfl (kv hI.2.1) dX4_takeFrom_26 rfl ?_
      refine r_icmp_ge (q := 32) (tgt := 139) X (by decide) dX4_takeFrom_29 rfl (fun c29 => ?_) (fun c29 => ?_)
      · replace c29 : (((Mx 1 1 - 2) / 5)) ≤ h := (nI_leI (by omega) (by omega)).mp c29
        refine r_vret X Y ?_ dX4_takeFrom_139
        obtain rfl : h = ((Mx 1 1 - 2) / 5) := by omega
        exact ⟨hI, rfl⟩
      · replace c29 : ¬ (((Mx 1 1 - 2) / 5)) ≤ h := fun h => c29 ((nI_leI (by omega) (by omega)).mpr h)
        refine r_iconst (q := 33) (v := nI 2) X kc_2 dX4_takeFrom_32 rfl ?_
        refine r_iload_n (q := 34) (i := 2) (j := 2) (x := nI (h)) X rfl rfl dX4_takeFrom_33 rfl ?_
        refine r_iconst (q := 35) (v := nI 5) X kc_5 dX4_takeFrom_34 rfl ?_
        refine r_imulR (q := 36) (x := nI (h)) (y := nI 5) (v := nI (h * 5)) X (pk_mul _ _) dX4_takeFrom_35 rfl ?_
        refine r_iaddR (q := 37) (x := nI 2) (y := nI (h * 5)) (v := nI (2 + (h * 5))) X (nI_add _ _) dX4_takeFrom_36 rfl ?_
        refine r_istore_n (q := 38) (i := 3) (j := 3) X rfl (Nat.le_of_ble_eq_true rfl) dX4_takeFrom_37 rfl ?_
        refine r_aload_n (q := 39) (i := 0) (j := 0) (x := base + 3) X rfl rfl dX4_takeFrom_38 rfl ?_
        refine r_getf (q := 42) (i := 3) (v := .ref (base + 4)) X fk_X4_9 kh_3 rfl rfl dX4_takeFrom_39 rfl ?_
        refine r_iload_n (q := 43) (i := 2) (j := 2) (x := nI (h)) X rfl rfl dX4_takeFrom_42 rfl ?_
        refine r_aload_n (q := 44) (i := 1) (j := 1) (x := base + 1) X rfl rfl dX4_takeFrom_43 rfl ?_
        refine r_iload_n (q := 45) (i := 3) (j := 3) (x := nI (2 + (h * 5))) X rfl rfl dX4_takeFrom_44 rfl ?_
        refine r_iconst (q := 46) (v := nI 1) X kc_1 dX4_takeFrom_45 rfl ?_
        refine r_iaddR (q := 47) (x := nI (2 + (h * 5))) (y := nI 1) (v := nI ((2 + (h * 5)) + 1)) X (nI_add _ _) dX4_takeFrom_46 rfl ?_
        refine r_callVi (q := 50) X (c_digitAt K.2.1 G base Mv Lx ((2 + (h * 5)) + 1) (by rw [hI.1 1 (by decide) (by decide) (by decide) (by decide)]; omega) (by rw [hI.1 1 (by decide) (by decide) (by decide) (by decide)]; exact hlen)) kh_1 rfl ks_RX4_28 (by decide) (by decide) ⟨Nat.zero_le _, Nat.zero_le _⟩ rfl (Nat.le_of_ble_eq_true rfl) dX4_takeFrom_47 rfl (fun r M1 L1 hp => ?_)
        obtain ⟨e1, e2, e3⟩ := hp
        rw [show Mv 2 = Mx 2 from hI.1 2 (by decide) (by decide) (by decide) (by decide)] at e1
        rw [show (2 + (h * 5)) + 1 = 3 + 5 * h by omega, pk_sub (okT_d hok (by omega) (by omega) (by omega)).1] at e1
        subst e1
        replace e2 := e2.symm
        subst e2
        replace e3 := e3.symm
        subst e3
        refine r_iast (q := 51) (i := 4) (j := h) (v := Mx 2 (3 + 5 * h) - 48) X kh_4 (by omega) (Nat.le_of_ble_eq_true rfl) dX4_takeFrom_50 rfl ?_
        refine r_iconst (q := 52) (v := nI 0) X kc_0 dX4_takeFrom_51 rfl ?_
        refine r_istore (q := 54) (i := 4) X (Nat.le_of_ble_eq_true rfl) dX4_takeFrom_52 rfl ?_
        have li : ∀ (fuel2 : Nat) (i : Nat) (Mv : ks_M), 3 - i < fuel2 → (i ≤ 3) → (tkI Mx Mv ((Mx 1 1 - 2) / 5) (h + 1) (3 * h + i) (6 * h)) → RN K G base 5 0 0 SH Mv Lx 54 [(0, .ref (base + 3)), (1, .ref (base + 1)), (2, .int (nI (h))), (3, .int (nI (2 + h * 5))), (4, .int (nI (i)))] [] := by
          intro fuel2
          induction fuel2 with
          | zero => intro i Mv hfu2; exact absurd hfu2 (Nat.not_lt_zero _)
          | succ fuel2 ih2 =>
            intro i Mv hfu2 hi hI
            refine r_iload (q := 56) (i := 4) (x := nI (i)) X rfl dX4_takeFrom_54 rfl ?_
            refine r_iconst (q := 57) (v := nI 3) X kc_3 dX4_takeFrom_56 rfl ?_
            refine r_icmp_ge (q := 60) (tgt := 87) X (by decide) dX4_takeFrom_57 rfl (fun c57 => ?_) (fun c57 => ?_)
            · replace c57 : 3 ≤ i := (nI_leI (by omega) (by omega)).mp c57
              refine r_iconst (q := 88) (v := nI 0) X kc_0 dX4_takeFrom_87 rfl ?_
              refine r_istore (q := 90) (i := 4) X (Nat.le_of_ble_eq_true rfl) dX4_takeFrom_88 rfl ?_
              have lt : ∀ (fuel3 : Nat) (t : Nat) (Mv : ks_M), 6 - t < fuel3 → (t ≤ 6) → (tkI Mx Mv ((Mx 1 1 - 2) / 5) (h + 1) (3 * h + 3) (6 * h + t)) → RN K G base 5 0 0 SH Mv Lx 90 [(0, .ref (base + 3)), (1, .ref (base + 1)), (2, .int (nI (h))), (3, .int (nI (2 + h * 5))), (4, .int (nI (t)))] [] := by
                intro fuel3
                induction fuel3 with
                | zero => intro t Mv hfu3; exact absurd hfu3 (Nat.not_lt_zero _)
                | succ fuel3 ih3 =>
                  intro t Mv hfu3 ht hI
                  refine r_iload (q := 92) (i := 4) (x := nI (t)) X rfl dX4_takeFrom_90 rfl ?_
                  refine r_bipush (q := 94) (v := nI 6) X kb_6 dX4_takeFrom_92 rfl ?_
                  refine r_icmp_ge (q := 97) (tgt := 133) X (by decide) dX4_takeFrom_94 rfl (fun c94 => ?_) (fun c94 => ?_)
                  · replace c94 : 6 ≤ t := (nI_leI (by omega) (by omega)).mp c94
                    refine r_iinc (q := 136) (i := 2) (x := nI (h)) (v := nI (h + 1)) X rfl (Nat.le_of_ble_eq_true rfl) (kinc 1 rfl) dX4_takeFrom_133 rfl ?_
                    refine r_goto (tgt := 24) X (by decide) dX4_takeFrom_136 ?_
                    refine r_pl [(0, .ref (base + 3)), (1, .ref (base + 1)), (2, .int (nI (h + 1)))] ⟨rfl, rfl, rfl, trivial⟩ ?_
                    obtain rfl : t = 6 := by omega
                    exact ih (h + 1) Mv (by omega) (by omega) (by rw [show 3 * (h + 1) = 3 * h + 3 by omega, show 6 * (h + 1) = 6 * h + 6 by omega]; exact hI)
                  · replace c94 : ¬ 6 ≤ t := fun h => c94 ((nI_leI (by omega) (by omega)).mpr h)
                    refine r_aload_n (q := 98) (i := 0) (j := 0) (x := base + 3) X rfl rfl dX4_takeFrom_97 rfl ?_
                    refine r_getf (q := 101) (i := 3) (v := .ref (base + 6)) X fk_X4_18 kh_3 rfl rfl dX4_takeFrom_98 rfl ?_
                    refine r_iload_n (q := 102) (i := 2) (j := 2) (x := nI (h)) X rfl rfl dX4_takeFrom_101 rfl ?_
                    refine r_bipush (q := 104) (v := nI 6) X kb_6 dX4_takeFrom_102 rfl ?_
                    refine r_imulR (q := 105) (x := nI (h)) (y := nI 6) (v := nI (h * 6)) X (pk_mul _ _) dX4_takeFrom_104 rfl ?_
                    refine r_iload (q := 107) (i := 4) (x := nI (t)) X rfl dX4_takeFrom_105 rfl ?_
                    refine r_iaddR (q := 108) (x := nI (h * 6)) (y := nI (t)) (v := nI ((h * 6) + t)) X (nI_add _ _) dX4_takeFrom_107 rfl ?_
                    refine r_aload_n (q := 109) (i := 0) (j := 0) (x := base + 3) X rfl rfl dX4_takeFrom_108 rfl ?_
                    refine r_getf (q := 112) (i := 3) (v := .ref (base + 4)) X fk_X4_9 kh_3 rfl rfl dX4_takeFrom_109 rfl ?_
                    refine r_iload_n (q := 113) (i := 2) (j := 2) (x := nI (h)) X rfl rfl dX4_takeFrom_112 rfl ?_
                    refine r_iald (q := 114) (i := 4) (j := h) (v := Mx 2 (3 + 5 * h) - 48) X kh_4 (by omega) (Nat.le_of_ble_eq_true rfl) (hI.2.2.2.1 h (by omega)) dX4_takeFrom_113 rfl ?_
                    refine r_aload_n (q := 115) (i := 0) (j := 0) (x := base + 3) X rfl rfl dX4_takeFrom_114 rfl ?_
                    refine r_iload_n (q := 116) (i := 2) (j := 2) (x := nI (h)) X rfl rfl dX4_takeFrom_115 rfl ?_
                    refine r_iload (q := 118) (i := 4) (x := nI (t)) X rfl dX4_takeFrom_116 rfl ?_
                    refine r_callVi (q := 121) X (c_newsOf K.2.1 G base Mv Lx h t (by rw [hI.2.1]; omega) (by rw [hI.2.1]; omega) (by omega)) kh_3 rfl ks_RX4_44 (by decide) (by decide) ⟨Nat.zero_le _, Nat.zero_le _⟩ rfl (Nat.le_of_ble_eq_true rfl) dX4_takeFrom_118 rfl (fun r M1 L1 hp => ?_)
                    rw [show Mv 5 (h * 3 + t % 3) = Mx 2 (4 + 5 * h + t % 3) - 48 from by rw [hI.2.2.2.2.1 _ (by omega), show 4 + 5 * ((h * 3 + t % 3) / 3) + (h * 3 + t % 3) % 3 = 4 + 5 * h + t % 3 by omega]] at hp
                    obtain ⟨e1, e2, e3⟩ := hp
                    subst e1
                    replace e2 := e2.symm
                    subst e2
                    replace e3 := e3.symm
                    subst e3
                    refine r_iload (q := 123) (i := 4) (x := nI (t)) X rfl dX4_takeFrom_121 rfl ?_
                    refine r_callSi (q := 126) X (c_through K.2.1 G base Mv Lx (Mx 2 (3 + 5 * h) - 48) (Mx 2 (4 + 5 * h + t % 3) - 48) t (by have := (okT_d hok (p := 3 + 5 * h) (by omega) (by omega) (by omega)).2; omega) (by have := (okT_d hok (p := 4 + 5 * h + t % 3) (by omega) (by omega) (by omega)).2; omega) (by omega)) ks_RX4_47 (by decide) (by decide) ⟨Nat.zero_le _, Nat.zero_le _⟩ rfl (Nat.le_of_ble_eq_true rfl) dX4_takeFrom_123 rfl (fun r M1 L1 hp => ?_)
                    obtain ⟨e1, e2, e3⟩ := hp
                    subst e1
                    replace e2 := e2.symm
                    subst e2
                    replace e3 := e3.symm
                    subst e3
                    refine r_iast (q := 127) (i := 6) (j := (h * 6) + t) (v := shw (Mx 2 (3 + 5 * h) - 48) (Mx 2 (4 + 5 * h + t % 3) - 48) t) X kh_6 (by omega) (Nat.le_of_ble_eq_true rfl) dX4_takeFrom_126 rfl ?_
                    refine r_iinc (q := 130) (i := 4) (x := nI (t)) (v := nI (t + 1)) X rfl (Nat.le_of_ble_eq_true rfl) (kinc 1 rfl) dX4_takeFrom_127 rfl ?_
                    refine r_goto (tgt := 90) X (by decide) dX4_takeFrom_130 ?_
                    refine r_pl [(0, .ref (base + 3)), (1, .ref (base + 1)), (2, .int (nI (h))), (3, .int (nI (2 + h * 5))), (4, .int (nI (t + 1)))] ⟨rfl, rfl, rfl, rfl, rfl, trivial⟩ ?_
                    refine ih3 (t + 1) _ (by omega) (by omega) ?_
                    have h9 := tkI_c (v := shw (Mx 2 (3 + 5 * h) - 48) (Mx 2 (4 + 5 * h + t % 3) - 48) t) hI (by rw [show (6 * h + t) / 6 = h by omega, show (6 * h + t) % 3 = t % 3 by omega, show (6 * h + t) % 6 = t by omega])
                    rw [show h * 6 + t = 6 * h + t by omega]
                    exact h9
              refine r_pl [(0, .ref (base + 3)), (1, .ref (base + 1)), (2, .int (nI (h))), (3, .int (nI (2 + h * 5))), (4, .int (nI (0)))] ⟨rfl, rfl, rfl, rfl, rfl, trivial⟩ ?_
              obtain rfl : i = 3 := by omega
              exact lt 7 0 Mv (by omega) (by omega) hI
            · replace c57 : ¬ 3 ≤ i := fun h => c57 ((nI_leI (by omega) (by omega)).mpr h)
              refine r_aload_n (q := 61) (i := 0) (j := 0) (x := base + 3) X rfl rfl dX4_takeFrom_60 rfl ?_
              refine r_getf (q := 64) (i := 3) (v := .ref (base + 5)) X fk_X4_15 kh_3 rfl rfl dX4_takeFrom_61 rfl ?_
              refine r_iload_n (q := 65) (i := 2) (j := 2) (x := nI (h)) X rfl rfl dX4_takeFrom_64 rfl ?_
              refine r_iconst (q := 66) (v := nI 3) X kc_3 dX4_takeFrom_65 rfl ?_
              refine r_imulR (q := 67) (x := nI (h)) (y := nI 3) (v := nI (h * 3)) X (pk_mul _ _) dX4_takeFrom_66 rfl ?_
              refine r_iload (q := 69) (i := 4) (x := nI (i)) X rfl dX4_takeFrom_67 rfl ?_
              refine r_iaddR (q := 70) (x := nI (h * 3)) (y := nI (i)) (v := nI ((h * 3) + i)) X (nI_add _ _) dX4_takeFrom_69 rfl ?_
              refine r_aload_n (q := 71) (i := 1) (j := 1) (x := base + 1) X rfl rfl dX4_takeFrom_70 rfl ?_
              refine r_iload_n (q := 72) (i := 3) (j := 3) (x := nI (2 + h * 5)) X rfl rfl dX4_takeFrom_71 rfl ?_
              refine r_iconst (q := 73) (v := nI 2) X kc_2 dX4_takeFrom_72 rfl ?_
              refine r_iaddR (q := 74) (x := nI (2 + h * 5)) (y := nI 2) (v := nI ((2 + h * 5) + 2)) X (nI_add _ _) dX4_takeFrom_73 rfl ?_
              refine r_iload (q := 76) (i := 4) (x := nI (i)) X rfl dX4_takeFrom_74 rfl ?_
              refine r_iaddR (q := 77) (x := nI ((2 + h * 5) + 2)) (y := nI (i)) (v := nI (((2 + h * 5) + 2) + i)) X (nI_add _ _) dX4_takeFrom_76 rfl ?_
              refine r_callVi (q := 80) X (c_digitAt K.2.1 G base Mv Lx (((2 + h * 5) + 2) + i) (by rw [hI.1 1 (by decide) (by decide) (by decide) (by decide)]; omega) (by rw [hI.1 1 (by decide) (by decide) (by decide) (by decide)]; exact hlen)) kh_1 rfl ks_RX4_28 (by decide) (by decide) ⟨Nat.zero_le _, Nat.zero_le _⟩ rfl (Nat.le_of_ble_eq_true rfl) dX4_takeFrom_77 rfl (fun r M1 L1 hp => ?_)
              obtain ⟨e1, e2, e3⟩ := hp
              rw [show Mv 2 = Mx 2 from hI.1 2 (by decide) (by decide) (by decide) (by decide)] at e1
              rw [show ((2 + h * 5) + 2) + i = 4 + 5 * h + i by omega, pk_sub (okT_d hok (by omega) (by omega) (by omega)).1] at e1
              subst e1
              replace e2 := e2.symm
              subst e2
              replace e3 := e3.symm
              subst e3
              refine r_iast (q := 81) (i := 5) (j := (h * 3) + i) (v := Mx 2 (4 + 5 * h + i) - 48) X kh_5 (by omega) (Nat.le_of_ble_eq_true rfl) dX4_takeFrom_80 rfl ?_
              refine r_iinc (q := 84) (i := 4) (x := nI (i)) (v := nI (i + 1)) X rfl (Nat.le_of_ble_eq_true rfl) (kinc 1 rfl) dX4_takeFrom_81 rfl ?_
              refine r_goto (tgt := 54) X (by decide) dX4_takeFrom_84 ?_
              refine r_pl [(0, .ref (base + 3)), (1, .ref (base + 1)), (2, .int (nI (h))), (3, .int (nI (2 + h * 5))), (4, .int (nI (i + 1)))] ⟨rfl, rfl, rfl, rfl, rfl, trivial⟩ ?_
              refine ih2 (i + 1) _ (by omega) (by omega) ?_
              have h9 := tkI_b (v := Mx 2 (4 + 5 * h + i) - 48) hI (by rw [show (3 * h + i) / 3 = h by omega, show (3 * h + i) % 3 = i by omega])
              rw [show h * 3 + i = 3 * h + i by omega]
              exact h9
        refine r_pl [(0, .ref (base + 3)), (1, .ref (base + 1)), (2, .int (nI (h))), (3, .int (nI (2 + h * 5))), (4, .int (nI (0)))] ⟨rfl, rfl, rfl, rfl, rfl, trivial⟩ ?_
        exact li 4 0 _ (by omega) (by omega) (tkI_a hI)
  refine r_pl [(0, .ref (base + 3)), (1, .ref (base + 1))] ⟨rfl, rfl, trivial⟩ ?_
  refine r_aload_n (q := 1) (i := 0) (j := 0) (x := base + 3) X rfl rfl dX4_takeFrom_0 rfl ?_
  refine r_aload_n (q := 2) (i := 1) (j := 1) (x := base + 1) X rfl rfl dX4_takeFrom_1 rfl ?_
  refine r_iconst (q := 3) (v := nI 1) X kc_1 dX4_takeFrom_2 rfl ?_
  refine r_callVi (q := 6) X (c_digitAt K.2.1 G base Mx Lx 1 (by omega) hlen) kh_1 rfl ks_RX4_28 (by decide) (by decide) ⟨Nat.zero_le _, Nat.zero_le _⟩ rfl (Nat.le_of_ble_eq_true rfl) dX4_takeFrom_3 rfl (fun r M1 L1 hp => ?_)
  obtain ⟨e1, e2, e3⟩ := hp
  rw [pk_sub (okT_d hok (by omega) (by omega) (by omega)).1] at e1
  subst e1
  replace e2 := e2.symm
  subst e2
  replace e3 := e3.symm
  subst e3
  refine r_puti (q := 9) (i := 3) (n := Mx 2 1 - 48) X fk_X4_25 kp_X4_4 kh_3 rfl dX4_takeFrom_6 rfl ?_
  refine r_aload_n (q := 10) (i := 0) (j := 0) (x := base + 3) X rfl rfl dX4_takeFrom_9 rfl ?_
  refine r_aload_n (q := 11) (i := 1) (j := 1) (x := base + 1) X rfl rfl dX4_takeFrom_10 rfl ?_
  refine r_callVi (q := 14) X (c_housesTold K.2.1 G base _ Lx (by rw [up2_o (by decide)]; omega) (by rw [up2_o (by decide)]; exact hlen)) kh_1 rfl ks_RX4_34 (by decide) (by decide) ⟨Nat.zero_le _, Nat.zero_le _⟩ rfl (Nat.le_of_ble_eq_true rfl) dX4_takeFrom_11 rfl (fun r M1 L1 hp => ?_)
  rw [up2_o (by decide)] at hp
  obtain ⟨e1, e2, e3⟩ := hp
  subst e1
  replace e2 := e2.symm
  subst e2
  replace e3 := e3.symm
  subst e3
  refine r_bipush (q := 16) (v := nI 6) X kb_6 dX4_takeFrom_14 rfl ?_
  refine r_min (q := 19) (v := nI (((Mx 1 1 - 2) / 5))) X (by rw [k_min (by omega) (by decide), Nat.min_eq_left (by omega)]) km_RX4_38 ⟨Nat.zero_le _, Nat.zero_le _⟩ (by decide) (Nat.le_of_ble_eq_true rfl) dX4_takeFrom_16 rfl ?_
  refine r_puti (q := 22) (i := 3) (n := ((Mx 1 1 - 2) / 5)) X fk_X4_21 kp_X4_3 kh_3 rfl dX4_takeFrom_19 rfl ?_
  refine r_iconst (q := 23) (v := nI 0) X kc_0 dX4_takeFrom_22 rfl ?_
  refine r_istore_n (q := 24) (i := 2) (j := 2) X rfl (Nat.le_of_ble_eq_true rfl) dX4_takeFrom_23 rfl ?_
  refine r_pl [(0, .ref (base + 3)), (1, .ref (base + 1)), (2, .int (nI (0)))] ⟨rfl, rfl, rfl, trivial⟩ ?_
  refine lp 7 0 _ (by omega) (by omega) ⟨fun r e3 e4 e5 e6 => by funext k; rw [up2_o e3, up2_o e3], by simp [up2], by simp [up2], fun q hq => absurd hq (Nat.not_lt_zero _), fun q hq => absurd hq (Nat.not_lt_zero _), fun q hq => absurd hq (Nat.not_lt_zero _), fun q hq => by rw [up2_o (by decide), up2_o (by decide)]⟩
theorem kone_shl (n : Nat) : 1 ≤ 1 <<< n := by rw [Nat.one_shiftLeft]; exact Nat.one_le_two_pow
def bg6 (Mx : ks_M) : ks_M := up2 (up2 (up2 (up2 (up2 (up2 (up2 Mx 7 0 0) 7 1 (Mx 3 4)) 7 2 0) 7 3 0) 7 4 (1 <<< Mx 3 3 - 1)) 7 5 0) 7 6 0
set_option maxHeartbeats 8000000 in
theorem c_begin (l : Launch) (G : ks_G) (base : Nat) (Mx : ks_M) (Lx : ks_L) (hn : Mx 3 3 ≤ 6) : KV l G base 0 0 0 yX3_begin cX3_begin 2 [.ref (base + 7), .ref (base + 3)] SH SH Mx Lx (fun M1 L1 => M1 = bg6 Mx ∧ L1 = Lx) := by
  refine k_metv (by decide) (Nat.le_of_ble_eq_true rfl) (fun K hK hRm X Y => ?_)
  subst hK
  refine r_pl [(0, .ref (base + 7)), (1, .ref (base + 3))] ⟨rfl, rfl, trivial⟩ ?_
  refine r_aload_n (q := 1) (i := 0) (j := 0) (x := base + 7) X rfl rfl dX3_begin_0 rfl ?_
  refine r_iconst (q := 2) (v := nI 0) X kc_0 dX3_begin_1 rfl ?_
  refine r_puti (q := 5) (i := 7) (n := 0) X fk_X3_9 kp_X3_0 kh_7 rfl dX3_begin_2 rfl ?_
  refine r_aload_n (q := 6) (i := 0) (j := 0) (x := base + 7) X rfl rfl dX3_begin_5 rfl ?_
  refine r_aload_n (q := 7) (i := 1) (j := 1) (x := base + 3) X rfl rfl dX3_begin_6 rfl ?_
  refine r_getf (q := 10) (i := 3) (v := .int (nI (Mx 3 4))) X fk_X3_33 kh_3 rfl (by simp [ks_v, up2]) dX3_begin_7 rfl ?_
  refine r_puti (q := 13) (i := 7) (n := Mx 3 4) X fk_X3_15 kp_X3_1 kh_7 rfl dX3_begin_10 rfl ?_
  refine r_aload_n (q := 14) (i := 0) (j := 0) (x := base + 7) X rfl rfl dX3_begin_13 rfl ?_
  refine r_iconst (q := 15) (v := nI 0) X kc_0 dX3_begin_14 rfl ?_
  refine r_puti (q := 18) (i := 7) (n := 0) X fk_X3_18 kp_X3_2 kh_7 rfl dX3_begin_15 rfl ?_
  refine r_aload_n (q := 19) (i := 0) (j := 0) (x := base + 7) X rfl rfl dX3_begin_18 rfl ?_
  refine r_iconst (q := 20) (v := nI 0) X kc_0 dX3_begin_19 rfl ?_
  refine r_puti (q := 23) (i := 7) (n := 0) X fk_X3_21 kp_X3_3 kh_7 rfl dX3_begin_20 rfl ?_
  refine r_aload_n (q := 24) (i := 0) (j := 0) (x := base + 7) X rfl rfl dX3_begin_23 rfl ?_
  refine r_iconst (q := 25) (v := nI 1) X kc_1 dX3_begin_24 rfl ?_
  refine r_aload_n (q := 26) (i := 1) (j := 1) (x := base + 3) X rfl rfl dX3_begin_25 rfl ?_
  refine r_getf (q := 29) (i := 3) (v := .int (nI (Mx 3 3))) X fk_X3_36 kh_3 rfl (by simp [ks_v, up2]) dX3_begin_26 rfl ?_
  refine r_ishlR (q := 30) (x := nI 1) (y := nI (Mx 3 3)) (v := nI (1 <<< (Mx 3 3))) X (k_shl (by omega)) dX3_begin_29 rfl ?_
  refine r_iconst (q := 31) (v := nI 1) X kc_1 dX3_begin_30 rfl ?_
  refine r_isubR (q := 32) (x := nI (1 <<< (Mx 3 3))) (y := nI 1) (v := nI ((1 <<< (Mx 3 3)) - 1)) X (pk_sub (kone_shl _)) dX3_begin_31 rfl ?_
  refine r_puti (q := 35) (i := 7) (n := (1 <<< (Mx 3 3)) - 1) X fk_X3_24 kp_X3_4 kh_7 rfl dX3_begin_32 rfl ?_
  refine r_aload_n (q := 36) (i := 0) (j := 0) (x := base + 7) X rfl rfl dX3_begin_35 rfl ?_
  refine r_iconst (q := 37) (v := nI 0) X kc_0 dX3_begin_36 rfl ?_
  refine r_puti (q := 40) (i := 7) (n := 0) X fk_X3_27 kp_X3_5 kh_7 rfl dX3_begin_37 rfl ?_
  refine r_aload_n (q := 41) (i := 0) (j := 0) (x := base + 7) X rfl rfl dX3_begin_40 rfl ?_
  refine r_iconst (q := 42) (v := nI 0) X kc_0 dX3_begin_41 rfl ?_
  refine r_puti (q := 45) (i := 7) (n := 0) X fk_X3_30 kp_X3_6 kh_7 rfl dX3_begin_42 rfl ?_
  refine r_vret X Y ?_ dX3_begin_45
  exact ⟨rfl, rfl⟩
set_option maxHeartbeats 8000000 in
theorem c6_street (l : Launch) (G : ks_G) (base : Nat) (Mx : ks_M) (Lx : ks_L) (hlen : Mx 1 1 ≤ 48) (hby : ∀ k, k < Mx 1 1 → Mx 2 k < 256) : KI l G base 5 yX6_street cX6_street 1 .int [.ref (base + 0)] SH Mx Lx (fun rr M1 L1 => ((rr = (-3) ∧ ¬ okT (Mx 2) (Mx 1 1) ∧ M1 = Mx) ∨ (okT (Mx 2) (Mx 1 1) ∧ rr = nI ((Mx 1 1 - 2) / 5) ∧ ∃ Mv, tkI Mx Mv ((Mx 1 1 - 2) / 5) ((Mx 1 1 - 2) / 5) (3 * ((Mx 1 1 - 2) / 5)) (6 * ((Mx 1 1 - 2) / 5)) ∧ M1 = up2 (up2 (bg6 Mv) 9 2 0) 0 9 0)) ∧ L1 = Lx) := by
  refine k_meti (by decide) (Nat.le_of_ble_eq_true rfl) (fun K hK X Y => ?_)
  subst hK
  refine r_pl [(0, .ref (base + 0))] ⟨rfl, trivial⟩ ?_
  refine r_aload_n (q := 1) (i := 0) (j := 0) (x := base + 0) X rfl rfl dX6_street_0 rfl ?_
  refine r_getf (q := 4) (i := 0) (v := .ref (base + 1)) X fk_X6_10 kh_0 rfl rfl dX6_street_1 rfl ?_
  refine r_callVi (q := 7) X (c_firstFault K.2.1 G base Mx Lx hlen hby) kh_1 rfl ks_RX6_81 (by decide) (by decide) ⟨Nat.zero_le _, Nat.zero_le _⟩ rfl (Nat.le_of_ble_eq_true rfl) dX6_street_4 rfl (fun r M1 L1 hp => ?_)
  rcases hp with ⟨v, e1, hv, hbad, hp2⟩ | ⟨e1, hok, hp2⟩
  · subst e1
    obtain ⟨e2, e3⟩ := hp2
    replace e2 := e2.symm
    subst e2
    replace e3 := e3.symm
    subst e3
    refine r_bipush (q := 9) (v := (-9)) X kb_m9 dX6_street_7 rfl ?_
    refine r_icmp_eq (q := 12) (tgt := 15) X (by decide) dX6_street_9 rfl (fun c9 => ?_) (fun c9 => ?_)
    · skip
      exact absurd c9 (k_ne9 (by omega))
    · skip
      refine r_bipush (q := 14) (v := (-3)) X kb_m3 dX6_street_12 rfl ?_
      refine r_iret X Y ?_ dX6_street_14
      exact ⟨Or.inl ⟨rfl, fun h => by rcases hbad with ⟨hb1, hb2⟩; rcases hb2 with ⟨hb3, hb4⟩ | ⟨hb3, hb4⟩; exact hb4 (h.1 v hb3); exact hb4 h, rfl⟩, rfl⟩
  · subst e1
    obtain ⟨e2, e3⟩ := hp2
    replace e2 := e2.symm
    subst e2
    replace e3 := e3.symm
    subst e3
    refine r_bipush (q := 9) (v := (-9)) X kb_m9 dX6_street_7 rfl ?_
    refine r_icmp_eq (q := 12) (tgt := 15) X (by decide) dX6_street_9 rfl (fun c9 => ?_) (fun c9 => ?_)
    · skip
      refine r_aload_n (q := 16) (i := 0) (j := 0) (x := base + 0) X rfl rfl dX6_street_15 rfl ?_
      refine r_getf (q := 19) (i := 0) (v := .ref (base + 3)) X fk_X6_19 kh_0 rfl rfl dX6_street_16 rfl ?_
      refine r_aload_n (q := 20) (i := 0) (j := 0) (x := base + 0) X rfl rfl dX6_street_19 rfl ?_
      refine r_getf (q := 23) (i := 0) (v := .ref (base + 1)) X fk_X6_10 kh_0 rfl rfl dX6_street_20 rfl ?_
      refine r_callVv (q := 26) X (c_takeFrom K.2.1 G base Mx Lx hlen hok) kh_3 rfl ks_RX6_85 (by decide) (by decide) ⟨Nat.zero_le _, Nat.zero_le _⟩ rfl (Nat.le_of_ble_eq_true rfl) dX6_street_23 rfl (fun M1 L1 hp => ?_)
      obtain ⟨hI, e3⟩ := hp
      replace e3 := e3.symm
      subst e3
      have hn6 := okT_n hok
      refine r_aload_n (q := 27) (i := 0) (j := 0) (x := base + 0) X rfl rfl dX6_street_26 rfl ?_
      refine r_getf (q := 30) (i := 0) (v := .ref (base + 7)) X fk_X6_26 kh_0 rfl rfl dX6_street_27 rfl ?_
      refine r_aload_n (q := 31) (i := 0) (j := 0) (x := base + 0) X rfl rfl dX6_street_30 rfl ?_
      refine r_getf (q := 34) (i := 0) (v := .ref (base + 3)) X fk_X6_19 kh_0 rfl rfl dX6_street_31 rfl ?_
      refine r_callVv (q := 37) X (c_begin K.2.1 G base M1 Lx (by rw [hI.2.1]; exact hn6)) kh_7 rfl ks_RX6_89 (by decide) (by decide) ⟨Nat.zero_le _, Nat.zero_le _⟩ rfl (Nat.le_of_ble_eq_true rfl) dX6_street_34 rfl (fun M1 L1 hp => ?_)
      obtain ⟨e2, e3⟩ := hp
      replace e2 := e2.symm
      subst e2
      replace e3 := e3.symm
      subst e3
      refine r_aload_n (q := 38) (i := 0) (j := 0) (x := base + 0) X rfl rfl dX6_street_37 rfl ?_
      refine r_getf (q := 41) (i := 0) (v := .ref (base + 9)) X fk_X6_36 kh_0 rfl rfl dX6_street_38 rfl ?_
      refine r_iconst (q := 42) (v := nI 0) X kc_0 dX6_street_41 rfl ?_
      refine r_puti (q := 45) (i := 9) (n := 0) X fk_X6_93 kp_X0_2 kh_9 rfl dX6_street_42 rfl ?_
      refine r_aload_n (q := 46) (i := 0) (j := 0) (x := base + 0) X rfl rfl dX6_street_45 rfl ?_
      refine r_iconst (q := 47) (v := nI 0) X kc_0 dX6_street_46 rfl ?_
      refine r_puti (q := 50) (i := 0) (n := 0) X fk_X6_66 kp_X6_9 kh_0 rfl dX6_street_47 rfl ?_
      refine r_aload_n (q := 51) (i := 0) (j := 0) (x := base + 0) X rfl rfl dX6_street_50 rfl ?_
      refine r_getf (q := 54) (i := 0) (v := .ref (base + 3)) X fk_X6_19 kh_0 rfl rfl dX6_street_51 rfl ?_
      refine r_getf (q := 57) (i := 3) (v := .int (nI (((Mx 1 1 - 2) / 5)))) X fk_X6_96 kh_3 rfl (kv (by simp [up2, bg6]; exact hI.2.1)) dX6_street_54 rfl ?_
      refine r_iret X Y ?_ dX6_street_57
      exact ⟨Or.inr ⟨hok, rfl, _, hI, rfl⟩, rfl⟩
    · skip
      exact absurd rfl c9
