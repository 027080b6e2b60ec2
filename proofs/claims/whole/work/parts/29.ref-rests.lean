/-! RESTS of the reference -/
def V7 (M : ks_M) (a : Nat) : Nat := sg7 M (M 49) a (M 49 2)
def fm7 (M : ks_M) (s : Nat × Nat) : ks_M := up2 (up2 M 44 25 s.1) 44 26 s.2
theorem fm7_n (M : ks_M) (s : Nat × Nat) (c f : Nat) : up2 (up2 (fm7 M s) 44 26 f) 44 25 c = fm7 M (c, f) := by
  funext a b
  by_cases h : a = 44
  · by_cases h1 : b = 25
    · simp [fm7, up2, h, h1]
    · by_cases h2 : b = 26 <;> simp [fm7, up2, h, h1, h2]
  · simp [fm7, up2, h]
theorem fm7_o {M : ks_M} {s : Nat × Nat} {a : Nat} (h : a ≠ 44) : fm7 M s a = M a := by funext b; simp [fm7, up2, h]
theorem fm7_k {M : ks_M} {s : Nat × Nat} {c : Nat} (h : c ≠ 25) (h2 : c ≠ 26) : fm7 M s 44 c = M 44 c := by simp [fm7, up2, h, h2]
theorem V7_fm (M : ks_M) (s : Nat × Nat) : V7 (fm7 M s) = V7 M := by
  funext a
  unfold V7
  rw [fm7_o (by decide : 49 ≠ 44), sg7_eq (M := M) (fm7_o (by decide)) (fm7_o (by decide))]
theorem V7_lt {M : ks_M} (h : ∀ k, M 47 k < 10) (a : Nat) : V7 M a < 1000 := by
  unfold V7 sg7 shw
  have := h (3 * a + M 49 2 % 3)
  (repeat' split) <;> omega
set_option maxHeartbeats 8000000 in
theorem c_holds (l : Launch) (G : ks_G) (base : Nat) (Mx : ks_M) (Lx : ks_L) (a b : Nat) (ha : a < 6) (hb : b < 6) (hn : Mx 44 4 ≤ 6) (h2 : Mx 49 2 < 100000) (h4 : Mx 49 4 < 64) (h5 : Mx 49 5 < 64) (hs : ∀ k, Mx 46 k < 4) (hw : ∀ k, Mx 47 k < 10) : KI l G base 2 yX7_holds cX7_holds 4 .int [.ref (base + 44), .int (nI (a)), .int (nI (b))] SH Mx Lx (fun rr M1 L1 => rr = nI (rj (V7 Mx) a b) ∧ M1 = Mx ∧ L1 = Lx) := by
  refine k_meti (by decide) (Nat.le_of_ble_eq_true rfl) (fun K hK X Y => ?_)
  subst hK
  refine r_pl [(0, .ref (base + 44)), (1, .int (nI (a))), (2, .int (nI (b)))] ⟨rfl, rfl, rfl, trivial⟩ ?_
  refine r_aload_n (q := 1) (i := 0) (j := 0) (x := base + 44) X rfl rfl dX7_holds_0 rfl ?_
  refine r_aload_n (q := 2) (i := 0) (j := 0) (x := base + 44) X rfl rfl dX7_holds_1 rfl ?_
  refine r_getf (q := 5) (i := 44) (v := .ref (base + 49)) X fk_X7_22 kh_44 rfl rfl dX7_holds_2 rfl ?_
  refine r_iload_n (q := 6) (i := 1) (j := 1) (x := nI (a)) X rfl rfl dX7_holds_5 rfl ?_
  refine r_aload_n (q := 7) (i := 0) (j := 0) (x := base + 44) X rfl rfl dX7_holds_6 rfl ?_
  refine r_getf (q := 10) (i := 44) (v := .ref (base + 49)) X fk_X7_22 kh_44 rfl rfl dX7_holds_7 rfl ?_
  refine r_iconst (q := 11) (v := nI 2) X kc_2 dX7_holds_10 rfl ?_
  refine r_iald (q := 12) (i := 49) (j := 2) (v := Mx 49 2) X kh_49 (by omega) (Nat.le_of_ble_eq_true rfl) rfl dX7_holds_11 rfl ?_
  refine r_callVi (q := 15) X (c_sight7 K.2.1 G base Mx Lx 49 a (Mx 49 2) kh_49 ha (by omega) (by omega) (by omega) (by have := hs a; omega) (fun q => by have := hw q; omega)) kh_44 rfl ks_RX7_117 (by decide) (by decide) ⟨Nat.zero_le _, Nat.zero_le _⟩ rfl (Nat.le_of_ble_eq_true rfl) dX7_holds_12 rfl (fun r M1 L1 hp => ?_)
  obtain ⟨e1, e2, e3⟩ := hp
  subst e1
  replace e2 := e2.symm
  subst e2
  replace e3 := e3.symm
  subst e3
  refine r_istore_n (q := 16) (i := 3) (j := 3) X rfl (Nat.le_of_ble_eq_true rfl) dX7_holds_15 rfl ?_
  refine r_iload_n (q := 17) (i := 1) (j := 1) (x := nI (a)) X rfl rfl dX7_holds_16 rfl ?_
  refine r_iload_n (q := 18) (i := 2) (j := 2) (x := nI (b)) X rfl rfl dX7_holds_17 rfl ?_
  have hv := V7_lt hw a
  refine r_icmp_ne (q := 21) (tgt := 27) X (by decide) dX7_holds_18 rfl (fun c18 => ?_) (fun c18 => ?_)
  · replace c18 : ¬ a = b := fun h => c18 ((kI_eq (by omega) (by omega)).mpr h)
    refine r_iload_n (q := 28) (i := 3) (j := 3) (x := nI (V7 Mx a)) X rfl rfl dX7_holds_27 rfl ?_
    refine r_iret X Y ?_ dX7_holds_28
    exact ⟨by unfold rj; first | rw [if_pos (by assumption)] | rw [if_neg (by assumption)], rfl, rfl⟩
  · replace c18 : a = b := (kI_eq (by omega) (by omega)).mp c18
    refine r_iload_n (q := 22) (i := 3) (j := 3) (x := nI (V7 Mx a)) X rfl rfl dX7_holds_21 rfl ?_
    refine r_iconst (q := 23) (v := nI 2) X kc_2 dX7_holds_22 rfl ?_
    refine r_idivR (q := 24) (x := nI (V7 Mx a)) (y := nI 2) (v := nI ((V7 Mx a) / 2)) X (by decide) (pk_div (by omega) (by omega) (by omega)) dX7_holds_23 rfl ?_
    refine r_goto (tgt := 28) X (by decide) dX7_holds_24 ?_
    refine r_iret X Y ?_ dX7_holds_28
    exact ⟨by unfold rj; first | rw [if_pos (by assumption)] | rw [if_neg (by assumption)], rfl, rfl⟩
set_option maxHeartbeats 8000000 in
theorem c_findRests (l : Launch) (G : ks_G) (base : Nat) (Mx : ks_M) (Lx : ks_L) (hn : Mx 44 4 ≤ 6) (h2 : Mx 49 2 < 100000) (h4 : Mx 49 4 < 64) (h5 : Mx 49 5 < 64) (hs : ∀ k, Mx 46 k < 4) (hw : ∀ k, Mx 47 k < 10) : KV l G base 3 0 0 yX7_findRests cX7_findRests 5 [.ref (base + 44)] SH SH Mx Lx (fun M1 L1 => M1 = fm7 Mx (rr2 (V7 Mx) (Mx 44 4) (Mx 44 4)) ∧ L1 = Lx) := by
  refine k_metv (by decide) (Nat.le_of_ble_eq_true rfl) (fun K hK hRm X Y => ?_)
  subst hK
  have lp : ∀ (fuel : Nat) (a : Nat), Mx 44 4 - a < fuel → (a ≤ Mx 44 4) → RN K G base 5 0 0 SH ((fm7 Mx (rr2 (V7 Mx) (Mx 44 4) a))) Lx 13 [(0, .ref (base + 44)), (1, .int (nI (a)))] [] := by
    intro fuel
    induction fuel with
    | zero => intro a hfu; exact absurd hfu (Nat.not_lt_zero _)
    | succ fuel ih =>
      intro a hfu ha
      refine r_iload_n (q := 14) (i := 1) (j := 1) (x := nI (a)) X rfl rfl dX7_findRests_13 rfl ?_
      refine r_aload_n (q := 15) (i := 0) (j := 0) (x := base + 44) X rfl rfl dX7_findRests_14 rfl ?_
      refine r_getf (q := 18) (i := 44) (v := .int (nI (Mx 44 4))) X fk_X7_63 kh_44 rfl (kv (fm7_k (by decide) (by decide))) dX7_findRests_15 rfl ?_
      refine r_icmp_ge (q := 21) (tgt := 151) X (by decide) dX7_findRests_18 rfl (fun c18 => ?_) (fun c18 => ?_)
      · replace c18 : (Mx 44 4) ≤ a := (nI_leI (by omega) (by omega)).mp c18
        refine r_vret X Y ?_ dX7_findRests_151
        have ha9 : a = Mx 44 4 := by omega
        rw [ha9]
        exact ⟨rfl, rfl⟩
      · replace c18 : ¬ (Mx 44 4) ≤ a := fun h => c18 ((nI_leI (by omega) (by omega)).mpr h)
        refine r_iconst (q := 22) (v := nI 0) X kc_0 dX7_findRests_21 rfl ?_
        refine r_istore_n (q := 23) (i := 2) (j := 2) X rfl (Nat.le_of_ble_eq_true rfl) dX7_findRests_22 rfl ?_
        have lb : ∀ (fuel2 : Nat) (b : Nat), Mx 44 4 - b < fuel2 → (b ≤ Mx 44 4) → RN K G base 5 0 0 SH ((fm7 Mx (rr1 (V7 Mx) (Mx 44 4) a b (rr2 (V7 Mx) (Mx 44 4) a)))) Lx 23 [(0, .ref (base + 44)), (1, .int (nI (a))), (2, .int (nI (b)))] [] := by
          intro fuel2
          induction fuel2 with
          | zero => intro b hfu2; exact absurd hfu2 (Nat.not_lt_zero _)
          | succ fuel2 ih2 =>
            intro b hfu2 hb
            refine r_iload_n (q := 24) (i := 2) (j := 2) (x := nI (b)) X rfl rfl dX7_findRests_23 rfl ?_
            refine r_aload_n (q := 25) (i := 0) (j := 0) (x := base + 44) X rfl rfl dX7_findRests_24 rfl ?_
            refine r_getf (q := 28) (i := 44) (v := .int (nI (Mx 44 4))) X fk_X7_63 kh_44 rfl (kv (fm7_k (by decide) (by decide))) dX7_findRests_25 rfl ?_
            refine r_icmp_ge (q := 31) (tgt := 145) X (by decide) dX7_findRests_28 rfl (fun c28 => ?_) (fun c28 => ?_)
            · replace c28 : (Mx 44 4) ≤ b := (nI_leI (by omega) (by omega)).mp c28
              refine r_iinc (q := 148) (i := 1) (x := nI (a)) (v := nI (a + 1)) X rfl (Nat.le_of_ble_eq_true rfl) (kinc 1 rfl) dX7_findRests_145 rfl ?_
              refine r_goto (tgt := 13) X (by decide) dX7_findRests_148 ?_
              refine r_pl [(0, .ref (base + 44)), (1, .int (nI (a + 1)))] ⟨rfl, rfl, trivial⟩ ?_
              have hb9 : b = Mx 44 4 := by omega
              rw [hb9]
              exact ih (a + 1) (by omega) (by omega)
            · replace c28 : ¬ (Mx 44 4) ≤ b := fun h => c28 ((nI_leI (by omega) (by omega)).mpr h)
              refine r_iconst (q := 32) (v := nI 1) X kc_1 dX7_findRests_31 rfl ?_
              refine r_istore_n (q := 33) (i := 3) (j := 3) X rfl (Nat.le_of_ble_eq_true rfl) dX7_findRests_32 rfl ?_
              refine r_iconst (q := 34) (v := nI 0) X kc_0 dX7_findRests_33 rfl ?_
              refine r_istore (q := 36) (i := 4) X (Nat.le_of_ble_eq_true rfl) dX7_findRests_34 rfl ?_
              have lk : ∀ (fuel3 : Nat) (k : Nat) (z : Nat), Mx 44 4 - k < fuel3 → (k ≤ Mx 44 4) → (z < 2) → (z = 1 ↔ ∀ q, q < k → rj (V7 Mx) q b ≤ rj (V7 Mx) a b ∧ rj (V7 Mx) q a ≤ rj (V7 Mx) b a) → RN K G base 5 0 0 SH ((fm7 Mx (rr1 (V7 Mx) (Mx 44 4) a b (rr2 (V7 Mx) (Mx 44 4) a)))) Lx 36 [(0, .ref (base + 44)), (1, .int (nI (a))), (2, .int (nI (b))), (3, .int (nI (z))), (4, .int (nI (k)))] [] := by
                intro fuel3
                induction fuel3 with
                | zero => intro k z hfu3; exact absurd hfu3 (Nat.not_lt_zero _)
                | succ fuel3 ih3 =>
                  intro k z hfu3 hk hz2 hz
                  refine r_iload (q := 38) (i := 4) (x := nI (k)) X rfl dX7_findRests_36 rfl ?_
                  refine r_aload_n (q := 39) (i := 0) (j := 0) (x := base + 44) X rfl rfl dX7_findRests_38 rfl ?_
                  refine r_getf (q := 42) (i := 44) (v := .int (nI (Mx 44 4))) X fk_X7_63 kh_44 rfl (kv (fm7_k (by decide) (by decide))) dX7_findRests_39 rfl ?_
                  refine r_icmp_ge (q := 45) (tgt := 93) X (by decide) dX7_findRests_42 rfl (fun c42 => ?_) (fun c42 => ?_)
                  · replace c42 : (Mx 44 4) ≤ k := (nI_leI (by omega) (by omega)).mp c42
                    refine r_aload_n (q := 94) (i := 0) (j := 0) (x := base + 44) X rfl rfl dX7_findRests_93 rfl ?_
                    refine r_iload_n (q := 95) (i := 3) (j := 3) (x := nI (z)) X rfl rfl dX7_findRests_94 rfl ?_
                    refine r_if_eq (q := 98) (tgt := 114) X (by decide) dX7_findRests_95 rfl (fun c95 => ?_) (fun c95 => ?_)
                    · replace c95 : z = 0 := (kI_eq0 (by omega)).mp c95
                      refine r_aload_n (q := 115) (i := 0) (j := 0) (x := base + 44) X rfl rfl dX7_findRests_114 rfl ?_
                      refine r_getf (q := 118) (i := 44) (v := .int (nI ((rr1 (V7 Mx) (Mx 44 4) a b (rr2 (V7 Mx) (Mx 44 4) a)).2))) X fk_X7_176 kh_44 rfl (kv (by simp [fm7, up2])) dX7_findRests_115 rfl ?_
                      refine r_puti (q := 121) (i := 44) (n := (rr1 (V7 Mx) (Mx 44 4) a b (rr2 (V7 Mx) (Mx 44 4) a)).2) X fk_X7_176 kp_X7_26 kh_44 rfl dX7_findRests_118 rfl ?_
                      refine r_aload_n (q := 122) (i := 0) (j := 0) (x := base + 44) X rfl rfl dX7_findRests_121 rfl ?_
                      refine r_dup (q := 123) X rfl dX7_findRests_122 rfl ?_
                      refine r_getf (q := 126) (i := 44) (v := .int (nI ((rr1 (V7 Mx) (Mx 44 4) a b (rr2 (V7 Mx) (Mx 44 4) a)).1))) X fk_X7_173 kh_44 rfl (kv (by simp [fm7, up2])) dX7_findRests_123 rfl ?_
                      refine r_iload_n (q := 127) (i := 3) (j := 3) (x := nI (z)) X rfl rfl dX7_findRests_126 rfl ?_
                      refine r_if_eq (q := 130) (tgt := 134) X (by decide) dX7_findRests_127 rfl (fun c127 => ?_) (fun c127 => ?_)
                      · replace c127 : z = 0 := (kI_eq0 (by omega)).mp c127
                        refine r_iconst (q := 135) (v := nI 0) X kc_0 dX7_findRests_134 rfl ?_
                        refine r_iaddR (q := 136) (x := nI ((rr1 (V7 Mx) (Mx 44 4) a b (rr2 (V7 Mx) (Mx 44 4) a)).1)) (y := nI 0) (v := nI (((rr1 (V7 Mx) (Mx 44 4) a b (rr2 (V7 Mx) (Mx 44 4) a)).1) + 0)) X (nI_add _ _) dX7_findRests_135 rfl ?_
                        refine r_puti (q := 139) (i := 44) (n := ((rr1 (V7 Mx) (Mx 44 4) a b (rr2 (V7 Mx) (Mx 44 4) a)).1) + 0) X fk_X7_173 kp_X7_25 kh_44 rfl dX7_findRests_136 rfl ?_
                        refine r_iinc (q := 142) (i := 2) (x := nI (b)) (v := nI (b + 1)) X rfl (Nat.le_of_ble_eq_true rfl) (kinc 1 rfl) dX7_findRests_139 rfl ?_
                        refine r_goto (tgt := 23) X (by decide) dX7_findRests_142 ?_
                        have hfin : z = 1 ↔ (ctn (V7 Mx) (Mx 44 4) a b = 1 ∧ ctn (V7 Mx) (Mx 44 4) b a = 1) := by
                          rw [hz]; unfold ctn
                          constructor
                          · intro h9; exact ⟨if_pos (fun h hh => (h9 h (by omega)).1), if_pos (fun h hh => (h9 h (by omega)).2)⟩
                          · rintro ⟨e1, e2⟩ q hq
                            constructor
                            · split at e1
                              · next h9 => exact h9 q (by omega)
                              · cases e1
                            · split at e2
                              · next h9 => exact h9 q (by omega)
                              · cases e2
                        have es : (rr1 (V7 Mx) (Mx 44 4) a (b + 1) (rr2 (V7 Mx) (Mx 44 4) a)) = (rr1 (V7 Mx) (Mx 44 4) a b (rr2 (V7 Mx) (Mx 44 4) a)) := rst_n (fun h9 => absurd (hfin.mpr h9) (by omega))
                        refine r_pl [(0, .ref (base + 44)), (1, .int (nI (a))), (2, .int (nI (b + 1)))] ⟨rfl, rfl, rfl, trivial⟩ ?_
                        refine r_mem (fm7 Mx (rr1 (V7 Mx) (Mx 44 4) a (b + 1) (rr2 (V7 Mx) (Mx 44 4) a))) ?_ (ih2 (b + 1) (by omega) (by omega))
                        rw [fm7_n, es]; rfl
                      · replace c127 : ¬ z = 0 := fun h => (c127 ((kI_eq0 (by omega)).mpr h))
                        exfalso; omega
                    · replace c95 : ¬ z = 0 := fun h => (c95 ((kI_eq0 (by omega)).mpr h))
                      refine r_aload_n (q := 99) (i := 0) (j := 0) (x := base + 44) X rfl rfl dX7_findRests_98 rfl ?_
                      refine r_getf (q := 102) (i := 44) (v := .int (nI ((rr1 (V7 Mx) (Mx 44 4) a b (rr2 (V7 Mx) (Mx 44 4) a)).1))) X fk_X7_173 kh_44 rfl (kv (by simp [fm7, up2])) dX7_findRests_99 rfl ?_
                      have hs1 := rr1_le (V7 Mx) (Mx 44 4) a (rr2 (V7 Mx) (Mx 44 4) a) b
                      have hs2 := rr2_le (V7 Mx) (Mx 44 4) a
                      have hs3 : a * (Mx 44 4) ≤ 6 * 6 := Nat.mul_le_mul (by omega) hn
                      refine r_if_ne (q := 105) (tgt := 114) X (by decide) dX7_findRests_102 rfl (fun c102 => ?_) (fun c102 => ?_)
                      · replace c102 : ¬ ((rr1 (V7 Mx) (Mx 44 4) a b (rr2 (V7 Mx) (Mx 44 4) a)).1) = 0 := fun h => c102 ((kI_eq0 (by omega)).mpr h)
                        refine r_aload_n (q := 115) (i := 0) (j := 0) (x := base + 44) X rfl rfl dX7_findRests_114 rfl ?_
                        refine r_getf (q := 118) (i := 44) (v := .int (nI ((rr1 (V7 Mx) (Mx 44 4) a b (rr2 (V7 Mx) (Mx 44 4) a)).2))) X fk_X7_176 kh_44 rfl (kv (by simp [fm7, up2])) dX7_findRests_115 rfl ?_
                        refine r_puti (q := 121) (i := 44) (n := (rr1 (V7 Mx) (Mx 44 4) a b (rr2 (V7 Mx) (Mx 44 4) a)).2) X fk_X7_176 kp_X7_26 kh_44 rfl dX7_findRests_118 rfl ?_
                        refine r_aload_n (q := 122) (i := 0) (j := 0) (x := base + 44) X rfl rfl dX7_findRests_121 rfl ?_
                        refine r_dup (q := 123) X rfl dX7_findRests_122 rfl ?_
                        refine r_getf (q := 126) (i := 44) (v := .int (nI ((rr1 (V7 Mx) (Mx 44 4) a b (rr2 (V7 Mx) (Mx 44 4) a)).1))) X fk_X7_173 kh_44 rfl (kv (by simp [fm7, up2])) dX7_findRests_123 rfl ?_
                        refine r_iload_n (q := 127) (i := 3) (j := 3) (x := nI (z)) X rfl rfl dX7_findRests_126 rfl ?_
                        refine r_if_eq (q := 130) (tgt := 134) X (by decide) dX7_findRests_127 rfl (fun c127 => ?_) (fun c127 => ?_)
                        · replace c127 : z = 0 := (kI_eq0 (by omega)).mp c127
                          exfalso; omega
                        · replace c127 : ¬ z = 0 := fun h => (c127 ((kI_eq0 (by omega)).mpr h))
                          refine r_iconst (q := 131) (v := nI 1) X kc_1 dX7_findRests_130 rfl ?_
                          refine r_goto (tgt := 135) X (by decide) dX7_findRests_131 ?_
                          refine r_iaddR (q := 136) (x := nI ((rr1 (V7 Mx) (Mx 44 4) a b (rr2 (V7 Mx) (Mx 44 4) a)).1)) (y := nI 1) (v := nI (((rr1 (V7 Mx) (Mx 44 4) a b (rr2 (V7 Mx) (Mx 44 4) a)).1) + 1)) X (nI_add _ _) dX7_findRests_135 rfl ?_
                          refine r_puti (q := 139) (i := 44) (n := ((rr1 (V7 Mx) (Mx 44 4) a b (rr2 (V7 Mx) (Mx 44 4) a)).1) + 1) X fk_X7_173 kp_X7_25 kh_44 rfl dX7_findRests_136 rfl ?_
                          refine r_iinc (q := 142) (i := 2) (x := nI (b)) (v := nI (b + 1)) X rfl (Nat.le_of_ble_eq_true rfl) (kinc 1 rfl) dX7_findRests_139 rfl ?_
                          refine r_goto (tgt := 23) X (by decide) dX7_findRests_142 ?_
                          have hfin : z = 1 ↔ (ctn (V7 Mx) (Mx 44 4) a b = 1 ∧ ctn (V7 Mx) (Mx 44 4) b a = 1) := by
                            rw [hz]; unfold ctn
                            constructor
                            · intro h9; exact ⟨if_pos (fun h hh => (h9 h (by omega)).1), if_pos (fun h hh => (h9 h (by omega)).2)⟩
                            · rintro ⟨e1, e2⟩ q hq
                              constructor
                              · split at e1
                                · next h9 => exact h9 q (by omega)
                                · cases e1
                              · split at e2
                                · next h9 => exact h9 q (by omega)
                                · cases e2
                          have es : (rr1 (V7 Mx) (Mx 44 4) a (b + 1) (rr2 (V7 Mx) (Mx 44 4) a)) = ((rr1 (V7 Mx) (Mx 44 4) a b (rr2 (V7 Mx) (Mx 44 4) a)).1 + 1, if (rr1 (V7 Mx) (Mx 44 4) a b (rr2 (V7 Mx) (Mx 44 4) a)).1 = 0 then 10 * a + b else (rr1 (V7 Mx) (Mx 44 4) a b (rr2 (V7 Mx) (Mx 44 4) a)).2) := rst_y (hfin.mp (by omega)).1 (hfin.mp (by omega)).2
                          rw [if_neg (by assumption)] at es
                          refine r_pl [(0, .ref (base + 44)), (1, .int (nI (a))), (2, .int (nI (b + 1)))] ⟨rfl, rfl, rfl, trivial⟩ ?_
                          refine r_mem (fm7 Mx (rr1 (V7 Mx) (Mx 44 4) a (b + 1) (rr2 (V7 Mx) (Mx 44 4) a))) ?_ (ih2 (b + 1) (by omega) (by omega))
                          rw [fm7_n, es]
                      · replace c102 : ((rr1 (V7 Mx) (Mx 44 4) a b (rr2 (V7 Mx) (Mx 44 4) a)).1) = 0 := (kI_eq0 (by omega)).mp c102
                        refine r_bipush (q := 107) (v := nI 10) X kb_10 dX7_findRests_105 rfl ?_
                        refine r_iload_n (q := 108) (i := 1) (j := 1) (x := nI (a)) X rfl rfl dX7_findRests_107 rfl ?_
                        refine r_imulR (q := 109) (x := nI 10) (y := nI (a)) (v := nI (10 * a)) X (pk_mul _ _) dX7_findRests_108 rfl ?_
                        refine r_iload_n (q := 110) (i := 2) (j := 2) (x := nI (b)) X rfl rfl dX7_findRests_109 rfl ?_
                        refine r_iaddR (q := 111) (x := nI (10 * a)) (y := nI (b)) (v := nI ((10 * a) + b)) X (nI_add _ _) dX7_findRests_110 rfl ?_
                        refine r_goto (tgt := 118) X (by decide) dX7_findRests_111 ?_
                        refine r_puti (q := 121) (i := 44) (n := (10 * a) + b) X fk_X7_176 kp_X7_26 kh_44 rfl dX7_findRests_118 rfl ?_
                        refine r_aload_n (q := 122) (i := 0) (j := 0) (x := base + 44) X rfl rfl dX7_findRests_121 rfl ?_
                        refine r_dup (q := 123) X rfl dX7_findRests_122 rfl ?_
                        refine r_getf (q := 126) (i := 44) (v := .int (nI ((rr1 (V7 Mx) (Mx 44 4) a b (rr2 (V7 Mx) (Mx 44 4) a)).1))) X fk_X7_173 kh_44 rfl (kv (by simp [fm7, up2])) dX7_findRests_123 rfl ?_
                        refine r_iload_n (q := 127) (i := 3) (j := 3) (x := nI (z)) X rfl rfl dX7_findRests_126 rfl ?_
                        refine r_if_eq (q := 130) (tgt := 134) X (by decide) dX7_findRests_127 rfl (fun c127 => ?_) (fun c127 => ?_)
                        · replace c127 : z = 0 := (kI_eq0 (by omega)).mp c127
                          exfalso; omega
                        · replace c127 : ¬ z = 0 := fun h => (c127 ((kI_eq0 (by omega)).mpr h))
                          refine r_iconst (q := 131) (v := nI 1) X kc_1 dX7_findRests_130 rfl ?_
                          refine r_goto (tgt := 135) X (by decide) dX7_findRests_131 ?_
                          refine r_iaddR (q := 136) (x := nI ((rr1 (V7 Mx) (Mx 44 4) a b (rr2 (V7 Mx) (Mx 44 4) a)).1)) (y := nI 1) (v := nI (((rr1 (V7 Mx) (Mx 44 4) a b (rr2 (V7 Mx) (Mx 44 4) a)).1) + 1)) X (nI_add _ _) dX7_findRests_135 rfl ?_
                          refine r_puti (q := 139) (i := 44) (n := ((rr1 (V7 Mx) (Mx 44 4) a b (rr2 (V7 Mx) (Mx 44 4) a)).1) + 1) X fk_X7_173 kp_X7_25 kh_44 rfl dX7_findRests_136 rfl ?_
                          refine r_iinc (q := 142) (i := 2) (x := nI (b)) (v := nI (b + 1)) X rfl (Nat.le_of_ble_eq_true rfl) (kinc 1 rfl) dX7_findRests_139 rfl ?_
                          refine r_goto (tgt := 23) X (by decide) dX7_findRests_142 ?_
                          have hfin : z = 1 ↔ (ctn (V7 Mx) (Mx 44 4) a b = 1 ∧ ctn (V7 Mx) (Mx 44 4) b a = 1) := by
                            rw [hz]; unfold ctn
                            constructor
                            · intro h9; exact ⟨if_pos (fun h hh => (h9 h (by omega)).1), if_pos (fun h hh => (h9 h (by omega)).2)⟩
                            · rintro ⟨e1, e2⟩ q hq
                              constructor
                              · split at e1
                                · next h9 => exact h9 q (by omega)
                                · cases e1
                              · split at e2
                                · next h9 => exact h9 q (by omega)
                                · cases e2
                          have es : (rr1 (V7 Mx) (Mx 44 4) a (b + 1) (rr2 (V7 Mx) (Mx 44 4) a)) = ((rr1 (V7 Mx) (Mx 44 4) a b (rr2 (V7 Mx) (Mx 44 4) a)).1 + 1, if (rr1 (V7 Mx) (Mx 44 4) a b (rr2 (V7 Mx) (Mx 44 4) a)).1 = 0 then 10 * a + b else (rr1 (V7 Mx) (Mx 44 4) a b (rr2 (V7 Mx) (Mx 44 4) a)).2) := rst_y (hfin.mp (by omega)).1 (hfin.mp (by omega)).2
                          rw [if_pos (by assumption)] at es
                          refine r_pl [(0, .ref (base + 44)), (1, .int (nI (a))), (2, .int (nI (b + 1)))] ⟨rfl, rfl, rfl, trivial⟩ ?_
                          refine r_mem (fm7 Mx (rr1 (V7 Mx) (Mx 44 4) a (b + 1) (rr2 (V7 Mx) (Mx 44 4) a))) ?_ (ih2 (b + 1) (by omega) (by omega))
                          rw [fm7_n, es]
                  · replace c42 : ¬ (Mx 44 4) ≤ k := fun h => c42 ((nI_leI (by omega) (by omega)).mpr h)
                    refine r_iload_n (q := 46) (i := 3) (j := 3) (x := nI (z)) X rfl rfl dX7_findRests_45 rfl ?_
                    refine r_if_eq (q := 49) (tgt := 85) X (by decide) dX7_findRests_46 rfl (fun c46 => ?_) (fun c46 => ?_)
                    · replace c46 : z = 0 := (kI_eq0 (by omega)).mp c46
                      refine r_iconst (q := 86) (v := nI 0) X kc_0 dX7_findRests_85 rfl ?_
                      refine r_istore_n (q := 87) (i := 3) (j := 3) X rfl (Nat.le_of_ble_eq_true rfl) dX7_findRests_86 rfl ?_
                      refine r_iinc (q := 90) (i := 4) (x := nI (k)) (v := nI (k + 1)) X rfl (Nat.le_of_ble_eq_true rfl) (kinc 1 rfl) dX7_findRests_87 rfl ?_
                      refine r_goto (tgt := 36) X (by decide) dX7_findRests_90 ?_
                      refine r_pl [(0, .ref (base + 44)), (1, .int (nI (a))), (2, .int (nI (b))), (3, .int (nI (0))), (4, .int (nI (k + 1)))] ⟨rfl, rfl, rfl, rfl, rfl, trivial⟩ ?_
                      refine ih3 (k + 1) 0 (by omega) (by omega) (by omega) ⟨fun h8 q hq => ?_, fun h8 => ?_⟩
                      · rcases (show q < k ∨ q = k by omega) with h9 | h9
                        · first | exact hz.mp (by omega) q h9 | (exfalso; omega)
                        · subst h9; first | exact ⟨by omega, by omega⟩ | (exfalso; omega)
                      · first | rfl | (exfalso; have h10 := h8 k (by omega); omega) | (exfalso; have h10 := hz.mpr (fun q hq => h8 q (by omega)); omega)
                    · replace c46 : ¬ z = 0 := fun h => (c46 ((kI_eq0 (by omega)).mpr h))
                      refine r_aload_n (q := 50) (i := 0) (j := 0) (x := base + 44) X rfl rfl dX7_findRests_49 rfl ?_
                      refine r_iload (q := 52) (i := 4) (x := nI (k)) X rfl dX7_findRests_50 rfl ?_
                      refine r_iload_n (q := 53) (i := 2) (j := 2) (x := nI (b)) X rfl rfl dX7_findRests_52 rfl ?_
                      refine r_callVi (q := 56) X (c_holds K.2.1 G base (fm7 Mx (rr1 (V7 Mx) (Mx 44 4) a b (rr2 (V7 Mx) (Mx 44 4) a))) Lx k b (by omega) (by omega) (by rw [fm7_k (by decide) (by decide)]; exact hn) (by rw [fm7_o (by decide)]; exact h2) (by rw [fm7_o (by decide)]; exact h4) (by rw [fm7_o (by decide)]; exact h5) (fun q => by rw [fm7_o (by decide)]; exact hs q) (fun q => by rw [fm7_o (by decide)]; exact hw q)) kh_44 rfl ks_RX7_179 (by decide) (by decide) ⟨Nat.zero_le _, Nat.zero_le _⟩ rfl (Nat.le_of_ble_eq_true rfl) dX7_findRests_53 rfl (fun r M1 L1 hp => ?_)
                      rw [V7_fm] at hp
                      obtain ⟨e1, e2, e3⟩ := hp
                      subst e1
                      replace e2 := e2.symm
                      subst e2
                      replace e3 := e3.symm
                      subst e3
                      refine r_aload_n (q := 57) (i := 0) (j := 0) (x := base + 44) X rfl rfl dX7_findRests_56 rfl ?_
                      refine r_iload_n (q := 58) (i := 1) (j := 1) (x := nI (a)) X rfl rfl dX7_findRests_57 rfl ?_
                      refine r_iload_n (q := 59) (i := 2) (j := 2) (x := nI (b)) X rfl rfl dX7_findRests_58 rfl ?_
                      refine r_callVi (q := 62) X (c_holds K.2.1 G base (fm7 Mx (rr1 (V7 Mx) (Mx 44 4) a b (rr2 (V7 Mx) (Mx 44 4) a))) Lx a b (by omega) (by omega) (by rw [fm7_k (by decide) (by decide)]; exact hn) (by rw [fm7_o (by decide)]; exact h2) (by rw [fm7_o (by decide)]; exact h4) (by rw [fm7_o (by decide)]; exact h5) (fun q => by rw [fm7_o (by decide)]; exact hs q) (fun q => by rw [fm7_o (by decide)]; exact hw q)) kh_44 rfl ks_RX7_179 (by decide) (by decide) ⟨Nat.zero_le _, Nat.zero_le _⟩ rfl (Nat.le_of_ble_eq_true rfl) dX7_findRests_59 rfl (fun r M1 L1 hp => ?_)
                      rw [V7_fm] at hp
                      obtain ⟨e1, e2, e3⟩ := hp
                      subst e1
                      replace e2 := e2.symm
                      subst e2
                      replace e3 := e3.symm
                      subst e3
                      have hv1 := rj_lt (V7_lt hw) k b
                      have hv2 := rj_lt (V7_lt hw) a b
                      refine r_icmp_gt (q := 65) (tgt := 85) X (by decide) dX7_findRests_62 rfl (fun c62 => ?_) (fun c62 => ?_)
                      · replace c62 : (rj (V7 Mx) a b) < (rj (V7 Mx) k b) := (nI_ltI (by omega) (by omega)).mp c62
                        refine r_iconst (q := 86) (v := nI 0) X kc_0 dX7_findRests_85 rfl ?_
                        refine r_istore_n (q := 87) (i := 3) (j := 3) X rfl (Nat.le_of_ble_eq_true rfl) dX7_findRests_86 rfl ?_
                        refine r_iinc (q := 90) (i := 4) (x := nI (k)) (v := nI (k + 1)) X rfl (Nat.le_of_ble_eq_true rfl) (kinc 1 rfl) dX7_findRests_87 rfl ?_
                        refine r_goto (tgt := 36) X (by decide) dX7_findRests_90 ?_
                        refine r_pl [(0, .ref (base + 44)), (1, .int (nI (a))), (2, .int (nI (b))), (3, .int (nI (0))), (4, .int (nI (k + 1)))] ⟨rfl, rfl, rfl, rfl, rfl, trivial⟩ ?_
                        refine ih3 (k + 1) 0 (by omega) (by omega) (by omega) ⟨fun h8 q hq => ?_, fun h8 => ?_⟩
                        · rcases (show q < k ∨ q = k by omega) with h9 | h9
                          · first | exact hz.mp (by omega) q h9 | (exfalso; omega)
                          · subst h9; first | exact ⟨by omega, by omega⟩ | (exfalso; omega)
                        · first | rfl | (exfalso; have h10 := h8 k (by omega); omega) | (exfalso; have h10 := hz.mpr (fun q hq => h8 q (by omega)); omega)
                      · replace c62 : ¬ (rj (V7 Mx) a b) < (rj (V7 Mx) k b) := fun h => c62 ((nI_ltI (by omega) (by omega)).mpr h)
                        refine r_aload_n (q := 66) (i := 0) (j := 0) (x := base + 44) X rfl rfl dX7_findRests_65 rfl ?_
                        refine r_iload (q := 68) (i := 4) (x := nI (k)) X rfl dX7_findRests_66 rfl ?_
                        refine r_iload_n (q := 69) (i := 1) (j := 1) (x := nI (a)) X rfl rfl dX7_findRests_68 rfl ?_
                        refine r_callVi (q := 72) X (c_holds K.2.1 G base (fm7 Mx (rr1 (V7 Mx) (Mx 44 4) a b (rr2 (V7 Mx) (Mx 44 4) a))) Lx k a (by omega) (by omega) (by rw [fm7_k (by decide) (by decide)]; exact hn) (by rw [fm7_o (by decide)]; exact h2) (by rw [fm7_o (by decide)]; exact h4) (by rw [fm7_o (by decide)]; exact h5) (fun q => by rw [fm7_o (by decide)]; exact hs q) (fun q => by rw [fm7_o (by decide)]; exact hw q)) kh_44 rfl ks_RX7_179 (by decide) (by decide) ⟨Nat.zero_le _, Nat.zero_le _⟩ rfl (Nat.le_of_ble_eq_true rfl) dX7_findRests_69 rfl (fun r M1 L1 hp => ?_)
                        rw [V7_fm] at hp
                        obtain ⟨e1, e2, e3⟩ := hp
                        subst e1
                        replace e2 := e2.symm
                        subst e2
                        replace e3 := e3.symm
                        subst e3
                        refine r_aload_n (q := 73) (i := 0) (j := 0) (x := base + 44) X rfl rfl dX7_findRests_72 rfl ?_
                        refine r_iload_n (q := 74) (i := 2) (j := 2) (x := nI (b)) X rfl rfl dX7_findRests_73 rfl ?_
                        refine r_iload_n (q := 75) (i := 1) (j := 1) (x := nI (a)) X rfl rfl dX7_findRests_74 rfl ?_
                        refine r_callVi (q := 78) X (c_holds K.2.1 G base (fm7 Mx (rr1 (V7 Mx) (Mx 44 4) a b (rr2 (V7 Mx) (Mx 44 4) a))) Lx b a (by omega) (by omega) (by rw [fm7_k (by decide) (by decide)]; exact hn) (by rw [fm7_o (by decide)]; exact h2) (by rw [fm7_o (by decide)]; exact h4) (by rw [fm7_o (by decide)]; exact h5) (fun q => by rw [fm7_o (by decide)]; exact hs q) (fun q => by rw [fm7_o (by decide)]; exact hw q)) kh_44 rfl ks_RX7_179 (by decide) (by decide) ⟨Nat.zero_le _, Nat.zero_le _⟩ rfl (Nat.le_of_ble_eq_true rfl) dX7_findRests_75 rfl (fun r M1 L1 hp => ?_)
                        rw [V7_fm] at hp
                        obtain ⟨e1, e2, e3⟩ := hp
                        subst e1
                        replace e2 := e2.symm
                        subst e2
                        replace e3 := e3.symm
                        subst e3
                        have hv3 := rj_lt (V7_lt hw) k a
                        have hv4 := rj_lt (V7_lt hw) b a
                        refine r_icmp_gt (q := 81) (tgt := 85) X (by decide) dX7_findRests_78 rfl (fun c78 => ?_) (fun c78 => ?_)
                        · replace c78 : (rj (V7 Mx) b a) < (rj (V7 Mx) k a) := (nI_ltI (by omega) (by omega)).mp c78
                          refine r_iconst (q := 86) (v := nI 0) X kc_0 dX7_findRests_85 rfl ?_
                          refine r_istore_n (q := 87) (i := 3) (j := 3) X rfl (Nat.le_of_ble_eq_true rfl) dX7_findRests_86 rfl ?_
                          refine r_iinc (q := 90) (i := 4) (x := nI (k)) (v := nI (k + 1)) X rfl (Nat.le_of_ble_eq_true rfl) (kinc 1 rfl) dX7_findRests_87 rfl ?_
                          refine r_goto (tgt := 36) X (by decide) dX7_findRests_90 ?_
                          refine r_pl [(0, .ref (base + 44)), (1, .int (nI (a))), (2, .int (nI (b))), (3, .int (nI (0))), (4, .int (nI (k + 1)))] ⟨rfl, rfl, rfl, rfl, rfl, trivial⟩ ?_
                          refine ih3 (k + 1) 0 (by omega) (by omega) (by omega) ⟨fun h8 q hq => ?_, fun h8 => ?_⟩
                          · rcases (show q < k ∨ q = k by omega) with h9 | h9
                            · first | exact hz.mp (by omega) q h9 | (exfalso; omega)
                            · subst h9; first | exact ⟨by omega, by omega⟩ | (exfalso; omega)
                          · first | rfl | (exfalso; have h10 := h8 k (by omega); omega) | (exfalso; have h10 := hz.mpr (fun q hq => h8 q (by omega)); omega)
                        · replace c78 : ¬ (rj (V7 Mx) b a) < (rj (V7 Mx) k a) := fun h => c78 ((nI_ltI (by omega) (by omega)).mpr h)
                          refine r_iconst (q := 82) (v := nI 1) X kc_1 dX7_findRests_81 rfl ?_
                          refine r_goto (tgt := 86) X (by decide) dX7_findRests_82 ?_
                          refine r_istore_n (q := 87) (i := 3) (j := 3) X rfl (Nat.le_of_ble_eq_true rfl) dX7_findRests_86 rfl ?_
                          refine r_iinc (q := 90) (i := 4) (x := nI (k)) (v := nI (k + 1)) X rfl (Nat.le_of_ble_eq_true rfl) (kinc 1 rfl) dX7_findRests_87 rfl ?_
                          refine r_goto (tgt := 36) X (by decide) dX7_findRests_90 ?_
                          refine r_pl [(0, .ref (base + 44)), (1, .int (nI (a))), (2, .int (nI (b))), (3, .int (nI (1))), (4, .int (nI (k + 1)))] ⟨rfl, rfl, rfl, rfl, rfl, trivial⟩ ?_
                          refine ih3 (k + 1) 1 (by omega) (by omega) (by omega) ⟨fun h8 q hq => ?_, fun h8 => ?_⟩
                          · rcases (show q < k ∨ q = k by omega) with h9 | h9
                            · first | exact hz.mp (by omega) q h9 | (exfalso; omega)
                            · subst h9; first | exact ⟨by omega, by omega⟩ | (exfalso; omega)
                          · first | rfl | (exfalso; have h10 := h8 k (by omega); omega) | (exfalso; have h10 := hz.mpr (fun q hq => h8 q (by omega)); omega)
              refine r_pl [(0, .ref (base + 44)), (1, .int (nI (a))), (2, .int (nI (b))), (3, .int (nI (1))), (4, .int (nI (0)))] ⟨rfl, rfl, rfl, rfl, rfl, trivial⟩ ?_
              exact lk 7 0 1 (by omega) (by omega) (by omega) ⟨fun _ q hq => absurd hq (Nat.not_lt_zero _), fun _ => rfl⟩
        refine r_pl [(0, .ref (base + 44)), (1, .int (nI (a))), (2, .int (nI (0)))] ⟨rfl, rfl, rfl, trivial⟩ ?_
        exact lb 7 0 (by omega) (by omega)
  refine r_pl [(0, .ref (base + 44))] ⟨rfl, trivial⟩ ?_
  refine r_aload_n (q := 1) (i := 0) (j := 0) (x := base + 44) X rfl rfl dX7_findRests_0 rfl ?_
  refine r_iconst (q := 2) (v := nI 0) X kc_0 dX7_findRests_1 rfl ?_
  refine r_puti (q := 5) (i := 44) (n := 0) X fk_X7_173 kp_X7_25 kh_44 rfl dX7_findRests_2 rfl ?_
  refine r_aload_n (q := 6) (i := 0) (j := 0) (x := base + 44) X rfl rfl dX7_findRests_5 rfl ?_
  refine r_bipush (q := 8) (v := (-9)) X kb_m9 dX7_findRests_6 rfl ?_
  rw [show ((-9) : Int32) = nI (4294967287) from kM9]
  refine r_puti (q := 11) (i := 44) (n := 4294967287) X fk_X7_176 kp_X7_26 kh_44 rfl dX7_findRests_8 rfl ?_
  refine r_iconst (q := 12) (v := nI 0) X kc_0 dX7_findRests_11 rfl ?_
  refine r_istore_n (q := 13) (i := 1) (j := 1) X rfl (Nat.le_of_ble_eq_true rfl) dX7_findRests_12 rfl ?_
  refine r_pl [(0, .ref (base + 44)), (1, .int (nI (0)))] ⟨rfl, rfl, trivial⟩ ?_
  exact lp 7 0 (by omega) (by omega)
set_option maxHeartbeats 8000000 in
theorem c7_rests (l : Launch) (G : ks_G) (base : Nat) (Mx : ks_M) (Lx : ks_L) (x : Int32) (hth : Mx 44 0 = 0) (hn : Mx 44 4 ≤ 6) (h2 : Mx 49 2 < 100000) (h4 : Mx 49 4 < 64) (h5 : Mx 49 5 < 64) (hs : ∀ k, Mx 46 k < 4) (hw : ∀ k, Mx 47 k < 10) : KI l G base 4 yX7_rests cX7_rests 2 .int [.ref (base + 44), .int (x)] SH Mx Lx (fun rr M1 L1 => (rr = (-2) ∧ x ≠ nI 0 ∧ x ≠ nI 1 ∧ M1 = Mx ∧ L1 = Lx) ∨ (((x = nI 0 ∧ rr = nI (rr2 (V7 Mx) (Mx 44 4) (Mx 44 4)).1) ∨ (x = nI 1 ∧ rr = nI (rr2 (V7 Mx) (Mx 44 4) (Mx 44 4)).2)) ∧ M1 = fm7 Mx (rr2 (V7 Mx) (Mx 44 4) (Mx 44 4)) ∧ L1 = Lx)) := by
  refine k_meti (by decide) (Nat.le_of_ble_eq_true rfl) (fun K hK X Y => ?_)
  subst hK
  refine r_pl [(0, .ref (base + 44)), (1, .int (x))] ⟨rfl, rfl, trivial⟩ ?_
  refine r_aload_n (q := 1) (i := 0) (j := 0) (x := base + 44) X rfl rfl dX7_rests_0 rfl ?_
  refine r_iconst (q := 2) (v := nI 0) X kc_0 dX7_rests_1 rfl ?_
  refine r_puti (q := 5) (i := 44) (n := 0) X fk_X7_59 kp_X7_0 kh_44 rfl dX7_rests_2 rfl ?_
  refine r_mem Mx (up2_id hth) ?_
  refine r_iload_n (q := 6) (i := 1) (j := 1) (x := x) X rfl rfl dX7_rests_5 rfl ?_
  refine r_i2l (q := 7) (v := x.toInt64) X rfl dX7_rests_6 rfl ?_
  refine r_lconst (q := 8) (v := 0) X rfl dX7_rests_7 rfl ?_
  refine r_lconst (q := 9) (v := 1) X rfl dX7_rests_8 rfl ?_
  refine r_callSi (q := 12) X (c_in K.2.1 G base Mx Lx x.toInt64 0 1) ks_RX7_66 (by decide) (by decide) ⟨Nat.zero_le _, Nat.zero_le _⟩ rfl (Nat.le_of_ble_eq_true rfl) dX7_rests_9 rfl (fun r M1 L1 hp => ?_)
  have hk := kIn (x := x) (y := 0) (z := 1) (a := 0) (b := 1) rfl rfl (by omega) (by omega)
  rcases hp with ⟨e1, hin, hp2⟩ | ⟨e1, hin, hp2⟩
  · subst e1
    obtain ⟨e2, e3⟩ := hp2
    replace e2 := e2.symm
    subst e2
    replace e3 := e3.symm
    subst e3
    rw [hk] at hin
    obtain ⟨b, -, hb, rfl⟩ := hin
    refine r_if_ne (q := 15) (tgt := 18) X (by decide) dX7_rests_12 rfl (fun _ => ?_) (fun c => absurd c (by decide))
    refine r_aload_n (q := 19) (i := 0) (j := 0) (x := base + 44) X rfl rfl dX7_rests_18 rfl ?_
    refine r_callVv (q := 22) X (c_findRests K.2.1 G base Mx Lx hn h2 h4 h5 hs hw) kh_44 rfl ks_RX7_182 (by decide) (by decide) ⟨Nat.zero_le _, Nat.zero_le _⟩ rfl (Nat.le_of_ble_eq_true rfl) dX7_rests_19 rfl (fun M1 L1 hp => ?_)
    obtain ⟨e2, e3⟩ := hp
    replace e2 := e2.symm
    subst e2
    replace e3 := e3.symm
    subst e3
    refine r_iload_n (q := 23) (i := 1) (j := 1) (x := nI (b)) X rfl rfl dX7_rests_22 rfl ?_
    refine r_if_ne (q := 26) (tgt := 33) X (by decide) dX7_rests_23 rfl (fun c23 => ?_) (fun c23 => ?_)
    · replace c23 : ¬ b = 0 := fun h => c23 ((kI_eq0 (by omega)).mpr h)
      refine r_aload_n (q := 34) (i := 0) (j := 0) (x := base + 44) X rfl rfl dX7_rests_33 rfl ?_
      refine r_getf (q := 37) (i := 44) (v := .int (nI ((rr2 (V7 Mx) (Mx 44 4) (Mx 44 4)).2))) X fk_X7_176 kh_44 rfl (kv (by simp [fm7, up2])) dX7_rests_34 rfl ?_
      refine r_iret X Y ?_ dX7_rests_37
      exact Or.inr ⟨Or.inr ⟨by rw [show b = 1 by omega], rfl⟩, rfl, rfl⟩
    · replace c23 : b = 0 := (kI_eq0 (by omega)).mp c23
      refine r_aload_n (q := 27) (i := 0) (j := 0) (x := base + 44) X rfl rfl dX7_rests_26 rfl ?_
      refine r_getf (q := 30) (i := 44) (v := .int (nI ((rr2 (V7 Mx) (Mx 44 4) (Mx 44 4)).1))) X fk_X7_173 kh_44 rfl (kv (by simp [fm7, up2])) dX7_rests_27 rfl ?_
      refine r_goto (tgt := 37) X (by decide) dX7_rests_30 ?_
      refine r_iret X Y ?_ dX7_rests_37
      exact Or.inr ⟨Or.inl ⟨by rw [show b = 0 by omega], rfl⟩, rfl, rfl⟩
  · subst e1
    obtain ⟨e2, e3⟩ := hp2
    replace e2 := e2.symm
    subst e2
    replace e3 := e3.symm
    subst e3
    rw [hk] at hin
    refine r_if_ne (q := 15) (tgt := 18) X (by decide) dX7_rests_12 rfl (fun c => absurd c (by decide)) (fun _ => ?_)
    refine r_bipush (q := 17) (v := (-2)) X kb_m2 dX7_rests_15 rfl ?_
    refine r_iret X Y ?_ dX7_rests_17
    refine Or.inl ⟨rfl, fun h => hin ⟨0, by omega, by omega, h⟩, fun h => hin ⟨1, by omega, by omega, h⟩, rfl, rfl⟩
