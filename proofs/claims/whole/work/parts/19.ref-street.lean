/-! THE STREET READ by the reference -/
theorem hsf_fit {T : Nat → Nat} {len h j : Nat} (hj : j < 4) : hsf T len (3 + 5 * h) j ↔ (3 + 5 * h + j < len ∧ fitn T (3 + 5 * h + j) = 1) := by
  have e : fitn T (3 + 5 * h + j) = isd (T (3 + 5 * h + j)) (if j = 0 then 3 else 9) := by
    unfold fitn
    rw [if_neg (by omega), if_neg (by omega), if_neg (by omega)]
    by_cases h0 : j = 0
    · rw [if_pos (by omega), if_pos h0]
    · rw [if_neg (by omega), if_neg h0]
  rw [e]; rfl
theorem fit_H {T : Nat → Nat} {h : Nat} : fitn T (2 + 5 * h) = if T (2 + 5 * h) = 72 ∧ h < 6 then 1 else 0 := by
  unfold fitn
  rw [if_neg (by omega), if_neg (by omega), if_pos (by omega), show (2 + 5 * h - 2) / 5 = h by omega]
theorem kM9 : ((-9 : Int32)) = nI 4294967287 := by decide +kernel
def rsF (Mx Mv : ks_M) : Prop := (∀ a c, a ≠ 44 → a ≠ 48 → Mv a c = Mx a c) ∧ (∀ c, c ≠ 3 → c ≠ 7 → c ≠ 8 → Mv 44 c = Mx 44 c)
def rsI (Mx Mv : ks_M) (h : Nat) : Prop := rsF Mx Mv ∧ Mv 44 3 = 2 + 5 * h ∧ Mv 44 8 = h ∧ Mv 44 7 = Mx 45 1 - 48 ∧ 2 + 5 * h ≤ Mx 44 2 ∧ h ≤ 6 ∧ (∀ q, q < 2 + 5 * h → fitn (Mx 45) q = 1) ∧ (∀ c, c < 4 * h → Mv 48 c = Mx 45 (3 + 5 * (c / 4) + c % 4) - 48)
theorem rs_next {Mx Mv : ks_M} {h : Nat} (I : rsI Mx Mv h) (hlt : h < 6) (h72 : Mx 45 (2 + 5 * h) = 72) (hs : ∀ j, j < 4 → hsf (Mx 45) (Mx 44 2) (3 + 5 * h) j) : rsI Mx (up2 (rhm (up2 Mv 44 3 (2 + 5 * h + 1)) 4) 44 8 (h + 1)) (h + 1) := by
  obtain ⟨⟨f1, f2⟩, h3, h8, h7, hle, h6, hal, h48⟩ := I
  refine ⟨⟨fun a c ha hb => ?_, fun c h3 h7 h8 => ?_⟩, ?_, ?_, ?_, ?_, by omega, fun q hq => ?_, fun c hc => ?_⟩
  · simp [up2, rhm, ha, hb, f1]
  · simp [up2, rhm, h3, h8, f2 c h3 h7 h8]
  · simp [up2, rhm]; omega
  · simp [up2]
  · simp [up2, rhm, h7]
  · have := (hsf_fit (by omega)).mp (hs 3 (by omega)); omega
  · rcases Nat.lt_or_ge q (2 + 5 * h) with hq2 | hq2
    · exact hal q hq2
    · rcases (show q = 2 + 5 * h ∨ 3 + 5 * h ≤ q by omega) with rfl | hq3
      · rw [fit_H, if_pos ⟨h72, hlt⟩]
      · have := (hsf_fit (by omega)).mp (hs (q - (3 + 5 * h)) (by omega))
        rw [show 3 + 5 * h + (q - (3 + 5 * h)) = q by omega] at this
        exact this.2
  · rcases Nat.lt_or_ge c (4 * h) with hc2 | hc2
    · simp only [up2, rhm]
      rw [if_neg (by omega), if_neg (by omega), if_neg (by simp [h8]; omega), if_neg (by omega)]
      exact h48 c hc2
    · simp only [up2, rhm]
      rw [if_neg (by omega), if_neg (by omega), if_pos (by simp [h8]; omega)]
      simp only [h8]
      simp [f1]
      rw [show 2 + 5 * h + 1 + (c - 4 * h) = 3 + 5 * (c / 4) + c % 4 by omega]
set_option maxHeartbeats 8000000 in
theorem c7_readStreet (l : Launch) (G : ks_G) (base : Nat) (Mx : ks_M) (Lx : ks_L) (hlen : Mx 44 2 ≤ 48) (hby : ∀ k, k < Mx 44 2 → Mx 45 k < 256) : KI l G base 3 yX7_readStreet cX7_readStreet 1 .int [.ref (base + 44)] SH Mx Lx (fun rr M1 L1 => (∃ v, rr = nI v ∧ v ≤ Mx 44 2 ∧ badT (Mx 45) (Mx 44 2) v ∧ rsF Mx M1 ∧ L1 = Lx) ∨ (rr = (-9) ∧ okT (Mx 45) (Mx 44 2) ∧ 2 + 5 * ((Mx 44 2 - 2) / 5) = Mx 44 2 ∧ rsI Mx M1 ((Mx 44 2 - 2) / 5) ∧ L1 = Lx)) := by
  refine k_meti (by decide) (Nat.le_of_ble_eq_true rfl) (fun K hK X Y => ?_)
  subst hK
  have lp : ∀ (fuel : Nat) (h : Nat) (Mv : ks_M), 10 - h < fuel → (rsI Mx Mv h) → RN K G base 1 0 0 SH Mv Lx 59 [(0, .ref (base + 44))] [] := by
    intro fuel
    induction fuel with
    | zero => intro h Mv hfu; exact absurd hfu (Nat.not_lt_zero _)
    | succ fuel ih =>
      intro h Mv hfu hI
      have hq1 := hI.2.1
      have hq2 := hI.2.2.1
      have hq3 := hI.2.2.2.2.1
      have hq4 := hI.2.2.2.2.2.1
      refine r_aload_n (q := 60) (i := 0) (j := 0) (x := base + 44) X rfl rfl dX7_readStreet_59 rfl ?_
      refine r_getf (q := 63) (i := 44) (v := .int (nI (2 + 5 * h))) X fk_X7_75 kh_44 rfl (kv hI.2.1) dX7_readStreet_60 rfl ?_
      refine r_aload_n (q := 64) (i := 0) (j := 0) (x := base + 44) X rfl rfl dX7_readStreet_63 rfl ?_
      refine r_getf (q := 67) (i := 44) (v := .int (nI (Mx 44 2))) X fk_X7_72 kh_44 rfl (kv (hI.1.2 2 (by decide) (by decide) (by decide))) dX7_readStreet_64 rfl ?_
      refine r_icmp_ge (q := 70) (tgt := 120) X (by decide) dX7_readStreet_67 rfl (fun c67 => ?_) (fun c67 => ?_)
      · replace c67 : (Mx 44 2) ≤ (2 + 5 * h) := (nI_leI (by omega) (by omega)).mp c67
        refine r_bipush (q := 122) (v := (-9)) X kb_m9 dX7_readStreet_120 rfl ?_
        refine r_iret X Y ?_ dX7_readStreet_122
        have hq := hI.2.2.2.2.1
        have hh : h = (Mx 44 2 - 2) / 5 := by omega
        exact Or.inr ⟨rfl, ⟨fun q hq2 => hI.2.2.2.2.2.2.1 q (by omega), by omega, by omega⟩, by omega, hh ▸ hI, rfl⟩
      · replace c67 : ¬ (Mx 44 2) ≤ (2 + 5 * h) := fun h => c67 ((nI_leI (by omega) (by omega)).mpr h)
        refine r_aload_n (q := 71) (i := 0) (j := 0) (x := base + 44) X rfl rfl dX7_readStreet_70 rfl ?_
        refine r_getf (q := 74) (i := 44) (v := .ref (base + 45)) X fk_X7_7 kh_44 rfl rfl dX7_readStreet_71 rfl ?_
        refine r_aload_n (q := 75) (i := 0) (j := 0) (x := base + 44) X rfl rfl dX7_readStreet_74 rfl ?_
        refine r_getf (q := 78) (i := 44) (v := .int (nI (2 + 5 * h))) X fk_X7_75 kh_44 rfl (kv hI.2.1) dX7_readStreet_75 rfl ?_
        refine r_iald (q := 79) (i := 45) (j := 2 + 5 * h) (v := Mx 45 (2 + 5 * h)) X kh_45 (by omega) (Nat.le_of_ble_eq_true rfl) (hI.1.1 45 _ (by decide) (by decide)) dX7_readStreet_78 rfl ?_
        refine r_bipush (q := 81) (v := nI 72) X kb_72 dX7_readStreet_79 rfl ?_
        have hb9 := hby (2 + 5 * h) (by omega)
        refine r_icmp_ne (q := 84) (tgt := 93) X (by decide) dX7_readStreet_81 rfl (fun c81 => ?_) (fun c81 => ?_)
        · replace c81 : ¬ (Mx 45 (2 + 5 * h)) = 72 := fun h => c81 ((kI_eq (by omega) (by omega)).mpr h)
          refine r_aload_n (q := 94) (i := 0) (j := 0) (x := base + 44) X rfl rfl dX7_readStreet_93 rfl ?_
          refine r_getf (q := 97) (i := 44) (v := .int (nI (2 + 5 * h))) X fk_X7_75 kh_44 rfl (kv hI.2.1) dX7_readStreet_94 rfl ?_
          refine r_iret X Y ?_ dX7_readStreet_97
          refine Or.inl ⟨2 + 5 * h, rfl, by omega, ⟨hI.2.2.2.2.2.2.1, Or.inl ⟨by omega, ?_⟩⟩, hI.1, rfl⟩
          rw [fit_H, if_neg (by omega)]; decide
        · replace c81 : (Mx 45 (2 + 5 * h)) = 72 := (kI_eq (by omega) (by omega)).mp c81
          refine r_aload_n (q := 85) (i := 0) (j := 0) (x := base + 44) X rfl rfl dX7_readStreet_84 rfl ?_
          refine r_getf (q := 88) (i := 44) (v := .int (nI (h))) X fk_X7_82 kh_44 rfl (kv hI.2.2.1) dX7_readStreet_85 rfl ?_
          refine r_bipush (q := 90) (v := nI 6) X kb_6 dX7_readStreet_88 rfl ?_
          refine r_icmp_ne (q := 93) (tgt := 98) X (by decide) dX7_readStreet_90 rfl (fun c90 => ?_) (fun c90 => ?_)
          · replace c90 : ¬ h = 6 := fun h => c90 ((kI_eq (by omega) (by omega)).mpr h)
            refine r_aload_n (q := 99) (i := 0) (j := 0) (x := base + 44) X rfl rfl dX7_readStreet_98 rfl ?_
            refine r_dup (q := 100) X rfl dX7_readStreet_99 rfl ?_
            refine r_getf (q := 103) (i := 44) (v := .int (nI (2 + 5 * h))) X fk_X7_75 kh_44 rfl (kv hI.2.1) dX7_readStreet_100 rfl ?_
            refine r_iconst (q := 104) (v := nI 1) X kc_1 dX7_readStreet_103 rfl ?_
            refine r_iaddR (q := 105) (x := nI (2 + 5 * h)) (y := nI 1) (v := nI ((2 + 5 * h) + 1)) X (nI_add _ _) dX7_readStreet_104 rfl ?_
            refine r_puti (q := 108) (i := 44) (n := (2 + 5 * h) + 1) X fk_X7_75 kp_X7_3 kh_44 rfl dX7_readStreet_105 rfl ?_
            refine r_aload_n (q := 109) (i := 0) (j := 0) (x := base + 44) X rfl rfl dX7_readStreet_108 rfl ?_
            refine r_callVi (q := 112) X (c7_readHouse K.2.1 G base (up2 Mv 44 3 (2 + 5 * h + 1)) Lx (by simp [up2]; rw [hI.1.2 2 (by decide) (by decide) (by decide)]; exact hlen) (by simp [up2]; rw [hI.1.2 2 (by decide) (by decide) (by decide)]; omega) (by simp [up2]; omega) (fun k hk => by simp [up2] at hk ⊢; rw [hI.1.2 2 (by decide) (by decide) (by decide)] at hk; rw [hI.1.1 45 k (by decide) (by decide)]; exact hby k hk)) kh_44 rfl ks_RX7_88 (by decide) (by decide) ⟨Nat.zero_le _, Nat.zero_le _⟩ rfl (Nat.le_of_ble_eq_true rfl) dX7_readStreet_109 rfl (fun r M1 L1 hp => ?_)
            have e45 : (up2 Mv 44 3 (2 + 5 * h + 1)) 45 = Mx 45 := by funext c; simp [up2]; exact hI.1.1 45 c (by decide) (by decide)
            have e2 : (up2 Mv 44 3 (2 + 5 * h + 1)) 44 2 = Mx 44 2 := by simp [up2]; exact hI.1.2 2 (by decide) (by decide) (by decide)
            have e3 : (up2 Mv 44 3 (2 + 5 * h + 1)) 44 3 = 3 + 5 * h := by simp [up2]; omega
            have e8 : (up2 Mv 44 3 (2 + 5 * h + 1)) 44 8 = h := by simp [up2]; exact hI.2.2.1
            rw [e45, e2, e3, e8] at hp
            rcases hp with ⟨k, hk4, e1, hal2, hnk, hp2⟩ | ⟨e1, hal2, hp2⟩
            · subst e1
              obtain ⟨e2, e3⟩ := hp2
              replace e2 := e2.symm
              subst e2
              replace e3 := e3.symm
              subst e3
              refine r_if_ne (q := 115) (tgt := 59) X (by decide) dX7_readStreet_112 rfl (fun c => absurd c (by decide)) (fun _ => ?_)
              refine r_aload_n (q := 116) (i := 0) (j := 0) (x := base + 44) X rfl rfl dX7_readStreet_115 rfl ?_
              refine r_getf (q := 119) (i := 44) (v := .int (nI (3 + 5 * h + k))) X fk_X7_75 kh_44 rfl (kv (by simp [up2, rhm]; omega)) dX7_readStreet_116 rfl ?_
              refine r_iret X Y ?_ dX7_readStreet_119
              refine Or.inl ⟨3 + 5 * h + k, rfl, ?_, ⟨fun q hq => ?_, ?_⟩, ⟨fun a c ha hb => by simp [up2, rhm, ha, hb]; exact hI.1.1 a c ha hb, fun c h3 h7 h8 => by simp [up2, rhm, h3, h8]; exact hI.1.2 c h3 h7 h8⟩, rfl⟩
              · rcases (show k = 0 ∨ 0 < k by omega) with h0 | h0
                · omega
                · have := ((hsf_fit (by omega)).mp (hal2 (k - 1) (by omega))).1; omega
              · rcases Nat.lt_or_ge q (2 + 5 * h) with hq2 | hq2
                · exact hI.2.2.2.2.2.2.1 q hq2
                · rcases (show q = 2 + 5 * h ∨ 3 + 5 * h ≤ q by omega) with rfl | hq3
                  · rw [fit_H, if_pos ⟨by omega, by omega⟩]
                  · have := (hsf_fit (by omega)).mp (hal2 (q - (3 + 5 * h)) (by omega))
                    rw [show 3 + 5 * h + (q - (3 + 5 * h)) = q by omega] at this
                    exact this.2
              · rw [hsf_fit hk4] at hnk
                rcases Nat.lt_or_ge (3 + 5 * h + k) (Mx 44 2) with h5 | h5
                · exact Or.inl ⟨h5, fun h6 => hnk ⟨h5, h6⟩⟩
                · refine Or.inr ⟨?_, fun h6 => ?_⟩
                  · rcases (show k = 0 ∨ 0 < k by omega) with h0 | h0
                    · omega
                    · have := ((hsf_fit (by omega)).mp (hal2 (k - 1) (by omega))).1; omega
                  · have h7 := h6.2.2
                    have h8 : Mx 44 2 = 3 + 5 * h + k := by
                      rcases (show k = 0 ∨ 0 < k by omega) with h0 | h0
                      · omega
                      · have := ((hsf_fit (by omega)).mp (hal2 (k - 1) (by omega))).1; omega
                    omega
            · subst e1
              obtain ⟨e2, e3⟩ := hp2
              replace e2 := e2.symm
              subst e2
              replace e3 := e3.symm
              subst e3
              refine r_if_ne (q := 115) (tgt := 59) X (by decide) dX7_readStreet_112 rfl (fun _ => ?_) (fun c => absurd c (by decide))
              refine r_pl [(0, .ref (base + 44))] ⟨rfl, trivial⟩ ?_
              exact ih (h + 1) _ (by omega) (rs_next hI (by omega) (by omega) hal2)
          · replace c90 : h = 6 := (kI_eq (by omega) (by omega)).mp c90
            refine r_aload_n (q := 94) (i := 0) (j := 0) (x := base + 44) X rfl rfl dX7_readStreet_93 rfl ?_
            refine r_getf (q := 97) (i := 44) (v := .int (nI (2 + 5 * h))) X fk_X7_75 kh_44 rfl (kv hI.2.1) dX7_readStreet_94 rfl ?_
            refine r_iret X Y ?_ dX7_readStreet_97
            refine Or.inl ⟨2 + 5 * h, rfl, by omega, ⟨hI.2.2.2.2.2.2.1, Or.inl ⟨by omega, ?_⟩⟩, hI.1, rfl⟩
            rw [fit_H, if_neg (by omega)]; decide
  refine r_pl [(0, .ref (base + 44))] ⟨rfl, trivial⟩ ?_
  refine r_aload_n (q := 1) (i := 0) (j := 0) (x := base + 44) X rfl rfl dX7_readStreet_0 rfl ?_
  refine r_iconst (q := 2) (v := nI 0) X kc_0 dX7_readStreet_1 rfl ?_
  refine r_puti (q := 5) (i := 44) (n := 0) X fk_X7_75 kp_X7_3 kh_44 rfl dX7_readStreet_2 rfl ?_
  refine r_aload_n (q := 6) (i := 0) (j := 0) (x := base + 44) X rfl rfl dX7_readStreet_5 rfl ?_
  refine r_iconst (q := 7) (v := nI 0) X kc_0 dX7_readStreet_6 rfl ?_
  refine r_puti (q := 10) (i := 44) (n := 0) X fk_X7_82 kp_X7_8 kh_44 rfl dX7_readStreet_7 rfl ?_
  refine r_aload_n (q := 11) (i := 0) (j := 0) (x := base + 44) X rfl rfl dX7_readStreet_10 rfl ?_
  refine r_getf (q := 14) (i := 44) (v := .int (nI (Mx 44 2))) X fk_X7_72 kh_44 rfl (kv (by simp [up2])) dX7_readStreet_11 rfl ?_
  refine r_if_eq (q := 17) (tgt := 28) X (by decide) dX7_readStreet_14 rfl (fun c14 => ?_) (fun c14 => ?_)
  · replace c14 : (Mx 44 2) = 0 := (kI_eq0 (by omega)).mp c14
    refine r_iconst (q := 29) (v := nI 0) X kc_0 dX7_readStreet_28 rfl ?_
    refine r_iret X Y ?_ dX7_readStreet_29
    refine Or.inl ⟨0, rfl, by omega, ⟨fun q hq => absurd hq (Nat.not_lt_zero _), ?_⟩, ⟨fun a c ha hb => by simp [up2, ha], fun c h3 h7 h8 => by simp [up2, h3, h7, h8]⟩, rfl⟩
    first
    | exact Or.inr ⟨by omega, fun h => by have := h.2.1; omega⟩
    | (refine Or.inl ⟨by omega, ?_⟩; unfold fitn; rw [if_pos rfl, if_neg (by assumption)]; decide)
  · replace c14 : ¬ (Mx 44 2) = 0 := fun h => (c14 ((kI_eq0 (by omega)).mpr h))
    refine r_aload_n (q := 18) (i := 0) (j := 0) (x := base + 44) X rfl rfl dX7_readStreet_17 rfl ?_
    refine r_getf (q := 21) (i := 44) (v := .ref (base + 45)) X fk_X7_7 kh_44 rfl rfl dX7_readStreet_18 rfl ?_
    refine r_iconst (q := 22) (v := nI 0) X kc_0 dX7_readStreet_21 rfl ?_
    refine r_iald (q := 23) (i := 45) (j := 0) (v := Mx 45 0) X kh_45 (by omega) (Nat.le_of_ble_eq_true rfl) (by simp [up2]) dX7_readStreet_22 rfl ?_
    refine r_bipush (q := 25) (v := nI 78) X kb_78 dX7_readStreet_23 rfl ?_
    have hb8 := hby 0 (by omega)
    refine r_icmp_eq (q := 28) (tgt := 30) X (by decide) dX7_readStreet_25 rfl (fun c25 => ?_) (fun c25 => ?_)
    · replace c25 : (Mx 45 0) = 78 := (kI_eq (by omega) (by omega)).mp c25
      refine r_aload_n (q := 31) (i := 0) (j := 0) (x := base + 44) X rfl rfl dX7_readStreet_30 rfl ?_
      refine r_iconst (q := 32) (v := nI 1) X kc_1 dX7_readStreet_31 rfl ?_
      refine r_puti (q := 35) (i := 44) (n := 1) X fk_X7_75 kp_X7_3 kh_44 rfl dX7_readStreet_32 rfl ?_
      refine r_aload_n (q := 36) (i := 0) (j := 0) (x := base + 44) X rfl rfl dX7_readStreet_35 rfl ?_
      refine r_aload_n (q := 37) (i := 0) (j := 0) (x := base + 44) X rfl rfl dX7_readStreet_36 rfl ?_
      refine r_bipush (q := 39) (v := nI 9) X kb_9 dX7_readStreet_37 rfl ?_
      refine r_callVi (q := 42) X (c7_figure K.2.1 G base _ Lx 9 (by decide) (by simp [up2]; exact hlen) (by simp [up2]; omega) (by simpa [up2] using hby)) kh_44 rfl ks_RX7_78 (by decide) (by decide) ⟨Nat.zero_le _, Nat.zero_le _⟩ rfl (Nat.le_of_ble_eq_true rfl) dX7_readStreet_39 rfl (fun r M1 L1 hp => ?_)
      replace hp : (r = (-9) ∧ ¬ (1 < Mx 44 2 ∧ isd (Mx 45 1) 9 = 1) ∧ M1 = (up2 (up2 (up2 Mx 44 3 0) 44 8 0) 44 3 1) ∧ L1 = Lx) ∨ (r = nI (Mx 45 1 - 48) ∧ 1 < Mx 44 2 ∧ isd (Mx 45 1) 9 = 1 ∧ M1 = up2 (up2 (up2 (up2 Mx 44 3 0) 44 8 0) 44 3 1) 44 3 2 ∧ L1 = Lx) := by simpa [up2] using hp
      rcases hp with ⟨e1, hno, hp2⟩ | ⟨e1, hlt, hyes, hp2⟩
      · subst e1
        obtain ⟨e2, e3⟩ := hp2
        replace e2 := e2.symm
        subst e2
        replace e3 := e3.symm
        subst e3
        rw [kM9]
        refine r_puti (q := 45) (i := 44) (n := 4294967287) X fk_X7_85 kp_X7_7 kh_44 rfl dX7_readStreet_42 rfl ?_
        refine r_aload_n (q := 46) (i := 0) (j := 0) (x := base + 44) X rfl rfl dX7_readStreet_45 rfl ?_
        refine r_getf (q := 49) (i := 44) (v := .int (nI (4294967287))) X fk_X7_85 kh_44 rfl (by simp [ks_v, up2]) dX7_readStreet_46 rfl ?_
        refine r_bipush (q := 51) (v := (-9)) X kb_m9 dX7_readStreet_49 rfl ?_
        refine r_icmp_ne (q := 54) (tgt := 59) X (by decide) dX7_readStreet_51 rfl (fun c51 => ?_) (fun c51 => ?_)
        · skip
          exact absurd kM9.symm c51
        · skip
          refine r_aload_n (q := 55) (i := 0) (j := 0) (x := base + 44) X rfl rfl dX7_readStreet_54 rfl ?_
          refine r_getf (q := 58) (i := 44) (v := .int (nI (1))) X fk_X7_75 kh_44 rfl (kv (by simp [up2])) dX7_readStreet_55 rfl ?_
          refine r_iret X Y ?_ dX7_readStreet_58
          refine Or.inl ⟨1, rfl, by omega, ⟨fun q hq => ?_, ?_⟩, ⟨fun a c ha hb => by simp [up2, ha], fun c h3 h7 h8 => by simp [up2, h3, h7, h8]⟩, rfl⟩
          · rw [show q = 0 by omega]; unfold fitn; rw [if_pos rfl, if_pos (by assumption)]
          · rcases (show 1 = Mx 44 2 ∨ 1 < Mx 44 2 by omega) with h | h
            · exact Or.inr ⟨h, fun h2 => by have := h2.2.1; omega⟩
            · refine Or.inl ⟨h, fun h2 => hno ⟨h, ?_⟩⟩
              unfold fitn at h2; rwa [if_neg (by decide), if_pos rfl] at h2
      · subst e1
        obtain ⟨e2, e3⟩ := hp2
        replace e2 := e2.symm
        subst e2
        replace e3 := e3.symm
        subst e3
        refine r_puti (q := 45) (i := 44) (n := Mx 45 1 - 48) X fk_X7_85 kp_X7_7 kh_44 rfl dX7_readStreet_42 rfl ?_
        refine r_aload_n (q := 46) (i := 0) (j := 0) (x := base + 44) X rfl rfl dX7_readStreet_45 rfl ?_
        refine r_getf (q := 49) (i := 44) (v := .int (nI (Mx 45 1 - 48))) X fk_X7_85 kh_44 rfl (by simp [ks_v, up2]) dX7_readStreet_46 rfl ?_
        refine r_bipush (q := 51) (v := (-9)) X kb_m9 dX7_readStreet_49 rfl ?_
        refine r_icmp_ne (q := 54) (tgt := 59) X (by decide) dX7_readStreet_51 rfl (fun c51 => ?_) (fun c51 => ?_)
        · skip
          refine r_pl [(0, .ref (base + 44))] ⟨rfl, trivial⟩ ?_
          refine lp 11 0 _ (by omega) ⟨⟨fun a c ha hb => by simp [up2, ha], fun c h3 h7 h8 => by simp [up2, h3, h7, h8]⟩, by simp [up2], by simp [up2], by simp [up2], by omega, by omega, fun q hq => ?_, fun c hc => absurd hc (by omega)⟩
          rcases (show q = 0 ∨ q = 1 by omega) with rfl | rfl
          · unfold fitn; rw [if_pos rfl, if_pos (by assumption)]
          · unfold fitn; rw [if_neg (by decide), if_pos rfl]; exact hyes
        · skip
          have hc1 := hby 1 hlt
          exact absurd c51 (k_ne9 (by omega))
    · replace c25 : ¬ (Mx 45 0) = 78 := fun h => (c25 ((kI_eq (by omega) (by omega)).mpr h))
      refine r_iconst (q := 29) (v := nI 0) X kc_0 dX7_readStreet_28 rfl ?_
      refine r_iret X Y ?_ dX7_readStreet_29
      refine Or.inl ⟨0, rfl, by omega, ⟨fun q hq => absurd hq (Nat.not_lt_zero _), ?_⟩, ⟨fun a c ha hb => by simp [up2, ha], fun c h3 h7 h8 => by simp [up2, h3, h7, h8]⟩, rfl⟩
      first
      | exact Or.inr ⟨by omega, fun h => by have := h.2.1; omega⟩
      | (refine Or.inl ⟨by omega, ?_⟩; unfold fitn; rw [if_pos rfl, if_neg (by assumption)]; decide)
