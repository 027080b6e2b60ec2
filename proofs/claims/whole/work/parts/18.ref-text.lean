/-! THE TEXT of the reference -/
theorem up2_id {M : ks_M} {i k n : Nat} (h : M i k = n) : up2 M i k n = M := by
  funext a b
  by_cases hc : a = i ∧ b = k
  · obtain ⟨rfl, rfl⟩ := hc
    simp [up2, h]
  · simp [up2, hc]
theorem k_ne9 {n : Nat} (h : n < 2147483648) : ¬ nI n = (-9) := by
  intro h1
  have h2 := congrArg Int32.toInt h1
  rw [nI_toInt h] at h2
  have h3 : ((-9 : Int32)).toInt = -9 := by decide
  omega
theorem kd_in {c m k : Nat} (hc : c < 1000) (hk : (k : Int) ≤ m) (hm : m < 1000) (h : nI c - nI 48 = nI k) : c = k + 48 := by
  have h1 := congrArg Int32.toInt h
  rw [pk_sub_toInt (by omega) (by decide), nI_toInt (by omega)] at h1
  omega
set_option maxHeartbeats 8000000 in
theorem c7_write (l : Launch) (G : ks_G) (base : Nat) (Mx : ks_M) (Lx : ks_L) (x : Int32) (hth : Mx 44 0 = 0) (hlen : Mx 44 2 ≤ 48) : KI l G base 1 yX7_write cX7_write 2 .int [.ref (base + 44), .int (x)] SH Mx Lx (fun rr M1 L1 => (rr = (-2) ∧ (∀ b, b < 256 → x ≠ nI b) ∧ M1 = Mx ∧ L1 = Lx) ∨ (∃ b, rr = (-4) ∧ b < 256 ∧ x = nI b ∧ Mx 44 2 = 48 ∧ M1 = Mx ∧ L1 = Lx) ∨ (∃ b, rr = nI (Mx 44 2 + 1) ∧ b < 256 ∧ x = nI b ∧ Mx 44 2 < 48 ∧ M1 = up2 (up2 Mx 45 (Mx 44 2) b) 44 2 (Mx 44 2 + 1) ∧ L1 = Lx)) := by
  refine k_meti (by decide) (Nat.le_of_ble_eq_true rfl) (fun K hK X Y => ?_)
  subst hK
  refine r_pl [(0, .ref (base + 44)), (1, .int (x))] ⟨rfl, rfl, trivial⟩ ?_
  refine r_aload_n (q := 1) (i := 0) (j := 0) (x := base + 44) X rfl rfl dX7_write_0 rfl ?_
  refine r_iconst (q := 2) (v := nI 0) X kc_0 dX7_write_1 rfl ?_
  refine r_puti (q := 5) (i := 44) (n := 0) X fk_X7_59 kp_X7_0 kh_44 rfl dX7_write_2 rfl ?_
  refine r_mem Mx (up2_id hth) ?_
  refine r_iload_n (q := 6) (i := 1) (j := 1) (x := x) X rfl rfl dX7_write_5 rfl ?_
  refine r_i2l (q := 7) (v := x.toInt64) X rfl dX7_write_6 rfl ?_
  refine r_lconst (q := 8) (v := 0) X rfl dX7_write_7 rfl ?_
  refine r_ldc2 (q := 11) (v := 255) X kl_RX7_70 dX7_write_8 rfl ?_
  refine r_callSi (q := 14) X (c_in K.2.1 G base Mx Lx x.toInt64 0 255) ks_RX7_66 (by decide) (by decide) ⟨Nat.zero_le _, Nat.zero_le _⟩ rfl (Nat.le_of_ble_eq_true rfl) dX7_write_11 rfl (fun r M1 L1 hp => ?_)
  have hk := kIn (x := x) (y := 0) (z := 255) (a := 0) (b := 255) rfl rfl (by omega) (by omega)
  rcases hp with ⟨e1, hin, hp2⟩ | ⟨e1, hin, hp2⟩
  · subst e1
    obtain ⟨e2, e3⟩ := hp2
    replace e2 := e2.symm
    subst e2
    replace e3 := e3.symm
    subst e3
    rw [hk] at hin
    obtain ⟨b, -, hb, rfl⟩ := hin
    refine r_if_ne (q := 17) (tgt := 20) X (by decide) dX7_write_14 rfl (fun _ => ?_) (fun c => absurd c (by decide))
    refine r_aload_n (q := 21) (i := 0) (j := 0) (x := base + 44) X rfl rfl dX7_write_20 rfl ?_
    refine r_getf (q := 24) (i := 44) (v := .int (nI (Mx 44 2))) X fk_X7_72 kh_44 rfl rfl dX7_write_21 rfl ?_
    refine r_bipush (q := 26) (v := nI 48) X kb_48 dX7_write_24 rfl ?_
    refine r_icmp_ne (q := 29) (tgt := 32) X (by decide) dX7_write_26 rfl (fun c26 => ?_) (fun c26 => ?_)
    · replace c26 : ¬ (Mx 44 2) = 48 := fun h => c26 ((kI_eq (by omega) (by omega)).mpr h)
      refine r_aload_n (q := 33) (i := 0) (j := 0) (x := base + 44) X rfl rfl dX7_write_32 rfl ?_
      refine r_getf (q := 36) (i := 44) (v := .ref (base + 45)) X fk_X7_7 kh_44 rfl rfl dX7_write_33 rfl ?_
      refine r_aload_n (q := 37) (i := 0) (j := 0) (x := base + 44) X rfl rfl dX7_write_36 rfl ?_
      refine r_getf (q := 40) (i := 44) (v := .int (nI (Mx 44 2))) X fk_X7_72 kh_44 rfl rfl dX7_write_37 rfl ?_
      refine r_iload_n (q := 41) (i := 1) (j := 1) (x := nI (b)) X rfl rfl dX7_write_40 rfl ?_
      refine r_iast (q := 42) (i := 45) (j := Mx 44 2) (v := b) X kh_45 (by omega) (Nat.le_of_ble_eq_true rfl) dX7_write_41 rfl ?_
      refine r_aload_n (q := 43) (i := 0) (j := 0) (x := base + 44) X rfl rfl dX7_write_42 rfl ?_
      refine r_dup (q := 44) X rfl dX7_write_43 rfl ?_
      refine r_getf (q := 47) (i := 44) (v := .int (nI (Mx 44 2))) X fk_X7_72 kh_44 rfl (by simp [ks_v, up2]) dX7_write_44 rfl ?_
      refine r_iconst (q := 48) (v := nI 1) X kc_1 dX7_write_47 rfl ?_
      refine r_iaddR (q := 49) (x := nI (Mx 44 2)) (y := nI 1) (v := nI ((Mx 44 2) + 1)) X (nI_add _ _) dX7_write_48 rfl ?_
      refine r_puti (q := 52) (i := 44) (n := (Mx 44 2) + 1) X fk_X7_72 kp_X7_2 kh_44 rfl dX7_write_49 rfl ?_
      refine r_aload_n (q := 53) (i := 0) (j := 0) (x := base + 44) X rfl rfl dX7_write_52 rfl ?_
      refine r_getf (q := 56) (i := 44) (v := .int (nI (Mx 44 2 + 1))) X fk_X7_72 kh_44 rfl (kv (by simp [up2])) dX7_write_53 rfl ?_
      refine r_iret X Y ?_ dX7_write_56
      exact Or.inr (Or.inr ⟨b, rfl, by omega, rfl, by omega, rfl, rfl⟩)
    · replace c26 : (Mx 44 2) = 48 := (kI_eq (by omega) (by omega)).mp c26
      refine r_bipush (q := 31) (v := (-4)) X kb_m4 dX7_write_29 rfl ?_
      refine r_iret X Y ?_ dX7_write_31
      exact Or.inr (Or.inl ⟨b, rfl, by omega, rfl, by omega, rfl, rfl⟩)
  · subst e1
    obtain ⟨e2, e3⟩ := hp2
    replace e2 := e2.symm
    subst e2
    replace e3 := e3.symm
    subst e3
    rw [hk] at hin
    refine r_if_ne (q := 17) (tgt := 20) X (by decide) dX7_write_14 rfl (fun c => absurd c (by decide)) (fun _ => ?_)
    refine r_bipush (q := 19) (v := (-2)) X kb_m2 dX7_write_17 rfl ?_
    refine r_iret X Y ?_ dX7_write_19
    exact Or.inl ⟨rfl, fun b hb h => hin ⟨b, by omega, by omega, h⟩, rfl, rfl⟩
set_option maxHeartbeats 8000000 in
theorem c7_wipe (l : Launch) (G : ks_G) (base : Nat) (Mx : ks_M) (Lx : ks_L) (hth : Mx 44 0 = 0) : KI l G base 0 yX7_wipe cX7_wipe 2 .int [.ref (base + 44)] SH Mx Lx (fun rr M1 L1 => rr = nI (Mx 44 2) ∧ M1 = up2 Mx 44 2 0 ∧ L1 = Lx) := by
  refine k_meti (by decide) (Nat.le_of_ble_eq_true rfl) (fun K hK X Y => ?_)
  subst hK
  refine r_pl [(0, .ref (base + 44))] ⟨rfl, trivial⟩ ?_
  refine r_aload_n (q := 1) (i := 0) (j := 0) (x := base + 44) X rfl rfl dX7_wipe_0 rfl ?_
  refine r_iconst (q := 2) (v := nI 0) X kc_0 dX7_wipe_1 rfl ?_
  refine r_puti (q := 5) (i := 44) (n := 0) X fk_X7_59 kp_X7_0 kh_44 rfl dX7_wipe_2 rfl ?_
  refine r_mem Mx (up2_id hth) ?_
  refine r_aload_n (q := 6) (i := 0) (j := 0) (x := base + 44) X rfl rfl dX7_wipe_5 rfl ?_
  refine r_getf (q := 9) (i := 44) (v := .int (nI (Mx 44 2))) X fk_X7_72 kh_44 rfl rfl dX7_wipe_6 rfl ?_
  refine r_istore_n (q := 10) (i := 1) (j := 1) X rfl (Nat.le_of_ble_eq_true rfl) dX7_wipe_9 rfl ?_
  refine r_aload_n (q := 11) (i := 0) (j := 0) (x := base + 44) X rfl rfl dX7_wipe_10 rfl ?_
  refine r_iconst (q := 12) (v := nI 0) X kc_0 dX7_wipe_11 rfl ?_
  refine r_puti (q := 15) (i := 44) (n := 0) X fk_X7_72 kp_X7_2 kh_44 rfl dX7_wipe_12 rfl ?_
  refine r_iload_n (q := 16) (i := 1) (j := 1) (x := nI (Mx 44 2)) X rfl rfl dX7_wipe_15 rfl ?_
  refine r_iret X Y ?_ dX7_wipe_16
  exact ⟨rfl, rfl, rfl⟩
set_option maxHeartbeats 8000000 in
theorem c7_figure (l : Launch) (G : ks_G) (base : Nat) (Mx : ks_M) (Lx : ks_L) (m : Nat) (hm : m < 1000) (hlen : Mx 44 2 ≤ 48) (hpl : Mx 44 3 ≤ Mx 44 2) (hby : ∀ k, k < Mx 44 2 → Mx 45 k < 256) : KI l G base 1 yX7_figure cX7_figure 2 .int [.ref (base + 44), .int (nI (m))] SH Mx Lx (fun rr M1 L1 => (rr = (-9) ∧ ¬ (Mx 44 3 < Mx 44 2 ∧ isd (Mx 45 (Mx 44 3)) m = 1) ∧ M1 = Mx ∧ L1 = Lx) ∨ (rr = nI (Mx 45 (Mx 44 3) - 48) ∧ Mx 44 3 < Mx 44 2 ∧ isd (Mx 45 (Mx 44 3)) m = 1 ∧ M1 = up2 Mx 44 3 (Mx 44 3 + 1) ∧ L1 = Lx)) := by
  refine k_meti (by decide) (Nat.le_of_ble_eq_true rfl) (fun K hK X Y => ?_)
  subst hK
  refine r_pl [(0, .ref (base + 44)), (1, .int (nI (m)))] ⟨rfl, rfl, trivial⟩ ?_
  refine r_aload_n (q := 1) (i := 0) (j := 0) (x := base + 44) X rfl rfl dX7_figure_0 rfl ?_
  refine r_getf (q := 4) (i := 44) (v := .int (nI (Mx 44 3))) X fk_X7_75 kh_44 rfl rfl dX7_figure_1 rfl ?_
  refine r_aload_n (q := 5) (i := 0) (j := 0) (x := base + 44) X rfl rfl dX7_figure_4 rfl ?_
  refine r_getf (q := 8) (i := 44) (v := .int (nI (Mx 44 2))) X fk_X7_72 kh_44 rfl rfl dX7_figure_5 rfl ?_
  refine r_icmp_eq (q := 11) (tgt := 33) X (by decide) dX7_figure_8 rfl (fun c8 => ?_) (fun c8 => ?_)
  · replace c8 : (Mx 44 3) = (Mx 44 2) := (kI_eq (by omega) (by omega)).mp c8
    refine r_bipush (q := 35) (v := (-9)) X kb_m9 dX7_figure_33 rfl ?_
    refine r_iret X Y ?_ dX7_figure_35
    refine Or.inl ⟨rfl, fun h => ?_, rfl, rfl⟩
    obtain ⟨h1, h2⟩ := h
    first
    | (exfalso; omega)
    | (unfold isd at h2; split at h2 <;> first | (exfalso; omega) | skip
       rename_i h3
       refine hin ⟨Mx 45 (Mx 44 3) - 48, by omega, by omega, ?_⟩
       exact pk_sub h3.1)
  · replace c8 : ¬ (Mx 44 3) = (Mx 44 2) := fun h => (c8 ((kI_eq (by omega) (by omega)).mpr h))
    have hc := hby (Mx 44 3) (by omega)
    refine r_aload_n (q := 12) (i := 0) (j := 0) (x := base + 44) X rfl rfl dX7_figure_11 rfl ?_
    refine r_getf (q := 15) (i := 44) (v := .ref (base + 45)) X fk_X7_7 kh_44 rfl rfl dX7_figure_12 rfl ?_
    refine r_aload_n (q := 16) (i := 0) (j := 0) (x := base + 44) X rfl rfl dX7_figure_15 rfl ?_
    refine r_getf (q := 19) (i := 44) (v := .int (nI (Mx 44 3))) X fk_X7_75 kh_44 rfl rfl dX7_figure_16 rfl ?_
    refine r_iald (q := 20) (i := 45) (j := Mx 44 3) (v := Mx 45 (Mx 44 3)) X kh_45 (by omega) (Nat.le_of_ble_eq_true rfl) rfl dX7_figure_19 rfl ?_
    refine r_bipush (q := 22) (v := nI 48) X kb_48 dX7_figure_20 rfl ?_
    refine r_isubR (q := 23) (x := nI (Mx 45 (Mx 44 3))) (y := nI 48) (v := nI (Mx 45 (Mx 44 3)) - nI 48) X rfl dX7_figure_22 rfl ?_
    refine r_i2l (q := 24) (v := (nI (Mx 45 (Mx 44 3)) - nI 48).toInt64) X rfl dX7_figure_23 rfl ?_
    refine r_lconst (q := 25) (v := 0) X rfl dX7_figure_24 rfl ?_
    refine r_iload_n (q := 26) (i := 1) (j := 1) (x := nI (m)) X rfl rfl dX7_figure_25 rfl ?_
    refine r_i2l (q := 27) (v := (nI m).toInt64) X rfl dX7_figure_26 rfl ?_
    refine r_callSi (q := 30) X (c_in K.2.1 G base Mx Lx (nI (Mx 45 (Mx 44 3)) - nI 48).toInt64 0 (nI m).toInt64) ks_RX7_66 (by decide) (by decide) ⟨Nat.zero_le _, Nat.zero_le _⟩ rfl (Nat.le_of_ble_eq_true rfl) dX7_figure_27 rfl (fun r M1 L1 hp => ?_)
    have hk := kIn (x := nI (Mx 45 (Mx 44 3)) - nI 48) (y := 0) (z := (nI m).toInt64) (a := 0) (b := m) rfl (by rw [Int32.toInt_toInt64, nI_toInt (by omega)]) (by omega) (by omega)
    rcases hp with ⟨e1, hin, hp2⟩ | ⟨e1, hin, hp2⟩
    · subst e1
      obtain ⟨e2, e3⟩ := hp2
      replace e2 := e2.symm
      subst e2
      replace e3 := e3.symm
      subst e3
      rw [hk] at hin
      obtain ⟨k, -, hkm, hke⟩ := hin
      have hcv := kd_in (by omega) hkm (by omega) hke
      refine r_if_ne (q := 33) (tgt := 36) X (by decide) dX7_figure_30 rfl (fun _ => ?_) (fun c => absurd c (by decide))
      refine r_aload_n (q := 37) (i := 0) (j := 0) (x := base + 44) X rfl rfl dX7_figure_36 rfl ?_
      refine r_dup (q := 38) X rfl dX7_figure_37 rfl ?_
      refine r_getf (q := 41) (i := 44) (v := .int (nI (Mx 44 3))) X fk_X7_75 kh_44 rfl rfl dX7_figure_38 rfl ?_
      refine r_iconst (q := 42) (v := nI 1) X kc_1 dX7_figure_41 rfl ?_
      refine r_iaddR (q := 43) (x := nI (Mx 44 3)) (y := nI 1) (v := nI ((Mx 44 3) + 1)) X (nI_add _ _) dX7_figure_42 rfl ?_
      refine r_puti (q := 46) (i := 44) (n := (Mx 44 3) + 1) X fk_X7_75 kp_X7_3 kh_44 rfl dX7_figure_43 rfl ?_
      refine r_aload_n (q := 47) (i := 0) (j := 0) (x := base + 44) X rfl rfl dX7_figure_46 rfl ?_
      refine r_getf (q := 50) (i := 44) (v := .ref (base + 45)) X fk_X7_7 kh_44 rfl rfl dX7_figure_47 rfl ?_
      refine r_aload_n (q := 51) (i := 0) (j := 0) (x := base + 44) X rfl rfl dX7_figure_50 rfl ?_
      refine r_getf (q := 54) (i := 44) (v := .int (nI ((Mx 44 3) + 1))) X fk_X7_75 kh_44 rfl (by simp [ks_v, up2]) dX7_figure_51 rfl ?_
      refine r_iconst (q := 55) (v := nI 1) X kc_1 dX7_figure_54 rfl ?_
      refine r_isubR (q := 56) (x := nI ((Mx 44 3) + 1)) (y := nI 1) (v := nI (((Mx 44 3) + 1) - 1)) X (pk_sub (by omega)) dX7_figure_55 rfl ?_
      refine r_iald (q := 57) (i := 45) (j := ((Mx 44 3) + 1) - 1) (v := Mx 45 (Mx 44 3)) X kh_45 (by omega) (Nat.le_of_ble_eq_true rfl) (by simp [up2]) dX7_figure_56 rfl ?_
      refine r_bipush (q := 59) (v := nI 48) X kb_48 dX7_figure_57 rfl ?_
      refine r_isubR (q := 60) (x := nI (Mx 45 (Mx 44 3))) (y := nI 48) (v := nI ((Mx 45 (Mx 44 3)) - 48)) X (pk_sub (by omega)) dX7_figure_59 rfl ?_
      refine r_iret X Y ?_ dX7_figure_60
      refine Or.inr ⟨rfl, by omega, ?_, rfl, rfl⟩
      unfold isd; rw [if_pos (by omega)]
    · subst e1
      obtain ⟨e2, e3⟩ := hp2
      replace e2 := e2.symm
      subst e2
      replace e3 := e3.symm
      subst e3
      rw [hk] at hin
      refine r_if_ne (q := 33) (tgt := 36) X (by decide) dX7_figure_30 rfl (fun c => absurd c (by decide)) (fun _ => ?_)
      refine r_bipush (q := 35) (v := (-9)) X kb_m9 dX7_figure_33 rfl ?_
      refine r_iret X Y ?_ dX7_figure_35
      refine Or.inl ⟨rfl, fun h => ?_, rfl, rfl⟩
      obtain ⟨h1, h2⟩ := h
      first
      | (exfalso; omega)
      | (unfold isd at h2; split at h2 <;> first | (exfalso; omega) | skip
         rename_i h3
         refine hin ⟨Mx 45 (Mx 44 3) - 48, by omega, by omega, ?_⟩
         exact pk_sub h3.1)
def rhm (M : ks_M) (k : Nat) : ks_M := fun a c => if a = 44 ∧ c = 3 then M 44 3 + k else if a = 48 ∧ 4 * M 44 8 ≤ c ∧ c < 4 * M 44 8 + k then M 45 (M 44 3 + (c - 4 * M 44 8)) - 48 else M a c
theorem rhm_0 (M : ks_M) : M = rhm M 0 := by
  funext a c
  unfold rhm
  split
  · next h => obtain ⟨rfl, rfl⟩ := h; rfl
  · rw [if_neg (by omega)]
theorem rhm_s (M : ks_M) (k : Nat) : up2 (up2 (rhm M k) 44 3 (M 44 3 + k + 1)) 48 (4 * M 44 8 + k) (M 45 (M 44 3 + k) - 48) = rhm M (k + 1) := by
  funext a c
  by_cases h1 : a = 48
  · subst h1
    by_cases h2 : c = 4 * M 44 8 + k
    · subst h2; simp [up2, rhm]
    · by_cases h3 : 4 * M 44 8 ≤ c ∧ c < 4 * M 44 8 + k
      · simp [up2, rhm, h2, h3, show c < 4 * M 44 8 + (k + 1) by omega]
      · simp [up2, rhm, h2, show ¬ (4 * M 44 8 ≤ c ∧ c < 4 * M 44 8 + (k + 1)) by omega, h3]
  · by_cases h2 : a = 44
    · subst h2
      by_cases h3 : c = 3
      · subst h3; simp [up2, rhm, Nat.add_assoc]
      · simp [up2, rhm, h3]
    · simp [up2, rhm, h1, h2]
def hsf (T : Nat → Nat) (len p k : Nat) : Prop := p + k < len ∧ isd (T (p + k)) (if k = 0 then 3 else 9) = 1
set_option maxHeartbeats 8000000 in
theorem c7_readHouse (l : Launch) (G : ks_G) (base : Nat) (Mx : ks_M) (Lx : ks_L) (hlen : Mx 44 2 ≤ 48) (hpl : Mx 44 3 ≤ Mx 44 2) (hrh : Mx 44 8 < 6) (hby : ∀ k, k < Mx 44 2 → Mx 45 k < 256) : KI l G base 2 yX7_readHouse cX7_readHouse 3 .boolean [.ref (base + 44)] SH Mx Lx (fun rr M1 L1 => (∃ k, k < 4 ∧ rr = nI 0 ∧ (∀ j, j < k → hsf (Mx 45) (Mx 44 2) (Mx 44 3) j) ∧ ¬ hsf (Mx 45) (Mx 44 2) (Mx 44 3) k ∧ M1 = rhm Mx k ∧ L1 = Lx) ∨ (rr = nI 1 ∧ (∀ j, j < 4 → hsf (Mx 45) (Mx 44 2) (Mx 44 3) j) ∧ M1 = up2 (rhm Mx 4) 44 8 (Mx 44 8 + 1) ∧ L1 = Lx)) := by
  refine k_meti (by decide) (Nat.le_of_ble_eq_true rfl) (fun K hK X Y => ?_)
  subst hK
  have lp : ∀ (fuel : Nat) (k : Nat), 4 - k < fuel → (k ≤ 4) → (Mx 44 3 + k ≤ Mx 44 2) → (∀ j, j < k → hsf (Mx 45) (Mx 44 2) (Mx 44 3) j) → RN K G base 3 0 0 SH ((rhm Mx k)) Lx 2 [(0, .ref (base + 44)), (1, .int (nI (k)))] [] := by
    intro fuel
    induction fuel with
    | zero => intro k hfu; exact absurd hfu (Nat.not_lt_zero _)
    | succ fuel ih =>
      intro k hfu hk hpk hal
      refine r_iload_n (q := 3) (i := 1) (j := 1) (x := nI (k)) X rfl rfl dX7_readHouse_2 rfl ?_
      refine r_iconst (q := 4) (v := nI 4) X kc_4 dX7_readHouse_3 rfl ?_
      refine r_icmp_ge (q := 7) (tgt := 50) X (by decide) dX7_readHouse_4 rfl (fun c4 => ?_) (fun c4 => ?_)
      · replace c4 : 4 ≤ k := (nI_leI (by omega) (by omega)).mp c4
        refine r_aload_n (q := 51) (i := 0) (j := 0) (x := base + 44) X rfl rfl dX7_readHouse_50 rfl ?_
        refine r_dup (q := 52) X rfl dX7_readHouse_51 rfl ?_
        refine r_getf (q := 55) (i := 44) (v := .int (nI (Mx 44 8))) X fk_X7_82 kh_44 rfl (kv (by simp [rhm])) dX7_readHouse_52 rfl ?_
        refine r_iconst (q := 56) (v := nI 1) X kc_1 dX7_readHouse_55 rfl ?_
        refine r_iaddR (q := 57) (x := nI (Mx 44 8)) (y := nI 1) (v := nI ((Mx 44 8) + 1)) X (nI_add _ _) dX7_readHouse_56 rfl ?_
        refine r_puti (q := 60) (i := 44) (n := (Mx 44 8) + 1) X fk_X7_82 kp_X7_8 kh_44 rfl dX7_readHouse_57 rfl ?_
        refine r_iconst (q := 61) (v := nI 1) X kc_1 dX7_readHouse_60 rfl ?_
        refine r_zret X Y (by decide) ?_ dX7_readHouse_61
        obtain rfl : k = 4 := by omega
        exact Or.inr ⟨rfl, hal, rfl, rfl⟩
      · replace c4 : ¬ 4 ≤ k := fun h => c4 ((nI_leI (by omega) (by omega)).mpr h)
        refine r_aload_n (q := 8) (i := 0) (j := 0) (x := base + 44) X rfl rfl dX7_readHouse_7 rfl ?_
        refine r_iload_n (q := 9) (i := 1) (j := 1) (x := nI (k)) X rfl rfl dX7_readHouse_8 rfl ?_
        refine r_if_ne (q := 12) (tgt := 16) X (by decide) dX7_readHouse_9 rfl (fun c9 => ?_) (fun c9 => ?_)
        · replace c9 : ¬ k = 0 := fun h => c9 ((kI_eq0 (by omega)).mpr h)
          refine r_bipush (q := 18) (v := nI 9) X kb_9 dX7_readHouse_16 rfl ?_
          refine r_callVi (q := 21) X (c7_figure K.2.1 G base (rhm Mx k) Lx 9 (by decide) (show Mx 44 2 ≤ 48 from hlen) (show Mx 44 3 + k ≤ Mx 44 2 from hpk) (show ∀ k, k < Mx 44 2 → Mx 45 k < 256 from hby)) kh_44 rfl ks_RX7_78 (by decide) (by decide) ⟨Nat.zero_le _, Nat.zero_le _⟩ rfl (Nat.le_of_ble_eq_true rfl) dX7_readHouse_18 rfl (fun r M1 L1 hp => ?_)
          replace hp : (r = (-9) ∧ ¬ (Mx 44 3 + k < Mx 44 2 ∧ isd (Mx 45 (Mx 44 3 + k)) 9 = 1) ∧ M1 = rhm Mx k ∧ L1 = Lx) ∨ (r = nI (Mx 45 (Mx 44 3 + k) - 48) ∧ Mx 44 3 + k < Mx 44 2 ∧ isd (Mx 45 (Mx 44 3 + k)) 9 = 1 ∧ M1 = up2 (rhm Mx k) 44 3 (Mx 44 3 + k + 1) ∧ L1 = Lx) := hp
          rcases hp with ⟨e1, hno, hp2⟩ | ⟨e1, hlt, hyes, hp2⟩
          · subst e1
            obtain ⟨e2, e3⟩ := hp2
            replace e2 := e2.symm
            subst e2
            replace e3 := e3.symm
            subst e3
            refine r_istore_n (q := 22) (i := 2) (j := 2) X rfl (Nat.le_of_ble_eq_true rfl) dX7_readHouse_21 rfl ?_
            refine r_iload_n (q := 23) (i := 2) (j := 2) (x := (-9)) X rfl rfl dX7_readHouse_22 rfl ?_
            refine r_bipush (q := 25) (v := (-9)) X kb_m9 dX7_readHouse_23 rfl ?_
            refine r_icmp_ne (q := 28) (tgt := 30) X (by decide) dX7_readHouse_25 rfl (fun c => absurd rfl c) (fun _ => ?_)
            refine r_iconst (q := 29) (v := nI 0) X kc_0 dX7_readHouse_28 rfl ?_
            refine r_zret X Y (by decide) ?_ dX7_readHouse_29
            exact Or.inl ⟨k, by omega, rfl, hal, fun h => hno ⟨h.1, by have h2 := h.2; first | rwa [if_pos (by omega)] at h2 | rwa [if_neg (by omega)] at h2⟩, rfl, rfl⟩
          · subst e1
            obtain ⟨e2, e3⟩ := hp2
            replace e2 := e2.symm
            subst e2
            replace e3 := e3.symm
            subst e3
            have hcv := hby (Mx 44 3 + k) hlt
            have hs4 : hsf (Mx 45) (Mx 44 2) (Mx 44 3) k := ⟨hlt, by first | rwa [if_pos (by omega)] | rwa [if_neg (by omega)]⟩
            refine r_istore_n (q := 22) (i := 2) (j := 2) X rfl (Nat.le_of_ble_eq_true rfl) dX7_readHouse_21 rfl ?_
            refine r_iload_n (q := 23) (i := 2) (j := 2) (x := nI (Mx 45 (Mx 44 3 + k) - 48)) X rfl rfl dX7_readHouse_22 rfl ?_
            refine r_bipush (q := 25) (v := (-9)) X kb_m9 dX7_readHouse_23 rfl ?_
            refine r_icmp_ne (q := 28) (tgt := 30) X (by decide) dX7_readHouse_25 rfl (fun c25 => ?_) (fun c25 => ?_)
            · skip
              refine r_aload_n (q := 31) (i := 0) (j := 0) (x := base + 44) X rfl rfl dX7_readHouse_30 rfl ?_
              refine r_getf (q := 34) (i := 44) (v := .ref (base + 48)) X fk_X7_19 kh_44 rfl rfl dX7_readHouse_31 rfl ?_
              refine r_iconst (q := 35) (v := nI 4) X kc_4 dX7_readHouse_34 rfl ?_
              refine r_aload_n (q := 36) (i := 0) (j := 0) (x := base + 44) X rfl rfl dX7_readHouse_35 rfl ?_
              refine r_getf (q := 39) (i := 44) (v := .int (nI (Mx 44 8))) X fk_X7_82 kh_44 rfl (kv (by simp [up2, rhm])) dX7_readHouse_36 rfl ?_
              refine r_imulR (q := 40) (x := nI 4) (y := nI (Mx 44 8)) (v := nI (4 * (Mx 44 8))) X (pk_mul _ _) dX7_readHouse_39 rfl ?_
              refine r_iload_n (q := 41) (i := 1) (j := 1) (x := nI (k)) X rfl rfl dX7_readHouse_40 rfl ?_
              refine r_iaddR (q := 42) (x := nI (4 * (Mx 44 8))) (y := nI (k)) (v := nI ((4 * (Mx 44 8)) + k)) X (nI_add _ _) dX7_readHouse_41 rfl ?_
              refine r_iload_n (q := 43) (i := 2) (j := 2) (x := nI (Mx 45 (Mx 44 3 + k) - 48)) X rfl rfl dX7_readHouse_42 rfl ?_
              refine r_iast (q := 44) (i := 48) (j := (4 * (Mx 44 8)) + k) (v := Mx 45 (Mx 44 3 + k) - 48) X kh_48 (by omega) (Nat.le_of_ble_eq_true rfl) dX7_readHouse_43 rfl ?_
              refine r_iinc (q := 47) (i := 1) (x := nI (k)) (v := nI (k + 1)) X rfl (Nat.le_of_ble_eq_true rfl) (kinc 1 rfl) dX7_readHouse_44 rfl ?_
              refine r_goto (tgt := 2) X (by decide) dX7_readHouse_47 ?_
              refine r_pl [(0, .ref (base + 44)), (1, .int (nI (k + 1)))] ⟨rfl, rfl, trivial⟩ ?_
              exact r_mem _ (rhm_s Mx k) (ih (k + 1) (by omega) (by omega) (by omega) (fun j hj => (Nat.lt_or_ge j k).elim (hal j) (fun h => by rw [show j = k by omega]; exact hs4)))
            · skip
              exact absurd c25 (k_ne9 (by omega))
        · replace c9 : k = 0 := (kI_eq0 (by omega)).mp c9
          refine r_iconst (q := 13) (v := nI 3) X kc_3 dX7_readHouse_12 rfl ?_
          refine r_goto (tgt := 18) X (by decide) dX7_readHouse_13 ?_
          refine r_callVi (q := 21) X (c7_figure K.2.1 G base (rhm Mx k) Lx 3 (by decide) (show Mx 44 2 ≤ 48 from hlen) (show Mx 44 3 + k ≤ Mx 44 2 from hpk) (show ∀ k, k < Mx 44 2 → Mx 45 k < 256 from hby)) kh_44 rfl ks_RX7_78 (by decide) (by decide) ⟨Nat.zero_le _, Nat.zero_le _⟩ rfl (Nat.le_of_ble_eq_true rfl) dX7_readHouse_18 rfl (fun r M1 L1 hp => ?_)
          replace hp : (r = (-9) ∧ ¬ (Mx 44 3 + k < Mx 44 2 ∧ isd (Mx 45 (Mx 44 3 + k)) 3 = 1) ∧ M1 = rhm Mx k ∧ L1 = Lx) ∨ (r = nI (Mx 45 (Mx 44 3 + k) - 48) ∧ Mx 44 3 + k < Mx 44 2 ∧ isd (Mx 45 (Mx 44 3 + k)) 3 = 1 ∧ M1 = up2 (rhm Mx k) 44 3 (Mx 44 3 + k + 1) ∧ L1 = Lx) := hp
          rcases hp with ⟨e1, hno, hp2⟩ | ⟨e1, hlt, hyes, hp2⟩
          · subst e1
            obtain ⟨e2, e3⟩ := hp2
            replace e2 := e2.symm
            subst e2
            replace e3 := e3.symm
            subst e3
            refine r_istore_n (q := 22) (i := 2) (j := 2) X rfl (Nat.le_of_ble_eq_true rfl) dX7_readHouse_21 rfl ?_
            refine r_iload_n (q := 23) (i := 2) (j := 2) (x := (-9)) X rfl rfl dX7_readHouse_22 rfl ?_
            refine r_bipush (q := 25) (v := (-9)) X kb_m9 dX7_readHouse_23 rfl ?_
            refine r_icmp_ne (q := 28) (tgt := 30) X (by decide) dX7_readHouse_25 rfl (fun c => absurd rfl c) (fun _ => ?_)
            refine r_iconst (q := 29) (v := nI 0) X kc_0 dX7_readHouse_28 rfl ?_
            refine r_zret X Y (by decide) ?_ dX7_readHouse_29
            exact Or.inl ⟨k, by omega, rfl, hal, fun h => hno ⟨h.1, by have h2 := h.2; first | rwa [if_pos (by omega)] at h2 | rwa [if_neg (by omega)] at h2⟩, rfl, rfl⟩
          · subst e1
            obtain ⟨e2, e3⟩ := hp2
            replace e2 := e2.symm
            subst e2
            replace e3 := e3.symm
            subst e3
            have hcv := hby (Mx 44 3 + k) hlt
            have hs4 : hsf (Mx 45) (Mx 44 2) (Mx 44 3) k := ⟨hlt, by first | rwa [if_pos (by omega)] | rwa [if_neg (by omega)]⟩
            refine r_istore_n (q := 22) (i := 2) (j := 2) X rfl (Nat.le_of_ble_eq_true rfl) dX7_readHouse_21 rfl ?_
            refine r_iload_n (q := 23) (i := 2) (j := 2) (x := nI (Mx 45 (Mx 44 3 + k) - 48)) X rfl rfl dX7_readHouse_22 rfl ?_
            refine r_bipush (q := 25) (v := (-9)) X kb_m9 dX7_readHouse_23 rfl ?_
            refine r_icmp_ne (q := 28) (tgt := 30) X (by decide) dX7_readHouse_25 rfl (fun c25 => ?_) (fun c25 => ?_)
            · skip
              refine r_aload_n (q := 31) (i := 0) (j := 0) (x := base + 44) X rfl rfl dX7_readHouse_30 rfl ?_
              refine r_getf (q := 34) (i := 44) (v := .ref (base + 48)) X fk_X7_19 kh_44 rfl rfl dX7_readHouse_31 rfl ?_
              refine r_iconst (q := 35) (v := nI 4) X kc_4 dX7_readHouse_34 rfl ?_
              refine r_aload_n (q := 36) (i := 0) (j := 0) (x := base + 44) X rfl rfl dX7_readHouse_35 rfl ?_
              refine r_getf (q := 39) (i := 44) (v := .int (nI (Mx 44 8))) X fk_X7_82 kh_44 rfl (kv (by simp [up2, rhm])) dX7_readHouse_36 rfl ?_
              refine r_imulR (q := 40) (x := nI 4) (y := nI (Mx 44 8)) (v := nI (4 * (Mx 44 8))) X (pk_mul _ _) dX7_readHouse_39 rfl ?_
              refine r_iload_n (q := 41) (i := 1) (j := 1) (x := nI (k)) X rfl rfl dX7_readHouse_40 rfl ?_
              refine r_iaddR (q := 42) (x := nI (4 * (Mx 44 8))) (y := nI (k)) (v := nI ((4 * (Mx 44 8)) + k)) X (nI_add _ _) dX7_readHouse_41 rfl ?_
              refine r_iload_n (q := 43) (i := 2) (j := 2) (x := nI (Mx 45 (Mx 44 3 + k) - 48)) X rfl rfl dX7_readHouse_42 rfl ?_
              refine r_iast (q := 44) (i := 48) (j := (4 * (Mx 44 8)) + k) (v := Mx 45 (Mx 44 3 + k) - 48) X kh_48 (by omega) (Nat.le_of_ble_eq_true rfl) dX7_readHouse_43 rfl ?_
              refine r_iinc (q := 47) (i := 1) (x := nI (k)) (v := nI (k + 1)) X rfl (Nat.le_of_ble_eq_true rfl) (kinc 1 rfl) dX7_readHouse_44 rfl ?_
              refine r_goto (tgt := 2) X (by decide) dX7_readHouse_47 ?_
              refine r_pl [(0, .ref (base + 44)), (1, .int (nI (k + 1)))] ⟨rfl, rfl, trivial⟩ ?_
              exact r_mem _ (rhm_s Mx k) (ih (k + 1) (by omega) (by omega) (by omega) (fun j hj => (Nat.lt_or_ge j k).elim (hal j) (fun h => by rw [show j = k by omega]; exact hs4)))
            · skip
              exact absurd c25 (k_ne9 (by omega))
  refine r_pl [(0, .ref (base + 44))] ⟨rfl, trivial⟩ ?_
  refine r_iconst (q := 1) (v := nI 0) X kc_0 dX7_readHouse_0 rfl ?_
  refine r_istore_n (q := 2) (i := 1) (j := 1) X rfl (Nat.le_of_ble_eq_true rfl) dX7_readHouse_1 rfl ?_
  refine r_pl [(0, .ref (base + 44)), (1, .int (nI (0)))] ⟨rfl, rfl, trivial⟩ ?_
  exact r_mem _ (rhm_0 Mx) (lp 5 0 (by omega) (by omega) (by omega) (fun j hj => absurd hj (Nat.not_lt_zero _)))
