/-! THE CLASS: the street asked, acts -/
set_option maxHeartbeats 8000000 in
theorem c_has6 (l : Launch) (G : ks_G) (base : Nat) (Mx : ks_M) (Lx : ks_L) (x : Int32) (hn : Mx 3 3 ≤ 6) : KI l G base 0 yX4_has cX4_has 2 .boolean [.ref (base + 3), .int (x)] SH Mx Lx (fun rr M1 L1 => (∃ k, rr = nI 1 ∧ k < Mx 3 3 ∧ x = nI k ∧ M1 = Mx ∧ L1 = Lx) ∨ (rr = nI 0 ∧ (∀ k, k < Mx 3 3 → x ≠ nI k) ∧ M1 = Mx ∧ L1 = Lx)) := by
  refine k_meti (by decide) (Nat.le_of_ble_eq_true rfl) (fun K hK X Y => ?_)
  subst hK
  refine r_pl [(0, .ref (base + 3)), (1, .int (x))] ⟨rfl, rfl, trivial⟩ ?_
  refine r_iload_n (q := 1) (i := 1) (j := 1) (x := x) X rfl rfl dX4_has_0 rfl ?_
  refine r_if_lt (q := 4) (tgt := 16) X (by decide) dX4_has_1 rfl (fun c1 => ?_) (fun c1 => ?_)
  · skip
    refine r_iconst (q := 17) (v := nI 0) X kc_0 dX4_has_16 rfl ?_
    refine r_zret X Y (by decide) ?_ dX4_has_17
    exact Or.inr ⟨rfl, fun k hk h => absurd (h ▸ c1) (nI_pos (by omega)), rfl, rfl⟩
  · skip
    obtain ⟨k, hk, rfl⟩ := nI_of c1
    refine r_iload_n (q := 5) (i := 1) (j := 1) (x := nI (k)) X rfl rfl dX4_has_4 rfl ?_
    refine r_aload_n (q := 6) (i := 0) (j := 0) (x := base + 3) X rfl rfl dX4_has_5 rfl ?_
    refine r_getf (q := 9) (i := 3) (v := .int (nI (Mx 3 3))) X fk_X4_21 kh_3 rfl rfl dX4_has_6 rfl ?_
    refine r_icmp_ge (q := 12) (tgt := 16) X (by decide) dX4_has_9 rfl (fun c9 => ?_) (fun c9 => ?_)
    · replace c9 : (Mx 3 3) ≤ k := (nI_leI (by omega) (by omega)).mp c9
      refine r_iconst (q := 17) (v := nI 0) X kc_0 dX4_has_16 rfl ?_
      refine r_zret X Y (by decide) ?_ dX4_has_17
      exact Or.inr ⟨rfl, fun k2 hk2 h => by have := (kI_eq hk (by omega)).mp h; omega, rfl, rfl⟩
    · replace c9 : ¬ (Mx 3 3) ≤ k := fun h => c9 ((nI_leI (by omega) (by omega)).mpr h)
      refine r_iconst (q := 13) (v := nI 1) X kc_1 dX4_has_12 rfl ?_
      refine r_goto (tgt := 17) X (by decide) dX4_has_13 ?_
      refine r_zret X Y (by decide) ?_ dX4_has_17
      exact Or.inl ⟨k, rfl, by omega, rfl, rfl, rfl⟩
set_option maxHeartbeats 8000000 in
theorem c_shapeOf (l : Launch) (G : ks_G) (base : Nat) (Mx : ks_M) (Lx : ks_L) (k : Nat) (hk : k < Mx 3 3) (hn : Mx 3 3 ≤ 6) : KI l G base 1 yX4_shapeOf cX4_shapeOf 2 .int [.ref (base + 3), .int (nI (k))] SH Mx Lx (fun rr M1 L1 => rr = nI (Mx 4 k) ∧ M1 = Mx ∧ L1 = Lx) := by
  refine k_meti (by decide) (Nat.le_of_ble_eq_true rfl) (fun K hK X Y => ?_)
  subst hK
  refine r_pl [(0, .ref (base + 3)), (1, .int (nI (k)))] ⟨rfl, rfl, trivial⟩ ?_
  refine r_aload_n (q := 1) (i := 0) (j := 0) (x := base + 3) X rfl rfl dX4_shapeOf_0 rfl ?_
  refine r_iload_n (q := 2) (i := 1) (j := 1) (x := nI (k)) X rfl rfl dX4_shapeOf_1 rfl ?_
  refine r_callVi (q := 5) X (c_has6 K.2.1 G base Mx Lx (nI k) hn) kh_3 rfl ks_RX4_51 (by decide) (by decide) ⟨Nat.zero_le _, Nat.zero_le _⟩ rfl (Nat.le_of_ble_eq_true rfl) dX4_shapeOf_2 rfl (fun r M1 L1 hp => ?_)
  rcases hp with ⟨k2, e1, hkn2, hxe, hp2⟩ | ⟨e1, hno, hp2⟩
  · subst e1
    obtain ⟨e2, e3⟩ := hp2
    replace e2 := e2.symm
    subst e2
    replace e3 := e3.symm
    subst e3
    refine r_if_eq (q := 8) (tgt := 17) X (by decide) dX4_shapeOf_5 rfl (fun c => absurd c (by decide)) (fun _ => ?_)
    refine r_aload_n (q := 9) (i := 0) (j := 0) (x := base + 3) X rfl rfl dX4_shapeOf_8 rfl ?_
    refine r_getf (q := 12) (i := 3) (v := .ref (base + 4)) X fk_X4_9 kh_3 rfl rfl dX4_shapeOf_9 rfl ?_
    refine r_iload_n (q := 13) (i := 1) (j := 1) (x := nI (k)) X rfl rfl dX4_shapeOf_12 rfl ?_
    refine r_iald (q := 14) (i := 4) (j := k) (v := Mx 4 k) X kh_4 (by omega) (Nat.le_of_ble_eq_true rfl) rfl dX4_shapeOf_13 rfl ?_
    refine r_goto (tgt := 18) X (by decide) dX4_shapeOf_14 ?_
    refine r_iret X Y ?_ dX4_shapeOf_18
    exact ⟨rfl, rfl, rfl⟩
  · exact absurd rfl (hno k hk)
set_option maxHeartbeats 8000000 in
theorem c_newsOf (l : Launch) (G : ks_G) (base : Nat) (Mx : ks_M) (Lx : ks_L) (k t : Nat) (hk : k < Mx 3 3) (hn : Mx 3 3 ≤ 6) (ht : t < 2147483648) : KI l G base 1 yX4_newsOf cX4_newsOf 3 .int [.ref (base + 3), .int (nI (k)), .int (nI (t))] SH Mx Lx (fun rr M1 L1 => rr = nI (Mx 5 (k * 3 + t % 3)) ∧ M1 = Mx ∧ L1 = Lx) := by
  refine k_meti (by decide) (Nat.le_of_ble_eq_true rfl) (fun K hK X Y => ?_)
  subst hK
  refine r_pl [(0, .ref (base + 3)), (1, .int (nI (k))), (2, .int (nI (t)))] ⟨rfl, rfl, rfl, trivial⟩ ?_
  refine r_aload_n (q := 1) (i := 0) (j := 0) (x := base + 3) X rfl rfl dX4_newsOf_0 rfl ?_
  refine r_iload_n (q := 2) (i := 1) (j := 1) (x := nI (k)) X rfl rfl dX4_newsOf_1 rfl ?_
  refine r_callVi (q := 5) X (c_has6 K.2.1 G base Mx Lx (nI k) hn) kh_3 rfl ks_RX4_51 (by decide) (by decide) ⟨Nat.zero_le _, Nat.zero_le _⟩ rfl (Nat.le_of_ble_eq_true rfl) dX4_newsOf_2 rfl (fun r M1 L1 hp => ?_)
  rcases hp with ⟨k2, e1, hkn2, hxe, hp2⟩ | ⟨e1, hno, hp2⟩
  · subst e1
    obtain ⟨e2, e3⟩ := hp2
    replace e2 := e2.symm
    subst e2
    replace e3 := e3.symm
    subst e3
    refine r_if_eq (q := 8) (tgt := 25) X (by decide) dX4_newsOf_5 rfl (fun c => absurd c (by decide)) (fun _ => ?_)
    refine r_aload_n (q := 9) (i := 0) (j := 0) (x := base + 3) X rfl rfl dX4_newsOf_8 rfl ?_
    refine r_getf (q := 12) (i := 3) (v := .ref (base + 5)) X fk_X4_15 kh_3 rfl rfl dX4_newsOf_9 rfl ?_
    refine r_iload_n (q := 13) (i := 1) (j := 1) (x := nI (k)) X rfl rfl dX4_newsOf_12 rfl ?_
    refine r_iconst (q := 14) (v := nI 3) X kc_3 dX4_newsOf_13 rfl ?_
    refine r_imulR (q := 15) (x := nI (k)) (y := nI 3) (v := nI (k * 3)) X (pk_mul _ _) dX4_newsOf_14 rfl ?_
    refine r_iload_n (q := 16) (i := 2) (j := 2) (x := nI (t)) X rfl rfl dX4_newsOf_15 rfl ?_
    refine r_iconst (q := 17) (v := nI 3) X kc_3 dX4_newsOf_16 rfl ?_
    refine r_callSi (q := 20) X (c_fmod K.2.1 G base Mx Lx t 3 (by decide) ht (by decide)) ks_RX4_55 (by decide) (by decide) ⟨Nat.zero_le _, Nat.zero_le _⟩ rfl (Nat.le_of_ble_eq_true rfl) dX4_newsOf_17 rfl (fun r M1 L1 hp => ?_)
    obtain ⟨e1, e2, e3⟩ := hp
    subst e1
    replace e2 := e2.symm
    subst e2
    replace e3 := e3.symm
    subst e3
    refine r_iaddR (q := 21) (x := nI (k * 3)) (y := nI (t % 3)) (v := nI ((k * 3) + (t % 3))) X (nI_add _ _) dX4_newsOf_20 rfl ?_
    refine r_iald (q := 22) (i := 5) (j := (k * 3) + (t % 3)) (v := Mx 5 ((k * 3) + (t % 3))) X kh_5 (by omega) (Nat.le_of_ble_eq_true rfl) rfl dX4_newsOf_21 rfl ?_
    refine r_goto (tgt := 26) X (by decide) dX4_newsOf_22 ?_
    refine r_iret X Y ?_ dX4_newsOf_26
    exact ⟨rfl, rfl, rfl⟩
  · exact absurd rfl (hno k hk)
def ab6 (M : ks_M) (j : Nat) : Nat := if j = 0 then M 3 3 else if j = 1 then M 7 0 else if j = 2 then M 7 1 else if j = 3 then M 7 2 else if j = 4 then M 7 3 else if j = 5 then M 7 4 else if j = 6 then M 7 5 else if j = 7 then M 9 2 else if j = 8 then M 35 4 else M 1 1
def hv6 (M : ks_M) (k j : Nat) : Nat := if j = 0 then M 4 k else if j < 4 then M 5 (k * 3 + (j - 1)) else M 7 6 >>> (k * 3) &&& 7
set_option maxHeartbeats 8000000 in
theorem c6_about (l : Launch) (G : ks_G) (base : Nat) (Mx : ks_M) (Lx : ks_L) (x : Int32) : KI l G base 0 yX6_about cX6_about 2 .int [.ref (base + 0), .int (x)] SH Mx Lx (fun rr M1 L1 => (∃ j, j ≤ 9 ∧ x = nI j ∧ rr = nI (ab6 Mx j) ∧ M1 = Mx ∧ L1 = Lx) ∨ (rr = (-2) ∧ (∀ j, j ≤ 9 → x ≠ nI j) ∧ M1 = Mx ∧ L1 = Lx)) := by
  refine k_meti (by decide) (Nat.le_of_ble_eq_true rfl) (fun K hK X Y => ?_)
  subst hK
  refine r_pl [(0, .ref (base + 0)), (1, .int (x))] ⟨rfl, rfl, trivial⟩ ?_
  refine r_iload_n (q := 1) (i := 1) (j := 1) (x := x) X rfl rfl dX6_about_0 rfl ?_
  rcases kTab 0 9 (by decide) (x) with ⟨j1, hj1, hk1, e1⟩ | hn1
  · obtain rfl | rfl | rfl | rfl | rfl | rfl | rfl | rfl | rfl | rfl : j1 = 0 ∨ j1 = 1 ∨ j1 = 2 ∨ j1 = 3 ∨ j1 = 4 ∨ j1 = 5 ∨ j1 = 6 ∨ j1 = 7 ∨ j1 = 8 ∨ j1 = 9 := by omega
    · subst e1
      refine r_tableIn (x := nI 0) (off := 55) (tgt := 56) X (by decide) (by decide) (by decide) (by decide) dX6_about_1 ?_
      refine r_aload_n (q := 57) (i := 0) (j := 0) (x := base + 0) X rfl rfl dX6_about_56 rfl ?_
      refine r_getf (q := 60) (i := 0) (v := .ref (base + 3)) X fk_X6_19 kh_0 rfl rfl dX6_about_57 rfl ?_
      refine r_getf (q := 63) (i := 3) (v := .int (nI (Mx 3 3))) X fk_X6_96 kh_3 rfl rfl dX6_about_60 rfl ?_
      refine r_iret X Y ?_ dX6_about_63
      exact Or.inl ⟨0, by decide, rfl, rfl, rfl, rfl⟩
    · subst e1
      refine r_tableIn (x := nI 1) (off := 63) (tgt := 64) X (by decide) (by decide) (by decide) (by decide) dX6_about_1 ?_
      refine r_aload_n (q := 65) (i := 0) (j := 0) (x := base + 0) X rfl rfl dX6_about_64 rfl ?_
      refine r_getf (q := 68) (i := 0) (v := .ref (base + 7)) X fk_X6_26 kh_0 rfl rfl dX6_about_65 rfl ?_
      refine r_getf (q := 71) (i := 7) (v := .int (nI (Mx 7 0))) X fk_X6_97 kh_7 rfl rfl dX6_about_68 rfl ?_
      refine r_iret X Y ?_ dX6_about_71
      exact Or.inl ⟨1, by decide, rfl, rfl, rfl, rfl⟩
    · subst e1
      refine r_tableIn (x := nI 2) (off := 71) (tgt := 72) X (by decide) (by decide) (by decide) (by decide) dX6_about_1 ?_
      refine r_aload_n (q := 73) (i := 0) (j := 0) (x := base + 0) X rfl rfl dX6_about_72 rfl ?_
      refine r_getf (q := 76) (i := 0) (v := .ref (base + 7)) X fk_X6_26 kh_0 rfl rfl dX6_about_73 rfl ?_
      refine r_getf (q := 79) (i := 7) (v := .int (nI (Mx 7 1))) X fk_X6_100 kh_7 rfl rfl dX6_about_76 rfl ?_
      refine r_iret X Y ?_ dX6_about_79
      exact Or.inl ⟨2, by decide, rfl, rfl, rfl, rfl⟩
    · subst e1
      refine r_tableIn (x := nI 3) (off := 79) (tgt := 80) X (by decide) (by decide) (by decide) (by decide) dX6_about_1 ?_
      refine r_aload_n (q := 81) (i := 0) (j := 0) (x := base + 0) X rfl rfl dX6_about_80 rfl ?_
      refine r_getf (q := 84) (i := 0) (v := .ref (base + 7)) X fk_X6_26 kh_0 rfl rfl dX6_about_81 rfl ?_
      refine r_getf (q := 87) (i := 7) (v := .int (nI (Mx 7 2))) X fk_X6_103 kh_7 rfl rfl dX6_about_84 rfl ?_
      refine r_iret X Y ?_ dX6_about_87
      exact Or.inl ⟨3, by decide, rfl, rfl, rfl, rfl⟩
    · subst e1
      refine r_tableIn (x := nI 4) (off := 87) (tgt := 88) X (by decide) (by decide) (by decide) (by decide) dX6_about_1 ?_
      refine r_aload_n (q := 89) (i := 0) (j := 0) (x := base + 0) X rfl rfl dX6_about_88 rfl ?_
      refine r_getf (q := 92) (i := 0) (v := .ref (base + 7)) X fk_X6_26 kh_0 rfl rfl dX6_about_89 rfl ?_
      refine r_getf (q := 95) (i := 7) (v := .int (nI (Mx 7 3))) X fk_X6_106 kh_7 rfl rfl dX6_about_92 rfl ?_
      refine r_iret X Y ?_ dX6_about_95
      exact Or.inl ⟨4, by decide, rfl, rfl, rfl, rfl⟩
    · subst e1
      refine r_tableIn (x := nI 5) (off := 95) (tgt := 96) X (by decide) (by decide) (by decide) (by decide) dX6_about_1 ?_
      refine r_aload_n (q := 97) (i := 0) (j := 0) (x := base + 0) X rfl rfl dX6_about_96 rfl ?_
      refine r_getf (q := 100) (i := 0) (v := .ref (base + 7)) X fk_X6_26 kh_0 rfl rfl dX6_about_97 rfl ?_
      refine r_getf (q := 103) (i := 7) (v := .int (nI (Mx 7 4))) X fk_X6_109 kh_7 rfl rfl dX6_about_100 rfl ?_
      refine r_iret X Y ?_ dX6_about_103
      exact Or.inl ⟨5, by decide, rfl, rfl, rfl, rfl⟩
    · subst e1
      refine r_tableIn (x := nI 6) (off := 103) (tgt := 104) X (by decide) (by decide) (by decide) (by decide) dX6_about_1 ?_
      refine r_aload_n (q := 105) (i := 0) (j := 0) (x := base + 0) X rfl rfl dX6_about_104 rfl ?_
      refine r_getf (q := 108) (i := 0) (v := .ref (base + 7)) X fk_X6_26 kh_0 rfl rfl dX6_about_105 rfl ?_
      refine r_getf (q := 111) (i := 7) (v := .int (nI (Mx 7 5))) X fk_X6_112 kh_7 rfl rfl dX6_about_108 rfl ?_
      refine r_iret X Y ?_ dX6_about_111
      exact Or.inl ⟨6, by decide, rfl, rfl, rfl, rfl⟩
    · subst e1
      refine r_tableIn (x := nI 7) (off := 111) (tgt := 112) X (by decide) (by decide) (by decide) (by decide) dX6_about_1 ?_
      refine r_aload_n (q := 113) (i := 0) (j := 0) (x := base + 0) X rfl rfl dX6_about_112 rfl ?_
      refine r_getf (q := 116) (i := 0) (v := .ref (base + 9)) X fk_X6_36 kh_0 rfl rfl dX6_about_113 rfl ?_
      refine r_getf (q := 119) (i := 9) (v := .int (nI (Mx 9 2))) X fk_X6_93 kh_9 rfl rfl dX6_about_116 rfl ?_
      refine r_iret X Y ?_ dX6_about_119
      exact Or.inl ⟨7, by decide, rfl, rfl, rfl, rfl⟩
    · subst e1
      refine r_tableIn (x := nI 8) (off := 119) (tgt := 120) X (by decide) (by decide) (by decide) (by decide) dX6_about_1 ?_
      refine r_aload_n (q := 121) (i := 0) (j := 0) (x := base + 0) X rfl rfl dX6_about_120 rfl ?_
      refine r_getf (q := 124) (i := 0) (v := .ref (base + 35)) X fk_X6_50 kh_0 rfl rfl dX6_about_121 rfl ?_
      refine r_getf (q := 127) (i := 35) (v := .int (nI (Mx 35 4))) X fk_X6_115 kh_35 rfl rfl dX6_about_124 rfl ?_
      refine r_iret X Y ?_ dX6_about_127
      exact Or.inl ⟨8, by decide, rfl, rfl, rfl, rfl⟩
    · subst e1
      refine r_tableIn (x := nI 9) (off := 127) (tgt := 128) X (by decide) (by decide) (by decide) (by decide) dX6_about_1 ?_
      refine r_aload_n (q := 129) (i := 0) (j := 0) (x := base + 0) X rfl rfl dX6_about_128 rfl ?_
      refine r_getf (q := 132) (i := 0) (v := .ref (base + 1)) X fk_X6_10 kh_0 rfl rfl dX6_about_129 rfl ?_
      refine r_getf (q := 135) (i := 1) (v := .int (nI (Mx 1 1))) X fk_X6_74 kh_1 rfl rfl dX6_about_132 rfl ?_
      refine r_iret X Y ?_ dX6_about_135
      exact Or.inl ⟨9, by decide, rfl, rfl, rfl, rfl⟩
  · refine r_tableOut (tgt := 136) X hn1 (by decide) dX6_about_1 ?_
    refine r_bipush (q := 138) (v := (-2)) X kb_m2 dX6_about_136 rfl ?_
    refine r_iret X Y ?_ dX6_about_138
    refine Or.inr ⟨rfl, fun j hj h => ?_, rfl, rfl⟩
    rw [h] at hn1
    rw [nI_toInt (by omega)] at hn1
    omega
set_option maxHeartbeats 8000000 in
theorem c6_house (l : Launch) (G : ks_G) (base : Nat) (Mx : ks_M) (Lx : ks_L) (x z : Int32) (hn : Mx 3 3 ≤ 6) (h6 : Mx 7 6 < 262144) : KI l G base 2 yX6_house cX6_house 3 .int [.ref (base + 0), .int (x), .int (z)] SH Mx Lx (fun rr M1 L1 => ((rr = (-1) ∧ (∀ k, k < Mx 3 3 → x ≠ nI k)) ∨ (∃ k, k < Mx 3 3 ∧ x = nI k ∧ ((∃ j, j ≤ 4 ∧ z = nI j ∧ rr = nI (hv6 Mx k j)) ∨ (rr = (-2) ∧ ∀ j, j ≤ 4 → z ≠ nI j)))) ∧ M1 = Mx ∧ L1 = Lx) := by
  refine k_meti (by decide) (Nat.le_of_ble_eq_true rfl) (fun K hK X Y => ?_)
  subst hK
  refine r_pl [(0, .ref (base + 0)), (1, .int (x)), (2, .int (z))] ⟨rfl, rfl, rfl, trivial⟩ ?_
  refine r_aload_n (q := 1) (i := 0) (j := 0) (x := base + 0) X rfl rfl dX6_house_0 rfl ?_
  refine r_getf (q := 4) (i := 0) (v := .ref (base + 3)) X fk_X6_19 kh_0 rfl rfl dX6_house_1 rfl ?_
  refine r_iload_n (q := 5) (i := 1) (j := 1) (x := x) X rfl rfl dX6_house_4 rfl ?_
  refine r_callVi (q := 8) X (c_has6 K.2.1 G base Mx Lx x hn) kh_3 rfl ks_RX6_116 (by decide) (by decide) ⟨Nat.zero_le _, Nat.zero_le _⟩ rfl (Nat.le_of_ble_eq_true rfl) dX6_house_5 rfl (fun r M1 L1 hp => ?_)
  rcases hp with ⟨k, e1, hkn, hxe, hp2⟩ | ⟨e1, hno, hp2⟩
  · subst e1
    obtain ⟨e2, e3⟩ := hp2
    replace e2 := e2.symm
    subst e2
    replace e3 := e3.symm
    subst e3
    subst hxe
    refine r_if_ne (q := 11) (tgt := 13) X (by decide) dX6_house_8 rfl (fun _ => ?_) (fun c => absurd c (by decide))
    refine r_iload_n (q := 14) (i := 2) (j := 2) (x := z) X rfl rfl dX6_house_13 rfl ?_
    rcases kTab 0 4 (by decide) (z) with ⟨j14, hj14, hk14, e14⟩ | hn14
    · obtain rfl | rfl | rfl | rfl | rfl : j14 = 0 ∨ j14 = 1 ∨ j14 = 2 ∨ j14 = 3 ∨ j14 = 4 := by omega
      · subst e14
        refine r_tableIn (x := nI 0) (off := 34) (tgt := 48) X (by decide) (by decide) (by decide) (by decide) dX6_house_14 ?_
        refine r_aload_n (q := 49) (i := 0) (j := 0) (x := base + 0) X rfl rfl dX6_house_48 rfl ?_
        refine r_getf (q := 52) (i := 0) (v := .ref (base + 3)) X fk_X6_19 kh_0 rfl rfl dX6_house_49 rfl ?_
        refine r_iload_n (q := 53) (i := 1) (j := 1) (x := nI (k)) X rfl rfl dX6_house_52 rfl ?_
        refine r_callVi (q := 56) X (c_shapeOf K.2.1 G base Mx Lx k hkn hn) kh_3 rfl ks_RX6_120 (by decide) (by decide) ⟨Nat.zero_le _, Nat.zero_le _⟩ rfl (Nat.le_of_ble_eq_true rfl) dX6_house_53 rfl (fun r M1 L1 hp => ?_)
        obtain ⟨e1, e2, e3⟩ := hp
        subst e1
        replace e2 := e2.symm
        subst e2
        replace e3 := e3.symm
        subst e3
        refine r_iret X Y ?_ dX6_house_56
        exact ⟨Or.inr ⟨k, hkn, rfl, Or.inl ⟨0, by decide, rfl, rfl⟩⟩, rfl, rfl⟩
      · subst e14
        refine r_tableIn (x := nI 1) (off := 43) (tgt := 57) X (by decide) (by decide) (by decide) (by decide) dX6_house_14 ?_
        refine r_aload_n (q := 58) (i := 0) (j := 0) (x := base + 0) X rfl rfl dX6_house_57 rfl ?_
        refine r_getf (q := 61) (i := 0) (v := .ref (base + 3)) X fk_X6_19 kh_0 rfl rfl dX6_house_58 rfl ?_
        refine r_iload_n (q := 62) (i := 1) (j := 1) (x := nI (k)) X rfl rfl dX6_house_61 rfl ?_
        refine r_iload_n (q := 63) (i := 2) (j := 2) (x := nI (1)) X rfl rfl dX6_house_62 rfl ?_
        refine r_iconst (q := 64) (v := nI 1) X kc_1 dX6_house_63 rfl ?_
        refine r_isubR (q := 65) (x := nI (1)) (y := nI 1) (v := nI (1 - 1)) X (pk_sub (by decide)) dX6_house_64 rfl ?_
        refine r_callVi (q := 68) X (c_newsOf K.2.1 G base Mx Lx k (1 - 1) hkn hn (by decide)) kh_3 rfl ks_RX6_124 (by decide) (by decide) ⟨Nat.zero_le _, Nat.zero_le _⟩ rfl (Nat.le_of_ble_eq_true rfl) dX6_house_65 rfl (fun r M1 L1 hp => ?_)
        obtain ⟨e1, e2, e3⟩ := hp
        subst e1
        replace e2 := e2.symm
        subst e2
        replace e3 := e3.symm
        subst e3
        refine r_iret X Y ?_ dX6_house_68
        exact ⟨Or.inr ⟨k, hkn, rfl, Or.inl ⟨1, by decide, rfl, rfl⟩⟩, rfl, rfl⟩
      · subst e14
        refine r_tableIn (x := nI 2) (off := 43) (tgt := 57) X (by decide) (by decide) (by decide) (by decide) dX6_house_14 ?_
        refine r_aload_n (q := 58) (i := 0) (j := 0) (x := base + 0) X rfl rfl dX6_house_57 rfl ?_
        refine r_getf (q := 61) (i := 0) (v := .ref (base + 3)) X fk_X6_19 kh_0 rfl rfl dX6_house_58 rfl ?_
        refine r_iload_n (q := 62) (i := 1) (j := 1) (x := nI (k)) X rfl rfl dX6_house_61 rfl ?_
        refine r_iload_n (q := 63) (i := 2) (j := 2) (x := nI (2)) X rfl rfl dX6_house_62 rfl ?_
        refine r_iconst (q := 64) (v := nI 1) X kc_1 dX6_house_63 rfl ?_
        refine r_isubR (q := 65) (x := nI (2)) (y := nI 1) (v := nI (2 - 1)) X (pk_sub (by decide)) dX6_house_64 rfl ?_
        refine r_callVi (q := 68) X (c_newsOf K.2.1 G base Mx Lx k (2 - 1) hkn hn (by decide)) kh_3 rfl ks_RX6_124 (by decide) (by decide) ⟨Nat.zero_le _, Nat.zero_le _⟩ rfl (Nat.le_of_ble_eq_true rfl) dX6_house_65 rfl (fun r M1 L1 hp => ?_)
        obtain ⟨e1, e2, e3⟩ := hp
        subst e1
        replace e2 := e2.symm
        subst e2
        replace e3 := e3.symm
        subst e3
        refine r_iret X Y ?_ dX6_house_68
        exact ⟨Or.inr ⟨k, hkn, rfl, Or.inl ⟨2, by decide, rfl, rfl⟩⟩, rfl, rfl⟩
      · subst e14
        refine r_tableIn (x := nI 3) (off := 43) (tgt := 57) X (by decide) (by decide) (by decide) (by decide) dX6_house_14 ?_
        refine r_aload_n (q := 58) (i := 0) (j := 0) (x := base + 0) X rfl rfl dX6_house_57 rfl ?_
        refine r_getf (q := 61) (i := 0) (v := .ref (base + 3)) X fk_X6_19 kh_0 rfl rfl dX6_house_58 rfl ?_
        refine r_iload_n (q := 62) (i := 1) (j := 1) (x := nI (k)) X rfl rfl dX6_house_61 rfl ?_
        refine r_iload_n (q := 63) (i := 2) (j := 2) (x := nI (3)) X rfl rfl dX6_house_62 rfl ?_
        refine r_iconst (q := 64) (v := nI 1) X kc_1 dX6_house_63 rfl ?_
        refine r_isubR (q := 65) (x := nI (3)) (y := nI 1) (v := nI (3 - 1)) X (pk_sub (by decide)) dX6_house_64 rfl ?_
        refine r_callVi (q := 68) X (c_newsOf K.2.1 G base Mx Lx k (3 - 1) hkn hn (by decide)) kh_3 rfl ks_RX6_124 (by decide) (by decide) ⟨Nat.zero_le _, Nat.zero_le _⟩ rfl (Nat.le_of_ble_eq_true rfl) dX6_house_65 rfl (fun r M1 L1 hp => ?_)
        obtain ⟨e1, e2, e3⟩ := hp
        subst e1
        replace e2 := e2.symm
        subst e2
        replace e3 := e3.symm
        subst e3
        refine r_iret X Y ?_ dX6_house_68
        exact ⟨Or.inr ⟨k, hkn, rfl, Or.inl ⟨3, by decide, rfl, rfl⟩⟩, rfl, rfl⟩
      · subst e14
        refine r_tableIn (x := nI 4) (off := 55) (tgt := 69) X (by decide) (by decide) (by decide) (by decide) dX6_house_14 ?_
        refine r_aload_n (q := 70) (i := 0) (j := 0) (x := base + 0) X rfl rfl dX6_house_69 rfl ?_
        refine r_getf (q := 73) (i := 0) (v := .ref (base + 7)) X fk_X6_26 kh_0 rfl rfl dX6_house_70 rfl ?_
        refine r_iload_n (q := 74) (i := 1) (j := 1) (x := nI (k)) X rfl rfl dX6_house_73 rfl ?_
        refine r_callVi (q := 77) X (c_readOf K.2.1 G base Mx Lx 7 kh_7 k (by omega) (by omega)) kh_7 rfl ks_RX6_128 (by decide) (by decide) ⟨Nat.zero_le _, Nat.zero_le _⟩ rfl (Nat.le_of_ble_eq_true rfl) dX6_house_74 rfl (fun r M1 L1 hp => ?_)
        obtain ⟨e1, e2, e3⟩ := hp
        subst e1
        replace e2 := e2.symm
        subst e2
        replace e3 := e3.symm
        subst e3
        refine r_iret X Y ?_ dX6_house_77
        exact ⟨Or.inr ⟨k, hkn, rfl, Or.inl ⟨4, by decide, rfl, rfl⟩⟩, rfl, rfl⟩
    · refine r_tableOut (tgt := 78) X hn14 (by decide) dX6_house_14 ?_
      refine r_bipush (q := 80) (v := (-2)) X kb_m2 dX6_house_78 rfl ?_
      refine r_iret X Y ?_ dX6_house_80
      refine ⟨Or.inr ⟨k, hkn, rfl, Or.inr ⟨rfl, fun j hj h => ?_⟩⟩, rfl, rfl⟩
      rw [h] at hn14
      rw [nI_toInt (by omega)] at hn14
      omega
  · subst e1
    obtain ⟨e2, e3⟩ := hp2
    replace e2 := e2.symm
    subst e2
    replace e3 := e3.symm
    subst e3
    refine r_if_ne (q := 11) (tgt := 13) X (by decide) dX6_house_8 rfl (fun c => absurd c (by decide)) (fun _ => ?_)
    refine r_iconst (q := 12) (v := (-1)) X kc_m1 dX6_house_11 rfl ?_
    refine r_iret X Y ?_ dX6_house_12
    exact ⟨Or.inl ⟨rfl, hno⟩, rfl, rfl⟩
set_option maxHeartbeats 8000000 in
theorem c6_sight (l : Launch) (G : ks_G) (base : Nat) (Mx : ks_M) (Lx : ks_L) (x z : Int32) (hn : Mx 3 3 ≤ 6) (h4 : Mx 7 4 < 64) (h5 : Mx 7 5 < 64) : KI l G base 2 yX6_sight cX6_sight 3 .int [.ref (base + 0), .int (x), .int (z)] SH Mx Lx (fun rr M1 L1 => ((rr = (-1) ∧ (∀ k, k < Mx 3 3 → x ≠ nI k)) ∨ (∃ k, k < Mx 3 3 ∧ x = nI k ∧ ((∃ j, j ≤ 99 ∧ z = nI j ∧ rr = nI (sgv (Mx 6) (Mx 7) k j)) ∨ (rr = (-2) ∧ ∀ j, j ≤ 99 → z ≠ nI j)))) ∧ M1 = Mx ∧ L1 = Lx) := by
  refine k_meti (by decide) (Nat.le_of_ble_eq_true rfl) (fun K hK X Y => ?_)
  subst hK
  refine r_pl [(0, .ref (base + 0)), (1, .int (x)), (2, .int (z))] ⟨rfl, rfl, rfl, trivial⟩ ?_
  refine r_aload_n (q := 1) (i := 0) (j := 0) (x := base + 0) X rfl rfl dX6_sight_0 rfl ?_
  refine r_getf (q := 4) (i := 0) (v := .ref (base + 3)) X fk_X6_19 kh_0 rfl rfl dX6_sight_1 rfl ?_
  refine r_iload_n (q := 5) (i := 1) (j := 1) (x := x) X rfl rfl dX6_sight_4 rfl ?_
  refine r_callVi (q := 8) X (c_has6 K.2.1 G base Mx Lx x hn) kh_3 rfl ks_RX6_116 (by decide) (by decide) ⟨Nat.zero_le _, Nat.zero_le _⟩ rfl (Nat.le_of_ble_eq_true rfl) dX6_sight_5 rfl (fun r M1 L1 hp => ?_)
  rcases hp with ⟨k, e1, hkn, hxe, hp2⟩ | ⟨e1, hno, hp2⟩
  · subst e1
    obtain ⟨e2, e3⟩ := hp2
    replace e2 := e2.symm
    subst e2
    replace e3 := e3.symm
    subst e3
    subst hxe
    refine r_if_ne (q := 11) (tgt := 13) X (by decide) dX6_sight_8 rfl (fun _ => ?_) (fun c => absurd c (by decide))
    refine r_iload_n (q := 14) (i := 2) (j := 2) (x := z) X rfl rfl dX6_sight_13 rfl ?_
    refine r_if_lt (q := 17) (tgt := 23) X (by decide) dX6_sight_14 rfl (fun c14 => ?_) (fun c14 => ?_)
    · skip
      refine r_bipush (q := 25) (v := (-2)) X kb_m2 dX6_sight_23 rfl ?_
      refine r_iret X Y ?_ dX6_sight_25
      refine ⟨Or.inr ⟨k, hkn, rfl, Or.inr ⟨rfl, fun j2 hj2 h => ?_⟩⟩, rfl, rfl⟩
      rw [h] at c14; exact absurd c14 (nI_pos (by omega))
    · skip
      obtain ⟨j, hj, rfl⟩ := nI_of c14
      refine r_iload_n (q := 18) (i := 2) (j := 2) (x := nI (j)) X rfl rfl dX6_sight_17 rfl ?_
      refine r_bipush (q := 20) (v := nI 99) X kb_99 dX6_sight_18 rfl ?_
      refine r_icmp_le (q := 23) (tgt := 26) X (by decide) dX6_sight_20 rfl (fun c20 => ?_) (fun c20 => ?_)
      · replace c20 : j ≤ 99 := (nI_leI (by omega) (by omega)).mp c20
        refine r_aload_n (q := 27) (i := 0) (j := 0) (x := base + 0) X rfl rfl dX6_sight_26 rfl ?_
        refine r_getf (q := 30) (i := 0) (v := .ref (base + 7)) X fk_X6_26 kh_0 rfl rfl dX6_sight_27 rfl ?_
        refine r_aload_n (q := 31) (i := 0) (j := 0) (x := base + 0) X rfl rfl dX6_sight_30 rfl ?_
        refine r_getf (q := 34) (i := 0) (v := .ref (base + 3)) X fk_X6_19 kh_0 rfl rfl dX6_sight_31 rfl ?_
        refine r_iload_n (q := 35) (i := 1) (j := 1) (x := nI (k)) X rfl rfl dX6_sight_34 rfl ?_
        refine r_iload_n (q := 36) (i := 2) (j := 2) (x := nI (j)) X rfl rfl dX6_sight_35 rfl ?_
        refine r_callVi (q := 39) X (c_shown K.2.1 G base Mx Lx 7 kh_7 k j (by omega) (by omega) (by omega) (by omega)) kh_7 rfl ks_RX6_131 (by decide) (by decide) ⟨Nat.zero_le _, Nat.zero_le _⟩ rfl (Nat.le_of_ble_eq_true rfl) dX6_sight_36 rfl (fun r M1 L1 hp => ?_)
        obtain ⟨e1, e2, e3⟩ := hp
        subst e1
        replace e2 := e2.symm
        subst e2
        replace e3 := e3.symm
        subst e3
        refine r_iret X Y ?_ dX6_sight_39
        exact ⟨Or.inr ⟨k, hkn, rfl, Or.inl ⟨j, by omega, rfl, rfl⟩⟩, rfl, rfl⟩
      · replace c20 : ¬ j ≤ 99 := fun h => c20 ((nI_leI (by omega) (by omega)).mpr h)
        refine r_bipush (q := 25) (v := (-2)) X kb_m2 dX6_sight_23 rfl ?_
        refine r_iret X Y ?_ dX6_sight_25
        refine ⟨Or.inr ⟨k, hkn, rfl, Or.inr ⟨rfl, fun j2 hj2 h => ?_⟩⟩, rfl, rfl⟩
        have := (kI_eq hj (by omega)).mp h; omega
  · subst e1
    obtain ⟨e2, e3⟩ := hp2
    replace e2 := e2.symm
    subst e2
    replace e3 := e3.symm
    subst e3
    refine r_if_ne (q := 11) (tgt := 13) X (by decide) dX6_sight_8 rfl (fun c => absurd c (by decide)) (fun _ => ?_)
    refine r_iconst (q := 12) (v := (-1)) X kc_m1 dX6_sight_11 rfl ?_
    refine r_iret X Y ?_ dX6_sight_12
    exact ⟨Or.inl ⟨rfl, hno⟩, rfl, rfl⟩
theorem kd10 {j : Nat} (h : j < 14) : ([(3, 11), (3, 12), (3, 13), (3, 14), (3, 15), (3, 16), (3, 17), (3, 18), (3, 19), (3, 20), (3, 21), (3, 22), (3, 23), (3, 24)] : List (Nat × Nat))[j]? = some (3, 11 + j) := (show ∀ j, j < 14 → ([(3, 11), (3, 12), (3, 13), (3, 14), (3, 15), (3, 16), (3, 17), (3, 18), (3, 19), (3, 20), (3, 21), (3, 22), (3, 23), (3, 24)] : List (Nat × Nat))[j]? = some (3, 11 + j) by decide) j h
theorem kh_acts {j : Nat} (h : j < 14) : SH[11 + j]? = some kSt := by
  rcases (show j = 0 ∨ j = 1 ∨ j = 2 ∨ j = 3 ∨ j = 4 ∨ j = 5 ∨ j = 6 ∨ j = 7 ∨ j = 8 ∨ j = 9 ∨ j = 10 ∨ j = 11 ∨ j = 12 ∨ j = 13 by omega) with rfl | rfl | rfl | rfl | rfl | rfl | rfl | rfl | rfl | rfl | rfl | rfl | rfl | rfl <;> rfl
def sv6 (M : ks_M) (i : Nat) : ks_M := sr M (11 + (M 9 1 + M 9 2) % 14) (cp7 (M (11 + (M 9 1 + M 9 2) % 14)) (M i))
def rem6 (M : ks_M) (i : Nat) : ks_M := if M 9 2 < 14 then up2 (sv6 M i) 9 2 (M 9 2 + 1) else up2 (sv6 M i) 9 1 ((M 9 1 + 1) % 14)
def bk6 (M : ks_M) (i : Nat) : ks_M := sr (up2 M 9 2 (M 9 2 - 1)) i (cp7 (M i) (M (11 + (M 9 1 + (M 9 2 - 1)) % 14)))
theorem sv6_o {M : ks_M} {i a : Nat} (h : a < 11) : sv6 M i a = M a := sr_o (by omega)
set_option maxHeartbeats 8000000 in
theorem c_remember (l : Launch) (G : ks_G) (base : Nat) (Mx : ks_M) (Lx : ks_L) (i : Nat) (hs : SH[i]? = some kSt) (hi : i < 11) (hf : Mx 9 1 < 14) (hc : Mx 9 2 ≤ 14) : KV l G base 1 0 0 yX0_remember cX0_remember 2 [.ref (base + 9), .ref (base + i)] SH SH Mx Lx (fun M1 L1 => M1 = rem6 Mx i ∧ L1 = Lx) := by
  refine k_metv (by decide) (Nat.le_of_ble_eq_true rfl) (fun K hK hRm X Y => ?_)
  subst hK
  refine r_pl [(0, .ref (base + 9)), (1, .ref (base + i))] ⟨rfl, rfl, trivial⟩ ?_
  refine r_aload_n (q := 1) (i := 0) (j := 0) (x := base + 9) X rfl rfl dX0_remember_0 rfl ?_
  refine r_getf (q := 4) (i := 9) (v := .ref (base + 10)) X fk_X0_13 kh_9 rfl rfl dX0_remember_1 rfl ?_
  refine r_aload_n (q := 5) (i := 0) (j := 0) (x := base + 9) X rfl rfl dX0_remember_4 rfl ?_
  refine r_getf (q := 8) (i := 9) (v := .int (nI (Mx 9 1))) X fk_X0_19 kh_9 rfl rfl dX0_remember_5 rfl ?_
  refine r_aload_n (q := 9) (i := 0) (j := 0) (x := base + 9) X rfl rfl dX0_remember_8 rfl ?_
  refine r_getf (q := 12) (i := 9) (v := .int (nI (Mx 9 2))) X fk_X0_23 kh_9 rfl rfl dX0_remember_9 rfl ?_
  refine r_iaddR (q := 13) (x := nI (Mx 9 1)) (y := nI (Mx 9 2)) (v := nI ((Mx 9 1) + (Mx 9 2))) X (nI_add _ _) dX0_remember_12 rfl ?_
  refine r_bipush (q := 15) (v := nI 14) X kb_14 dX0_remember_13 rfl ?_
  refine r_callSi (q := 18) X (c_fmod K.2.1 G base Mx Lx (Mx 9 1 + Mx 9 2) 14 (by decide) (by omega) (by decide)) ks_RX0_26 (by decide) (by decide) ⟨Nat.zero_le _, Nat.zero_le _⟩ rfl (Nat.le_of_ble_eq_true rfl) dX0_remember_15 rfl (fun r M1 L1 hp => ?_)
  obtain ⟨e1, e2, e3⟩ := hp
  subst e1
  replace e2 := e2.symm
  subst e2
  replace e3 := e3.symm
  subst e3
  have hj : ((Mx 9 1 + Mx 9 2) % 14) < 14 := Nat.mod_lt _ (by decide)
  refine r_aald (q := 19) (i := 10) (j := (Mx 9 1 + Mx 9 2) % 14) (t := 11 + ((Mx 9 1 + Mx 9 2) % 14)) X kh_10 hj (Nat.le_of_ble_eq_true rfl) (kd10 hj) dX0_remember_18 rfl ?_
  refine r_aload_n (q := 20) (i := 1) (j := 1) (x := base + i) X rfl rfl dX0_remember_19 rfl ?_
  refine r_callVv (q := 23) X (c_copy K.2.1 G base Mx Lx (11 + ((Mx 9 1 + Mx 9 2) % 14)) (kh_acts hj) i hs (by omega)) (kh_acts hj) rfl ks_RX0_32 (by decide) (by decide) ⟨Nat.zero_le _, Nat.zero_le _⟩ rfl (Nat.le_of_ble_eq_true rfl) dX0_remember_20 rfl (fun M1 L1 hp => ?_)
  obtain ⟨e2, e3⟩ := hp
  replace e2 := e2.symm
  subst e2
  replace e3 := e3.symm
  subst e3
  refine r_aload_n (q := 24) (i := 0) (j := 0) (x := base + 9) X rfl rfl dX0_remember_23 rfl ?_
  refine r_getf (q := 27) (i := 9) (v := .int (nI (Mx 9 2))) X fk_X0_23 kh_9 rfl (kv (congrFun (sv6_o (by decide)) _)) dX0_remember_24 rfl ?_
  refine r_bipush (q := 29) (v := nI 14) X kb_14 dX0_remember_27 rfl ?_
  refine r_icmp_ge (q := 32) (tgt := 45) X (by decide) dX0_remember_29 rfl (fun c29 => ?_) (fun c29 => ?_)
  · replace c29 : 14 ≤ (Mx 9 2) := (nI_leI (by omega) (by omega)).mp c29
    refine r_aload_n (q := 46) (i := 0) (j := 0) (x := base + 9) X rfl rfl dX0_remember_45 rfl ?_
    refine r_aload_n (q := 47) (i := 0) (j := 0) (x := base + 9) X rfl rfl dX0_remember_46 rfl ?_
    refine r_getf (q := 50) (i := 9) (v := .int (nI (Mx 9 1))) X fk_X0_19 kh_9 rfl (kv (congrFun (sv6_o (by decide)) _)) dX0_remember_47 rfl ?_
    refine r_iconst (q := 51) (v := nI 1) X kc_1 dX0_remember_50 rfl ?_
    refine r_iaddR (q := 52) (x := nI (Mx 9 1)) (y := nI 1) (v := nI ((Mx 9 1) + 1)) X (nI_add _ _) dX0_remember_51 rfl ?_
    refine r_bipush (q := 54) (v := nI 14) X kb_14 dX0_remember_52 rfl ?_
    refine r_callSi (q := 57) X (c_fmod K.2.1 G base (sv6 Mx i) Lx (Mx 9 1 + 1) 14 (by decide) (by omega) (by decide)) ks_RX0_26 (by decide) (by decide) ⟨Nat.zero_le _, Nat.zero_le _⟩ rfl (Nat.le_of_ble_eq_true rfl) dX0_remember_54 rfl (fun r M1 L1 hp => ?_)
    obtain ⟨e1, e2, e3⟩ := hp
    subst e1
    replace e2 := e2.symm
    subst e2
    replace e3 := e3.symm
    subst e3
    refine r_puti (q := 60) (i := 9) (n := (Mx 9 1 + 1) % 14) X fk_X0_19 kp_X0_1 kh_9 rfl dX0_remember_57 rfl ?_
    refine r_vret X Y ?_ dX0_remember_60
    exact ⟨by unfold rem6; first | (rw [if_pos (by omega)]; done) | (rw [if_pos (by omega)]; rfl) | (rw [if_neg (by omega)]; done) | (rw [if_neg (by omega)]; rfl), rfl⟩
  · replace c29 : ¬ 14 ≤ (Mx 9 2) := fun h => c29 ((nI_leI (by omega) (by omega)).mpr h)
    refine r_aload_n (q := 33) (i := 0) (j := 0) (x := base + 9) X rfl rfl dX0_remember_32 rfl ?_
    refine r_dup (q := 34) X rfl dX0_remember_33 rfl ?_
    refine r_getf (q := 37) (i := 9) (v := .int (nI (Mx 9 2))) X fk_X0_23 kh_9 rfl (kv (congrFun (sv6_o (by decide)) _)) dX0_remember_34 rfl ?_
    refine r_iconst (q := 38) (v := nI 1) X kc_1 dX0_remember_37 rfl ?_
    refine r_iaddR (q := 39) (x := nI (Mx 9 2)) (y := nI 1) (v := nI ((Mx 9 2) + 1)) X (nI_add _ _) dX0_remember_38 rfl ?_
    refine r_puti (q := 42) (i := 9) (n := (Mx 9 2) + 1) X fk_X0_23 kp_X0_2 kh_9 rfl dX0_remember_39 rfl ?_
    refine r_goto (tgt := 60) X (by decide) dX0_remember_42 ?_
    refine r_vret X Y ?_ dX0_remember_60
    exact ⟨by unfold rem6; first | (rw [if_pos (by omega)]; done) | (rw [if_pos (by omega)]; rfl) | (rw [if_neg (by omega)]; done) | (rw [if_neg (by omega)]; rfl), rfl⟩
set_option maxHeartbeats 8000000 in
theorem c_takeBack (l : Launch) (G : ks_G) (base : Nat) (Mx : ks_M) (Lx : ks_L) (i : Nat) (hs : SH[i]? = some kSt) (hi : i < 9) (hf : Mx 9 1 < 14) (hc : Mx 9 2 ≤ 14) (h0 : 0 < Mx 9 2) : KV l G base 1 0 0 yX0_takeBack cX0_takeBack 2 [.ref (base + 9), .ref (base + i)] SH SH Mx Lx (fun M1 L1 => M1 = bk6 Mx i ∧ L1 = Lx) := by
  refine k_metv (by decide) (Nat.le_of_ble_eq_true rfl) (fun K hK hRm X Y => ?_)
  subst hK
  refine r_pl [(0, .ref (base + 9)), (1, .ref (base + i))] ⟨rfl, rfl, trivial⟩ ?_
  refine r_aload_n (q := 1) (i := 0) (j := 0) (x := base + 9) X rfl rfl dX0_takeBack_0 rfl ?_
  refine r_dup (q := 2) X rfl dX0_takeBack_1 rfl ?_
  refine r_getf (q := 5) (i := 9) (v := .int (nI (Mx 9 2))) X fk_X0_23 kh_9 rfl rfl dX0_takeBack_2 rfl ?_
  refine r_iconst (q := 6) (v := nI 1) X kc_1 dX0_takeBack_5 rfl ?_
  refine r_isubR (q := 7) (x := nI (Mx 9 2)) (y := nI 1) (v := nI ((Mx 9 2) - 1)) X (pk_sub (by omega)) dX0_takeBack_6 rfl ?_
  refine r_puti (q := 10) (i := 9) (n := (Mx 9 2) - 1) X fk_X0_23 kp_X0_2 kh_9 rfl dX0_takeBack_7 rfl ?_
  refine r_aload_n (q := 11) (i := 1) (j := 1) (x := base + i) X rfl rfl dX0_takeBack_10 rfl ?_
  refine r_aload_n (q := 12) (i := 0) (j := 0) (x := base + 9) X rfl rfl dX0_takeBack_11 rfl ?_
  refine r_getf (q := 15) (i := 9) (v := .ref (base + 10)) X fk_X0_13 kh_9 rfl rfl dX0_takeBack_12 rfl ?_
  refine r_aload_n (q := 16) (i := 0) (j := 0) (x := base + 9) X rfl rfl dX0_takeBack_15 rfl ?_
  refine r_getf (q := 19) (i := 9) (v := .int (nI (Mx 9 1))) X fk_X0_19 kh_9 rfl (kv (by simp [up2])) dX0_takeBack_16 rfl ?_
  refine r_aload_n (q := 20) (i := 0) (j := 0) (x := base + 9) X rfl rfl dX0_takeBack_19 rfl ?_
  refine r_getf (q := 23) (i := 9) (v := .int (nI (Mx 9 2 - 1))) X fk_X0_23 kh_9 rfl (kv (by simp [up2])) dX0_takeBack_20 rfl ?_
  refine r_iaddR (q := 24) (x := nI (Mx 9 1)) (y := nI (Mx 9 2 - 1)) (v := nI ((Mx 9 1) + (Mx 9 2 - 1))) X (nI_add _ _) dX0_takeBack_23 rfl ?_
  refine r_bipush (q := 26) (v := nI 14) X kb_14 dX0_takeBack_24 rfl ?_
  refine r_callSi (q := 29) X (c_fmod K.2.1 G base _ Lx (Mx 9 1 + (Mx 9 2 - 1)) 14 (by decide) (by omega) (by decide)) ks_RX0_26 (by decide) (by decide) ⟨Nat.zero_le _, Nat.zero_le _⟩ rfl (Nat.le_of_ble_eq_true rfl) dX0_takeBack_26 rfl (fun r M1 L1 hp => ?_)
  obtain ⟨e1, e2, e3⟩ := hp
  subst e1
  replace e2 := e2.symm
  subst e2
  replace e3 := e3.symm
  subst e3
  have hj : ((Mx 9 1 + (Mx 9 2 - 1)) % 14) < 14 := Nat.mod_lt _ (by decide)
  refine r_aald (q := 30) (i := 10) (j := (Mx 9 1 + (Mx 9 2 - 1)) % 14) (t := 11 + ((Mx 9 1 + (Mx 9 2 - 1)) % 14)) X kh_10 hj (Nat.le_of_ble_eq_true rfl) (kd10 hj) dX0_takeBack_29 rfl ?_
  refine r_callVv (q := 33) X (c_copy K.2.1 G base (up2 Mx 9 2 (Mx 9 2 - 1)) Lx i hs (11 + ((Mx 9 1 + (Mx 9 2 - 1)) % 14)) (kh_acts hj) (by omega)) hs rfl ks_RX0_32 (by decide) (by decide) ⟨Nat.zero_le _, Nat.zero_le _⟩ rfl (Nat.le_of_ble_eq_true rfl) dX0_takeBack_30 rfl (fun M1 L1 hp => ?_)
  obtain ⟨e2, e3⟩ := hp
  replace e2 := e2.symm
  subst e2
  replace e3 := e3.symm
  subst e3
  refine r_vret X Y ?_ dX0_takeBack_33
  refine ⟨?_, rfl⟩
  unfold bk6
  rw [show (up2 Mx 9 2 (Mx 9 2 - 1)) i = Mx i from by funext b; exact up2_o (by omega), show (up2 Mx 9 2 (Mx 9 2 - 1)) (11 + (Mx 9 1 + (Mx 9 2 - 1)) % 14) = Mx (11 + (Mx 9 1 + (Mx 9 2 - 1)) % 14) from by funext b; exact up2_o (by omega)]
def okN (M : ks_M) : Prop := M 3 3 ≤ 6 ∧ M 7 0 < 6 ∧ M 7 1 < 1000 ∧ M 7 2 < 100000 ∧ M 7 4 < 64 ∧ M 7 5 < 64 ∧ M 7 6 < 262144 ∧ M 9 1 < 14 ∧ M 9 2 ≤ 14
theorem rem6_o {M : ks_M} {i a : Nat} (h : a < 9) : rem6 M i a = M a := by
  unfold rem6
  split <;> (funext b; rw [up2_o (by omega), sv6_o (by omega)])
def act6 (M : ks_M) (t : Nat) : ks_M := sr (rem6 M 7) 7 (tk (M 6) (M 7) t)
set_option maxHeartbeats 8000000 in
theorem c_act (l : Launch) (G : ks_G) (base : Nat) (Mx : ks_M) (Lx : ks_L) (t : Nat) (ht : t < 4) (ok : okN Mx) (hc0 : t = 0 → 0 < Mx 7 0) (hc2 : t = 2 → 0 < Mx 7 1) : KI l G base 3 yX6_act cX6_act 2 .int [.ref (base + 0), .int (nI (t))] SH Mx Lx (fun rr M1 L1 => rr = nI (if t = 2 then gn (Mx 6) (Mx 7) else 0) ∧ M1 = act6 Mx t ∧ L1 = Lx) := by
  refine k_meti (by decide) (Nat.le_of_ble_eq_true rfl) (fun K hK X Y => ?_)
  subst hK
  refine r_pl [(0, .ref (base + 0)), (1, .int (nI (t)))] ⟨rfl, rfl, trivial⟩ ?_
  refine r_aload_n (q := 1) (i := 0) (j := 0) (x := base + 0) X rfl rfl dX6_act_0 rfl ?_
  refine r_getf (q := 4) (i := 0) (v := .ref (base + 9)) X fk_X6_36 kh_0 rfl rfl dX6_act_1 rfl ?_
  refine r_aload_n (q := 5) (i := 0) (j := 0) (x := base + 0) X rfl rfl dX6_act_4 rfl ?_
  refine r_getf (q := 8) (i := 0) (v := .ref (base + 7)) X fk_X6_26 kh_0 rfl rfl dX6_act_5 rfl ?_
  refine r_callVv (q := 11) X (c_remember K.2.1 G base Mx Lx 7 kh_7 (by decide) ok.2.2.2.2.2.2.2.1 ok.2.2.2.2.2.2.2.2) kh_9 rfl ks_RX6_142 (by decide) (by decide) ⟨Nat.zero_le _, Nat.zero_le _⟩ rfl (Nat.le_of_ble_eq_true rfl) dX6_act_8 rfl (fun M1 L1 hp => ?_)
  obtain ⟨e2, e3⟩ := hp
  replace e2 := e2.symm
  subst e2
  replace e3 := e3.symm
  subst e3
  refine r_aload_n (q := 12) (i := 0) (j := 0) (x := base + 0) X rfl rfl dX6_act_11 rfl ?_
  refine r_getf (q := 15) (i := 0) (v := .ref (base + 7)) X fk_X6_26 kh_0 rfl rfl dX6_act_12 rfl ?_
  refine r_aload_n (q := 16) (i := 0) (j := 0) (x := base + 0) X rfl rfl dX6_act_15 rfl ?_
  refine r_getf (q := 19) (i := 0) (v := .ref (base + 3)) X fk_X6_19 kh_0 rfl rfl dX6_act_16 rfl ?_
  refine r_iload_n (q := 20) (i := 1) (j := 1) (x := nI (t)) X rfl rfl dX6_act_19 rfl ?_
  refine r_callVi (q := 23) X (c_take K.2.1 G base (rem6 Mx 7) Lx 7 kh_7 t ht (by rw [rem6_o (by decide)]; exact ok.2.1) (by rw [rem6_o (by decide)]; have := ok.2.2.2.1; omega) (by rw [rem6_o (by decide)]; have := ok.2.2.2.2.1; omega) (by rw [rem6_o (by decide)]; have := ok.2.2.2.2.2.1; omega) (by rw [rem6_o (by decide)]; have := ok.2.2.2.2.2.2.1; omega) (by rw [rem6_o (by decide)]; exact hc0) (by rw [rem6_o (by decide)]; exact hc2)) kh_7 rfl ks_RX6_149 (by decide) (by decide) ⟨Nat.zero_le _, Nat.zero_le _⟩ rfl (Nat.le_of_ble_eq_true rfl) dX6_act_20 rfl (fun r M1 L1 hp => ?_)
  rw [show rem6 Mx 7 6 = Mx 6 from rem6_o (by decide), show rem6 Mx 7 7 = Mx 7 from rem6_o (by decide)] at hp
  obtain ⟨e1, e2, e3⟩ := hp
  subst e1
  replace e2 := e2.symm
  subst e2
  replace e3 := e3.symm
  subst e3
  refine r_iret X Y ?_ dX6_act_23
  exact ⟨rfl, rfl, rfl⟩
