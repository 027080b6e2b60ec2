/-! The searches of the class over a changed stand: bestWithKeys, bestAmong -/
theorem up1_al {x y : Nat → Nat} (k v : Nat) (h : al7 x y) : al7 (up1 x k v) (up1 y k v) := by
  intro j hj; unfold up1; split
  · rfl
  · exact h j hj
theorem rok_k {n B v : Nat} {x : Nat → Nat} (h : rok n B x) (hv : v < 64) : rok n B (up1 x 5 v) := ⟨h.1, h.2.1, h.2.2.1, h.2.2.2.1, h.2.2.2.2.1, hv, h.2.2.2.2.2.2⟩
theorem rok_l {n B v : Nat} {x : Nat → Nat} (h : rok n B x) (hv : v < 64) : rok n B (up1 x 4 v) := ⟨h.1, h.2.1, h.2.2.1, h.2.2.2.1, hv, h.2.2.2.2.2.1, h.2.2.2.2.2.2⟩
set_option maxHeartbeats 8000000 in
theorem c_bestWithKeys (l : Launch) (G : ks_G) (base : Nat) (Mx : ks_M) (Lx : ks_L) (n s : Nat) (hn6 : n ≤ 6) (hs6 : s < 64) (ok : okN Mx) (hn : Mx 3 3 ≤ 6) (h0n : Mx 7 0 < Mx 3 3 ∨ Mx 7 0 = 0) (hS : ∀ k, Mx 6 k < 1000) (hJ : Mx 7 3 < 1000000000) : KI l G base 13 yX6_bestWithKeys cX6_bestWithKeys 3 .int [.ref (base + 0), .int (nI (n)), .int (nI (s))] SH Mx Lx (fun rr M1 L1 => rr = nI (bst (Mx 6) (Mx 3 3) n (up1 (Mx 7) 5 (Mx 7 5 ||| s))) ∧ (∀ a, (a < 27 ∧ a ≠ 8 ∨ 35 ≤ a) → M1 a = Mx a) ∧ L1 = Lx) := by
  refine k_meti (by decide) (Nat.le_of_ble_eq_true rfl) (fun K hK X Y => ?_)
  subst hK
  refine r_pl [(0, .ref (base + 0)), (1, .int (nI (n))), (2, .int (nI (s)))] ⟨rfl, rfl, rfl, trivial⟩ ?_
  refine r_aload_n (q := 1) (i := 0) (j := 0) (x := base + 0) X rfl rfl dX6_bestWithKeys_0 rfl ?_
  refine r_getf (q := 4) (i := 0) (v := .ref (base + 8)) X fk_X6_30 kh_0 rfl rfl dX6_bestWithKeys_1 rfl ?_
  refine r_aload_n (q := 5) (i := 0) (j := 0) (x := base + 0) X rfl rfl dX6_bestWithKeys_4 rfl ?_
  refine r_getf (q := 8) (i := 0) (v := .ref (base + 7)) X fk_X6_26 kh_0 rfl rfl dX6_bestWithKeys_5 rfl ?_
  refine r_callVv (q := 11) X (c_copy K.2.1 G base Mx Lx 8 kh_8 7 kh_7 (by decide)) kh_8 rfl ks_RX6_172 (by omega) (by decide) ⟨Nat.zero_le _, Nat.zero_le _⟩ rfl (Nat.le_of_ble_eq_true rfl) dX6_bestWithKeys_8 rfl (fun M1 L1 hp => ?_)
  obtain ⟨e2, e3⟩ := hp
  replace e2 := e2.symm
  subst e2
  replace e3 := e3.symm
  subst e3
  refine r_aload_n (q := 12) (i := 0) (j := 0) (x := base + 0) X rfl rfl dX6_bestWithKeys_11 rfl ?_
  refine r_getf (q := 15) (i := 0) (v := .ref (base + 8)) X fk_X6_30 kh_0 rfl rfl dX6_bestWithKeys_12 rfl ?_
  refine r_dup (q := 16) X rfl dX6_bestWithKeys_15 rfl ?_
  refine r_getf (q := 19) (i := 8) (v := .int (nI ((sr Mx 8 (cp7 (Mx 8) (Mx 7))) 8 5))) X fk_X6_112 kh_8 rfl rfl dX6_bestWithKeys_16 rfl ?_
  refine r_iload_n (q := 20) (i := 2) (j := 2) (x := nI (s)) X rfl rfl dX6_bestWithKeys_19 rfl ?_
  refine r_iorR (q := 21) (x := nI ((sr Mx 8 (cp7 (Mx 8) (Mx 7))) 8 5)) (y := nI (s)) (v := nI (((sr Mx 8 (cp7 (Mx 8) (Mx 7))) 8 5) ||| s)) X (fa_or _ _) dX6_bestWithKeys_20 rfl ?_
  refine r_puti (q := 24) (i := 8) (n := ((sr Mx 8 (cp7 (Mx 8) (Mx 7))) 8 5) ||| s) X fk_X6_112 kp_X3_5 kh_8 rfl dX6_bestWithKeys_21 rfl ?_
  refine r_mem (sr Mx 8 (up1 (cp7 (Mx 8) (Mx 7)) 5 (Mx 7 5 ||| s))) (by rw [sr_up]; first | (rw [sr_s, sr_sr]; rfl) | (rw [sr_sr]; rfl) | (rw [sr_s, sr_sr])) ?_
  refine r_aload_n (q := 25) (i := 0) (j := 0) (x := base + 0) X rfl rfl dX6_bestWithKeys_24 rfl ?_
  refine r_getf (q := 28) (i := 0) (v := .ref (base + 25)) X fk_X6_43 kh_0 rfl rfl dX6_bestWithKeys_25 rfl ?_
  refine r_aload_n (q := 29) (i := 0) (j := 0) (x := base + 0) X rfl rfl dX6_bestWithKeys_28 rfl ?_
  refine r_getf (q := 32) (i := 0) (v := .ref (base + 3)) X fk_X6_19 kh_0 rfl rfl dX6_bestWithKeys_29 rfl ?_
  refine r_aload_n (q := 33) (i := 0) (j := 0) (x := base + 0) X rfl rfl dX6_bestWithKeys_32 rfl ?_
  refine r_getf (q := 36) (i := 0) (v := .ref (base + 8)) X fk_X6_30 kh_0 rfl rfl dX6_bestWithKeys_33 rfl ?_
  refine r_iload_n (q := 37) (i := 1) (j := 1) (x := nI (n)) X rfl rfl dX6_bestWithKeys_36 rfl ?_
  refine r_callVi (q := 40) X (c_most K.2.1 G base (sr Mx 8 (up1 (cp7 (Mx 8) (Mx 7)) 5 (Mx 7 5 ||| s))) Lx 8 n 100000 (Or.inl (by decide)) kh_8 (by omega) (by omega) (by rw [sr_o (by decide)]; exact hn) (fun q => by rw [sr_o (by decide)]; exact hS q) (by rw [sr_s, sr_o (by decide)]; exact rok_k (cp7_ok (okN_rok ok h0n)) (Nat.or_lt_two_pow (n := 6) (okN_rok ok h0n).2.2.2.2.2.1 hs6)) (by rw [sr_s]; show Mx 7 3 + _ < _; omega)) kh_25 rfl ks_RX6_157 (by omega) (by decide) ⟨Nat.zero_le _, Nat.zero_le _⟩ rfl (Nat.le_of_ble_eq_true rfl) dX6_bestWithKeys_37 rfl (fun r M1 L1 hp => ?_)
  rw [sr_s, show (sr Mx 8 (up1 (cp7 (Mx 8) (Mx 7)) 5 (Mx 7 5 ||| s))) 6 = Mx 6 from sr_o (by decide), show (sr Mx 8 (up1 (cp7 (Mx 8) (Mx 7)) 5 (Mx 7 5 ||| s))) 3 = Mx 3 from sr_o (by decide), bst_al n (up1_al 5 (Mx 7 5 ||| s) (cp7_al (Mx 8) (Mx 7)))] at hp
  obtain ⟨e1, hfr, e3⟩ := hp
  subst e1
  replace e3 := e3.symm
  subst e3
  refine r_iret X Y ?_ dX6_bestWithKeys_40
  exact ⟨rfl, fun a ha => (hfr a (by omega)).trans (sr_o (by omega)), rfl⟩
set_option maxHeartbeats 8000000 in
theorem c_bestAmong (l : Launch) (G : ks_G) (base : Nat) (Mx : ks_M) (Lx : ks_L) (s : Nat) (hs6 : s < 64) (ok : okN Mx) (hn : Mx 3 3 ≤ 6) (h0n : Mx 7 0 < Mx 3 3 ∨ Mx 7 0 = 0) (hS : ∀ k, Mx 6 k < 1000) (hJ : Mx 7 3 < 1000000000) : KI l G base 13 yX6_bestAmong cX6_bestAmong 2 .int [.ref (base + 0), .int (nI (s))] SH Mx Lx (fun rr M1 L1 => rr = nI (bst (Mx 6) (Mx 3 3) 3 (up1 (Mx 7) 4 (Mx 7 4 &&& s))) ∧ (∀ a, (a < 27 ∧ a ≠ 8 ∨ 35 ≤ a) → M1 a = Mx a) ∧ L1 = Lx) := by
  refine k_meti (by decide) (Nat.le_of_ble_eq_true rfl) (fun K hK X Y => ?_)
  subst hK
  refine r_pl [(0, .ref (base + 0)), (1, .int (nI (s)))] ⟨rfl, rfl, trivial⟩ ?_
  refine r_aload_n (q := 1) (i := 0) (j := 0) (x := base + 0) X rfl rfl dX6_bestAmong_0 rfl ?_
  refine r_getf (q := 4) (i := 0) (v := .ref (base + 8)) X fk_X6_30 kh_0 rfl rfl dX6_bestAmong_1 rfl ?_
  refine r_aload_n (q := 5) (i := 0) (j := 0) (x := base + 0) X rfl rfl dX6_bestAmong_4 rfl ?_
  refine r_getf (q := 8) (i := 0) (v := .ref (base + 7)) X fk_X6_26 kh_0 rfl rfl dX6_bestAmong_5 rfl ?_
  refine r_callVv (q := 11) X (c_copy K.2.1 G base Mx Lx 8 kh_8 7 kh_7 (by decide)) kh_8 rfl ks_RX6_172 (by omega) (by decide) ⟨Nat.zero_le _, Nat.zero_le _⟩ rfl (Nat.le_of_ble_eq_true rfl) dX6_bestAmong_8 rfl (fun M1 L1 hp => ?_)
  obtain ⟨e2, e3⟩ := hp
  replace e2 := e2.symm
  subst e2
  replace e3 := e3.symm
  subst e3
  refine r_aload_n (q := 12) (i := 0) (j := 0) (x := base + 0) X rfl rfl dX6_bestAmong_11 rfl ?_
  refine r_getf (q := 15) (i := 0) (v := .ref (base + 8)) X fk_X6_30 kh_0 rfl rfl dX6_bestAmong_12 rfl ?_
  refine r_dup (q := 16) X rfl dX6_bestAmong_15 rfl ?_
  refine r_getf (q := 19) (i := 8) (v := .int (nI ((sr Mx 8 (cp7 (Mx 8) (Mx 7))) 8 4))) X fk_X6_109 kh_8 rfl rfl dX6_bestAmong_16 rfl ?_
  refine r_iload_n (q := 20) (i := 1) (j := 1) (x := nI (s)) X rfl rfl dX6_bestAmong_19 rfl ?_
  refine r_iandR (q := 21) (x := nI ((sr Mx 8 (cp7 (Mx 8) (Mx 7))) 8 4)) (y := nI (s)) (v := nI (((sr Mx 8 (cp7 (Mx 8) (Mx 7))) 8 4) &&& s)) X (fa_and _ _) dX6_bestAmong_20 rfl ?_
  refine r_puti (q := 24) (i := 8) (n := ((sr Mx 8 (cp7 (Mx 8) (Mx 7))) 8 4) &&& s) X fk_X6_109 kp_X3_4 kh_8 rfl dX6_bestAmong_21 rfl ?_
  refine r_mem (sr Mx 8 (up1 (cp7 (Mx 8) (Mx 7)) 4 (Mx 7 4 &&& s))) (by rw [sr_up]; first | (rw [sr_s, sr_sr]; rfl) | (rw [sr_sr]; rfl) | (rw [sr_s, sr_sr])) ?_
  refine r_aload_n (q := 25) (i := 0) (j := 0) (x := base + 0) X rfl rfl dX6_bestAmong_24 rfl ?_
  refine r_getf (q := 28) (i := 0) (v := .ref (base + 25)) X fk_X6_43 kh_0 rfl rfl dX6_bestAmong_25 rfl ?_
  refine r_aload_n (q := 29) (i := 0) (j := 0) (x := base + 0) X rfl rfl dX6_bestAmong_28 rfl ?_
  refine r_getf (q := 32) (i := 0) (v := .ref (base + 3)) X fk_X6_19 kh_0 rfl rfl dX6_bestAmong_29 rfl ?_
  refine r_aload_n (q := 33) (i := 0) (j := 0) (x := base + 0) X rfl rfl dX6_bestAmong_32 rfl ?_
  refine r_getf (q := 36) (i := 0) (v := .ref (base + 8)) X fk_X6_30 kh_0 rfl rfl dX6_bestAmong_33 rfl ?_
  refine r_iconst (q := 37) (v := nI 3) X kc_3 dX6_bestAmong_36 rfl ?_
  refine r_callVi (q := 40) X (c_most K.2.1 G base (sr Mx 8 (up1 (cp7 (Mx 8) (Mx 7)) 4 (Mx 7 4 &&& s))) Lx 8 3 100000 (Or.inl (by decide)) kh_8 (by omega) (by omega) (by rw [sr_o (by decide)]; exact hn) (fun q => by rw [sr_o (by decide)]; exact hS q) (by rw [sr_s, sr_o (by decide)]; exact rok_l (cp7_ok (okN_rok ok h0n)) (Nat.lt_of_le_of_lt Nat.and_le_left (okN_rok ok h0n).2.2.2.2.1)) (by rw [sr_s]; show Mx 7 3 + _ < _; omega)) kh_25 rfl ks_RX6_157 (by omega) (by decide) ⟨Nat.zero_le _, Nat.zero_le _⟩ rfl (Nat.le_of_ble_eq_true rfl) dX6_bestAmong_37 rfl (fun r M1 L1 hp => ?_)
  rw [sr_s, show (sr Mx 8 (up1 (cp7 (Mx 8) (Mx 7)) 4 (Mx 7 4 &&& s))) 6 = Mx 6 from sr_o (by decide), show (sr Mx 8 (up1 (cp7 (Mx 8) (Mx 7)) 4 (Mx 7 4 &&& s))) 3 = Mx 3 from sr_o (by decide), bst_al 3 (up1_al 4 (Mx 7 4 &&& s) (cp7_al (Mx 8) (Mx 7)))] at hp
  obtain ⟨e1, hfr, e3⟩ := hp
  subst e1
  replace e3 := e3.symm
  subst e3
  refine r_iret X Y ?_ dX6_bestAmong_40
  exact ⟨rfl, fun a ha => (hfr a (by omega)).trans (sr_o (by omega)), rfl⟩
