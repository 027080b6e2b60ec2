/-! THE CLASS: walk, look, pause, lamp, key, undo, slots, seen, seed -/
theorem ks_ho {ds : List (Nat × Nat)} {f : Nat} (h : (List.range ds.length).all (fun j => decide (j = f) || decide ((ds.getD j (0, 0)).1 ≠ 1)) = true) : ∀ j u, j ≠ f → ds[j]? = some u → u.1 ≠ 1 := by
  intro j u hj hu
  have h1 := (List.all_eq_true.mp h) j (List.mem_range.mpr (List.getElem?_eq_some_iff.mp hu).1)
  rw [List.getD_eq_getElem?_getD, hu, Option.getD_some] at h1
  simp only [Bool.or_eq_true, decide_eq_true_eq] at h1
  exact h1.resolve_left hj
theorem cn_2 (n : Nat) (x : Nat → Nat) (t : Nat) : cn n x t < 2 := by unfold cn; (repeat' split) <;> decide
theorem act6_7 (M : ks_M) (t : Nat) : act6 M t 7 = tk (M 6) (M 7) t := sr_s _ _ _
theorem cn_0 {n : Nat} {x : Nat → Nat} (h : cn n x 0 = 1) : 0 < x 0 := by
  unfold cn at h; rw [if_pos rfl] at h; split at h <;> first | assumption | cases h
theorem cn_look {n : Nat} {x : Nat → Nat} (h : cn n x 2 = 1) : 0 < x 1 := by
  unfold cn at h; rw [if_neg (by decide), if_neg (by decide), if_pos rfl] at h; split at h
  · next h1 => exact h1.2
  · cases h
set_option maxHeartbeats 8000000 in
theorem c6_walk (l : Launch) (G : ks_G) (base : Nat) (Mx : ks_M) (Lx : ks_L) (x : Int32) (ok : okN Mx) : KI l G base 4 yX6_walk cX6_walk 2 .int [.ref (base + 0), .int (x)] SH Mx Lx (fun rr M1 L1 => (rr = (-2) ∧ (∀ t, t < 2 → x ≠ nI t) ∧ M1 = Mx ∧ L1 = Lx) ∨ (∃ t, t < 2 ∧ x = nI t ∧ ((cn (Mx 3 3) (Mx 7) t = 0 ∧ rr = (-3) ∧ M1 = Mx) ∨ (cn (Mx 3 3) (Mx 7) t = 1 ∧ rr = nI (tk (Mx 6) (Mx 7) t 0) ∧ M1 = act6 Mx t)) ∧ L1 = Lx)) := by
  refine k_meti (by decide) (Nat.le_of_ble_eq_true rfl) (fun K hK X Y => ?_)
  subst hK
  refine r_pl [(0, .ref (base + 0)), (1, .int (x))] ⟨rfl, rfl, trivial⟩ ?_
  refine r_iload_n (q := 1) (i := 1) (j := 1) (x := x) X rfl rfl dX6_walk_0 rfl ?_
  refine r_if_eq (q := 4) (tgt := 12) X (by decide) dX6_walk_1 rfl (fun c1 => ?_) (fun c1 => ?_)
  · skip
    obtain rfl : x = nI 0 := c1.trans nI_0.symm
    refine r_aload_n (q := 13) (i := 0) (j := 0) (x := base + 0) X rfl rfl dX6_walk_12 rfl ?_
    refine r_getf (q := 16) (i := 0) (v := .ref (base + 7)) X fk_X6_26 kh_0 rfl rfl dX6_walk_13 rfl ?_
    refine r_aload_n (q := 17) (i := 0) (j := 0) (x := base + 0) X rfl rfl dX6_walk_16 rfl ?_
    refine r_getf (q := 20) (i := 0) (v := .ref (base + 3)) X fk_X6_19 kh_0 rfl rfl dX6_walk_17 rfl ?_
    refine r_iload_n (q := 21) (i := 1) (j := 1) (x := nI (0)) X rfl rfl dX6_walk_20 rfl ?_
    refine r_callVi (q := 24) X (c_can K.2.1 G base Mx Lx 7 kh_7 0 (by decide) (by have := ok.2.1; omega) (by have := ok.2.2.1; omega) (by have := ok.1; omega)) kh_7 rfl ks_RX6_135 (by decide) (by decide) ⟨Nat.zero_le _, Nat.zero_le _⟩ rfl (Nat.le_of_ble_eq_true rfl) dX6_walk_21 rfl (fun r M1 L1 hp => ?_)
    obtain ⟨e1, e2, e3⟩ := hp
    subst e1
    replace e2 := e2.symm
    subst e2
    replace e3 := e3.symm
    subst e3
    have hcn := cn_2 (Mx 3 3) (Mx 7) 0
    refine r_if_ne (q := 27) (tgt := 30) X (by decide) dX6_walk_24 rfl (fun c24 => ?_) (fun c24 => ?_)
    · replace c24 : ¬ (cn (Mx 3 3) (Mx 7) 0) = 0 := fun h => c24 ((kI_eq0 (by omega)).mpr h)
      refine r_aload_n (q := 31) (i := 0) (j := 0) (x := base + 0) X rfl rfl dX6_walk_30 rfl ?_
      refine r_iload_n (q := 32) (i := 1) (j := 1) (x := nI (0)) X rfl rfl dX6_walk_31 rfl ?_
      refine r_callVi (q := 35) X (c_act K.2.1 G base Mx Lx 0 (by decide) ok (fun _ => cn_0 (n := Mx 3 3) (by omega)) (fun h => absurd h (by decide))) kh_0 rfl ks_RX6_139 (by decide) (by decide) ⟨Nat.zero_le _, Nat.zero_le _⟩ rfl (Nat.le_of_ble_eq_true rfl) dX6_walk_32 rfl (fun r M1 L1 hp => ?_)
      obtain ⟨e1, e2, e3⟩ := hp
      subst e1
      replace e2 := e2.symm
      subst e2
      replace e3 := e3.symm
      subst e3
      refine r_pop (q := 36) X rfl dX6_walk_35 rfl ?_
      refine r_aload_n (q := 37) (i := 0) (j := 0) (x := base + 0) X rfl rfl dX6_walk_36 rfl ?_
      refine r_getf (q := 40) (i := 0) (v := .ref (base + 7)) X fk_X6_26 kh_0 rfl rfl dX6_walk_37 rfl ?_
      refine r_getf (q := 43) (i := 7) (v := .int (nI (tk (Mx 6) (Mx 7) 0 0))) X fk_X6_97 kh_7 rfl (kv (congrFun (act6_7 Mx _) 0)) dX6_walk_40 rfl ?_
      refine r_iret X Y ?_ dX6_walk_43
      exact Or.inr ⟨0, by decide, rfl, Or.inr ⟨by omega, rfl, rfl⟩, rfl⟩
    · replace c24 : (cn (Mx 3 3) (Mx 7) 0) = 0 := (kI_eq0 (by omega)).mp c24
      refine r_bipush (q := 29) (v := (-3)) X kb_m3 dX6_walk_27 rfl ?_
      refine r_iret X Y ?_ dX6_walk_29
      exact Or.inr ⟨0, by decide, rfl, Or.inl ⟨by omega, rfl, rfl⟩, rfl⟩
  · skip
    refine r_iload_n (q := 5) (i := 1) (j := 1) (x := x) X rfl rfl dX6_walk_4 rfl ?_
    refine r_iconst (q := 6) (v := nI 1) X kc_1 dX6_walk_5 rfl ?_
    refine r_icmp_eq (q := 9) (tgt := 12) X (by decide) dX6_walk_6 rfl (fun c6 => ?_) (fun c6 => ?_)
    · skip
      subst c6
      refine r_aload_n (q := 13) (i := 0) (j := 0) (x := base + 0) X rfl rfl dX6_walk_12 rfl ?_
      refine r_getf (q := 16) (i := 0) (v := .ref (base + 7)) X fk_X6_26 kh_0 rfl rfl dX6_walk_13 rfl ?_
      refine r_aload_n (q := 17) (i := 0) (j := 0) (x := base + 0) X rfl rfl dX6_walk_16 rfl ?_
      refine r_getf (q := 20) (i := 0) (v := .ref (base + 3)) X fk_X6_19 kh_0 rfl rfl dX6_walk_17 rfl ?_
      refine r_iload_n (q := 21) (i := 1) (j := 1) (x := nI (1)) X rfl rfl dX6_walk_20 rfl ?_
      refine r_callVi (q := 24) X (c_can K.2.1 G base Mx Lx 7 kh_7 1 (by decide) (by have := ok.2.1; omega) (by have := ok.2.2.1; omega) (by have := ok.1; omega)) kh_7 rfl ks_RX6_135 (by decide) (by decide) ⟨Nat.zero_le _, Nat.zero_le _⟩ rfl (Nat.le_of_ble_eq_true rfl) dX6_walk_21 rfl (fun r M1 L1 hp => ?_)
      obtain ⟨e1, e2, e3⟩ := hp
      subst e1
      replace e2 := e2.symm
      subst e2
      replace e3 := e3.symm
      subst e3
      have hcn := cn_2 (Mx 3 3) (Mx 7) 1
      refine r_if_ne (q := 27) (tgt := 30) X (by decide) dX6_walk_24 rfl (fun c24 => ?_) (fun c24 => ?_)
      · replace c24 : ¬ (cn (Mx 3 3) (Mx 7) 1) = 0 := fun h => c24 ((kI_eq0 (by omega)).mpr h)
        refine r_aload_n (q := 31) (i := 0) (j := 0) (x := base + 0) X rfl rfl dX6_walk_30 rfl ?_
        refine r_iload_n (q := 32) (i := 1) (j := 1) (x := nI (1)) X rfl rfl dX6_walk_31 rfl ?_
        refine r_callVi (q := 35) X (c_act K.2.1 G base Mx Lx 1 (by decide) ok (fun h => absurd h (by decide)) (fun h => absurd h (by decide))) kh_0 rfl ks_RX6_139 (by decide) (by decide) ⟨Nat.zero_le _, Nat.zero_le _⟩ rfl (Nat.le_of_ble_eq_true rfl) dX6_walk_32 rfl (fun r M1 L1 hp => ?_)
        obtain ⟨e1, e2, e3⟩ := hp
        subst e1
        replace e2 := e2.symm
        subst e2
        replace e3 := e3.symm
        subst e3
        refine r_pop (q := 36) X rfl dX6_walk_35 rfl ?_
        refine r_aload_n (q := 37) (i := 0) (j := 0) (x := base + 0) X rfl rfl dX6_walk_36 rfl ?_
        refine r_getf (q := 40) (i := 0) (v := .ref (base + 7)) X fk_X6_26 kh_0 rfl rfl dX6_walk_37 rfl ?_
        refine r_getf (q := 43) (i := 7) (v := .int (nI (tk (Mx 6) (Mx 7) 1 0))) X fk_X6_97 kh_7 rfl (kv (congrFun (act6_7 Mx _) 0)) dX6_walk_40 rfl ?_
        refine r_iret X Y ?_ dX6_walk_43
        exact Or.inr ⟨1, by decide, rfl, Or.inr ⟨by omega, rfl, rfl⟩, rfl⟩
      · replace c24 : (cn (Mx 3 3) (Mx 7) 1) = 0 := (kI_eq0 (by omega)).mp c24
        refine r_bipush (q := 29) (v := (-3)) X kb_m3 dX6_walk_27 rfl ?_
        refine r_iret X Y ?_ dX6_walk_29
        exact Or.inr ⟨1, by decide, rfl, Or.inl ⟨by omega, rfl, rfl⟩, rfl⟩
    · skip
      refine r_bipush (q := 11) (v := (-2)) X kb_m2 dX6_walk_9 rfl ?_
      refine r_iret X Y ?_ dX6_walk_11
      exact Or.inl ⟨rfl, fun t ht h => by rcases (show t = 0 ∨ t = 1 by omega) with rfl | rfl; exact c1 (h.trans nI_0); exact c6 h, rfl, rfl⟩
set_option maxHeartbeats 8000000 in
theorem c6_look (l : Launch) (G : ks_G) (base : Nat) (Mx : ks_M) (Lx : ks_L) (ok : okN Mx) : KI l G base 4 yX6_look cX6_look 1 .int [.ref (base + 0)] SH Mx Lx (fun rr M1 L1 => ((cn (Mx 3 3) (Mx 7) 2 = 0 ∧ rr = (-3) ∧ M1 = Mx) ∨ (cn (Mx 3 3) (Mx 7) 2 = 1 ∧ rr = nI (gn (Mx 6) (Mx 7)) ∧ M1 = act6 Mx 2)) ∧ L1 = Lx) := by
  refine k_meti (by decide) (Nat.le_of_ble_eq_true rfl) (fun K hK X Y => ?_)
  subst hK
  refine r_pl [(0, .ref (base + 0))] ⟨rfl, trivial⟩ ?_
  refine r_aload_n (q := 1) (i := 0) (j := 0) (x := base + 0) X rfl rfl dX6_look_0 rfl ?_
  refine r_getf (q := 4) (i := 0) (v := .ref (base + 7)) X fk_X6_26 kh_0 rfl rfl dX6_look_1 rfl ?_
  refine r_aload_n (q := 5) (i := 0) (j := 0) (x := base + 0) X rfl rfl dX6_look_4 rfl ?_
  refine r_getf (q := 8) (i := 0) (v := .ref (base + 3)) X fk_X6_19 kh_0 rfl rfl dX6_look_5 rfl ?_
  refine r_iconst (q := 9) (v := nI 2) X kc_2 dX6_look_8 rfl ?_
  refine r_callVi (q := 12) X (c_can K.2.1 G base Mx Lx 7 kh_7 2 (by decide) (by have := ok.2.1; omega) (by have := ok.2.2.1; omega) (by have := ok.1; omega)) kh_7 rfl ks_RX6_135 (by decide) (by decide) ⟨Nat.zero_le _, Nat.zero_le _⟩ rfl (Nat.le_of_ble_eq_true rfl) dX6_look_9 rfl (fun r M1 L1 hp => ?_)
  obtain ⟨e1, e2, e3⟩ := hp
  subst e1
  replace e2 := e2.symm
  subst e2
  replace e3 := e3.symm
  subst e3
  have hcn := cn_2 (Mx 3 3) (Mx 7) 2
  refine r_if_ne (q := 15) (tgt := 18) X (by decide) dX6_look_12 rfl (fun c12 => ?_) (fun c12 => ?_)
  · replace c12 : ¬ (cn (Mx 3 3) (Mx 7) 2) = 0 := fun h => c12 ((kI_eq0 (by omega)).mpr h)
    refine r_aload_n (q := 19) (i := 0) (j := 0) (x := base + 0) X rfl rfl dX6_look_18 rfl ?_
    refine r_iconst (q := 20) (v := nI 2) X kc_2 dX6_look_19 rfl ?_
    refine r_callVi (q := 23) X (c_act K.2.1 G base Mx Lx 2 (by decide) ok (fun h => absurd h (by decide)) (fun _ => cn_look (n := Mx 3 3) (by omega))) kh_0 rfl ks_RX6_139 (by decide) (by decide) ⟨Nat.zero_le _, Nat.zero_le _⟩ rfl (Nat.le_of_ble_eq_true rfl) dX6_look_20 rfl (fun r M1 L1 hp => ?_)
    obtain ⟨e1, e2, e3⟩ := hp
    subst e1
    replace e2 := e2.symm
    subst e2
    replace e3 := e3.symm
    subst e3
    refine r_iret X Y ?_ dX6_look_23
    exact ⟨Or.inr ⟨by omega, rfl, rfl⟩, rfl⟩
  · replace c12 : (cn (Mx 3 3) (Mx 7) 2) = 0 := (kI_eq0 (by omega)).mp c12
    refine r_bipush (q := 17) (v := (-3)) X kb_m3 dX6_look_15 rfl ?_
    refine r_iret X Y ?_ dX6_look_17
    exact ⟨Or.inl ⟨by omega, rfl, rfl⟩, rfl⟩
set_option maxHeartbeats 8000000 in
theorem c6_pause (l : Launch) (G : ks_G) (base : Nat) (Mx : ks_M) (Lx : ks_L) (ok : okN Mx) : KI l G base 4 yX6_pause cX6_pause 1 .int [.ref (base + 0)] SH Mx Lx (fun rr M1 L1 => rr = nI (tk (Mx 6) (Mx 7) 3 2) ∧ M1 = act6 Mx 3 ∧ L1 = Lx) := by
  refine k_meti (by decide) (Nat.le_of_ble_eq_true rfl) (fun K hK X Y => ?_)
  subst hK
  refine r_pl [(0, .ref (base + 0))] ⟨rfl, trivial⟩ ?_
  refine r_aload_n (q := 1) (i := 0) (j := 0) (x := base + 0) X rfl rfl dX6_pause_0 rfl ?_
  refine r_iconst (q := 2) (v := nI 3) X kc_3 dX6_pause_1 rfl ?_
  refine r_callVi (q := 5) X (c_act K.2.1 G base Mx Lx 3 (by decide) ok (fun h => absurd h (by decide)) (fun h => absurd h (by decide))) kh_0 rfl ks_RX6_139 (by decide) (by decide) ⟨Nat.zero_le _, Nat.zero_le _⟩ rfl (Nat.le_of_ble_eq_true rfl) dX6_pause_2 rfl (fun r M1 L1 hp => ?_)
  obtain ⟨e1, e2, e3⟩ := hp
  subst e1
  replace e2 := e2.symm
  subst e2
  replace e3 := e3.symm
  subst e3
  refine r_pop (q := 6) X rfl dX6_pause_5 rfl ?_
  refine r_aload_n (q := 7) (i := 0) (j := 0) (x := base + 0) X rfl rfl dX6_pause_6 rfl ?_
  refine r_getf (q := 10) (i := 0) (v := .ref (base + 7)) X fk_X6_26 kh_0 rfl rfl dX6_pause_7 rfl ?_
  refine r_getf (q := 13) (i := 7) (v := .int (nI (tk (Mx 6) (Mx 7) 3 2))) X fk_X6_103 kh_7 rfl (kv (congrFun (act6_7 Mx _) 2)) dX6_pause_10 rfl ?_
  refine r_iret X Y ?_ dX6_pause_13
  exact ⟨rfl, rfl, rfl⟩
theorem kx64 {a k : Nat} (ha : a < 64) (hk : k < 6) : a ^^^ 1 <<< k < 64 := by
  have h1 : 1 <<< k < 2 ^ 6 := by rw [Nat.shiftLeft_eq, Nat.one_mul]; exact Nat.pow_lt_pow_right (by decide) hk
  exact Nat.xor_lt_two_pow (n := 6) ha h1
theorem ko64 {a k : Nat} (ha : a < 4) (hk : k < 2) : a ||| 1 <<< k < 4 := by
  have h1 : 1 <<< k < 2 ^ 2 := by rw [Nat.shiftLeft_eq, Nat.one_mul]; exact Nat.pow_lt_pow_right (by decide) hk
  exact Nat.or_lt_two_pow (n := 2) ha h1
set_option maxHeartbeats 8000000 in
theorem c6_lamp (l : Launch) (G : ks_G) (base : Nat) (Mx : ks_M) (Lx : ks_L) (x : Int32) (hn : Mx 3 3 ≤ 6) (ok : okN Mx) : KI l G base 2 yX6_lamp cX6_lamp 2 .int [.ref (base + 0), .int (x)] SH Mx Lx (fun rr M1 L1 => ((rr = (-1) ∧ (∀ k, k < Mx 3 3 → x ≠ nI k) ∧ M1 = Mx) ∨ (∃ k, k < Mx 3 3 ∧ x = nI k ∧ rr = nI ((Mx 7 4 ^^^ 1 <<< k) >>> k &&& 1) ∧ M1 = up2 (rem6 Mx 7) 7 4 (Mx 7 4 ^^^ 1 <<< k))) ∧ L1 = Lx) := by
  refine k_meti (by decide) (Nat.le_of_ble_eq_true rfl) (fun K hK X Y => ?_)
  subst hK
  refine r_pl [(0, .ref (base + 0)), (1, .int (x))] ⟨rfl, rfl, trivial⟩ ?_
  refine r_aload_n (q := 1) (i := 0) (j := 0) (x := base + 0) X rfl rfl dX6_lamp_0 rfl ?_
  refine r_getf (q := 4) (i := 0) (v := .ref (base + 3)) X fk_X6_19 kh_0 rfl rfl dX6_lamp_1 rfl ?_
  refine r_iload_n (q := 5) (i := 1) (j := 1) (x := x) X rfl rfl dX6_lamp_4 rfl ?_
  refine r_callVi (q := 8) X (c_has6 K.2.1 G base Mx Lx x hn) kh_3 rfl ks_RX6_116 (by decide) (by decide) ⟨Nat.zero_le _, Nat.zero_le _⟩ rfl (Nat.le_of_ble_eq_true rfl) dX6_lamp_5 rfl (fun r M1 L1 hp => ?_)
  rcases hp with ⟨k, e1, hkn, hxe, hp2⟩ | ⟨e1, hno, hp2⟩
  · subst e1
    obtain ⟨e2, e3⟩ := hp2
    replace e2 := e2.symm
    subst e2
    replace e3 := e3.symm
    subst e3
    subst hxe
    refine r_if_ne (q := 11) (tgt := 13) X (by decide) dX6_lamp_8 rfl (fun _ => ?_) (fun c => absurd c (by decide))
    refine r_aload_n (q := 14) (i := 0) (j := 0) (x := base + 0) X rfl rfl dX6_lamp_13 rfl ?_
    refine r_getf (q := 17) (i := 0) (v := .ref (base + 9)) X fk_X6_36 kh_0 rfl rfl dX6_lamp_14 rfl ?_
    refine r_aload_n (q := 18) (i := 0) (j := 0) (x := base + 0) X rfl rfl dX6_lamp_17 rfl ?_
    refine r_getf (q := 21) (i := 0) (v := .ref (base + 7)) X fk_X6_26 kh_0 rfl rfl dX6_lamp_18 rfl ?_
    refine r_callVv (q := 24) X (c_remember K.2.1 G base Mx Lx 7 kh_7 (by decide) ok.2.2.2.2.2.2.2.1 ok.2.2.2.2.2.2.2.2) kh_9 rfl ks_RX6_142 (by decide) (by decide) ⟨Nat.zero_le _, Nat.zero_le _⟩ rfl (Nat.le_of_ble_eq_true rfl) dX6_lamp_21 rfl (fun M1 L1 hp => ?_)
    obtain ⟨e2, e3⟩ := hp
    replace e2 := e2.symm
    subst e2
    replace e3 := e3.symm
    subst e3
    refine r_aload_n (q := 25) (i := 0) (j := 0) (x := base + 0) X rfl rfl dX6_lamp_24 rfl ?_
    refine r_getf (q := 28) (i := 0) (v := .ref (base + 7)) X fk_X6_26 kh_0 rfl rfl dX6_lamp_25 rfl ?_
    refine r_dup (q := 29) X rfl dX6_lamp_28 rfl ?_
    refine r_getf (q := 32) (i := 7) (v := .int (nI (Mx 7 4))) X fk_X6_109 kh_7 rfl (kv (congrFun (rem6_o (by decide)) _)) dX6_lamp_29 rfl ?_
    refine r_iconst (q := 33) (v := nI 1) X kc_1 dX6_lamp_32 rfl ?_
    refine r_iload_n (q := 34) (i := 1) (j := 1) (x := nI (k)) X rfl rfl dX6_lamp_33 rfl ?_
    refine r_ishlR (q := 35) (x := nI 1) (y := nI (k)) (v := nI (1 <<< k)) X (k_shl (by omega)) dX6_lamp_34 rfl ?_
    refine r_ixorR (q := 36) (x := nI (Mx 7 4)) (y := nI (1 <<< k)) (v := nI ((Mx 7 4) ^^^ (1 <<< k))) X (fb_xorI _ _) dX6_lamp_35 rfl ?_
    have hx6 : Mx 7 4 ^^^ 1 <<< k < 64 := kx64 (by have := ok.2.2.2.2.1; have := ok.2.2.2.2.2.1; omega) (by omega)
    refine r_puti (q := 39) (i := 7) (n := (Mx 7 4) ^^^ (1 <<< k)) X fk_X6_109 kp_X3_4 kh_7 rfl dX6_lamp_36 rfl ?_
    refine r_aload_n (q := 40) (i := 0) (j := 0) (x := base + 0) X rfl rfl dX6_lamp_39 rfl ?_
    refine r_getf (q := 43) (i := 0) (v := .ref (base + 7)) X fk_X6_26 kh_0 rfl rfl dX6_lamp_40 rfl ?_
    refine r_getf (q := 46) (i := 7) (v := .int (nI (Mx 7 4 ^^^ 1 <<< k))) X fk_X6_109 kh_7 rfl (kv (by simp [up2])) dX6_lamp_43 rfl ?_
    refine r_iload_n (q := 47) (i := 1) (j := 1) (x := nI (k)) X rfl rfl dX6_lamp_46 rfl ?_
    refine r_ishrR (q := 48) (x := nI (Mx 7 4 ^^^ 1 <<< k)) (y := nI (k)) (v := nI ((Mx 7 4 ^^^ 1 <<< k) >>> k)) X (k_shr (by omega) (by omega)) dX6_lamp_47 rfl ?_
    refine r_iconst (q := 49) (v := nI 1) X kc_1 dX6_lamp_48 rfl ?_
    refine r_iandR (q := 50) (x := nI ((Mx 7 4 ^^^ 1 <<< k) >>> k)) (y := nI 1) (v := nI (((Mx 7 4 ^^^ 1 <<< k) >>> k) &&& 1)) X (fa_and _ _) dX6_lamp_49 rfl ?_
    refine r_iret X Y ?_ dX6_lamp_50
    exact ⟨Or.inr ⟨k, hkn, rfl, rfl, rfl⟩, rfl⟩
  · subst e1
    obtain ⟨e2, e3⟩ := hp2
    replace e2 := e2.symm
    subst e2
    replace e3 := e3.symm
    subst e3
    refine r_if_ne (q := 11) (tgt := 13) X (by decide) dX6_lamp_8 rfl (fun c => absurd c (by decide)) (fun _ => ?_)
    refine r_iconst (q := 12) (v := (-1)) X kc_m1 dX6_lamp_11 rfl ?_
    refine r_iret X Y ?_ dX6_lamp_12
    exact ⟨Or.inl ⟨rfl, hno, rfl⟩, rfl⟩
set_option maxHeartbeats 8000000 in
theorem c6_key (l : Launch) (G : ks_G) (base : Nat) (Mx : ks_M) (Lx : ks_L) (x : Int32) (hn : Mx 3 3 ≤ 6) (ok : okN Mx) : KI l G base 2 yX6_key cX6_key 2 .int [.ref (base + 0), .int (x)] SH Mx Lx (fun rr M1 L1 => ((rr = (-1) ∧ (∀ k, k < Mx 3 3 → x ≠ nI k) ∧ M1 = Mx) ∨ (∃ k, k < Mx 3 3 ∧ x = nI k ∧ rr = nI ((Mx 7 5 ^^^ 1 <<< k) >>> k &&& 1) ∧ M1 = up2 (rem6 Mx 7) 7 5 (Mx 7 5 ^^^ 1 <<< k))) ∧ L1 = Lx) := by
  refine k_meti (by decide) (Nat.le_of_ble_eq_true rfl) (fun K hK X Y => ?_)
  subst hK
  refine r_pl [(0, .ref (base + 0)), (1, .int (x))] ⟨rfl, rfl, trivial⟩ ?_
  refine r_aload_n (q := 1) (i := 0) (j := 0) (x := base + 0) X rfl rfl dX6_key_0 rfl ?_
  refine r_getf (q := 4) (i := 0) (v := .ref (base + 3)) X fk_X6_19 kh_0 rfl rfl dX6_key_1 rfl ?_
  refine r_iload_n (q := 5) (i := 1) (j := 1) (x := x) X rfl rfl dX6_key_4 rfl ?_
  refine r_callVi (q := 8) X (c_has6 K.2.1 G base Mx Lx x hn) kh_3 rfl ks_RX6_116 (by decide) (by decide) ⟨Nat.zero_le _, Nat.zero_le _⟩ rfl (Nat.le_of_ble_eq_true rfl) dX6_key_5 rfl (fun r M1 L1 hp => ?_)
  rcases hp with ⟨k, e1, hkn, hxe, hp2⟩ | ⟨e1, hno, hp2⟩
  · subst e1
    obtain ⟨e2, e3⟩ := hp2
    replace e2 := e2.symm
    subst e2
    replace e3 := e3.symm
    subst e3
    subst hxe
    refine r_if_ne (q := 11) (tgt := 13) X (by decide) dX6_key_8 rfl (fun _ => ?_) (fun c => absurd c (by decide))
    refine r_aload_n (q := 14) (i := 0) (j := 0) (x := base + 0) X rfl rfl dX6_key_13 rfl ?_
    refine r_getf (q := 17) (i := 0) (v := .ref (base + 9)) X fk_X6_36 kh_0 rfl rfl dX6_key_14 rfl ?_
    refine r_aload_n (q := 18) (i := 0) (j := 0) (x := base + 0) X rfl rfl dX6_key_17 rfl ?_
    refine r_getf (q := 21) (i := 0) (v := .ref (base + 7)) X fk_X6_26 kh_0 rfl rfl dX6_key_18 rfl ?_
    refine r_callVv (q := 24) X (c_remember K.2.1 G base Mx Lx 7 kh_7 (by decide) ok.2.2.2.2.2.2.2.1 ok.2.2.2.2.2.2.2.2) kh_9 rfl ks_RX6_142 (by decide) (by decide) ⟨Nat.zero_le _, Nat.zero_le _⟩ rfl (Nat.le_of_ble_eq_true rfl) dX6_key_21 rfl (fun M1 L1 hp => ?_)
    obtain ⟨e2, e3⟩ := hp
    replace e2 := e2.symm
    subst e2
    replace e3 := e3.symm
    subst e3
    refine r_aload_n (q := 25) (i := 0) (j := 0) (x := base + 0) X rfl rfl dX6_key_24 rfl ?_
    refine r_getf (q := 28) (i := 0) (v := .ref (base + 7)) X fk_X6_26 kh_0 rfl rfl dX6_key_25 rfl ?_
    refine r_dup (q := 29) X rfl dX6_key_28 rfl ?_
    refine r_getf (q := 32) (i := 7) (v := .int (nI (Mx 7 5))) X fk_X6_112 kh_7 rfl (kv (congrFun (rem6_o (by decide)) _)) dX6_key_29 rfl ?_
    refine r_iconst (q := 33) (v := nI 1) X kc_1 dX6_key_32 rfl ?_
    refine r_iload_n (q := 34) (i := 1) (j := 1) (x := nI (k)) X rfl rfl dX6_key_33 rfl ?_
    refine r_ishlR (q := 35) (x := nI 1) (y := nI (k)) (v := nI (1 <<< k)) X (k_shl (by omega)) dX6_key_34 rfl ?_
    refine r_ixorR (q := 36) (x := nI (Mx 7 5)) (y := nI (1 <<< k)) (v := nI ((Mx 7 5) ^^^ (1 <<< k))) X (fb_xorI _ _) dX6_key_35 rfl ?_
    have hx6 : Mx 7 5 ^^^ 1 <<< k < 64 := kx64 (by have := ok.2.2.2.2.1; have := ok.2.2.2.2.2.1; omega) (by omega)
    refine r_puti (q := 39) (i := 7) (n := (Mx 7 5) ^^^ (1 <<< k)) X fk_X6_112 kp_X3_5 kh_7 rfl dX6_key_36 rfl ?_
    refine r_aload_n (q := 40) (i := 0) (j := 0) (x := base + 0) X rfl rfl dX6_key_39 rfl ?_
    refine r_getf (q := 43) (i := 0) (v := .ref (base + 7)) X fk_X6_26 kh_0 rfl rfl dX6_key_40 rfl ?_
    refine r_getf (q := 46) (i := 7) (v := .int (nI (Mx 7 5 ^^^ 1 <<< k))) X fk_X6_112 kh_7 rfl (kv (by simp [up2])) dX6_key_43 rfl ?_
    refine r_iload_n (q := 47) (i := 1) (j := 1) (x := nI (k)) X rfl rfl dX6_key_46 rfl ?_
    refine r_ishrR (q := 48) (x := nI (Mx 7 5 ^^^ 1 <<< k)) (y := nI (k)) (v := nI ((Mx 7 5 ^^^ 1 <<< k) >>> k)) X (k_shr (by omega) (by omega)) dX6_key_47 rfl ?_
    refine r_iconst (q := 49) (v := nI 1) X kc_1 dX6_key_48 rfl ?_
    refine r_iandR (q := 50) (x := nI ((Mx 7 5 ^^^ 1 <<< k) >>> k)) (y := nI 1) (v := nI (((Mx 7 5 ^^^ 1 <<< k) >>> k) &&& 1)) X (fa_and _ _) dX6_key_49 rfl ?_
    refine r_iret X Y ?_ dX6_key_50
    exact ⟨Or.inr ⟨k, hkn, rfl, rfl, rfl⟩, rfl⟩
  · subst e1
    obtain ⟨e2, e3⟩ := hp2
    replace e2 := e2.symm
    subst e2
    replace e3 := e3.symm
    subst e3
    refine r_if_ne (q := 11) (tgt := 13) X (by decide) dX6_key_8 rfl (fun c => absurd c (by decide)) (fun _ => ?_)
    refine r_iconst (q := 12) (v := (-1)) X kc_m1 dX6_key_11 rfl ?_
    refine r_iret X Y ?_ dX6_key_12
    exact ⟨Or.inl ⟨rfl, hno, rfl⟩, rfl⟩
set_option maxHeartbeats 8000000 in
theorem c6_undo (l : Launch) (G : ks_G) (base : Nat) (Mx : ks_M) (Lx : ks_L) (ok : okN Mx) : KI l G base 2 yX6_undo cX6_undo 1 .int [.ref (base + 0)] SH Mx Lx (fun rr M1 L1 => ((Mx 9 2 = 0 ∧ rr = (-3) ∧ M1 = Mx) ∨ (0 < Mx 9 2 ∧ rr = nI (Mx 9 2 - 1) ∧ M1 = bk6 Mx 7)) ∧ L1 = Lx) := by
  refine k_meti (by decide) (Nat.le_of_ble_eq_true rfl) (fun K hK X Y => ?_)
  subst hK
  refine r_pl [(0, .ref (base + 0))] ⟨rfl, trivial⟩ ?_
  refine r_aload_n (q := 1) (i := 0) (j := 0) (x := base + 0) X rfl rfl dX6_undo_0 rfl ?_
  refine r_getf (q := 4) (i := 0) (v := .ref (base + 9)) X fk_X6_36 kh_0 rfl rfl dX6_undo_1 rfl ?_
  refine r_getf (q := 7) (i := 9) (v := .int (nI (Mx 9 2))) X fk_X6_93 kh_9 rfl rfl dX6_undo_4 rfl ?_
  have hc9 := ok.2.2.2.2.2.2.2.2
  refine r_if_gt (q := 10) (tgt := 13) X (by decide) dX6_undo_7 rfl (fun c7 => ?_) (fun c7 => ?_)
  · replace c7 : 0 < (Mx 9 2) := (kI_gt0 (by omega)).mp c7
    refine r_aload_n (q := 14) (i := 0) (j := 0) (x := base + 0) X rfl rfl dX6_undo_13 rfl ?_
    refine r_getf (q := 17) (i := 0) (v := .ref (base + 9)) X fk_X6_36 kh_0 rfl rfl dX6_undo_14 rfl ?_
    refine r_aload_n (q := 18) (i := 0) (j := 0) (x := base + 0) X rfl rfl dX6_undo_17 rfl ?_
    refine r_getf (q := 21) (i := 0) (v := .ref (base + 7)) X fk_X6_26 kh_0 rfl rfl dX6_undo_18 rfl ?_
    refine r_callVv (q := 24) X (c_takeBack K.2.1 G base Mx Lx 7 kh_7 (by decide) ok.2.2.2.2.2.2.2.1 ok.2.2.2.2.2.2.2.2 (by omega)) kh_9 rfl ks_RX6_146 (by decide) (by decide) ⟨Nat.zero_le _, Nat.zero_le _⟩ rfl (Nat.le_of_ble_eq_true rfl) dX6_undo_21 rfl (fun M1 L1 hp => ?_)
    obtain ⟨e2, e3⟩ := hp
    replace e2 := e2.symm
    subst e2
    replace e3 := e3.symm
    subst e3
    refine r_aload_n (q := 25) (i := 0) (j := 0) (x := base + 0) X rfl rfl dX6_undo_24 rfl ?_
    refine r_getf (q := 28) (i := 0) (v := .ref (base + 9)) X fk_X6_36 kh_0 rfl rfl dX6_undo_25 rfl ?_
    refine r_getf (q := 31) (i := 9) (v := .int (nI (Mx 9 2 - 1))) X fk_X6_93 kh_9 rfl (kv (by unfold bk6; rw [sr_o (by decide)]; simp [up2])) dX6_undo_28 rfl ?_
    refine r_iret X Y ?_ dX6_undo_31
    exact ⟨Or.inr ⟨by omega, rfl, rfl⟩, rfl⟩
  · replace c7 : ¬ 0 < (Mx 9 2) := fun h => c7 ((kI_gt0 (by omega)).mpr h)
    refine r_bipush (q := 12) (v := (-3)) X kb_m3 dX6_undo_10 rfl ?_
    refine r_iret X Y ?_ dX6_undo_12
    exact ⟨Or.inl ⟨by omega, rfl, rfl⟩, rfl⟩
theorem kd40 {j : Nat} (h : j < 2) : ([(3, 41), (3, 42)] : List (Nat × Nat))[j]? = some (3, 41 + j) := by
  rcases (show j = 0 ∨ j = 1 by omega) with rfl | rfl <;> rfl
theorem kh_kept {j : Nat} (h : j < 2) : SH[41 + j]? = some kSt := by
  rcases (show j = 0 ∨ j = 1 by omega) with rfl | rfl <;> rfl
def keep6 (M : ks_M) (j : Nat) : ks_M := up2 (sr M (41 + j) (cp7 (M (41 + j)) (M 7))) 0 9 (M 0 9 ||| 1 <<< j)
def again6 (M : ks_M) (j : Nat) : ks_M := up2 (sr M 7 (cp7 (M 7) (M (41 + j)))) 9 2 0
set_option maxHeartbeats 8000000 in
theorem c6_keep (l : Launch) (G : ks_G) (base : Nat) (Mx : ks_M) (Lx : ks_L) (x : Int32) : KI l G base 1 yX6_keep cX6_keep 2 .int [.ref (base + 0), .int (x)] SH Mx Lx (fun rr M1 L1 => ((rr = (-1) ∧ (∀ j, j < 2 → x ≠ nI j) ∧ M1 = Mx) ∨ (∃ j, j < 2 ∧ x = nI j ∧ rr = nI (Mx 7 2) ∧ M1 = keep6 Mx j)) ∧ L1 = Lx) := by
  refine k_meti (by decide) (Nat.le_of_ble_eq_true rfl) (fun K hK X Y => ?_)
  subst hK
  refine r_pl [(0, .ref (base + 0)), (1, .int (x))] ⟨rfl, rfl, trivial⟩ ?_
  refine r_iload_n (q := 1) (i := 1) (j := 1) (x := x) X rfl rfl dX6_keep_0 rfl ?_
  refine r_if_lt (q := 4) (tgt := 13) X (by decide) dX6_keep_1 rfl (fun c1 => ?_) (fun c1 => ?_)
  · skip
    refine r_iconst (q := 14) (v := (-1)) X kc_m1 dX6_keep_13 rfl ?_
    refine r_iret X Y ?_ dX6_keep_14
    exact ⟨Or.inl ⟨rfl, fun j hj h => absurd (h ▸ c1) (nI_pos (by omega)), rfl⟩, rfl⟩
  · skip
    obtain ⟨j, hj, rfl⟩ := nI_of c1
    refine r_iload_n (q := 5) (i := 1) (j := 1) (x := nI (j)) X rfl rfl dX6_keep_4 rfl ?_
    refine r_aload_n (q := 6) (i := 0) (j := 0) (x := base + 0) X rfl rfl dX6_keep_5 rfl ?_
    refine r_getf (q := 9) (i := 0) (v := .ref (base + 40)) X fk_X6_58 kh_0 rfl rfl dX6_keep_6 rfl ?_
    refine r_alen (q := 10) (i := 40) (n := 2) X kh_40 dX6_keep_9 rfl ?_
    refine r_icmp_lt (q := 13) (tgt := 15) X (by decide) dX6_keep_10 rfl (fun c10 => ?_) (fun c10 => ?_)
    · replace c10 : j < 2 := (nI_ltI (by omega) (by omega)).mp c10
      refine r_aload_n (q := 16) (i := 0) (j := 0) (x := base + 0) X rfl rfl dX6_keep_15 rfl ?_
      refine r_getf (q := 19) (i := 0) (v := .ref (base + 40)) X fk_X6_58 kh_0 rfl rfl dX6_keep_16 rfl ?_
      refine r_iload_n (q := 20) (i := 1) (j := 1) (x := nI (j)) X rfl rfl dX6_keep_19 rfl ?_
      refine r_aald (q := 21) (i := 40) (j := j) (t := 41 + j) X kh_40 (by omega) (Nat.le_of_ble_eq_true rfl) (kd40 (by omega)) dX6_keep_20 rfl ?_
      refine r_aload_n (q := 22) (i := 0) (j := 0) (x := base + 0) X rfl rfl dX6_keep_21 rfl ?_
      refine r_getf (q := 25) (i := 0) (v := .ref (base + 7)) X fk_X6_26 kh_0 rfl rfl dX6_keep_22 rfl ?_
      refine r_callVv (q := 28) X (c_copy K.2.1 G base Mx Lx (41 + j) (kh_kept (by omega)) 7 kh_7 (by omega)) (kh_kept (by omega)) rfl ks_RX6_172 (by decide) (by decide) ⟨Nat.zero_le _, Nat.zero_le _⟩ rfl (Nat.le_of_ble_eq_true rfl) dX6_keep_25 rfl (fun M1 L1 hp => ?_)
      obtain ⟨e2, e3⟩ := hp
      replace e2 := e2.symm
      subst e2
      replace e3 := e3.symm
      subst e3
      refine r_aload_n (q := 29) (i := 0) (j := 0) (x := base + 0) X rfl rfl dX6_keep_28 rfl ?_
      refine r_dup (q := 30) X rfl dX6_keep_29 rfl ?_
      refine r_getf (q := 33) (i := 0) (v := .int (nI (Mx 0 9))) X fk_X6_66 kh_0 rfl (kv (congrFun (sr_o (by omega)) _)) dX6_keep_30 rfl ?_
      refine r_iconst (q := 34) (v := nI 1) X kc_1 dX6_keep_33 rfl ?_
      refine r_iload_n (q := 35) (i := 1) (j := 1) (x := nI (j)) X rfl rfl dX6_keep_34 rfl ?_
      refine r_ishlR (q := 36) (x := nI 1) (y := nI (j)) (v := nI (1 <<< j)) X (k_shl (by omega)) dX6_keep_35 rfl ?_
      refine r_iorR (q := 37) (x := nI (Mx 0 9)) (y := nI (1 <<< j)) (v := nI ((Mx 0 9) ||| (1 <<< j))) X (fa_or _ _) dX6_keep_36 rfl ?_
      refine r_puti (q := 40) (i := 0) (n := (Mx 0 9) ||| (1 <<< j)) X fk_X6_66 kp_X6_9 kh_0 rfl dX6_keep_37 rfl ?_
      refine r_aload_n (q := 41) (i := 0) (j := 0) (x := base + 0) X rfl rfl dX6_keep_40 rfl ?_
      refine r_getf (q := 44) (i := 0) (v := .ref (base + 7)) X fk_X6_26 kh_0 rfl rfl dX6_keep_41 rfl ?_
      refine r_getf (q := 47) (i := 7) (v := .int (nI (Mx 7 2))) X fk_X6_103 kh_7 rfl (kv (by simp only [up2]; rw [if_neg (by omega)]; exact congrFun (sr_o (by omega)) _)) dX6_keep_44 rfl ?_
      refine r_iret X Y ?_ dX6_keep_47
      exact ⟨Or.inr ⟨j, by omega, rfl, rfl, rfl⟩, rfl⟩
    · replace c10 : ¬ j < 2 := fun h => c10 ((nI_ltI (by omega) (by omega)).mpr h)
      refine r_iconst (q := 14) (v := (-1)) X kc_m1 dX6_keep_13 rfl ?_
      refine r_iret X Y ?_ dX6_keep_14
      exact ⟨Or.inl ⟨rfl, fun j hj h => by have := (kI_eq (by omega) (by omega)).mp h; omega, rfl⟩, rfl⟩
set_option maxHeartbeats 8000000 in
theorem c6_again (l : Launch) (G : ks_G) (base : Nat) (Mx : ks_M) (Lx : ks_L) (x : Int32) (h9 : Mx 0 9 < 4) : KI l G base 1 yX6_again cX6_again 2 .int [.ref (base + 0), .int (x)] SH Mx Lx (fun rr M1 L1 => ((rr = (-1) ∧ (∀ j, j < 2 → x ≠ nI j) ∧ M1 = Mx) ∨ (∃ j, j < 2 ∧ x = nI j ∧ ((Mx 0 9 >>> j &&& 1 = 0 ∧ rr = (-3) ∧ M1 = Mx) ∨ (Mx 0 9 >>> j &&& 1 ≠ 0 ∧ rr = nI (Mx (41 + j) 2) ∧ M1 = again6 Mx j)))) ∧ L1 = Lx) := by
  refine k_meti (by decide) (Nat.le_of_ble_eq_true rfl) (fun K hK X Y => ?_)
  subst hK
  refine r_pl [(0, .ref (base + 0)), (1, .int (x))] ⟨rfl, rfl, trivial⟩ ?_
  refine r_iload_n (q := 1) (i := 1) (j := 1) (x := x) X rfl rfl dX6_again_0 rfl ?_
  refine r_if_lt (q := 4) (tgt := 13) X (by decide) dX6_again_1 rfl (fun c1 => ?_) (fun c1 => ?_)
  · skip
    refine r_iconst (q := 14) (v := (-1)) X kc_m1 dX6_again_13 rfl ?_
    refine r_iret X Y ?_ dX6_again_14
    exact ⟨Or.inl ⟨rfl, fun j hj h => absurd (h ▸ c1) (nI_pos (by omega)), rfl⟩, rfl⟩
  · skip
    obtain ⟨j, hj, rfl⟩ := nI_of c1
    refine r_iload_n (q := 5) (i := 1) (j := 1) (x := nI (j)) X rfl rfl dX6_again_4 rfl ?_
    refine r_aload_n (q := 6) (i := 0) (j := 0) (x := base + 0) X rfl rfl dX6_again_5 rfl ?_
    refine r_getf (q := 9) (i := 0) (v := .ref (base + 40)) X fk_X6_58 kh_0 rfl rfl dX6_again_6 rfl ?_
    refine r_alen (q := 10) (i := 40) (n := 2) X kh_40 dX6_again_9 rfl ?_
    refine r_icmp_lt (q := 13) (tgt := 15) X (by decide) dX6_again_10 rfl (fun c10 => ?_) (fun c10 => ?_)
    · replace c10 : j < 2 := (nI_ltI (by omega) (by omega)).mp c10
      refine r_aload_n (q := 16) (i := 0) (j := 0) (x := base + 0) X rfl rfl dX6_again_15 rfl ?_
      refine r_getf (q := 19) (i := 0) (v := .int (nI (Mx 0 9))) X fk_X6_66 kh_0 rfl rfl dX6_again_16 rfl ?_
      refine r_iload_n (q := 20) (i := 1) (j := 1) (x := nI (j)) X rfl rfl dX6_again_19 rfl ?_
      refine r_ishrR (q := 21) (x := nI (Mx 0 9)) (y := nI (j)) (v := nI ((Mx 0 9) >>> j)) X (k_shr (by omega) (by omega)) dX6_again_20 rfl ?_
      refine r_iconst (q := 22) (v := nI 1) X kc_1 dX6_again_21 rfl ?_
      refine r_iandR (q := 23) (x := nI ((Mx 0 9) >>> j)) (y := nI 1) (v := nI (((Mx 0 9) >>> j) &&& 1)) X (fa_and _ _) dX6_again_22 rfl ?_
      have hb1 := k_and1 (Mx 0 9 >>> j)
      refine r_if_ne (q := 26) (tgt := 29) X (by decide) dX6_again_23 rfl (fun c23 => ?_) (fun c23 => ?_)
      · replace c23 : ¬ (((Mx 0 9) >>> j) &&& 1) = 0 := fun h => c23 ((kI_eq0 (by omega)).mpr h)
        refine r_aload_n (q := 30) (i := 0) (j := 0) (x := base + 0) X rfl rfl dX6_again_29 rfl ?_
        refine r_getf (q := 33) (i := 0) (v := .ref (base + 7)) X fk_X6_26 kh_0 rfl rfl dX6_again_30 rfl ?_
        refine r_aload_n (q := 34) (i := 0) (j := 0) (x := base + 0) X rfl rfl dX6_again_33 rfl ?_
        refine r_getf (q := 37) (i := 0) (v := .ref (base + 40)) X fk_X6_58 kh_0 rfl rfl dX6_again_34 rfl ?_
        refine r_iload_n (q := 38) (i := 1) (j := 1) (x := nI (j)) X rfl rfl dX6_again_37 rfl ?_
        refine r_aald (q := 39) (i := 40) (j := j) (t := 41 + j) X kh_40 (by omega) (Nat.le_of_ble_eq_true rfl) (kd40 (by omega)) dX6_again_38 rfl ?_
        refine r_callVv (q := 42) X (c_copy K.2.1 G base Mx Lx 7 kh_7 (41 + j) (kh_kept (by omega)) (by omega)) kh_7 rfl ks_RX6_172 (by decide) (by decide) ⟨Nat.zero_le _, Nat.zero_le _⟩ rfl (Nat.le_of_ble_eq_true rfl) dX6_again_39 rfl (fun M1 L1 hp => ?_)
        obtain ⟨e2, e3⟩ := hp
        replace e2 := e2.symm
        subst e2
        replace e3 := e3.symm
        subst e3
        refine r_aload_n (q := 43) (i := 0) (j := 0) (x := base + 0) X rfl rfl dX6_again_42 rfl ?_
        refine r_getf (q := 46) (i := 0) (v := .ref (base + 9)) X fk_X6_36 kh_0 rfl rfl dX6_again_43 rfl ?_
        refine r_iconst (q := 47) (v := nI 0) X kc_0 dX6_again_46 rfl ?_
        refine r_puti (q := 50) (i := 9) (n := 0) X fk_X6_93 kp_X0_2 kh_9 rfl dX6_again_47 rfl ?_
        refine r_aload_n (q := 51) (i := 0) (j := 0) (x := base + 0) X rfl rfl dX6_again_50 rfl ?_
        refine r_getf (q := 54) (i := 0) (v := .ref (base + 7)) X fk_X6_26 kh_0 rfl rfl dX6_again_51 rfl ?_
        refine r_getf (q := 57) (i := 7) (v := .int (nI (Mx (41 + j) 2))) X fk_X6_103 kh_7 rfl (kv (by simp only [up2]; rw [if_neg (by omega), sr_s]; simp [cp7])) dX6_again_54 rfl ?_
        refine r_iret X Y ?_ dX6_again_57
        exact ⟨Or.inr ⟨j, by omega, rfl, Or.inr ⟨by omega, rfl, rfl⟩⟩, rfl⟩
      · replace c23 : (((Mx 0 9) >>> j) &&& 1) = 0 := (kI_eq0 (by omega)).mp c23
        refine r_bipush (q := 28) (v := (-3)) X kb_m3 dX6_again_26 rfl ?_
        refine r_iret X Y ?_ dX6_again_28
        exact ⟨Or.inr ⟨j, by omega, rfl, Or.inl ⟨by omega, rfl, rfl⟩⟩, rfl⟩
    · replace c10 : ¬ j < 2 := fun h => c10 ((nI_ltI (by omega) (by omega)).mpr h)
      refine r_iconst (q := 14) (v := (-1)) X kc_m1 dX6_again_13 rfl ?_
      refine r_iret X Y ?_ dX6_again_14
      exact ⟨Or.inl ⟨rfl, fun j hj h => by have := (kI_eq (by omega) (by omega)).mp h; omega, rfl⟩, rfl⟩
set_option maxHeartbeats 8000000 in
theorem c6_unsee (l : Launch) (G : ks_G) (base : Nat) (Mx : ks_M) (Lx : ks_L)  : KI l G base 0 yX6_unsee cX6_unsee 2 .int [.ref (base + 0)] SH Mx Lx (fun rr M1 L1 => rr = nI (Mx 35 4) ∧ M1 = up2 Mx 35 4 0 ∧ L1 = Lx) := by
  refine k_meti (by decide) (Nat.le_of_ble_eq_true rfl) (fun K hK X Y => ?_)
  subst hK
  refine r_pl [(0, .ref (base + 0))] ⟨rfl, trivial⟩ ?_
  refine r_aload_n (q := 1) (i := 0) (j := 0) (x := base + 0) X rfl rfl dX6_unsee_0 rfl ?_
  refine r_getf (q := 4) (i := 0) (v := .ref (base + 35)) X fk_X6_50 kh_0 rfl rfl dX6_unsee_1 rfl ?_
  refine r_getf (q := 7) (i := 35) (v := .int (nI (Mx 35 4))) X fk_X6_115 kh_35 rfl rfl dX6_unsee_4 rfl ?_
  refine r_istore_n (q := 8) (i := 1) (j := 1) X rfl (Nat.le_of_ble_eq_true rfl) dX6_unsee_7 rfl ?_
  refine r_aload_n (q := 9) (i := 0) (j := 0) (x := base + 0) X rfl rfl dX6_unsee_8 rfl ?_
  refine r_getf (q := 12) (i := 0) (v := .ref (base + 35)) X fk_X6_50 kh_0 rfl rfl dX6_unsee_9 rfl ?_
  refine r_iconst (q := 13) (v := nI 0) X kc_0 dX6_unsee_12 rfl ?_
  refine r_puti (q := 16) (i := 35) (n := 0) X fk_X6_115 kp_X2_4 kh_35 rfl dX6_unsee_13 rfl ?_
  refine r_iload_n (q := 17) (i := 1) (j := 1) (x := nI (Mx 35 4)) X rfl rfl dX6_unsee_16 rfl ?_
  refine r_iret X Y ?_ dX6_unsee_17
  exact ⟨rfl, rfl, rfl⟩
set_option maxHeartbeats 8000000 in
theorem c6_seed (l : Launch) (G : ks_G) (base : Nat) (Mx : ks_M) (Lx : ks_L) (v : Int64) : KL l G base 0 yX6_seed cX6_seed 5 [.ref (base + 0), .long (v)] SH Mx Lx (fun rr M1 L1 => rr = Lx 0 ∧ M1 = Mx ∧ L1 = upl Lx 0 v) := by
  refine k_metl (by decide) (Nat.le_of_ble_eq_true rfl) (fun K hK X Y => ?_)
  subst hK
  refine r_pl [(0, .ref (base + 0)), (1, .long (v))] ⟨rfl, rfl, trivial⟩ ?_
  refine r_aload_n (q := 1) (i := 0) (j := 0) (x := base + 0) X rfl rfl dX6_seed_0 rfl ?_
  refine r_getf (q := 4) (i := 0) (v := .long (Lx 0)) X fk_X6_70 kh_0 rfl rfl dX6_seed_1 rfl ?_
  refine r_lstore_n (q := 5) (i := 3) (j := 3) X rfl (Nat.le_of_ble_eq_true rfl) dX6_seed_4 rfl ?_
  refine r_aload_n (q := 6) (i := 0) (j := 0) (x := base + 0) X rfl rfl dX6_seed_5 rfl ?_
  refine r_lload_n (q := 7) (i := 1) (j := 1) (x := v) X rfl rfl dX6_seed_6 rfl ?_
  refine r_putl (q := 10) (i := 0) (x := v) X fk_X6_70 kp_X6_10 kh_0 rfl (ks_ho (by decide)) dX6_seed_7 rfl ?_
  refine r_lload_n (q := 11) (i := 3) (j := 3) (x := (Lx 0)) X rfl rfl dX6_seed_10 rfl ?_
  refine r_lret X Y ?_ dX6_seed_11
  exact ⟨rfl, rfl, rfl⟩
