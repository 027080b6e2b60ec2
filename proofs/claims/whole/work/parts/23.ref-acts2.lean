/-! THE REFERENCE: walk, look, pause, lamp, key, slots, asked -/
def okP (M : ks_M) : Prop := M 44 0 = 0 ∧ M 44 4 ≤ 6 ∧ M 49 0 < 6 ∧ M 49 1 < 1000 ∧ M 49 2 < 100000 ∧ M 49 4 < 64 ∧ M 49 5 < 64 ∧ (∀ h, M 49 (6 + h) < 8) ∧ M 44 14 ≤ 14 ∧ (∀ k, M 46 k < 4) ∧ (∀ k, M 47 k < 10)
def act7 (M : ks_M) (t : Nat) : ks_M := sr (nt7 M) 49 (tk7 M (M 49) t)
theorem act7_49 (M : ks_M) (t : Nat) : act7 M t 49 = tk7 M (M 49) t := sr_s _ _ _
theorem sg7_eq {M M' : ks_M} (h1 : M' 46 = M 46) (h2 : M' 47 = M 47) (y : Nat → Nat) (h t : Nat) : sg7 M' y h t = sg7 M y h t := by unfold sg7; rw [h1, h2]
theorem gn7_eq {M M' : ks_M} (h1 : M' 46 = M 46) (h2 : M' 47 = M 47) (y : Nat → Nat) : gn7 M' y = gn7 M y := by unfold gn7; rw [sg7_eq h1 h2]
theorem tk7_eq {M M' : ks_M} (h1 : M' 46 = M 46) (h2 : M' 47 = M 47) (y : Nat → Nat) (t : Nat) : tk7 M' y t = tk7 M y t := by unfold tk7; rw [gn7_eq h1 h2]
theorem cn7_2 (n : Nat) (y : Nat → Nat) (t : Nat) : cn7 n y t < 2 := by unfold cn7; (repeat' split) <;> decide
theorem cn7_0 {n : Nat} {y : Nat → Nat} (h : cn7 n y 0 = 1) : 0 < y 0 := by
  unfold cn7 at h; rw [if_pos rfl] at h; split at h <;> first | assumption | cases h
theorem cn7_look {n : Nat} {y : Nat → Nat} (h : cn7 n y 2 = 1) : 0 < y 1 := by
  unfold cn7 at h; rw [if_neg (by decide), if_neg (by decide), if_neg (by decide)] at h; split at h
  · next h1 => exact h1.2
  · cases h
set_option maxHeartbeats 8000000 in
theorem c7_walk (l : Launch) (G : ks_G) (base : Nat) (Mx : ks_M) (Lx : ks_L) (x : Int32) (ok : okP Mx) : KI l G base 3 yX7_walk cX7_walk 2 .int [.ref (base + 44), .int (x)] SH Mx Lx (fun rr M1 L1 => (rr = (-2) ∧ (∀ t, t < 2 → x ≠ nI t) ∧ M1 = Mx ∧ L1 = Lx) ∨ (∃ t, t < 2 ∧ x = nI t ∧ ((cn7 (Mx 44 4) (Mx 49) t = 0 ∧ rr = (-3) ∧ M1 = Mx) ∨ (cn7 (Mx 44 4) (Mx 49) t = 1 ∧ rr = nI (tk7 Mx (Mx 49) t 0) ∧ M1 = act7 Mx t)) ∧ L1 = Lx)) := by
  refine k_meti (by decide) (Nat.le_of_ble_eq_true rfl) (fun K hK X Y => ?_)
  subst hK
  refine r_pl [(0, .ref (base + 44)), (1, .int (x))] ⟨rfl, rfl, trivial⟩ ?_
  have hth := ok.1
  refine r_aload_n (q := 1) (i := 0) (j := 0) (x := base + 44) X rfl rfl dX7_walk_0 rfl ?_
  refine r_iconst (q := 2) (v := nI 0) X kc_0 dX7_walk_1 rfl ?_
  refine r_puti (q := 5) (i := 44) (n := 0) X fk_X7_59 kp_X7_0 kh_44 rfl dX7_walk_2 rfl ?_
  refine r_mem Mx (up2_id hth) ?_
  refine r_iload_n (q := 6) (i := 1) (j := 1) (x := x) X rfl rfl dX7_walk_5 rfl ?_
  refine r_i2l (q := 7) (v := x.toInt64) X rfl dX7_walk_6 rfl ?_
  refine r_lconst (q := 8) (v := 0) X rfl dX7_walk_7 rfl ?_
  refine r_lconst (q := 9) (v := 1) X rfl dX7_walk_8 rfl ?_
  refine r_callSi (q := 12) X (c_in K.2.1 G base Mx Lx x.toInt64 0 1) ks_RX7_66 (by decide) (by decide) ⟨Nat.zero_le _, Nat.zero_le _⟩ rfl (Nat.le_of_ble_eq_true rfl) dX7_walk_9 rfl (fun r M1 L1 hp => ?_)
  have hk := kIn (x := x) (y := 0) (z := 1) (a := 0) (b := 1) rfl rfl (by omega) (by omega)
  rcases hp with ⟨e1, hin, hp2⟩ | ⟨e1, hin, hp2⟩
  · subst e1
    obtain ⟨e2, e3⟩ := hp2
    replace e2 := e2.symm
    subst e2
    replace e3 := e3.symm
    subst e3
    rw [hk] at hin
    obtain ⟨b, -, hb, rfl⟩ := hin
    refine r_if_ne (q := 15) (tgt := 18) X (by decide) dX7_walk_12 rfl (fun _ => ?_) (fun c => absurd c (by decide))
    refine r_aload_n (q := 19) (i := 0) (j := 0) (x := base + 44) X rfl rfl dX7_walk_18 rfl ?_
    refine r_aload_n (q := 20) (i := 0) (j := 0) (x := base + 44) X rfl rfl dX7_walk_19 rfl ?_
    refine r_getf (q := 23) (i := 44) (v := .ref (base + 49)) X fk_X7_22 kh_44 rfl rfl dX7_walk_20 rfl ?_
    refine r_iload_n (q := 24) (i := 1) (j := 1) (x := nI (b)) X rfl rfl dX7_walk_23 rfl ?_
    refine r_callVi (q := 27) X (c_can7 K.2.1 G base Mx Lx 49 b kh_49 (by omega) (by have := ok.2.2.1; omega) (by have := ok.2.2.2.1; omega) ok.2.1) kh_44 rfl ks_RX7_121 (by decide) (by decide) ⟨Nat.zero_le _, Nat.zero_le _⟩ rfl (Nat.le_of_ble_eq_true rfl) dX7_walk_24 rfl (fun r M1 L1 hp => ?_)
    obtain ⟨e1, e2, e3⟩ := hp
    subst e1
    replace e2 := e2.symm
    subst e2
    replace e3 := e3.symm
    subst e3
    have hcn := cn7_2 (Mx 44 4) (Mx 49) b
    refine r_if_ne (q := 30) (tgt := 33) X (by decide) dX7_walk_27 rfl (fun c27 => ?_) (fun c27 => ?_)
    · replace c27 : ¬ (cn7 (Mx 44 4) (Mx 49) b) = 0 := fun h => c27 ((kI_eq0 (by omega)).mpr h)
      refine r_aload_n (q := 34) (i := 0) (j := 0) (x := base + 44) X rfl rfl dX7_walk_33 rfl ?_
      refine r_callVv (q := 37) X (c_note K.2.1 G base Mx Lx ok.2.2.2.2.2.2.2.2.1) kh_44 rfl ks_RX7_125 (by decide) (by decide) ⟨Nat.zero_le _, Nat.zero_le _⟩ rfl (Nat.le_of_ble_eq_true rfl) dX7_walk_34 rfl (fun M1 L1 hp => ?_)
      obtain ⟨e2, e3⟩ := hp
      replace e2 := e2.symm
      subst e2
      replace e3 := e3.symm
      subst e3
      refine r_aload_n (q := 38) (i := 0) (j := 0) (x := base + 44) X rfl rfl dX7_walk_37 rfl ?_
      refine r_aload_n (q := 39) (i := 0) (j := 0) (x := base + 44) X rfl rfl dX7_walk_38 rfl ?_
      refine r_getf (q := 42) (i := 44) (v := .ref (base + 49)) X fk_X7_22 kh_44 rfl rfl dX7_walk_39 rfl ?_
      refine r_iload_n (q := 43) (i := 1) (j := 1) (x := nI (b)) X rfl rfl dX7_walk_42 rfl ?_
      refine r_callVi (q := 46) X (c_go7 K.2.1 G base (nt7 Mx) Lx 49 b kh_49 (by omega) (by rw [nt7_o (by decide) (by decide)]; exact ok.2.2.1) (by rw [nt7_o (by decide) (by decide)]; have := ok.2.2.2.2.1; omega) (by rw [nt7_o (by decide) (by decide)]; have := ok.2.2.2.2.2.1; omega) (by rw [nt7_o (by decide) (by decide)]; have := ok.2.2.2.2.2.2.1; omega) (by rw [nt7_o (by decide) (by decide)]; have := ok.2.2.2.2.2.2.2.1 (Mx 49 0); omega) (fun k => by rw [nt7_o (by decide) (by decide)]; have := ok.2.2.2.2.2.2.2.2.2.1 k; omega) (fun k => by rw [nt7_o (by decide) (by decide)]; have := ok.2.2.2.2.2.2.2.2.2.2 k; omega) (by rw [nt7_o (by decide) (by decide)]; intro h; subst h; exact cn7_0 (n := Mx 44 4) (by omega)) (fun h => by omega)) kh_44 rfl ks_RX7_128 (by decide) (by decide) ⟨Nat.zero_le _, Nat.zero_le _⟩ rfl (Nat.le_of_ble_eq_true rfl) dX7_walk_43 rfl (fun r M1 L1 hp => ?_)
      rw [show nt7 Mx 49 = Mx 49 from nt7_o (by decide) (by decide), gn7_eq (M := Mx) (nt7_o (by decide) (by decide)) (nt7_o (by decide) (by decide)), tk7_eq (M := Mx) (nt7_o (by decide) (by decide)) (nt7_o (by decide) (by decide))] at hp
      obtain ⟨e1, e2, e3⟩ := hp
      subst e1
      replace e2 := e2.symm
      subst e2
      replace e3 := e3.symm
      subst e3
      refine r_pop (q := 47) X rfl dX7_walk_46 rfl ?_
      refine r_aload_n (q := 48) (i := 0) (j := 0) (x := base + 44) X rfl rfl dX7_walk_47 rfl ?_
      refine r_getf (q := 51) (i := 44) (v := .ref (base + 49)) X fk_X7_22 kh_44 rfl rfl dX7_walk_48 rfl ?_
      refine r_iconst (q := 52) (v := nI 0) X kc_0 dX7_walk_51 rfl ?_
      refine r_iald (q := 53) (i := 49) (j := 0) (v := tk7 Mx (Mx 49) b 0) X kh_49 (by omega) (Nat.le_of_ble_eq_true rfl) (congrFun (act7_49 Mx b) 0) dX7_walk_52 rfl ?_
      refine r_iret X Y ?_ dX7_walk_53
      exact Or.inr ⟨b, by omega, rfl, Or.inr ⟨by omega, rfl, rfl⟩, rfl⟩
    · replace c27 : (cn7 (Mx 44 4) (Mx 49) b) = 0 := (kI_eq0 (by omega)).mp c27
      refine r_bipush (q := 32) (v := (-3)) X kb_m3 dX7_walk_30 rfl ?_
      refine r_iret X Y ?_ dX7_walk_32
      exact Or.inr ⟨b, by omega, rfl, Or.inl ⟨by omega, rfl, rfl⟩, rfl⟩
  · subst e1
    obtain ⟨e2, e3⟩ := hp2
    replace e2 := e2.symm
    subst e2
    replace e3 := e3.symm
    subst e3
    rw [hk] at hin
    refine r_if_ne (q := 15) (tgt := 18) X (by decide) dX7_walk_12 rfl (fun c => absurd c (by decide)) (fun _ => ?_)
    refine r_bipush (q := 17) (v := (-2)) X kb_m2 dX7_walk_15 rfl ?_
    refine r_iret X Y ?_ dX7_walk_17
    exact Or.inl ⟨rfl, fun t ht h => hin ⟨t, by omega, by omega, h⟩, rfl, rfl⟩
set_option maxHeartbeats 8000000 in
theorem c7_look (l : Launch) (G : ks_G) (base : Nat) (Mx : ks_M) (Lx : ks_L) (ok : okP Mx) : KI l G base 3 yX7_look cX7_look 1 .int [.ref (base + 44)] SH Mx Lx (fun rr M1 L1 => ((cn7 (Mx 44 4) (Mx 49) 2 = 0 ∧ rr = (-3) ∧ M1 = Mx) ∨ (cn7 (Mx 44 4) (Mx 49) 2 = 1 ∧ rr = nI (gn7 Mx (Mx 49)) ∧ M1 = act7 Mx 2)) ∧ L1 = Lx) := by
  refine k_meti (by decide) (Nat.le_of_ble_eq_true rfl) (fun K hK X Y => ?_)
  subst hK
  refine r_pl [(0, .ref (base + 44))] ⟨rfl, trivial⟩ ?_
  have hth := ok.1
  refine r_aload_n (q := 1) (i := 0) (j := 0) (x := base + 44) X rfl rfl dX7_look_0 rfl ?_
  refine r_iconst (q := 2) (v := nI 0) X kc_0 dX7_look_1 rfl ?_
  refine r_puti (q := 5) (i := 44) (n := 0) X fk_X7_59 kp_X7_0 kh_44 rfl dX7_look_2 rfl ?_
  refine r_mem Mx (up2_id hth) ?_
  refine r_aload_n (q := 6) (i := 0) (j := 0) (x := base + 44) X rfl rfl dX7_look_5 rfl ?_
  refine r_aload_n (q := 7) (i := 0) (j := 0) (x := base + 44) X rfl rfl dX7_look_6 rfl ?_
  refine r_getf (q := 10) (i := 44) (v := .ref (base + 49)) X fk_X7_22 kh_44 rfl rfl dX7_look_7 rfl ?_
  refine r_iconst (q := 11) (v := nI 2) X kc_2 dX7_look_10 rfl ?_
  refine r_callVi (q := 14) X (c_can7 K.2.1 G base Mx Lx 49 2 kh_49 (by omega) (by have := ok.2.2.1; omega) (by have := ok.2.2.2.1; omega) ok.2.1) kh_44 rfl ks_RX7_121 (by decide) (by decide) ⟨Nat.zero_le _, Nat.zero_le _⟩ rfl (Nat.le_of_ble_eq_true rfl) dX7_look_11 rfl (fun r M1 L1 hp => ?_)
  obtain ⟨e1, e2, e3⟩ := hp
  subst e1
  replace e2 := e2.symm
  subst e2
  replace e3 := e3.symm
  subst e3
  have hcn := cn7_2 (Mx 44 4) (Mx 49) 2
  refine r_if_ne (q := 17) (tgt := 20) X (by decide) dX7_look_14 rfl (fun c14 => ?_) (fun c14 => ?_)
  · replace c14 : ¬ (cn7 (Mx 44 4) (Mx 49) 2) = 0 := fun h => c14 ((kI_eq0 (by omega)).mpr h)
    refine r_aload_n (q := 21) (i := 0) (j := 0) (x := base + 44) X rfl rfl dX7_look_20 rfl ?_
    refine r_callVv (q := 24) X (c_note K.2.1 G base Mx Lx ok.2.2.2.2.2.2.2.2.1) kh_44 rfl ks_RX7_125 (by decide) (by decide) ⟨Nat.zero_le _, Nat.zero_le _⟩ rfl (Nat.le_of_ble_eq_true rfl) dX7_look_21 rfl (fun M1 L1 hp => ?_)
    obtain ⟨e2, e3⟩ := hp
    replace e2 := e2.symm
    subst e2
    replace e3 := e3.symm
    subst e3
    refine r_aload_n (q := 25) (i := 0) (j := 0) (x := base + 44) X rfl rfl dX7_look_24 rfl ?_
    refine r_aload_n (q := 26) (i := 0) (j := 0) (x := base + 44) X rfl rfl dX7_look_25 rfl ?_
    refine r_getf (q := 29) (i := 44) (v := .ref (base + 49)) X fk_X7_22 kh_44 rfl rfl dX7_look_26 rfl ?_
    refine r_iconst (q := 30) (v := nI 2) X kc_2 dX7_look_29 rfl ?_
    refine r_callVi (q := 33) X (c_go7 K.2.1 G base (nt7 Mx) Lx 49 2 kh_49 (by omega) (by rw [nt7_o (by decide) (by decide)]; exact ok.2.2.1) (by rw [nt7_o (by decide) (by decide)]; have := ok.2.2.2.2.1; omega) (by rw [nt7_o (by decide) (by decide)]; have := ok.2.2.2.2.2.1; omega) (by rw [nt7_o (by decide) (by decide)]; have := ok.2.2.2.2.2.2.1; omega) (by rw [nt7_o (by decide) (by decide)]; have := ok.2.2.2.2.2.2.2.1 (Mx 49 0); omega) (fun k => by rw [nt7_o (by decide) (by decide)]; have := ok.2.2.2.2.2.2.2.2.2.1 k; omega) (fun k => by rw [nt7_o (by decide) (by decide)]; have := ok.2.2.2.2.2.2.2.2.2.2 k; omega) (fun h => absurd h (by decide)) (by rw [nt7_o (by decide) (by decide)]; intro _; exact cn7_look (n := Mx 44 4) (by omega))) kh_44 rfl ks_RX7_128 (by decide) (by decide) ⟨Nat.zero_le _, Nat.zero_le _⟩ rfl (Nat.le_of_ble_eq_true rfl) dX7_look_30 rfl (fun r M1 L1 hp => ?_)
    rw [show nt7 Mx 49 = Mx 49 from nt7_o (by decide) (by decide), gn7_eq (M := Mx) (nt7_o (by decide) (by decide)) (nt7_o (by decide) (by decide)), tk7_eq (M := Mx) (nt7_o (by decide) (by decide)) (nt7_o (by decide) (by decide))] at hp
    obtain ⟨e1, e2, e3⟩ := hp
    subst e1
    replace e2 := e2.symm
    subst e2
    replace e3 := e3.symm
    subst e3
    refine r_iret X Y ?_ dX7_look_33
    exact ⟨Or.inr ⟨by omega, rfl, rfl⟩, rfl⟩
  · replace c14 : (cn7 (Mx 44 4) (Mx 49) 2) = 0 := (kI_eq0 (by omega)).mp c14
    refine r_bipush (q := 19) (v := (-3)) X kb_m3 dX7_look_17 rfl ?_
    refine r_iret X Y ?_ dX7_look_19
    exact ⟨Or.inl ⟨by omega, rfl, rfl⟩, rfl⟩
set_option maxHeartbeats 8000000 in
theorem c7_pause (l : Launch) (G : ks_G) (base : Nat) (Mx : ks_M) (Lx : ks_L) (ok : okP Mx) : KI l G base 3 yX7_pause cX7_pause 1 .int [.ref (base + 44)] SH Mx Lx (fun rr M1 L1 => rr = nI (tk7 Mx (Mx 49) 3 2) ∧ M1 = act7 Mx 3 ∧ L1 = Lx) := by
  refine k_meti (by decide) (Nat.le_of_ble_eq_true rfl) (fun K hK X Y => ?_)
  subst hK
  refine r_pl [(0, .ref (base + 44))] ⟨rfl, trivial⟩ ?_
  have hth := ok.1
  refine r_aload_n (q := 1) (i := 0) (j := 0) (x := base + 44) X rfl rfl dX7_pause_0 rfl ?_
  refine r_iconst (q := 2) (v := nI 0) X kc_0 dX7_pause_1 rfl ?_
  refine r_puti (q := 5) (i := 44) (n := 0) X fk_X7_59 kp_X7_0 kh_44 rfl dX7_pause_2 rfl ?_
  refine r_mem Mx (up2_id hth) ?_
  refine r_aload_n (q := 6) (i := 0) (j := 0) (x := base + 44) X rfl rfl dX7_pause_5 rfl ?_
  refine r_callVv (q := 9) X (c_note K.2.1 G base Mx Lx ok.2.2.2.2.2.2.2.2.1) kh_44 rfl ks_RX7_125 (by decide) (by decide) ⟨Nat.zero_le _, Nat.zero_le _⟩ rfl (Nat.le_of_ble_eq_true rfl) dX7_pause_6 rfl (fun M1 L1 hp => ?_)
  obtain ⟨e2, e3⟩ := hp
  replace e2 := e2.symm
  subst e2
  replace e3 := e3.symm
  subst e3
  refine r_aload_n (q := 10) (i := 0) (j := 0) (x := base + 44) X rfl rfl dX7_pause_9 rfl ?_
  refine r_aload_n (q := 11) (i := 0) (j := 0) (x := base + 44) X rfl rfl dX7_pause_10 rfl ?_
  refine r_getf (q := 14) (i := 44) (v := .ref (base + 49)) X fk_X7_22 kh_44 rfl rfl dX7_pause_11 rfl ?_
  refine r_iconst (q := 15) (v := nI 3) X kc_3 dX7_pause_14 rfl ?_
  refine r_callVi (q := 18) X (c_go7 K.2.1 G base (nt7 Mx) Lx 49 3 kh_49 (by omega) (by rw [nt7_o (by decide) (by decide)]; exact ok.2.2.1) (by rw [nt7_o (by decide) (by decide)]; have := ok.2.2.2.2.1; omega) (by rw [nt7_o (by decide) (by decide)]; have := ok.2.2.2.2.2.1; omega) (by rw [nt7_o (by decide) (by decide)]; have := ok.2.2.2.2.2.2.1; omega) (by rw [nt7_o (by decide) (by decide)]; have := ok.2.2.2.2.2.2.2.1 (Mx 49 0); omega) (fun k => by rw [nt7_o (by decide) (by decide)]; have := ok.2.2.2.2.2.2.2.2.2.1 k; omega) (fun k => by rw [nt7_o (by decide) (by decide)]; have := ok.2.2.2.2.2.2.2.2.2.2 k; omega) (fun h => absurd h (by decide)) (fun h => absurd h (by decide))) kh_44 rfl ks_RX7_128 (by decide) (by decide) ⟨Nat.zero_le _, Nat.zero_le _⟩ rfl (Nat.le_of_ble_eq_true rfl) dX7_pause_15 rfl (fun r M1 L1 hp => ?_)
  rw [show nt7 Mx 49 = Mx 49 from nt7_o (by decide) (by decide), gn7_eq (M := Mx) (nt7_o (by decide) (by decide)) (nt7_o (by decide) (by decide)), tk7_eq (M := Mx) (nt7_o (by decide) (by decide)) (nt7_o (by decide) (by decide))] at hp
  obtain ⟨e1, e2, e3⟩ := hp
  subst e1
  replace e2 := e2.symm
  subst e2
  replace e3 := e3.symm
  subst e3
  refine r_pop (q := 19) X rfl dX7_pause_18 rfl ?_
  refine r_aload_n (q := 20) (i := 0) (j := 0) (x := base + 44) X rfl rfl dX7_pause_19 rfl ?_
  refine r_getf (q := 23) (i := 44) (v := .ref (base + 49)) X fk_X7_22 kh_44 rfl rfl dX7_pause_20 rfl ?_
  refine r_iconst (q := 24) (v := nI 2) X kc_2 dX7_pause_23 rfl ?_
  refine r_iald (q := 25) (i := 49) (j := 2) (v := tk7 Mx (Mx 49) 3 2) X kh_49 (by omega) (Nat.le_of_ble_eq_true rfl) (congrFun (act7_49 Mx 3) 2) dX7_pause_24 rfl ?_
  refine r_iret X Y ?_ dX7_pause_25
  exact ⟨rfl, rfl, rfl⟩
set_option maxHeartbeats 8000000 in
theorem c7_lamp (l : Launch) (G : ks_G) (base : Nat) (Mx : ks_M) (Lx : ks_L) (x : Int32) (hn : Mx 44 4 ≤ 6) (ok : okP Mx) : KI l G base 2 yX7_lamp cX7_lamp 2 .int [.ref (base + 44), .int (x)] SH Mx Lx (fun rr M1 L1 => ((rr = (-1) ∧ (∀ k, k < Mx 44 4 → x ≠ nI k) ∧ M1 = Mx) ∨ (∃ k, k < Mx 44 4 ∧ x = nI k ∧ rr = nI ((Mx 49 4 ^^^ 1 <<< k) >>> k &&& 1) ∧ M1 = up2 (nt7 Mx) 49 4 (Mx 49 4 ^^^ 1 <<< k))) ∧ L1 = Lx) := by
  refine k_meti (by decide) (Nat.le_of_ble_eq_true rfl) (fun K hK X Y => ?_)
  subst hK
  refine r_pl [(0, .ref (base + 44)), (1, .int (x))] ⟨rfl, rfl, trivial⟩ ?_
  have hth := ok.1
  refine r_aload_n (q := 1) (i := 0) (j := 0) (x := base + 44) X rfl rfl dX7_lamp_0 rfl ?_
  refine r_iconst (q := 2) (v := nI 0) X kc_0 dX7_lamp_1 rfl ?_
  refine r_puti (q := 5) (i := 44) (n := 0) X fk_X7_59 kp_X7_0 kh_44 rfl dX7_lamp_2 rfl ?_
  refine r_mem Mx (up2_id hth) ?_
  refine r_aload_n (q := 6) (i := 0) (j := 0) (x := base + 44) X rfl rfl dX7_lamp_5 rfl ?_
  refine r_iload_n (q := 7) (i := 1) (j := 1) (x := x) X rfl rfl dX7_lamp_6 rfl ?_
  refine r_callVi (q := 10) X (c_noHouse K.2.1 G base Mx Lx x hn) kh_44 rfl ks_RX7_109 (by decide) (by decide) ⟨Nat.zero_le _, Nat.zero_le _⟩ rfl (Nat.le_of_ble_eq_true rfl) dX7_lamp_7 rfl (fun r M1 L1 hp => ?_)
  rcases hp with ⟨k, e1, hkn, hxe, hp2⟩ | ⟨e1, hno, hp2⟩
  · subst e1
    obtain ⟨e2, e3⟩ := hp2
    replace e2 := e2.symm
    subst e2
    replace e3 := e3.symm
    subst e3
    subst hxe
    refine r_if_eq (q := 13) (tgt := 15) X (by decide) dX7_lamp_10 rfl (fun _ => ?_) (fun c => absurd c (by decide))
    refine r_aload_n (q := 16) (i := 0) (j := 0) (x := base + 44) X rfl rfl dX7_lamp_15 rfl ?_
    refine r_callVv (q := 19) X (c_note K.2.1 G base Mx Lx ok.2.2.2.2.2.2.2.2.1) kh_44 rfl ks_RX7_125 (by decide) (by decide) ⟨Nat.zero_le _, Nat.zero_le _⟩ rfl (Nat.le_of_ble_eq_true rfl) dX7_lamp_16 rfl (fun M1 L1 hp => ?_)
    obtain ⟨e2, e3⟩ := hp
    replace e2 := e2.symm
    subst e2
    replace e3 := e3.symm
    subst e3
    refine r_aload_n (q := 20) (i := 0) (j := 0) (x := base + 44) X rfl rfl dX7_lamp_19 rfl ?_
    refine r_getf (q := 23) (i := 44) (v := .ref (base + 49)) X fk_X7_22 kh_44 rfl rfl dX7_lamp_20 rfl ?_
    refine r_iconst (q := 24) (v := nI 4) X kc_4 dX7_lamp_23 rfl ?_
    refine r_dup2 (q := 25) X rfl rfl dX7_lamp_24 rfl ?_
    refine r_iald (q := 26) (i := 49) (j := 4) (v := Mx 49 4) X kh_49 (by omega) (Nat.le_of_ble_eq_true rfl) (congrFun (nt7_o (by decide) (by decide)) _) dX7_lamp_25 rfl ?_
    refine r_iconst (q := 27) (v := nI 1) X kc_1 dX7_lamp_26 rfl ?_
    refine r_iload_n (q := 28) (i := 1) (j := 1) (x := nI (k)) X rfl rfl dX7_lamp_27 rfl ?_
    refine r_ishlR (q := 29) (x := nI 1) (y := nI (k)) (v := nI (1 <<< k)) X (k_shl (by omega)) dX7_lamp_28 rfl ?_
    refine r_ixorR (q := 30) (x := nI (Mx 49 4)) (y := nI (1 <<< k)) (v := nI ((Mx 49 4) ^^^ (1 <<< k))) X (fb_xorI _ _) dX7_lamp_29 rfl ?_
    have hx6 : Mx 49 4 ^^^ 1 <<< k < 64 := kx64 (by have := ok.2.2.2.2.2.1; have := ok.2.2.2.2.2.2.1; omega) (by omega)
    refine r_iast (q := 31) (i := 49) (j := 4) (v := (Mx 49 4) ^^^ (1 <<< k)) X kh_49 (by omega) (Nat.le_of_ble_eq_true rfl) dX7_lamp_30 rfl ?_
    refine r_aload_n (q := 32) (i := 0) (j := 0) (x := base + 44) X rfl rfl dX7_lamp_31 rfl ?_
    refine r_getf (q := 35) (i := 44) (v := .ref (base + 49)) X fk_X7_22 kh_44 rfl rfl dX7_lamp_32 rfl ?_
    refine r_iconst (q := 36) (v := nI 4) X kc_4 dX7_lamp_35 rfl ?_
    refine r_iald (q := 37) (i := 49) (j := 4) (v := Mx 49 4 ^^^ 1 <<< k) X kh_49 (by omega) (Nat.le_of_ble_eq_true rfl) (by simp [up2]) dX7_lamp_36 rfl ?_
    refine r_iload_n (q := 38) (i := 1) (j := 1) (x := nI (k)) X rfl rfl dX7_lamp_37 rfl ?_
    refine r_ishrR (q := 39) (x := nI (Mx 49 4 ^^^ 1 <<< k)) (y := nI (k)) (v := nI ((Mx 49 4 ^^^ 1 <<< k) >>> k)) X (k_shr (by omega) (by omega)) dX7_lamp_38 rfl ?_
    refine r_iconst (q := 40) (v := nI 1) X kc_1 dX7_lamp_39 rfl ?_
    refine r_iandR (q := 41) (x := nI ((Mx 49 4 ^^^ 1 <<< k) >>> k)) (y := nI 1) (v := nI (((Mx 49 4 ^^^ 1 <<< k) >>> k) &&& 1)) X (fa_and _ _) dX7_lamp_40 rfl ?_
    refine r_iret X Y ?_ dX7_lamp_41
    exact ⟨Or.inr ⟨k, hkn, rfl, rfl, rfl⟩, rfl⟩
  · subst e1
    obtain ⟨e2, e3⟩ := hp2
    replace e2 := e2.symm
    subst e2
    replace e3 := e3.symm
    subst e3
    refine r_if_eq (q := 13) (tgt := 15) X (by decide) dX7_lamp_10 rfl (fun c => absurd c (by decide)) (fun _ => ?_)
    refine r_iconst (q := 14) (v := (-1)) X kc_m1 dX7_lamp_13 rfl ?_
    refine r_iret X Y ?_ dX7_lamp_14
    exact ⟨Or.inl ⟨rfl, hno, rfl⟩, rfl⟩
set_option maxHeartbeats 8000000 in
theorem c7_key (l : Launch) (G : ks_G) (base : Nat) (Mx : ks_M) (Lx : ks_L) (x : Int32) (hn : Mx 44 4 ≤ 6) (ok : okP Mx) : KI l G base 2 yX7_key cX7_key 2 .int [.ref (base + 44), .int (x)] SH Mx Lx (fun rr M1 L1 => ((rr = (-1) ∧ (∀ k, k < Mx 44 4 → x ≠ nI k) ∧ M1 = Mx) ∨ (∃ k, k < Mx 44 4 ∧ x = nI k ∧ rr = nI ((Mx 49 5 ^^^ 1 <<< k) >>> k &&& 1) ∧ M1 = up2 (nt7 Mx) 49 5 (Mx 49 5 ^^^ 1 <<< k))) ∧ L1 = Lx) := by
  refine k_meti (by decide) (Nat.le_of_ble_eq_true rfl) (fun K hK X Y => ?_)
  subst hK
  refine r_pl [(0, .ref (base + 44)), (1, .int (x))] ⟨rfl, rfl, trivial⟩ ?_
  have hth := ok.1
  refine r_aload_n (q := 1) (i := 0) (j := 0) (x := base + 44) X rfl rfl dX7_key_0 rfl ?_
  refine r_iconst (q := 2) (v := nI 0) X kc_0 dX7_key_1 rfl ?_
  refine r_puti (q := 5) (i := 44) (n := 0) X fk_X7_59 kp_X7_0 kh_44 rfl dX7_key_2 rfl ?_
  refine r_mem Mx (up2_id hth) ?_
  refine r_aload_n (q := 6) (i := 0) (j := 0) (x := base + 44) X rfl rfl dX7_key_5 rfl ?_
  refine r_iload_n (q := 7) (i := 1) (j := 1) (x := x) X rfl rfl dX7_key_6 rfl ?_
  refine r_callVi (q := 10) X (c_noHouse K.2.1 G base Mx Lx x hn) kh_44 rfl ks_RX7_109 (by decide) (by decide) ⟨Nat.zero_le _, Nat.zero_le _⟩ rfl (Nat.le_of_ble_eq_true rfl) dX7_key_7 rfl (fun r M1 L1 hp => ?_)
  rcases hp with ⟨k, e1, hkn, hxe, hp2⟩ | ⟨e1, hno, hp2⟩
  · subst e1
    obtain ⟨e2, e3⟩ := hp2
    replace e2 := e2.symm
    subst e2
    replace e3 := e3.symm
    subst e3
    subst hxe
    refine r_if_eq (q := 13) (tgt := 15) X (by decide) dX7_key_10 rfl (fun _ => ?_) (fun c => absurd c (by decide))
    refine r_aload_n (q := 16) (i := 0) (j := 0) (x := base + 44) X rfl rfl dX7_key_15 rfl ?_
    refine r_callVv (q := 19) X (c_note K.2.1 G base Mx Lx ok.2.2.2.2.2.2.2.2.1) kh_44 rfl ks_RX7_125 (by decide) (by decide) ⟨Nat.zero_le _, Nat.zero_le _⟩ rfl (Nat.le_of_ble_eq_true rfl) dX7_key_16 rfl (fun M1 L1 hp => ?_)
    obtain ⟨e2, e3⟩ := hp
    replace e2 := e2.symm
    subst e2
    replace e3 := e3.symm
    subst e3
    refine r_aload_n (q := 20) (i := 0) (j := 0) (x := base + 44) X rfl rfl dX7_key_19 rfl ?_
    refine r_getf (q := 23) (i := 44) (v := .ref (base + 49)) X fk_X7_22 kh_44 rfl rfl dX7_key_20 rfl ?_
    refine r_iconst (q := 24) (v := nI 5) X kc_5 dX7_key_23 rfl ?_
    refine r_dup2 (q := 25) X rfl rfl dX7_key_24 rfl ?_
    refine r_iald (q := 26) (i := 49) (j := 5) (v := Mx 49 5) X kh_49 (by omega) (Nat.le_of_ble_eq_true rfl) (congrFun (nt7_o (by decide) (by decide)) _) dX7_key_25 rfl ?_
    refine r_iconst (q := 27) (v := nI 1) X kc_1 dX7_key_26 rfl ?_
    refine r_iload_n (q := 28) (i := 1) (j := 1) (x := nI (k)) X rfl rfl dX7_key_27 rfl ?_
    refine r_ishlR (q := 29) (x := nI 1) (y := nI (k)) (v := nI (1 <<< k)) X (k_shl (by omega)) dX7_key_28 rfl ?_
    refine r_ixorR (q := 30) (x := nI (Mx 49 5)) (y := nI (1 <<< k)) (v := nI ((Mx 49 5) ^^^ (1 <<< k))) X (fb_xorI _ _) dX7_key_29 rfl ?_
    have hx6 : Mx 49 5 ^^^ 1 <<< k < 64 := kx64 (by have := ok.2.2.2.2.2.1; have := ok.2.2.2.2.2.2.1; omega) (by omega)
    refine r_iast (q := 31) (i := 49) (j := 5) (v := (Mx 49 5) ^^^ (1 <<< k)) X kh_49 (by omega) (Nat.le_of_ble_eq_true rfl) dX7_key_30 rfl ?_
    refine r_aload_n (q := 32) (i := 0) (j := 0) (x := base + 44) X rfl rfl dX7_key_31 rfl ?_
    refine r_getf (q := 35) (i := 44) (v := .ref (base + 49)) X fk_X7_22 kh_44 rfl rfl dX7_key_32 rfl ?_
    refine r_iconst (q := 36) (v := nI 5) X kc_5 dX7_key_35 rfl ?_
    refine r_iald (q := 37) (i := 49) (j := 5) (v := Mx 49 5 ^^^ 1 <<< k) X kh_49 (by omega) (Nat.le_of_ble_eq_true rfl) (by simp [up2]) dX7_key_36 rfl ?_
    refine r_iload_n (q := 38) (i := 1) (j := 1) (x := nI (k)) X rfl rfl dX7_key_37 rfl ?_
    refine r_ishrR (q := 39) (x := nI (Mx 49 5 ^^^ 1 <<< k)) (y := nI (k)) (v := nI ((Mx 49 5 ^^^ 1 <<< k) >>> k)) X (k_shr (by omega) (by omega)) dX7_key_38 rfl ?_
    refine r_iconst (q := 40) (v := nI 1) X kc_1 dX7_key_39 rfl ?_
    refine r_iandR (q := 41) (x := nI ((Mx 49 5 ^^^ 1 <<< k) >>> k)) (y := nI 1) (v := nI (((Mx 49 5 ^^^ 1 <<< k) >>> k) &&& 1)) X (fa_and _ _) dX7_key_40 rfl ?_
    refine r_iret X Y ?_ dX7_key_41
    exact ⟨Or.inr ⟨k, hkn, rfl, rfl, rfl⟩, rfl⟩
  · subst e1
    obtain ⟨e2, e3⟩ := hp2
    replace e2 := e2.symm
    subst e2
    replace e3 := e3.symm
    subst e3
    refine r_if_eq (q := 13) (tgt := 15) X (by decide) dX7_key_10 rfl (fun c => absurd c (by decide)) (fun _ => ?_)
    refine r_iconst (q := 14) (v := (-1)) X kc_m1 dX7_key_13 rfl ?_
    refine r_iret X Y ?_ dX7_key_14
    exact ⟨Or.inl ⟨rfl, hno, rfl⟩, rfl⟩
def ab7 (M : ks_M) (j : Nat) : Nat := if j = 0 then M 44 4 else if j = 1 then M 49 0 else if j = 2 then M 49 1 else if j = 3 then M 49 2 else if j = 4 then M 49 3 else if j = 5 then M 49 4 else if j = 6 then M 49 5 else if j = 7 then M 44 14 else if j = 8 then M 44 17 else M 44 2
def hv7 (M : ks_M) (k j : Nat) : Nat := if j = 0 then M 46 k else if j < 4 then M 47 (3 * k + j - 1) else M 49 (6 + k)
set_option maxHeartbeats 8000000 in
theorem c7_about (l : Launch) (G : ks_G) (base : Nat) (Mx : ks_M) (Lx : ks_L) (x : Int32) (hth : Mx 44 0 = 0) : KI l G base 0 yX7_about cX7_about 2 .int [.ref (base + 44), .int (x)] SH Mx Lx (fun rr M1 L1 => (∃ j, j ≤ 9 ∧ x = nI j ∧ rr = nI (ab7 Mx j) ∧ M1 = Mx ∧ L1 = Lx) ∨ (rr = (-2) ∧ (∀ j, j ≤ 9 → x ≠ nI j) ∧ M1 = Mx ∧ L1 = Lx)) := by
  refine k_meti (by decide) (Nat.le_of_ble_eq_true rfl) (fun K hK X Y => ?_)
  subst hK
  refine r_pl [(0, .ref (base + 44)), (1, .int (x))] ⟨rfl, rfl, trivial⟩ ?_
  refine r_aload_n (q := 1) (i := 0) (j := 0) (x := base + 44) X rfl rfl dX7_about_0 rfl ?_
  refine r_iconst (q := 2) (v := nI 0) X kc_0 dX7_about_1 rfl ?_
  refine r_puti (q := 5) (i := 44) (n := 0) X fk_X7_59 kp_X7_0 kh_44 rfl dX7_about_2 rfl ?_
  refine r_mem Mx (up2_id hth) ?_
  refine r_iload_n (q := 6) (i := 1) (j := 1) (x := x) X rfl rfl dX7_about_5 rfl ?_
  rcases kTab 0 9 (by decide) (x) with ⟨j6, hj6, hk6, e6⟩ | hn6
  · obtain rfl | rfl | rfl | rfl | rfl | rfl | rfl | rfl | rfl | rfl : j6 = 0 ∨ j6 = 1 ∨ j6 = 2 ∨ j6 = 3 ∨ j6 = 4 ∨ j6 = 5 ∨ j6 = 6 ∨ j6 = 7 ∨ j6 = 8 ∨ j6 = 9 := by omega
    · subst e6
      refine r_tableIn (x := nI 0) (off := 54) (tgt := 60) X (by decide) (by decide) (by decide) (by decide) dX7_about_6 ?_
      refine r_aload_n (q := 61) (i := 0) (j := 0) (x := base + 44) X rfl rfl dX7_about_60 rfl ?_
      refine r_getf (q := 64) (i := 44) (v := .int (nI (Mx 44 4))) X fk_X7_63 kh_44 rfl rfl dX7_about_61 rfl ?_
      refine r_iret X Y ?_ dX7_about_64
      exact Or.inl ⟨0, by decide, rfl, rfl, rfl, rfl⟩
    · subst e6
      refine r_tableIn (x := nI 1) (off := 59) (tgt := 65) X (by decide) (by decide) (by decide) (by decide) dX7_about_6 ?_
      refine r_aload_n (q := 66) (i := 0) (j := 0) (x := base + 44) X rfl rfl dX7_about_65 rfl ?_
      refine r_getf (q := 69) (i := 44) (v := .ref (base + 49)) X fk_X7_22 kh_44 rfl rfl dX7_about_66 rfl ?_
      refine r_iconst (q := 70) (v := nI 0) X kc_0 dX7_about_69 rfl ?_
      refine r_iald (q := 71) (i := 49) (j := 0) (v := Mx 49 0) X kh_49 (by omega) (Nat.le_of_ble_eq_true rfl) rfl dX7_about_70 rfl ?_
      refine r_iret X Y ?_ dX7_about_71
      exact Or.inl ⟨1, by decide, rfl, rfl, rfl, rfl⟩
    · subst e6
      refine r_tableIn (x := nI 2) (off := 66) (tgt := 72) X (by decide) (by decide) (by decide) (by decide) dX7_about_6 ?_
      refine r_aload_n (q := 73) (i := 0) (j := 0) (x := base + 44) X rfl rfl dX7_about_72 rfl ?_
      refine r_getf (q := 76) (i := 44) (v := .ref (base + 49)) X fk_X7_22 kh_44 rfl rfl dX7_about_73 rfl ?_
      refine r_iconst (q := 77) (v := nI 1) X kc_1 dX7_about_76 rfl ?_
      refine r_iald (q := 78) (i := 49) (j := 1) (v := Mx 49 1) X kh_49 (by omega) (Nat.le_of_ble_eq_true rfl) rfl dX7_about_77 rfl ?_
      refine r_iret X Y ?_ dX7_about_78
      exact Or.inl ⟨2, by decide, rfl, rfl, rfl, rfl⟩
    · subst e6
      refine r_tableIn (x := nI 3) (off := 73) (tgt := 79) X (by decide) (by decide) (by decide) (by decide) dX7_about_6 ?_
      refine r_aload_n (q := 80) (i := 0) (j := 0) (x := base + 44) X rfl rfl dX7_about_79 rfl ?_
      refine r_getf (q := 83) (i := 44) (v := .ref (base + 49)) X fk_X7_22 kh_44 rfl rfl dX7_about_80 rfl ?_
      refine r_iconst (q := 84) (v := nI 2) X kc_2 dX7_about_83 rfl ?_
      refine r_iald (q := 85) (i := 49) (j := 2) (v := Mx 49 2) X kh_49 (by omega) (Nat.le_of_ble_eq_true rfl) rfl dX7_about_84 rfl ?_
      refine r_iret X Y ?_ dX7_about_85
      exact Or.inl ⟨3, by decide, rfl, rfl, rfl, rfl⟩
    · subst e6
      refine r_tableIn (x := nI 4) (off := 80) (tgt := 86) X (by decide) (by decide) (by decide) (by decide) dX7_about_6 ?_
      refine r_aload_n (q := 87) (i := 0) (j := 0) (x := base + 44) X rfl rfl dX7_about_86 rfl ?_
      refine r_getf (q := 90) (i := 44) (v := .ref (base + 49)) X fk_X7_22 kh_44 rfl rfl dX7_about_87 rfl ?_
      refine r_iconst (q := 91) (v := nI 3) X kc_3 dX7_about_90 rfl ?_
      refine r_iald (q := 92) (i := 49) (j := 3) (v := Mx 49 3) X kh_49 (by omega) (Nat.le_of_ble_eq_true rfl) rfl dX7_about_91 rfl ?_
      refine r_iret X Y ?_ dX7_about_92
      exact Or.inl ⟨4, by decide, rfl, rfl, rfl, rfl⟩
    · subst e6
      refine r_tableIn (x := nI 5) (off := 87) (tgt := 93) X (by decide) (by decide) (by decide) (by decide) dX7_about_6 ?_
      refine r_aload_n (q := 94) (i := 0) (j := 0) (x := base + 44) X rfl rfl dX7_about_93 rfl ?_
      refine r_getf (q := 97) (i := 44) (v := .ref (base + 49)) X fk_X7_22 kh_44 rfl rfl dX7_about_94 rfl ?_
      refine r_iconst (q := 98) (v := nI 4) X kc_4 dX7_about_97 rfl ?_
      refine r_iald (q := 99) (i := 49) (j := 4) (v := Mx 49 4) X kh_49 (by omega) (Nat.le_of_ble_eq_true rfl) rfl dX7_about_98 rfl ?_
      refine r_iret X Y ?_ dX7_about_99
      exact Or.inl ⟨5, by decide, rfl, rfl, rfl, rfl⟩
    · subst e6
      refine r_tableIn (x := nI 6) (off := 94) (tgt := 100) X (by decide) (by decide) (by decide) (by decide) dX7_about_6 ?_
      refine r_aload_n (q := 101) (i := 0) (j := 0) (x := base + 44) X rfl rfl dX7_about_100 rfl ?_
      refine r_getf (q := 104) (i := 44) (v := .ref (base + 49)) X fk_X7_22 kh_44 rfl rfl dX7_about_101 rfl ?_
      refine r_iconst (q := 105) (v := nI 5) X kc_5 dX7_about_104 rfl ?_
      refine r_iald (q := 106) (i := 49) (j := 5) (v := Mx 49 5) X kh_49 (by omega) (Nat.le_of_ble_eq_true rfl) rfl dX7_about_105 rfl ?_
      refine r_iret X Y ?_ dX7_about_106
      exact Or.inl ⟨6, by decide, rfl, rfl, rfl, rfl⟩
    · subst e6
      refine r_tableIn (x := nI 7) (off := 101) (tgt := 107) X (by decide) (by decide) (by decide) (by decide) dX7_about_6 ?_
      refine r_aload_n (q := 108) (i := 0) (j := 0) (x := base + 44) X rfl rfl dX7_about_107 rfl ?_
      refine r_getf (q := 111) (i := 44) (v := .int (nI (Mx 44 14))) X fk_X7_95 kh_44 rfl rfl dX7_about_108 rfl ?_
      refine r_iret X Y ?_ dX7_about_111
      exact Or.inl ⟨7, by decide, rfl, rfl, rfl, rfl⟩
    · subst e6
      refine r_tableIn (x := nI 8) (off := 106) (tgt := 112) X (by decide) (by decide) (by decide) (by decide) dX7_about_6 ?_
      refine r_aload_n (q := 113) (i := 0) (j := 0) (x := base + 44) X rfl rfl dX7_about_112 rfl ?_
      refine r_getf (q := 116) (i := 44) (v := .int (nI (Mx 44 17))) X fk_X7_106 kh_44 rfl rfl dX7_about_113 rfl ?_
      refine r_iret X Y ?_ dX7_about_116
      exact Or.inl ⟨8, by decide, rfl, rfl, rfl, rfl⟩
    · subst e6
      refine r_tableIn (x := nI 9) (off := 111) (tgt := 117) X (by decide) (by decide) (by decide) (by decide) dX7_about_6 ?_
      refine r_aload_n (q := 118) (i := 0) (j := 0) (x := base + 44) X rfl rfl dX7_about_117 rfl ?_
      refine r_getf (q := 121) (i := 44) (v := .int (nI (Mx 44 2))) X fk_X7_72 kh_44 rfl rfl dX7_about_118 rfl ?_
      refine r_iret X Y ?_ dX7_about_121
      exact Or.inl ⟨9, by decide, rfl, rfl, rfl, rfl⟩
  · refine r_tableOut (tgt := 122) X hn6 (by decide) dX7_about_6 ?_
    refine r_bipush (q := 124) (v := (-2)) X kb_m2 dX7_about_122 rfl ?_
    refine r_iret X Y ?_ dX7_about_124
    refine Or.inr ⟨rfl, fun j hj h => ?_, rfl, rfl⟩
    rw [h] at hn6
    rw [nI_toInt (by omega)] at hn6
    omega
set_option maxHeartbeats 8000000 in
theorem c7_sight (l : Launch) (G : ks_G) (base : Nat) (Mx : ks_M) (Lx : ks_L) (x z : Int32) (hn : Mx 44 4 ≤ 6) (ok : okP Mx) : KI l G base 2 yX7_sight cX7_sight 3 .int [.ref (base + 44), .int (x), .int (z)] SH Mx Lx (fun rr M1 L1 => ((rr = (-1) ∧ (∀ k, k < Mx 44 4 → x ≠ nI k)) ∨ (∃ k, k < Mx 44 4 ∧ x = nI k ∧ ((∃ j, j ≤ 99 ∧ z = nI j ∧ rr = nI (sg7 Mx (Mx 49) k j)) ∨ (rr = (-2) ∧ ∀ j, j ≤ 99 → z ≠ nI j)))) ∧ M1 = Mx ∧ L1 = Lx) := by
  refine k_meti (by decide) (Nat.le_of_ble_eq_true rfl) (fun K hK X Y => ?_)
  subst hK
  refine r_pl [(0, .ref (base + 44)), (1, .int (x)), (2, .int (z))] ⟨rfl, rfl, rfl, trivial⟩ ?_
  have hth := ok.1
  refine r_aload_n (q := 1) (i := 0) (j := 0) (x := base + 44) X rfl rfl dX7_sight_0 rfl ?_
  refine r_iconst (q := 2) (v := nI 0) X kc_0 dX7_sight_1 rfl ?_
  refine r_puti (q := 5) (i := 44) (n := 0) X fk_X7_59 kp_X7_0 kh_44 rfl dX7_sight_2 rfl ?_
  refine r_mem Mx (up2_id hth) ?_
  refine r_aload_n (q := 6) (i := 0) (j := 0) (x := base + 44) X rfl rfl dX7_sight_5 rfl ?_
  refine r_iload_n (q := 7) (i := 1) (j := 1) (x := x) X rfl rfl dX7_sight_6 rfl ?_
  refine r_callVi (q := 10) X (c_noHouse K.2.1 G base Mx Lx x hn) kh_44 rfl ks_RX7_109 (by decide) (by decide) ⟨Nat.zero_le _, Nat.zero_le _⟩ rfl (Nat.le_of_ble_eq_true rfl) dX7_sight_7 rfl (fun r M1 L1 hp => ?_)
  rcases hp with ⟨k, e1, hkn, hxe, hp2⟩ | ⟨e1, hno, hp2⟩
  · subst e1
    obtain ⟨e2, e3⟩ := hp2
    replace e2 := e2.symm
    subst e2
    replace e3 := e3.symm
    subst e3
    subst hxe
    refine r_if_eq (q := 13) (tgt := 15) X (by decide) dX7_sight_10 rfl (fun _ => ?_) (fun c => absurd c (by decide))
    refine r_iload_n (q := 16) (i := 2) (j := 2) (x := z) X rfl rfl dX7_sight_15 rfl ?_
    refine r_i2l (q := 17) (v := z.toInt64) X rfl dX7_sight_16 rfl ?_
    refine r_lconst (q := 18) (v := 0) X rfl dX7_sight_17 rfl ?_
    refine r_ldc2 (q := 21) (v := 99) X kl_RX7_115 dX7_sight_18 rfl ?_
    refine r_callSi (q := 24) X (c_in K.2.1 G base Mx Lx z.toInt64 0 99) ks_RX7_66 (by decide) (by decide) ⟨Nat.zero_le _, Nat.zero_le _⟩ rfl (Nat.le_of_ble_eq_true rfl) dX7_sight_21 rfl (fun r M1 L1 hp => ?_)
    have hkz := kIn (x := z) (y := 0) (z := 99) (a := 0) (b := 99) rfl rfl (by omega) (by omega)
    rcases hp with ⟨e1, hinz, hp2⟩ | ⟨e1, hinz, hp2⟩
    · subst e1
      obtain ⟨e2, e3⟩ := hp2
      replace e2 := e2.symm
      subst e2
      replace e3 := e3.symm
      subst e3
      rw [hkz] at hinz
      obtain ⟨jz, hloz, hbz, rfl⟩ := hinz
      refine r_if_eq (q := 27) (tgt := 40) X (by decide) dX7_sight_24 rfl (fun c => absurd c (by decide)) (fun _ => ?_)
      refine r_aload_n (q := 28) (i := 0) (j := 0) (x := base + 44) X rfl rfl dX7_sight_27 rfl ?_
      refine r_aload_n (q := 29) (i := 0) (j := 0) (x := base + 44) X rfl rfl dX7_sight_28 rfl ?_
      refine r_getf (q := 32) (i := 44) (v := .ref (base + 49)) X fk_X7_22 kh_44 rfl rfl dX7_sight_29 rfl ?_
      refine r_iload_n (q := 33) (i := 1) (j := 1) (x := nI (k)) X rfl rfl dX7_sight_32 rfl ?_
      refine r_iload_n (q := 34) (i := 2) (j := 2) (x := nI (jz)) X rfl rfl dX7_sight_33 rfl ?_
      refine r_callVi (q := 37) X (c_sight7 K.2.1 G base Mx Lx 49 k jz kh_49 (by omega) (by omega) (by have := ok.2.2.2.2.2.1; omega) (by have := ok.2.2.2.2.2.2.1; omega) (by have := ok.2.2.2.2.2.2.2.2.2.1 k; omega) (fun q => by have := ok.2.2.2.2.2.2.2.2.2.2 q; omega)) kh_44 rfl ks_RX7_117 (by decide) (by decide) ⟨Nat.zero_le _, Nat.zero_le _⟩ rfl (Nat.le_of_ble_eq_true rfl) dX7_sight_34 rfl (fun r M1 L1 hp => ?_)
      obtain ⟨e1, e2, e3⟩ := hp
      subst e1
      replace e2 := e2.symm
      subst e2
      replace e3 := e3.symm
      subst e3
      refine r_goto (tgt := 42) X (by decide) dX7_sight_37 ?_
      refine r_iret X Y ?_ dX7_sight_42
      exact ⟨Or.inr ⟨k, hkn, rfl, Or.inl ⟨jz, by omega, rfl, rfl⟩⟩, rfl, rfl⟩
    · subst e1
      obtain ⟨e2, e3⟩ := hp2
      replace e2 := e2.symm
      subst e2
      replace e3 := e3.symm
      subst e3
      rw [hkz] at hinz
      refine r_if_eq (q := 27) (tgt := 40) X (by decide) dX7_sight_24 rfl (fun _ => ?_) (fun c => absurd c (by decide))
      refine r_bipush (q := 42) (v := (-2)) X kb_m2 dX7_sight_40 rfl ?_
      refine r_iret X Y ?_ dX7_sight_42
      exact ⟨Or.inr ⟨k, hkn, rfl, Or.inr ⟨rfl, fun j hj h => hinz ⟨j, by omega, by omega, h⟩⟩⟩, rfl, rfl⟩
  · subst e1
    obtain ⟨e2, e3⟩ := hp2
    replace e2 := e2.symm
    subst e2
    replace e3 := e3.symm
    subst e3
    refine r_if_eq (q := 13) (tgt := 15) X (by decide) dX7_sight_10 rfl (fun c => absurd c (by decide)) (fun _ => ?_)
    refine r_iconst (q := 14) (v := (-1)) X kc_m1 dX7_sight_13 rfl ?_
    refine r_iret X Y ?_ dX7_sight_14
    exact ⟨Or.inl ⟨rfl, hno⟩, rfl, rfl⟩
set_option maxHeartbeats 8000000 in
theorem c7_house (l : Launch) (G : ks_G) (base : Nat) (Mx : ks_M) (Lx : ks_L) (x z : Int32) (hn : Mx 44 4 ≤ 6) (ok : okP Mx) : KI l G base 2 yX7_house cX7_house 3 .int [.ref (base + 44), .int (x), .int (z)] SH Mx Lx (fun rr M1 L1 => ((rr = (-1) ∧ (∀ k, k < Mx 44 4 → x ≠ nI k)) ∨ (∃ k, k < Mx 44 4 ∧ x = nI k ∧ ((∃ j, j ≤ 4 ∧ z = nI j ∧ rr = nI (hv7 Mx k j)) ∨ (rr = (-2) ∧ ∀ j, j ≤ 4 → z ≠ nI j)))) ∧ M1 = Mx ∧ L1 = Lx) := by
  refine k_meti (by decide) (Nat.le_of_ble_eq_true rfl) (fun K hK X Y => ?_)
  subst hK
  refine r_pl [(0, .ref (base + 44)), (1, .int (x)), (2, .int (z))] ⟨rfl, rfl, rfl, trivial⟩ ?_
  have hth := ok.1
  refine r_aload_n (q := 1) (i := 0) (j := 0) (x := base + 44) X rfl rfl dX7_house_0 rfl ?_
  refine r_iconst (q := 2) (v := nI 0) X kc_0 dX7_house_1 rfl ?_
  refine r_puti (q := 5) (i := 44) (n := 0) X fk_X7_59 kp_X7_0 kh_44 rfl dX7_house_2 rfl ?_
  refine r_mem Mx (up2_id hth) ?_
  refine r_aload_n (q := 6) (i := 0) (j := 0) (x := base + 44) X rfl rfl dX7_house_5 rfl ?_
  refine r_iload_n (q := 7) (i := 1) (j := 1) (x := x) X rfl rfl dX7_house_6 rfl ?_
  refine r_callVi (q := 10) X (c_noHouse K.2.1 G base Mx Lx x hn) kh_44 rfl ks_RX7_109 (by decide) (by decide) ⟨Nat.zero_le _, Nat.zero_le _⟩ rfl (Nat.le_of_ble_eq_true rfl) dX7_house_7 rfl (fun r M1 L1 hp => ?_)
  rcases hp with ⟨k, e1, hkn, hxe, hp2⟩ | ⟨e1, hno, hp2⟩
  · subst e1
    obtain ⟨e2, e3⟩ := hp2
    replace e2 := e2.symm
    subst e2
    replace e3 := e3.symm
    subst e3
    subst hxe
    refine r_if_eq (q := 13) (tgt := 15) X (by decide) dX7_house_10 rfl (fun _ => ?_) (fun c => absurd c (by decide))
    refine r_iload_n (q := 16) (i := 2) (j := 2) (x := z) X rfl rfl dX7_house_15 rfl ?_
    refine r_if_ne (q := 19) (tgt := 26) X (by decide) dX7_house_16 rfl (fun c16 => ?_) (fun c16 => ?_)
    · skip
      refine r_iload_n (q := 27) (i := 2) (j := 2) (x := z) X rfl rfl dX7_house_26 rfl ?_
      refine r_i2l (q := 28) (v := z.toInt64) X rfl dX7_house_27 rfl ?_
      refine r_lconst (q := 29) (v := 1) X rfl dX7_house_28 rfl ?_
      refine r_ldc2 (q := 32) (v := 3) X kl_RX7_113 dX7_house_29 rfl ?_
      refine r_callSi (q := 35) X (c_in K.2.1 G base Mx Lx z.toInt64 1 3) ks_RX7_66 (by decide) (by decide) ⟨Nat.zero_le _, Nat.zero_le _⟩ rfl (Nat.le_of_ble_eq_true rfl) dX7_house_32 rfl (fun r M1 L1 hp => ?_)
      have hkz := kIn (x := z) (y := 1) (z := 3) (a := 1) (b := 3) rfl rfl (by omega) (by omega)
      rcases hp with ⟨e1, hinz, hp2⟩ | ⟨e1, hinz, hp2⟩
      · subst e1
        obtain ⟨e2, e3⟩ := hp2
        replace e2 := e2.symm
        subst e2
        replace e3 := e3.symm
        subst e3
        rw [hkz] at hinz
        obtain ⟨jz, hloz, hbz, rfl⟩ := hinz
        refine r_if_eq (q := 38) (tgt := 53) X (by decide) dX7_house_35 rfl (fun c => absurd c (by decide)) (fun _ => ?_)
        refine r_aload_n (q := 39) (i := 0) (j := 0) (x := base + 44) X rfl rfl dX7_house_38 rfl ?_
        refine r_getf (q := 42) (i := 44) (v := .ref (base + 47)) X fk_X7_16 kh_44 rfl rfl dX7_house_39 rfl ?_
        refine r_iconst (q := 43) (v := nI 3) X kc_3 dX7_house_42 rfl ?_
        refine r_iload_n (q := 44) (i := 1) (j := 1) (x := nI (k)) X rfl rfl dX7_house_43 rfl ?_
        refine r_imulR (q := 45) (x := nI 3) (y := nI (k)) (v := nI (3 * k)) X (pk_mul _ _) dX7_house_44 rfl ?_
        refine r_iload_n (q := 46) (i := 2) (j := 2) (x := nI (jz)) X rfl rfl dX7_house_45 rfl ?_
        refine r_iaddR (q := 47) (x := nI (3 * k)) (y := nI (jz)) (v := nI ((3 * k) + jz)) X (nI_add _ _) dX7_house_46 rfl ?_
        refine r_iconst (q := 48) (v := nI 1) X kc_1 dX7_house_47 rfl ?_
        refine r_isubR (q := 49) (x := nI ((3 * k) + jz)) (y := nI 1) (v := nI (((3 * k) + jz) - 1)) X (pk_sub (by omega)) dX7_house_48 rfl ?_
        refine r_iald (q := 50) (i := 47) (j := ((3 * k) + jz) - 1) (v := Mx 47 (((3 * k) + jz) - 1)) X kh_47 (by omega) (Nat.le_of_ble_eq_true rfl) rfl dX7_house_49 rfl ?_
        refine r_goto (tgt := 72) X (by decide) dX7_house_50 ?_
        refine r_iret X Y ?_ dX7_house_72
        exact ⟨Or.inr ⟨k, hkn, rfl, Or.inl ⟨jz, by omega, rfl, by unfold hv7; rw [if_neg (by omega), if_pos (by omega)]⟩⟩, rfl, rfl⟩
      · subst e1
        obtain ⟨e2, e3⟩ := hp2
        replace e2 := e2.symm
        subst e2
        replace e3 := e3.symm
        subst e3
        rw [hkz] at hinz
        refine r_if_eq (q := 38) (tgt := 53) X (by decide) dX7_house_35 rfl (fun _ => ?_) (fun c => absurd c (by decide))
        refine r_iload_n (q := 54) (i := 2) (j := 2) (x := z) X rfl rfl dX7_house_53 rfl ?_
        refine r_iconst (q := 55) (v := nI 4) X kc_4 dX7_house_54 rfl ?_
        refine r_icmp_ne (q := 58) (tgt := 70) X (by decide) dX7_house_55 rfl (fun c55 => ?_) (fun c55 => ?_)
        · skip
          refine r_bipush (q := 72) (v := (-2)) X kb_m2 dX7_house_70 rfl ?_
          refine r_iret X Y ?_ dX7_house_72
          refine ⟨Or.inr ⟨k, hkn, rfl, Or.inr ⟨rfl, fun j hj h => ?_⟩⟩, rfl, rfl⟩
          rcases (show j = 0 ∨ (1 ≤ j ∧ j ≤ 3) ∨ j = 4 by omega) with h0 | h0 | h0
          · subst h0; exact c16 (h.trans nI_0)
          · exact hinz ⟨j, by omega, by omega, h⟩
          · subst h0; exact c55 h
        · skip
          subst c55
          refine r_aload_n (q := 59) (i := 0) (j := 0) (x := base + 44) X rfl rfl dX7_house_58 rfl ?_
          refine r_getf (q := 62) (i := 44) (v := .ref (base + 49)) X fk_X7_22 kh_44 rfl rfl dX7_house_59 rfl ?_
          refine r_bipush (q := 64) (v := nI 6) X kb_6 dX7_house_62 rfl ?_
          refine r_iload_n (q := 65) (i := 1) (j := 1) (x := nI (k)) X rfl rfl dX7_house_64 rfl ?_
          refine r_iaddR (q := 66) (x := nI 6) (y := nI (k)) (v := nI (6 + k)) X (nI_add _ _) dX7_house_65 rfl ?_
          refine r_iald (q := 67) (i := 49) (j := 6 + k) (v := Mx 49 (6 + k)) X kh_49 (by omega) (Nat.le_of_ble_eq_true rfl) rfl dX7_house_66 rfl ?_
          refine r_goto (tgt := 72) X (by decide) dX7_house_67 ?_
          refine r_iret X Y ?_ dX7_house_72
          exact ⟨Or.inr ⟨k, hkn, rfl, Or.inl ⟨4, by decide, rfl, rfl⟩⟩, rfl, rfl⟩
    · skip
      obtain rfl : z = nI 0 := c16.trans nI_0.symm
      refine r_aload_n (q := 20) (i := 0) (j := 0) (x := base + 44) X rfl rfl dX7_house_19 rfl ?_
      refine r_getf (q := 23) (i := 44) (v := .ref (base + 46)) X fk_X7_13 kh_44 rfl rfl dX7_house_20 rfl ?_
      refine r_iload_n (q := 24) (i := 1) (j := 1) (x := nI (k)) X rfl rfl dX7_house_23 rfl ?_
      refine r_iald (q := 25) (i := 46) (j := k) (v := Mx 46 k) X kh_46 (by omega) (Nat.le_of_ble_eq_true rfl) rfl dX7_house_24 rfl ?_
      refine r_iret X Y ?_ dX7_house_25
      exact ⟨Or.inr ⟨k, hkn, rfl, Or.inl ⟨0, by decide, rfl, rfl⟩⟩, rfl, rfl⟩
  · subst e1
    obtain ⟨e2, e3⟩ := hp2
    replace e2 := e2.symm
    subst e2
    replace e3 := e3.symm
    subst e3
    refine r_if_eq (q := 13) (tgt := 15) X (by decide) dX7_house_10 rfl (fun c => absurd c (by decide)) (fun _ => ?_)
    refine r_iconst (q := 14) (v := (-1)) X kc_m1 dX7_house_13 rfl ?_
    refine r_iret X Y ?_ dX7_house_14
    exact ⟨Or.inl ⟨rfl, hno⟩, rfl, rfl⟩
set_option maxHeartbeats 8000000 in
theorem c7_unsee (l : Launch) (G : ks_G) (base : Nat) (Mx : ks_M) (Lx : ks_L) (hth : Mx 44 0 = 0) : KI l G base 0 yX7_unsee cX7_unsee 2 .int [.ref (base + 44)] SH Mx Lx (fun rr M1 L1 => rr = nI (Mx 44 17) ∧ M1 = up2 Mx 44 17 0 ∧ L1 = Lx) := by
  refine k_meti (by decide) (Nat.le_of_ble_eq_true rfl) (fun K hK X Y => ?_)
  subst hK
  refine r_pl [(0, .ref (base + 44))] ⟨rfl, trivial⟩ ?_
  refine r_aload_n (q := 1) (i := 0) (j := 0) (x := base + 44) X rfl rfl dX7_unsee_0 rfl ?_
  refine r_iconst (q := 2) (v := nI 0) X kc_0 dX7_unsee_1 rfl ?_
  refine r_puti (q := 5) (i := 44) (n := 0) X fk_X7_59 kp_X7_0 kh_44 rfl dX7_unsee_2 rfl ?_
  refine r_mem Mx (up2_id hth) ?_
  refine r_aload_n (q := 6) (i := 0) (j := 0) (x := base + 44) X rfl rfl dX7_unsee_5 rfl ?_
  refine r_getf (q := 9) (i := 44) (v := .int (nI (Mx 44 17))) X fk_X7_106 kh_44 rfl rfl dX7_unsee_6 rfl ?_
  refine r_istore_n (q := 10) (i := 1) (j := 1) X rfl (Nat.le_of_ble_eq_true rfl) dX7_unsee_9 rfl ?_
  refine r_aload_n (q := 11) (i := 0) (j := 0) (x := base + 44) X rfl rfl dX7_unsee_10 rfl ?_
  refine r_iconst (q := 12) (v := nI 0) X kc_0 dX7_unsee_11 rfl ?_
  refine r_puti (q := 15) (i := 44) (n := 0) X fk_X7_106 kp_X7_17 kh_44 rfl dX7_unsee_12 rfl ?_
  refine r_iload_n (q := 16) (i := 1) (j := 1) (x := nI (Mx 44 17)) X rfl rfl dX7_unsee_15 rfl ?_
  refine r_iret X Y ?_ dX7_unsee_16
  exact ⟨rfl, rfl, rfl⟩
set_option maxHeartbeats 8000000 in
theorem c7_seed (l : Launch) (G : ks_G) (base : Nat) (Mx : ks_M) (Lx : ks_L) (v : Int64) (hth : Mx 44 0 = 0) : KL l G base 0 yX7_seed cX7_seed 5 [.ref (base + 44), .long (v)] SH Mx Lx (fun rr M1 L1 => rr = Lx 44 ∧ M1 = Mx ∧ L1 = upl Lx 44 v) := by
  refine k_metl (by decide) (Nat.le_of_ble_eq_true rfl) (fun K hK X Y => ?_)
  subst hK
  refine r_pl [(0, .ref (base + 44)), (1, .long (v))] ⟨rfl, rfl, trivial⟩ ?_
  refine r_aload_n (q := 1) (i := 0) (j := 0) (x := base + 44) X rfl rfl dX7_seed_0 rfl ?_
  refine r_iconst (q := 2) (v := nI 0) X kc_0 dX7_seed_1 rfl ?_
  refine r_puti (q := 5) (i := 44) (n := 0) X fk_X7_59 kp_X7_0 kh_44 rfl dX7_seed_2 rfl ?_
  refine r_mem Mx (up2_id hth) ?_
  refine r_aload_n (q := 6) (i := 0) (j := 0) (x := base + 44) X rfl rfl dX7_seed_5 rfl ?_
  refine r_getf (q := 9) (i := 44) (v := .long (Lx 44)) X fk_X7_191 kh_44 rfl rfl dX7_seed_6 rfl ?_
  refine r_lstore_n (q := 10) (i := 3) (j := 3) X rfl (Nat.le_of_ble_eq_true rfl) dX7_seed_9 rfl ?_
  refine r_aload_n (q := 11) (i := 0) (j := 0) (x := base + 44) X rfl rfl dX7_seed_10 rfl ?_
  refine r_lload_n (q := 12) (i := 1) (j := 1) (x := v) X rfl rfl dX7_seed_11 rfl ?_
  refine r_putl (q := 15) (i := 44) (x := v) X fk_X7_191 kp_X7_22 kh_44 rfl (ks_ho (by decide)) dX7_seed_12 rfl ?_
  refine r_lload_n (q := 16) (i := 3) (j := 3) (x := (Lx 44)) X rfl rfl dX7_seed_15 rfl ?_
  refine r_lret X Y ?_ dX7_seed_16
  exact ⟨rfl, rfl, rfl⟩
