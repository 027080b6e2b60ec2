/-! THE LAW, from its entry to its loop -/
theorem kz_RL_7 : Cond.classLink RL 7 RX6 ∈ ks_all ∧ Cond.instantiable RX6 11 ∈ ks_all ∧ Cond.initialized RX6 ∈ ks_all := ⟨kw 35 (by decide +kernel), kw 36 (by decide +kernel), kw 25 (by decide +kernel)⟩
theorem kz_RL_10 : Cond.classLink RL 10 RX7 ∈ ks_all ∧ Cond.instantiable RX7 30 ∈ ks_all ∧ Cond.initialized RX7 ∈ ks_all := ⟨kw 516 (by decide +kernel), kw 517 (by decide +kernel), kw 33 (by decide +kernel)⟩
theorem vp_map {base : Nat} {ds : List (Nat × Nat)} {j : Nat} {t : Nat × Nat} (h : ds[j]? = some t) : vp_V (ds.mapIdx (ks_v base (fun _ => 0) 0)) j = ks_v base (fun _ => 0) 0 j t := by
  unfold vp_V
  rw [List.getD_eq_getElem?_getD, List.getElem?_mapIdx, h]; rfl
set_option maxHeartbeats 8000000 in
set_option maxRecDepth 20000 in
theorem law_start {K : ks_Cx} {G : ks_G} {base b n : Nat} {xs : Nat → Int32} (X : KX K G base 4 RL cL_law 20) (hRm : kR K = room_1) (hXs : va_X b n xs (kS K) (kS K).heap) (hbl : b < (kS K).heap.size) (hbb : (kS K).heap.size ≤ base) (hn : n ≤ 384) (hend : ∀ M L pl, RN K G base 4 61 821 SH M L 923 pl [.int (nI 1)]) : RN K G base 4 0 0 sN M0 L0 0 (lv_args 0 [.ref b]) [] := by
  refine r_pl [(0, .ref b)] ⟨rfl, trivial⟩ ?_
  refine r_new (q := 3) (j := 0) (ds := [(2, 0), (2, 0), (2, 0), (2, 0), (2, 0), (2, 0), (2, 0), (2, 0), (2, 0), (0, 0), (1, 0)]) X kX6 kz_RL_7 tyX6 tyX6_ok (fun j hj => by
    rcases (show j = 0 ∨ j = 1 ∨ j = 2 ∨ j = 3 ∨ j = 4 ∨ j = 5 ∨ j = 6 ∨ j = 7 ∨ j = 8 ∨ j = 9 ∨ j = 10 by omega) with rfl | rfl | rfl | rfl | rfl | rfl | rfl | rfl | rfl | rfl | rfl
    · exact (vp_map (t := (2, 0)) rfl).symm
    · exact (vp_map (t := (2, 0)) rfl).symm
    · exact (vp_map (t := (2, 0)) rfl).symm
    · exact (vp_map (t := (2, 0)) rfl).symm
    · exact (vp_map (t := (2, 0)) rfl).symm
    · exact (vp_map (t := (2, 0)) rfl).symm
    · exact (vp_map (t := (2, 0)) rfl).symm
    · exact (vp_map (t := (2, 0)) rfl).symm
    · exact (vp_map (t := (2, 0)) rfl).symm
    · exact (vp_map (t := (0, 0)) rfl).symm
    · exact (vp_map (t := (1, 0)) rfl).symm
    ) rfl (show _ = sA0 from rfl) (by rw [hRm]; exact Nat.le_of_ble_eq_true rfl) (by rw [hRm]; exact Nat.le_of_ble_eq_true rfl) dL_law_0 rfl ?_
  refine r_cs 1 11 rfl rfl ?_
  refine r_dup (q := 4) X rfl dL_law_3 rfl ?_
  refine r_callIv (q := 7) X (c_X6Init K.2.1 G base) ks_RL_9 (by decide) (by decide) ⟨(by rw [hRm]; exact Nat.le_of_ble_eq_true rfl), (by rw [hRm]; exact Nat.le_of_ble_eq_true rfl)⟩ rfl (Nat.le_of_ble_eq_true rfl) dL_law_4 rfl (fun M1 L1 hp => ?_)
  obtain ⟨rfl, rfl⟩ := hp
  refine r_cs 44 371 rfl rfl ?_
  refine r_astore_n (q := 8) (i := 1) (j := 1) X rfl (Nat.le_of_ble_eq_true rfl) dL_law_7 rfl ?_
  refine r_new (q := 11) (j := 44) (ds := [(0, 0), (2, 0), (0, 0), (0, 0), (0, 0), (2, 0), (2, 0), (0, 0), (0, 0), (2, 0), (2, 0), (2, 0), (2, 0), (2, 0), (0, 0), (2, 0), (2, 0), (0, 0), (2, 0), (2, 0), (2, 0), (2, 0), (1, 0), (0, 0), (0, 0), (0, 0), (0, 0), (2, 0), (2, 0), (0, 0)]) X kX7 kz_RL_10 tyX7 tyX7_ok (fun j hj => by
    rcases (show j = 0 ∨ j = 1 ∨ j = 2 ∨ j = 3 ∨ j = 4 ∨ j = 5 ∨ j = 6 ∨ j = 7 ∨ j = 8 ∨ j = 9 ∨ j = 10 ∨ j = 11 ∨ j = 12 ∨ j = 13 ∨ j = 14 ∨ j = 15 ∨ j = 16 ∨ j = 17 ∨ j = 18 ∨ j = 19 ∨ j = 20 ∨ j = 21 ∨ j = 22 ∨ j = 23 ∨ j = 24 ∨ j = 25 ∨ j = 26 ∨ j = 27 ∨ j = 28 ∨ j = 29 by omega) with rfl | rfl | rfl | rfl | rfl | rfl | rfl | rfl | rfl | rfl | rfl | rfl | rfl | rfl | rfl | rfl | rfl | rfl | rfl | rfl | rfl | rfl | rfl | rfl | rfl | rfl | rfl | rfl | rfl | rfl
    · exact (vp_map (t := (0, 0)) rfl).symm
    · exact (vp_map (t := (2, 0)) rfl).symm
    · exact (vp_map (t := (0, 0)) rfl).symm
    · exact (vp_map (t := (0, 0)) rfl).symm
    · exact (vp_map (t := (0, 0)) rfl).symm
    · exact (vp_map (t := (2, 0)) rfl).symm
    · exact (vp_map (t := (2, 0)) rfl).symm
    · exact (vp_map (t := (0, 0)) rfl).symm
    · exact (vp_map (t := (0, 0)) rfl).symm
    · exact (vp_map (t := (2, 0)) rfl).symm
    · exact (vp_map (t := (2, 0)) rfl).symm
    · exact (vp_map (t := (2, 0)) rfl).symm
    · exact (vp_map (t := (2, 0)) rfl).symm
    · exact (vp_map (t := (2, 0)) rfl).symm
    · exact (vp_map (t := (0, 0)) rfl).symm
    · exact (vp_map (t := (2, 0)) rfl).symm
    · exact (vp_map (t := (2, 0)) rfl).symm
    · exact (vp_map (t := (0, 0)) rfl).symm
    · exact (vp_map (t := (2, 0)) rfl).symm
    · exact (vp_map (t := (2, 0)) rfl).symm
    · exact (vp_map (t := (2, 0)) rfl).symm
    · exact (vp_map (t := (2, 0)) rfl).symm
    · exact (vp_map (t := (1, 0)) rfl).symm
    · exact (vp_map (t := (0, 0)) rfl).symm
    · exact (vp_map (t := (0, 0)) rfl).symm
    · exact (vp_map (t := (0, 0)) rfl).symm
    · exact (vp_map (t := (0, 0)) rfl).symm
    · exact (vp_map (t := (2, 0)) rfl).symm
    · exact (vp_map (t := (2, 0)) rfl).symm
    · exact (vp_map (t := (0, 0)) rfl).symm
    ) (by decide +kernel) (show _ = sA87 from rfl) (by rw [hRm]; exact Nat.le_of_ble_eq_true rfl) (by rw [hRm]; exact Nat.le_of_ble_eq_true rfl) dL_law_8 rfl ?_
  refine r_cs 45 401 rfl rfl ?_
  refine r_dup (q := 12) X rfl dL_law_11 rfl ?_
  refine r_callIv (q := 15) X (c_X7Init K.2.1 G base) ks_RL_12 (by decide) (by decide) ⟨(by rw [hRm]; exact Nat.le_of_ble_eq_true rfl), (by rw [hRm]; exact Nat.le_of_ble_eq_true rfl)⟩ rfl (Nat.le_of_ble_eq_true rfl) dL_law_12 rfl (fun M1 L1 hp => ?_)
  obtain ⟨rfl, rfl⟩ := hp
  refine r_cs 61 821 rfl rfl ?_
  refine r_sh SH sA_SH ?_
  refine r_astore_n (q := 16) (i := 2) (j := 2) X rfl (Nat.le_of_ble_eq_true rfl) dL_law_15 rfl ?_
  refine r_iconst (q := 17) (v := nI 0) X kc_0 dL_law_16 rfl ?_
  refine r_istore_n (q := 18) (i := 3) (j := 3) X rfl (Nat.le_of_ble_eq_true rfl) dL_law_17 rfl ?_
  refine r_pl [(0, .ref b), (1, .ref (base + 0)), (2, .ref (base + 44)), (3, .int (nI 0))] ⟨rfl, rfl, rfl, rfl, trivial⟩ ?_
  exact law_loop X hXs hbl hbb hn ⟨(by rw [hRm]; exact Nat.le_of_ble_eq_true rfl), (by rw [hRm]; exact Nat.le_of_ble_eq_true rfl)⟩ hend 66 0 0 M0 L0 (by decide) (by decide) rfl inv_0
