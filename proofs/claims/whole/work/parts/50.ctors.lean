/-! THE CONSTRUCTORS: the shapes grow one by one -/
theorem ko_RX3 : Cond.methodLink RX3 3 objectInit ∈ ks_all ∧ Cond.instanceMethod objectInit ∈ ks_all ∧ Cond.code objectInit ⟨#[0xb1]⟩ 1 none ∈ ks_all := ⟨kw 89 (by decide +kernel), kw 41 (by decide +kernel), kw 42 (by decide +kernel)⟩
set_option maxHeartbeats 8000000 in
set_option maxRecDepth 20000 in
theorem c_StandInit (l : Launch) (G : ks_G) (base : Nat) (sh : List ks_S) (i : Nat) (hs : sh[i]? = some kSt) : KV l G base 1 0 0 yX3_init cX3_init 1 [.ref (base + i)] sh sh M0 L0 (fun M1 L1 => M1 = M0 ∧ L1 = L0) := by
  refine k_metv (by decide) (Nat.le_of_ble_eq_true rfl) (fun K hK hRm X Y => ?_)
  subst hK
  have hnm : (kMe K).name = "<init>" := Y.2.2.2
  refine r_pl [(0, .ref (base + i))] ⟨rfl, trivial⟩ ?_
  refine r_aload_n (q := 1) (i := 0) (j := 0) (x := base + i) X rfl rfl dX3_init_0 rfl ?_
  refine r_objinit (q := 4) X ko_RX3 (by decide) (Nat.le_of_ble_eq_true rfl) dX3_init_1 rfl ?_
  refine r_aload_n (q := 5) (i := 0) (j := 0) (x := base + i) X rfl rfl dX3_init_4 rfl ?_
  refine r_iconst (q := 6) (v := nI 0) X kc_0 dX3_init_5 rfl ?_
  refine r_puti (q := 9) (i := i) (n := 0) X fk_X3_9 kp_X3_0 hs rfl dX3_init_6 rfl ?_
  refine r_mem M0 (M0_put _ _) ?_
  refine r_aload_n (q := 10) (i := 0) (j := 0) (x := base + i) X rfl rfl dX3_init_9 rfl ?_
  refine r_iconst (q := 11) (v := nI 0) X kc_0 dX3_init_10 rfl ?_
  refine r_puti (q := 14) (i := i) (n := 0) X fk_X3_15 kp_X3_1 hs rfl dX3_init_11 rfl ?_
  refine r_mem M0 (M0_put _ _) ?_
  refine r_aload_n (q := 15) (i := 0) (j := 0) (x := base + i) X rfl rfl dX3_init_14 rfl ?_
  refine r_iconst (q := 16) (v := nI 0) X kc_0 dX3_init_15 rfl ?_
  refine r_puti (q := 19) (i := i) (n := 0) X fk_X3_18 kp_X3_2 hs rfl dX3_init_16 rfl ?_
  refine r_mem M0 (M0_put _ _) ?_
  refine r_aload_n (q := 20) (i := 0) (j := 0) (x := base + i) X rfl rfl dX3_init_19 rfl ?_
  refine r_iconst (q := 21) (v := nI 0) X kc_0 dX3_init_20 rfl ?_
  refine r_puti (q := 24) (i := i) (n := 0) X fk_X3_21 kp_X3_3 hs rfl dX3_init_21 rfl ?_
  refine r_mem M0 (M0_put _ _) ?_
  refine r_aload_n (q := 25) (i := 0) (j := 0) (x := base + i) X rfl rfl dX3_init_24 rfl ?_
  refine r_iconst (q := 26) (v := nI 0) X kc_0 dX3_init_25 rfl ?_
  refine r_puti (q := 29) (i := i) (n := 0) X fk_X3_24 kp_X3_4 hs rfl dX3_init_26 rfl ?_
  refine r_mem M0 (M0_put _ _) ?_
  refine r_aload_n (q := 30) (i := 0) (j := 0) (x := base + i) X rfl rfl dX3_init_29 rfl ?_
  refine r_iconst (q := 31) (v := nI 0) X kc_0 dX3_init_30 rfl ?_
  refine r_puti (q := 34) (i := i) (n := 0) X fk_X3_27 kp_X3_5 hs rfl dX3_init_31 rfl ?_
  refine r_mem M0 (M0_put _ _) ?_
  refine r_aload_n (q := 35) (i := 0) (j := 0) (x := base + i) X rfl rfl dX3_init_34 rfl ?_
  refine r_iconst (q := 36) (v := nI 0) X kc_0 dX3_init_35 rfl ?_
  refine r_puti (q := 39) (i := i) (n := 0) X fk_X3_30 kp_X3_6 hs rfl dX3_init_36 rfl ?_
  refine r_mem M0 (M0_put _ _) ?_
  exact r_vret X Y ⟨rfl, rfl⟩ dX3_init_39
def sN : List ks_S := []
def sA0 : List ks_S := sN ++ [(0, 6, [(2, 0), (2, 0), (2, 0), (2, 0), (2, 0), (2, 0), (2, 0), (2, 0), (2, 0), (0, 0), (1, 0)])]
def sA1 : List ks_S := sA0 ++ [(0, 5, [(2, 0), (0, 0)])]
def sA2 : List ks_S := sA1 ++ [(1, 48, [])]
def sA3 : List ks_S := sA2.set 1 (0, 5, [(3, 2), (0, 0)])
theorem ko_RX6 : Cond.methodLink RX6 1 objectInit ∈ ks_all ∧ Cond.instanceMethod objectInit ∈ ks_all ∧ Cond.code objectInit ⟨#[0xb1]⟩ 1 none ∈ ks_all := ⟨kw 40 (by decide +kernel), kw 41 (by decide +kernel), kw 42 (by decide +kernel)⟩
theorem kz_RX6_7 : Cond.classLink RX6 7 RX5 ∈ ks_all ∧ Cond.instantiable RX5 2 ∈ ks_all ∧ Cond.initialized RX5 ∈ ks_all := ⟨kw 43 (by decide +kernel), kw 44 (by decide +kernel), kw 26 (by decide +kernel)⟩
theorem ko_RX5 : Cond.methodLink RX5 3 objectInit ∈ ks_all ∧ Cond.instanceMethod objectInit ∈ ks_all ∧ Cond.code objectInit ⟨#[0xb1]⟩ 1 none ∈ ks_all := ⟨kw 48 (by decide +kernel), kw 41 (by decide +kernel), kw 42 (by decide +kernel)⟩
set_option maxHeartbeats 8000000 in
set_option maxRecDepth 20000 in
theorem c_X5Init (l : Launch) (G : ks_G) (base : Nat) : KV l G base 1 1 48 yX5_init cX5_init 1 [.ref (base + 1)] sA1 sA3 M0 L0 (fun M1 L1 => M1 = M0 ∧ L1 = L0) := by
  refine k_metv (by decide) (Nat.le_of_ble_eq_true rfl) (fun K hK hRm X Y => ?_)
  subst hK
  have hnm : (kMe K).name = "<init>" := Y.2.2.2
  refine r_pl [(0, .ref (base + 1))] ⟨rfl, trivial⟩ ?_
  refine r_aload_n (q := 1) (i := 0) (j := 0) (x := base + 1) X rfl rfl dX5_init_0 rfl ?_
  refine r_objinit (q := 4) X ko_RX5 (by decide) (Nat.le_of_ble_eq_true rfl) dX5_init_1 rfl ?_
  refine r_aload_n (q := 5) (i := 0) (j := 0) (x := base + 1) X rfl rfl dX5_init_4 rfl ?_
  refine r_bipush (q := 7) (v := nI 48) X kb_48 dX5_init_5 rfl ?_
  refine r_newi (q := 9) (j := 2) X (by decide) (show Cond.arrayClass .int ∈ ks_all from kw 57 (by decide +kernel)) (by decide +kernel) (show _ = sA2 from rfl) (by rw [hRm]; exact Nat.le_of_ble_eq_true rfl) (by rw [hRm]; exact Nat.le_of_ble_eq_true rfl) dX5_init_7 rfl ?_
  refine r_cs 1 48 rfl rfl ?_
  refine r_putr (q := 12) (i := 1) (j := 2) (ds := [(2, 0), (0, 0)]) (ty := tyX5 0) X fk_X5_9 hnm ⟨⟨by decide +kernel, by decide +kernel⟩, tyX5_ok 0 (by decide)⟩ ⟨rfl, rfl⟩ (by decide +kernel) rfl dX5_init_9 rfl ?_
  refine r_sh sA3 rfl ?_
  refine r_aload_n (q := 13) (i := 0) (j := 0) (x := base + 1) X rfl rfl dX5_init_12 rfl ?_
  refine r_iconst (q := 14) (v := nI 0) X kc_0 dX5_init_13 rfl ?_
  refine r_puti (q := 17) (i := 1) (n := 0) (ds := [(3, 2), (0, 0)]) X fk_X5_15 kp_X5_1 (by decide +kernel) rfl dX5_init_14 rfl ?_
  refine r_mem M0 (M0_put _ _) ?_
  exact r_vret X Y ⟨rfl, rfl⟩ dX5_init_17
def sA4 : List ks_S := sA3.set 0 (0, 6, [(3, 1), (2, 0), (2, 0), (2, 0), (2, 0), (2, 0), (2, 0), (2, 0), (2, 0), (0, 0), (1, 0)])
def sA5 : List ks_S := sA4 ++ [(0, 4, [(2, 0), (2, 0), (2, 0), (0, 0), (0, 0)])]
def sA6 : List ks_S := sA5 ++ [(1, 6, [])]
def sA7 : List ks_S := sA6.set 3 (0, 4, [(3, 4), (2, 0), (2, 0), (0, 0), (0, 0)])
def sA8 : List ks_S := sA7 ++ [(1, 18, [])]
def sA9 : List ks_S := sA8.set 3 (0, 4, [(3, 4), (3, 5), (2, 0), (0, 0), (0, 0)])
def sA10 : List ks_S := sA9 ++ [(1, 36, [])]
def sA11 : List ks_S := sA10.set 3 (0, 4, [(3, 4), (3, 5), (3, 6), (0, 0), (0, 0)])
theorem kn_RX6_9 : ks_sIN RX6 9 yX5_init "KeyholeNews" cX5_init 1 0 := ⟨⟨by decide +kernel, kw 46 (by decide +kernel), kw 26 (by decide +kernel), kw 47 (by decide +kernel)⟩, ⟨by decide +kernel, by decide +kernel, by decide +kernel⟩, by decide +kernel⟩
theorem kz_RX6_16 : Cond.classLink RX6 16 RX4 ∈ ks_all ∧ Cond.instantiable RX4 5 ∈ ks_all ∧ Cond.initialized RX4 ∈ ks_all := ⟨kw 58 (by decide +kernel), kw 59 (by decide +kernel), kw 27 (by decide +kernel)⟩
theorem ko_RX4 : Cond.methodLink RX4 3 objectInit ∈ ks_all ∧ Cond.instanceMethod objectInit ∈ ks_all ∧ Cond.code objectInit ⟨#[0xb1]⟩ 1 none ∈ ks_all := ⟨kw 63 (by decide +kernel), kw 41 (by decide +kernel), kw 42 (by decide +kernel)⟩
set_option maxHeartbeats 8000000 in
set_option maxRecDepth 20000 in
theorem c_X4Init (l : Launch) (G : ks_G) (base : Nat) : KV l G base 1 3 60 yX4_init cX4_init 1 [.ref (base + 3)] sA5 sA11 M0 L0 (fun M1 L1 => M1 = M0 ∧ L1 = L0) := by
  refine k_metv (by decide) (Nat.le_of_ble_eq_true rfl) (fun K hK hRm X Y => ?_)
  subst hK
  have hnm : (kMe K).name = "<init>" := Y.2.2.2
  refine r_pl [(0, .ref (base + 3))] ⟨rfl, trivial⟩ ?_
  refine r_aload_n (q := 1) (i := 0) (j := 0) (x := base + 3) X rfl rfl dX4_init_0 rfl ?_
  refine r_objinit (q := 4) X ko_RX4 (by decide) (Nat.le_of_ble_eq_true rfl) dX4_init_1 rfl ?_
  refine r_aload_n (q := 5) (i := 0) (j := 0) (x := base + 3) X rfl rfl dX4_init_4 rfl ?_
  refine r_bipush (q := 7) (v := nI 6) X kb_6 dX4_init_5 rfl ?_
  refine r_newi (q := 9) (j := 4) X (by decide) (show Cond.arrayClass .int ∈ ks_all from kw 57 (by decide +kernel)) (by decide +kernel) (show _ = sA6 from rfl) (by rw [hRm]; exact Nat.le_of_ble_eq_true rfl) (by rw [hRm]; exact Nat.le_of_ble_eq_true rfl) dX4_init_7 rfl ?_
  refine r_cs 1 6 rfl rfl ?_
  refine r_putr (q := 12) (i := 3) (j := 4) (ds := [(2, 0), (2, 0), (2, 0), (0, 0), (0, 0)]) (ty := tyX4 0) X fk_X4_9 hnm ⟨⟨by decide +kernel, by decide +kernel⟩, tyX4_ok 0 (by decide)⟩ ⟨rfl, rfl⟩ (by decide +kernel) rfl dX4_init_9 rfl ?_
  refine r_sh sA7 rfl ?_
  refine r_aload_n (q := 13) (i := 0) (j := 0) (x := base + 3) X rfl rfl dX4_init_12 rfl ?_
  refine r_bipush (q := 15) (v := nI 18) X kb_18 dX4_init_13 rfl ?_
  refine r_newi (q := 17) (j := 5) X (by decide) (show Cond.arrayClass .int ∈ ks_all from kw 57 (by decide +kernel)) (by decide +kernel) (show _ = sA8 from rfl) (by rw [hRm]; exact Nat.le_of_ble_eq_true rfl) (by rw [hRm]; exact Nat.le_of_ble_eq_true rfl) dX4_init_15 rfl ?_
  refine r_cs 2 24 rfl rfl ?_
  refine r_putr (q := 20) (i := 3) (j := 5) (ds := [(3, 4), (2, 0), (2, 0), (0, 0), (0, 0)]) (ty := tyX4 1) X fk_X4_15 hnm ⟨⟨by decide +kernel, by decide +kernel⟩, tyX4_ok 1 (by decide)⟩ ⟨rfl, rfl⟩ (by decide +kernel) rfl dX4_init_17 rfl ?_
  refine r_sh sA9 rfl ?_
  refine r_aload_n (q := 21) (i := 0) (j := 0) (x := base + 3) X rfl rfl dX4_init_20 rfl ?_
  refine r_bipush (q := 23) (v := nI 36) X kb_36 dX4_init_21 rfl ?_
  refine r_newi (q := 25) (j := 6) X (by decide) (show Cond.arrayClass .int ∈ ks_all from kw 57 (by decide +kernel)) (by decide +kernel) (show _ = sA10 from rfl) (by rw [hRm]; exact Nat.le_of_ble_eq_true rfl) (by rw [hRm]; exact Nat.le_of_ble_eq_true rfl) dX4_init_23 rfl ?_
  refine r_cs 3 60 rfl rfl ?_
  refine r_putr (q := 28) (i := 3) (j := 6) (ds := [(3, 4), (3, 5), (2, 0), (0, 0), (0, 0)]) (ty := tyX4 2) X fk_X4_18 hnm ⟨⟨by decide +kernel, by decide +kernel⟩, tyX4_ok 2 (by decide)⟩ ⟨rfl, rfl⟩ (by decide +kernel) rfl dX4_init_25 rfl ?_
  refine r_sh sA11 rfl ?_
  refine r_aload_n (q := 29) (i := 0) (j := 0) (x := base + 3) X rfl rfl dX4_init_28 rfl ?_
  refine r_iconst (q := 30) (v := nI 0) X kc_0 dX4_init_29 rfl ?_
  refine r_puti (q := 33) (i := 3) (n := 0) (ds := [(3, 4), (3, 5), (3, 6), (0, 0), (0, 0)]) X fk_X4_21 kp_X4_3 (by decide +kernel) rfl dX4_init_30 rfl ?_
  refine r_mem M0 (M0_put _ _) ?_
  refine r_aload_n (q := 34) (i := 0) (j := 0) (x := base + 3) X rfl rfl dX4_init_33 rfl ?_
  refine r_iconst (q := 35) (v := nI 0) X kc_0 dX4_init_34 rfl ?_
  refine r_puti (q := 38) (i := 3) (n := 0) (ds := [(3, 4), (3, 5), (3, 6), (0, 0), (0, 0)]) X fk_X4_25 kp_X4_4 (by decide +kernel) rfl dX4_init_35 rfl ?_
  refine r_mem M0 (M0_put _ _) ?_
  exact r_vret X Y ⟨rfl, rfl⟩ dX4_init_38
def sA12 : List ks_S := sA11.set 0 (0, 6, [(3, 1), (3, 3), (2, 0), (2, 0), (2, 0), (2, 0), (2, 0), (2, 0), (2, 0), (0, 0), (1, 0)])
def sA13 : List ks_S := sA12 ++ [kSt]
def sA14 : List ks_S := sA13.set 0 (0, 6, [(3, 1), (3, 3), (3, 7), (2, 0), (2, 0), (2, 0), (2, 0), (2, 0), (2, 0), (0, 0), (1, 0)])
def sA15 : List ks_S := sA14 ++ [kSt]
def sA16 : List ks_S := sA15.set 0 (0, 6, [(3, 1), (3, 3), (3, 7), (3, 8), (2, 0), (2, 0), (2, 0), (2, 0), (2, 0), (0, 0), (1, 0)])
def sA17 : List ks_S := sA16 ++ [(0, 0, [(2, 0), (0, 0), (0, 0)])]
def sA18 : List ks_S := sA17 ++ [(3, 14, List.replicate 14 (2, 0))]
def sA19 : List ks_S := sA18 ++ [kSt]
def sA20 : List ks_S := sA19.set 10 (3, 14, [(3, 11), (2, 0), (2, 0), (2, 0), (2, 0), (2, 0), (2, 0), (2, 0), (2, 0), (2, 0), (2, 0), (2, 0), (2, 0), (2, 0)])
def sA21 : List ks_S := sA20 ++ [kSt]
def sA22 : List ks_S := sA21.set 10 (3, 14, [(3, 11), (3, 12), (2, 0), (2, 0), (2, 0), (2, 0), (2, 0), (2, 0), (2, 0), (2, 0), (2, 0), (2, 0), (2, 0), (2, 0)])
def sA23 : List ks_S := sA22 ++ [kSt]
def sA24 : List ks_S := sA23.set 10 (3, 14, [(3, 11), (3, 12), (3, 13), (2, 0), (2, 0), (2, 0), (2, 0), (2, 0), (2, 0), (2, 0), (2, 0), (2, 0), (2, 0), (2, 0)])
def sA25 : List ks_S := sA24 ++ [kSt]
def sA26 : List ks_S := sA25.set 10 (3, 14, [(3, 11), (3, 12), (3, 13), (3, 14), (2, 0), (2, 0), (2, 0), (2, 0), (2, 0), (2, 0), (2, 0), (2, 0), (2, 0), (2, 0)])
def sA27 : List ks_S := sA26 ++ [kSt]
def sA28 : List ks_S := sA27.set 10 (3, 14, [(3, 11), (3, 12), (3, 13), (3, 14), (3, 15), (2, 0), (2, 0), (2, 0), (2, 0), (2, 0), (2, 0), (2, 0), (2, 0), (2, 0)])
def sA29 : List ks_S := sA28 ++ [kSt]
def sA30 : List ks_S := sA29.set 10 (3, 14, [(3, 11), (3, 12), (3, 13), (3, 14), (3, 15), (3, 16), (2, 0), (2, 0), (2, 0), (2, 0), (2, 0), (2, 0), (2, 0), (2, 0)])
def sA31 : List ks_S := sA30 ++ [kSt]
def sA32 : List ks_S := sA31.set 10 (3, 14, [(3, 11), (3, 12), (3, 13), (3, 14), (3, 15), (3, 16), (3, 17), (2, 0), (2, 0), (2, 0), (2, 0), (2, 0), (2, 0), (2, 0)])
def sA33 : List ks_S := sA32 ++ [kSt]
def sA34 : List ks_S := sA33.set 10 (3, 14, [(3, 11), (3, 12), (3, 13), (3, 14), (3, 15), (3, 16), (3, 17), (3, 18), (2, 0), (2, 0), (2, 0), (2, 0), (2, 0), (2, 0)])
def sA35 : List ks_S := sA34 ++ [kSt]
def sA36 : List ks_S := sA35.set 10 (3, 14, [(3, 11), (3, 12), (3, 13), (3, 14), (3, 15), (3, 16), (3, 17), (3, 18), (3, 19), (2, 0), (2, 0), (2, 0), (2, 0), (2, 0)])
def sA37 : List ks_S := sA36 ++ [kSt]
def sA38 : List ks_S := sA37.set 10 (3, 14, [(3, 11), (3, 12), (3, 13), (3, 14), (3, 15), (3, 16), (3, 17), (3, 18), (3, 19), (3, 20), (2, 0), (2, 0), (2, 0), (2, 0)])
def sA39 : List ks_S := sA38 ++ [kSt]
def sA40 : List ks_S := sA39.set 10 (3, 14, [(3, 11), (3, 12), (3, 13), (3, 14), (3, 15), (3, 16), (3, 17), (3, 18), (3, 19), (3, 20), (3, 21), (2, 0), (2, 0), (2, 0)])
def sA41 : List ks_S := sA40 ++ [kSt]
def sA42 : List ks_S := sA41.set 10 (3, 14, [(3, 11), (3, 12), (3, 13), (3, 14), (3, 15), (3, 16), (3, 17), (3, 18), (3, 19), (3, 20), (3, 21), (3, 22), (2, 0), (2, 0)])
def sA43 : List ks_S := sA42 ++ [kSt]
def sA44 : List ks_S := sA43.set 10 (3, 14, [(3, 11), (3, 12), (3, 13), (3, 14), (3, 15), (3, 16), (3, 17), (3, 18), (3, 19), (3, 20), (3, 21), (3, 22), (3, 23), (2, 0)])
def sA45 : List ks_S := sA44 ++ [kSt]
def sA46 : List ks_S := sA45.set 10 (3, 14, [(3, 11), (3, 12), (3, 13), (3, 14), (3, 15), (3, 16), (3, 17), (3, 18), (3, 19), (3, 20), (3, 21), (3, 22), (3, 23), (3, 24)])
theorem kn_RX6_18 : ks_sIN RX6 18 yX4_init "KeyholeNews" cX4_init 1 0 := ⟨⟨by decide +kernel, kw 61 (by decide +kernel), kw 27 (by decide +kernel), kw 62 (by decide +kernel)⟩, ⟨by decide +kernel, by decide +kernel, by decide +kernel⟩, by decide +kernel⟩
theorem kz_RX6_23 : Cond.classLink RX6 23 RX3 ∈ ks_all ∧ Cond.instantiable RX3 7 ∈ ks_all ∧ Cond.initialized RX3 ∈ ks_all := ⟨kw 84 (by decide +kernel), kw 85 (by decide +kernel), kw 28 (by decide +kernel)⟩
theorem kn_RX6_25 : ks_sIN RX6 25 yX3_init "KeyholeNews" cX3_init 1 0 := ⟨⟨by decide +kernel, kw 87 (by decide +kernel), kw 28 (by decide +kernel), kw 88 (by decide +kernel)⟩, ⟨by decide +kernel, by decide +kernel, by decide +kernel⟩, by decide +kernel⟩
theorem kz_RX6_33 : Cond.classLink RX6 33 RX0 ∈ ks_all ∧ Cond.instantiable RX0 3 ∈ ks_all ∧ Cond.initialized RX0 ∈ ks_all := ⟨kw 119 (by decide +kernel), kw 120 (by decide +kernel), kw 29 (by decide +kernel)⟩
theorem ko_RX0 : Cond.methodLink RX0 3 objectInit ∈ ks_all ∧ Cond.instanceMethod objectInit ∈ ks_all ∧ Cond.code objectInit ⟨#[0xb1]⟩ 1 none ∈ ks_all := ⟨kw 124 (by decide +kernel), kw 41 (by decide +kernel), kw 42 (by decide +kernel)⟩
set_option maxHeartbeats 8000000 in
set_option maxRecDepth 20000 in
theorem c_newStands_14 (l : Launch) (G : ks_G) (base : Nat) : KR l G base 2 15 112 yX6_newStands cX6_newStands 3 (.array (.object "KeyholeNews$Stand")) [.int (nI 14)] sA17 sA46 10 M0 L0 (fun M1 L1 => M1 = M0 ∧ L1 = L0) := by
  refine k_metr (by decide) (Nat.le_of_ble_eq_true rfl) (fun K hK hRm X Y => ?_)
  subst hK
  refine r_pl [(0, .int (nI 14))] ⟨rfl, trivial⟩ ?_
  refine r_iload_n (q := 1) (i := 0) (j := 0) (x := nI 14) X rfl rfl dX6_newStands_0 rfl ?_
  refine r_iconst (q := 2) (v := nI 0) X kc_0 dX6_newStands_1 rfl ?_
  refine r_max (q := 5) (v := nI 14) X (by decide) km_RX6_225 ⟨Nat.zero_le _, Nat.zero_le _⟩ (by decide) (Nat.le_of_ble_eq_true rfl) dX6_newStands_2 rfl ?_
  refine r_newq (q := 8) (j := 10) X (by decide) kz_RX6_23.1 (by decide +kernel) (show _ = sA18 from rfl) (by rw [hRm]; exact Nat.le_of_ble_eq_true rfl) (by rw [hRm]; exact Nat.le_of_ble_eq_true rfl) dX6_newStands_5 rfl ?_
  refine r_cs 1 14 rfl rfl ?_
  refine r_astore_n (q := 9) (i := 1) (j := 1) X rfl (Nat.le_of_ble_eq_true rfl) dX6_newStands_8 rfl ?_
  refine r_iconst (q := 10) (v := nI 0) X kc_0 dX6_newStands_9 rfl ?_
  refine r_istore_n (q := 11) (i := 2) (j := 2) X rfl (Nat.le_of_ble_eq_true rfl) dX6_newStands_10 rfl ?_
  refine r_iload_n (q := 12) (i := 2) (j := 2) (x := nI 0) X rfl rfl dX6_newStands_11 rfl ?_
  refine r_aload_n (q := 13) (i := 1) (j := 1) (x := base + 10) X rfl rfl dX6_newStands_12 rfl ?_
  refine r_alen (q := 14) (i := 10) (a := 2) (n := 14) (ds := [(2, 0), (2, 0), (2, 0), (2, 0), (2, 0), (2, 0), (2, 0), (2, 0), (2, 0), (2, 0), (2, 0), (2, 0), (2, 0), (2, 0)]) X (by decide +kernel) dX6_newStands_13 rfl ?_
  refine r_icmp_ge (q := 17) (tgt := 33) X (by decide) dX6_newStands_14 rfl (fun c => absurd c (by decide)) (fun _ => ?_)
  refine r_aload_n (q := 18) (i := 1) (j := 1) (x := base + 10) X rfl rfl dX6_newStands_17 rfl ?_
  refine r_iload_n (q := 19) (i := 2) (j := 2) (x := nI 0) X rfl rfl dX6_newStands_18 rfl ?_
  refine r_new (q := 22) (j := 11) (ds := [(0, 0), (0, 0), (0, 0), (0, 0), (0, 0), (0, 0), (0, 0)]) X kX3 kz_RX6_23 tyX3 tyX3_ok (fun j hj => by rcases (show j = 0 ∨ j = 1 ∨ j = 2 ∨ j = 3 ∨ j = 4 ∨ j = 5 ∨ j = 6 by omega) with rfl | rfl | rfl | rfl | rfl | rfl | rfl <;> rfl) (by decide +kernel) (show _ = sA19 from rfl) (by rw [hRm]; exact Nat.le_of_ble_eq_true rfl) (by rw [hRm]; exact Nat.le_of_ble_eq_true rfl) dX6_newStands_19 rfl ?_
  refine r_cs 2 21 rfl rfl ?_
  refine r_dup (q := 23) X rfl dX6_newStands_22 rfl ?_
  refine r_callINv (q := 26) X (c_StandInit K.2.1 G base sA19 11 (by decide +kernel)) kn_RX6_25 (by decide) (by decide) ⟨(by rw [hRm]; exact Nat.le_of_ble_eq_true rfl), (by rw [hRm]; exact Nat.le_of_ble_eq_true rfl)⟩ rfl (Nat.le_of_ble_eq_true rfl) dX6_newStands_23 rfl (fun M1 L1 hp => ?_)
  obtain ⟨rfl, rfl⟩ := hp
  refine r_cs 2 21 rfl rfl ?_
  refine r_aast (q := 27) (i := 10) (n := 14) (ds := [(2, 0), (2, 0), (2, 0), (2, 0), (2, 0), (2, 0), (2, 0), (2, 0), (2, 0), (2, 0), (2, 0), (2, 0), (2, 0), (2, 0)]) (a := 0) (j := 11) (ds2 := [(0, 0), (0, 0), (0, 0), (0, 0), (0, 0), (0, 0), (0, 0)]) X (by decide +kernel) (by decide) (by decide) rfl (by decide +kernel) (show _ = sA20 from rfl) dX6_newStands_26 rfl ?_
  refine r_iinc (q := 30) (i := 2) (x := nI 0) (v := nI 1) X rfl (Nat.le_of_ble_eq_true rfl) (kinc 1 rfl) dX6_newStands_27 rfl ?_
  refine r_goto (tgt := 11) X (by decide) dX6_newStands_30 ?_
  refine r_iload_n (q := 12) (i := 2) (j := 2) (x := nI 1) X rfl rfl dX6_newStands_11 rfl ?_
  refine r_aload_n (q := 13) (i := 1) (j := 1) (x := base + 10) X rfl rfl dX6_newStands_12 rfl ?_
  refine r_alen (q := 14) (i := 10) (a := 2) (n := 14) (ds := [(3, 11), (2, 0), (2, 0), (2, 0), (2, 0), (2, 0), (2, 0), (2, 0), (2, 0), (2, 0), (2, 0), (2, 0), (2, 0), (2, 0)]) X (by decide +kernel) dX6_newStands_13 rfl ?_
  refine r_icmp_ge (q := 17) (tgt := 33) X (by decide) dX6_newStands_14 rfl (fun c => absurd c (by decide)) (fun _ => ?_)
  refine r_aload_n (q := 18) (i := 1) (j := 1) (x := base + 10) X rfl rfl dX6_newStands_17 rfl ?_
  refine r_iload_n (q := 19) (i := 2) (j := 2) (x := nI 1) X rfl rfl dX6_newStands_18 rfl ?_
  refine r_new (q := 22) (j := 12) (ds := [(0, 0), (0, 0), (0, 0), (0, 0), (0, 0), (0, 0), (0, 0)]) X kX3 kz_RX6_23 tyX3 tyX3_ok (fun j hj => by rcases (show j = 0 ∨ j = 1 ∨ j = 2 ∨ j = 3 ∨ j = 4 ∨ j = 5 ∨ j = 6 by omega) with rfl | rfl | rfl | rfl | rfl | rfl | rfl <;> rfl) (by decide +kernel) (show _ = sA21 from rfl) (by rw [hRm]; exact Nat.le_of_ble_eq_true rfl) (by rw [hRm]; exact Nat.le_of_ble_eq_true rfl) dX6_newStands_19 rfl ?_
  refine r_cs 3 28 rfl rfl ?_
  refine r_dup (q := 23) X rfl dX6_newStands_22 rfl ?_
  refine r_callINv (q := 26) X (c_StandInit K.2.1 G base sA21 12 (by decide +kernel)) kn_RX6_25 (by decide) (by decide) ⟨(by rw [hRm]; exact Nat.le_of_ble_eq_true rfl), (by rw [hRm]; exact Nat.le_of_ble_eq_true rfl)⟩ rfl (Nat.le_of_ble_eq_true rfl) dX6_newStands_23 rfl (fun M1 L1 hp => ?_)
  obtain ⟨rfl, rfl⟩ := hp
  refine r_cs 3 28 rfl rfl ?_
  refine r_aast (q := 27) (i := 10) (n := 14) (ds := [(3, 11), (2, 0), (2, 0), (2, 0), (2, 0), (2, 0), (2, 0), (2, 0), (2, 0), (2, 0), (2, 0), (2, 0), (2, 0), (2, 0)]) (a := 1) (j := 12) (ds2 := [(0, 0), (0, 0), (0, 0), (0, 0), (0, 0), (0, 0), (0, 0)]) X (by decide +kernel) (by decide) (by decide) rfl (by decide +kernel) (show _ = sA22 from rfl) dX6_newStands_26 rfl ?_
  refine r_iinc (q := 30) (i := 2) (x := nI 1) (v := nI 2) X rfl (Nat.le_of_ble_eq_true rfl) (kinc 1 rfl) dX6_newStands_27 rfl ?_
  refine r_goto (tgt := 11) X (by decide) dX6_newStands_30 ?_
  refine r_iload_n (q := 12) (i := 2) (j := 2) (x := nI 2) X rfl rfl dX6_newStands_11 rfl ?_
  refine r_aload_n (q := 13) (i := 1) (j := 1) (x := base + 10) X rfl rfl dX6_newStands_12 rfl ?_
  refine r_alen (q := 14) (i := 10) (a := 2) (n := 14) (ds := [(3, 11), (3, 12), (2, 0), (2, 0), (2, 0), (2, 0), (2, 0), (2, 0), (2, 0), (2, 0), (2, 0), (2, 0), (2, 0), (2, 0)]) X (by decide +kernel) dX6_newStands_13 rfl ?_
  refine r_icmp_ge (q := 17) (tgt := 33) X (by decide) dX6_newStands_14 rfl (fun c => absurd c (by decide)) (fun _ => ?_)
  refine r_aload_n (q := 18) (i := 1) (j := 1) (x := base + 10) X rfl rfl dX6_newStands_17 rfl ?_
  refine r_iload_n (q := 19) (i := 2) (j := 2) (x := nI 2) X rfl rfl dX6_newStands_18 rfl ?_
  refine r_new (q := 22) (j := 13) (ds := [(0, 0), (0, 0), (0, 0), (0, 0), (0, 0), (0, 0), (0, 0)]) X kX3 kz_RX6_23 tyX3 tyX3_ok (fun j hj => by rcases (show j = 0 ∨ j = 1 ∨ j = 2 ∨ j = 3 ∨ j = 4 ∨ j = 5 ∨ j = 6 by omega) with rfl | rfl | rfl | rfl | rfl | rfl | rfl <;> rfl) (by decide +kernel) (show _ = sA23 from rfl) (by rw [hRm]; exact Nat.le_of_ble_eq_true rfl) (by rw [hRm]; exact Nat.le_of_ble_eq_true rfl) dX6_newStands_19 rfl ?_
  refine r_cs 4 35 rfl rfl ?_
  refine r_dup (q := 23) X rfl dX6_newStands_22 rfl ?_
  refine r_callINv (q := 26) X (c_StandInit K.2.1 G base sA23 13 (by decide +kernel)) kn_RX6_25 (by decide) (by decide) ⟨(by rw [hRm]; exact Nat.le_of_ble_eq_true rfl), (by rw [hRm]; exact Nat.le_of_ble_eq_true rfl)⟩ rfl (Nat.le_of_ble_eq_true rfl) dX6_newStands_23 rfl (fun M1 L1 hp => ?_)
  obtain ⟨rfl, rfl⟩ := hp
  refine r_cs 4 35 rfl rfl ?_
  refine r_aast (q := 27) (i := 10) (n := 14) (ds := [(3, 11), (3, 12), (2, 0), (2, 0), (2, 0), (2, 0), (2, 0), (2, 0), (2, 0), (2, 0), (2, 0), (2, 0), (2, 0), (2, 0)]) (a := 2) (j := 13) (ds2 := [(0, 0), (0, 0), (0, 0), (0, 0), (0, 0), (0, 0), (0, 0)]) X (by decide +kernel) (by decide) (by decide) rfl (by decide +kernel) (show _ = sA24 from rfl) dX6_newStands_26 rfl ?_
  refine r_iinc (q := 30) (i := 2) (x := nI 2) (v := nI 3) X rfl (Nat.le_of_ble_eq_true rfl) (kinc 1 rfl) dX6_newStands_27 rfl ?_
  refine r_goto (tgt := 11) X (by decide) dX6_newStands_30 ?_
  refine r_iload_n (q := 12) (i := 2) (j := 2) (x := nI 3) X rfl rfl dX6_newStands_11 rfl ?_
  refine r_aload_n (q := 13) (i := 1) (j := 1) (x := base + 10) X rfl rfl dX6_newStands_12 rfl ?_
  refine r_alen (q := 14) (i := 10) (a := 2) (n := 14) (ds := [(3, 11), (3, 12), (3, 13), (2, 0), (2, 0), (2, 0), (2, 0), (2, 0), (2, 0), (2, 0), (2, 0), (2, 0), (2, 0), (2, 0)]) X (by decide +kernel) dX6_newStands_13 rfl ?_
  refine r_icmp_ge (q := 17) (tgt := 33) X (by decide) dX6_newStands_14 rfl (fun c => absurd c (by decide)) (fun _ => ?_)
  refine r_aload_n (q := 18) (i := 1) (j := 1) (x := base + 10) X rfl rfl dX6_newStands_17 rfl ?_
  refine r_iload_n (q := 19) (i := 2) (j := 2) (x := nI 3) X rfl rfl dX6_newStands_18 rfl ?_
  refine r_new (q := 22) (j := 14) (ds := [(0, 0), (0, 0), (0, 0), (0, 0), (0, 0), (0, 0), (0, 0)]) X kX3 kz_RX6_23 tyX3 tyX3_ok (fun j hj => by rcases (show j = 0 ∨ j = 1 ∨ j = 2 ∨ j = 3 ∨ j = 4 ∨ j = 5 ∨ j = 6 by omega) with rfl | rfl | rfl | rfl | rfl | rfl | rfl <;> rfl) (by decide +kernel) (show _ = sA25 from rfl) (by rw [hRm]; exact Nat.le_of_ble_eq_true rfl) (by rw [hRm]; exact Nat.le_of_ble_eq_true rfl) dX6_newStands_19 rfl ?_
  refine r_cs 5 42 rfl rfl ?_
  refine r_dup (q := 23) X rfl dX6_newStands_22 rfl ?_
  refine r_callINv (q := 26) X (c_StandInit K.2.1 G base sA25 14 (by decide +kernel)) kn_RX6_25 (by decide) (by decide) ⟨(by rw [hRm]; exact Nat.le_of_ble_eq_true rfl), (by rw [hRm]; exact Nat.le_of_ble_eq_true rfl)⟩ rfl (Nat.le_of_ble_eq_true rfl) dX6_newStands_23 rfl (fun M1 L1 hp => ?_)
  obtain ⟨rfl, rfl⟩ := hp
  refine r_cs 5 42 rfl rfl ?_
  refine r_aast (q := 27) (i := 10) (n := 14) (ds := [(3, 11), (3, 12), (3, 13), (2, 0), (2, 0), (2, 0), (2, 0), (2, 0), (2, 0), (2, 0), (2, 0), (2, 0), (2, 0), (2, 0)]) (a := 3) (j := 14) (ds2 := [(0, 0), (0, 0), (0, 0), (0, 0), (0, 0), (0, 0), (0, 0)]) X (by decide +kernel) (by decide) (by decide) rfl (by decide +kernel) (show _ = sA26 from rfl) dX6_newStands_26 rfl ?_
  refine r_iinc (q := 30) (i := 2) (x := nI 3) (v := nI 4) X rfl (Nat.le_of_ble_eq_true rfl) (kinc 1 rfl) dX6_newStands_27 rfl ?_
  refine r_goto (tgt := 11) X (by decide) dX6_newStands_30 ?_
  refine r_iload_n (q := 12) (i := 2) (j := 2) (x := nI 4) X rfl rfl dX6_newStands_11 rfl ?_
  refine r_aload_n (q := 13) (i := 1) (j := 1) (x := base + 10) X rfl rfl dX6_newStands_12 rfl ?_
  refine r_alen (q := 14) (i := 10) (a := 2) (n := 14) (ds := [(3, 11), (3, 12), (3, 13), (3, 14), (2, 0), (2, 0), (2, 0), (2, 0), (2, 0), (2, 0), (2, 0), (2, 0), (2, 0), (2, 0)]) X (by decide +kernel) dX6_newStands_13 rfl ?_
  refine r_icmp_ge (q := 17) (tgt := 33) X (by decide) dX6_newStands_14 rfl (fun c => absurd c (by decide)) (fun _ => ?_)
  refine r_aload_n (q := 18) (i := 1) (j := 1) (x := base + 10) X rfl rfl dX6_newStands_17 rfl ?_
  refine r_iload_n (q := 19) (i := 2) (j := 2) (x := nI 4) X rfl rfl dX6_newStands_18 rfl ?_
  refine r_new (q := 22) (j := 15) (ds := [(0, 0), (0, 0), (0, 0), (0, 0), (0, 0), (0, 0), (0, 0)]) X kX3 kz_RX6_23 tyX3 tyX3_ok (fun j hj => by rcases (show j = 0 ∨ j = 1 ∨ j = 2 ∨ j = 3 ∨ j = 4 ∨ j = 5 ∨ j = 6 by omega) with rfl | rfl | rfl | rfl | rfl | rfl | rfl <;> rfl) (by decide +kernel) (show _ = sA27 from rfl) (by rw [hRm]; exact Nat.le_of_ble_eq_true rfl) (by rw [hRm]; exact Nat.le_of_ble_eq_true rfl) dX6_newStands_19 rfl ?_
  refine r_cs 6 49 rfl rfl ?_
  refine r_dup (q := 23) X rfl dX6_newStands_22 rfl ?_
  refine r_callINv (q := 26) X (c_StandInit K.2.1 G base sA27 15 (by decide +kernel)) kn_RX6_25 (by decide) (by decide) ⟨(by rw [hRm]; exact Nat.le_of_ble_eq_true rfl), (by rw [hRm]; exact Nat.le_of_ble_eq_true rfl)⟩ rfl (Nat.le_of_ble_eq_true rfl) dX6_newStands_23 rfl (fun M1 L1 hp => ?_)
  obtain ⟨rfl, rfl⟩ := hp
  refine r_cs 6 49 rfl rfl ?_
  refine r_aast (q := 27) (i := 10) (n := 14) (ds := [(3, 11), (3, 12), (3, 13), (3, 14), (2, 0), (2, 0), (2, 0), (2, 0), (2, 0), (2, 0), (2, 0), (2, 0), (2, 0), (2, 0)]) (a := 4) (j := 15) (ds2 := [(0, 0), (0, 0), (0, 0), (0, 0), (0, 0), (0, 0), (0, 0)]) X (by decide +kernel) (by decide) (by decide) rfl (by decide +kernel) (show _ = sA28 from rfl) dX6_newStands_26 rfl ?_
  refine r_iinc (q := 30) (i := 2) (x := nI 4) (v := nI 5) X rfl (Nat.le_of_ble_eq_true rfl) (kinc 1 rfl) dX6_newStands_27 rfl ?_
  refine r_goto (tgt := 11) X (by decide) dX6_newStands_30 ?_
  refine r_iload_n (q := 12) (i := 2) (j := 2) (x := nI 5) X rfl rfl dX6_newStands_11 rfl ?_
  refine r_aload_n (q := 13) (i := 1) (j := 1) (x := base + 10) X rfl rfl dX6_newStands_12 rfl ?_
  refine r_alen (q := 14) (i := 10) (a := 2) (n := 14) (ds := [(3, 11), (3, 12), (3, 13), (3, 14), (3, 15), (2, 0), (2, 0), (2, 0), (2, 0), (2, 0), (2, 0), (2, 0), (2, 0), (2, 0)]) X (by decide +kernel) dX6_newStands_13 rfl ?_
  refine r_icmp_ge (q := 17) (tgt := 33) X (by decide) dX6_newStands_14 rfl (fun c => absurd c (by decide)) (fun _ => ?_)
  refine r_aload_n (q := 18) (i := 1) (j := 1) (x := base + 10) X rfl rfl dX6_newStands_17 rfl ?_
  refine r_iload_n (q := 19) (i := 2) (j := 2) (x := nI 5) X rfl rfl dX6_newStands_18 rfl ?_
  refine r_new (q := 22) (j := 16) (ds := [(0, 0), (0, 0), (0, 0), (0, 0), (0, 0), (0, 0), (0, 0)]) X kX3 kz_RX6_23 tyX3 tyX3_ok (fun j hj => by rcases (show j = 0 ∨ j = 1 ∨ j = 2 ∨ j = 3 ∨ j = 4 ∨ j = 5 ∨ j = 6 by omega) with rfl | rfl | rfl | rfl | rfl | rfl | rfl <;> rfl) (by decide +kernel) (show _ = sA29 from rfl) (by rw [hRm]; exact Nat.le_of_ble_eq_true rfl) (by rw [hRm]; exact Nat.le_of_ble_eq_true rfl) dX6_newStands_19 rfl ?_
  refine r_cs 7 56 rfl rfl ?_
  refine r_dup (q := 23) X rfl dX6_newStands_22 rfl ?_
  refine r_callINv (q := 26) X (c_StandInit K.2.1 G base sA29 16 (by decide +kernel)) kn_RX6_25 (by decide) (by decide) ⟨(by rw [hRm]; exact Nat.le_of_ble_eq_true rfl), (by rw [hRm]; exact Nat.le_of_ble_eq_true rfl)⟩ rfl (Nat.le_of_ble_eq_true rfl) dX6_newStands_23 rfl (fun M1 L1 hp => ?_)
  obtain ⟨rfl, rfl⟩ := hp
  refine r_cs 7 56 rfl rfl ?_
  refine r_aast (q := 27) (i := 10) (n := 14) (ds := [(3, 11), (3, 12), (3, 13), (3, 14), (3, 15), (2, 0), (2, 0), (2, 0), (2, 0), (2, 0), (2, 0), (2, 0), (2, 0), (2, 0)]) (a := 5) (j := 16) (ds2 := [(0, 0), (0, 0), (0, 0), (0, 0), (0, 0), (0, 0), (0, 0)]) X (by decide +kernel) (by decide) (by decide) rfl (by decide +kernel) (show _ = sA30 from rfl) dX6_newStands_26 rfl ?_
  refine r_iinc (q := 30) (i := 2) (x := nI 5) (v := nI 6) X rfl (Nat.le_of_ble_eq_true rfl) (kinc 1 rfl) dX6_newStands_27 rfl ?_
  refine r_goto (tgt := 11) X (by decide) dX6_newStands_30 ?_
  refine r_iload_n (q := 12) (i := 2) (j := 2) (x := nI 6) X rfl rfl dX6_newStands_11 rfl ?_
  refine r_aload_n (q := 13) (i := 1) (j := 1) (x := base + 10) X rfl rfl dX6_newStands_12 rfl ?_
  refine r_alen (q := 14) (i := 10) (a := 2) (n := 14) (ds := [(3, 11), (3, 12), (3, 13), (3, 14), (3, 15), (3, 16), (2, 0), (2, 0), (2, 0), (2, 0), (2, 0), (2, 0), (2, 0), (2, 0)]) X (by decide +kernel) dX6_newStands_13 rfl ?_
  refine r_icmp_ge (q := 17) (tgt := 33) X (by decide) dX6_newStands_14 rfl (fun c => absurd c (by decide)) (fun _ => ?_)
  refine r_aload_n (q := 18) (i := 1) (j := 1) (x := base + 10) X rfl rfl dX6_newStands_17 rfl ?_
  refine r_iload_n (q := 19) (i := 2) (j := 2) (x := nI 6) X rfl rfl dX6_newStands_18 rfl ?_
  refine r_new (q := 22) (j := 17) (ds := [(0, 0), (0, 0), (0, 0), (0, 0), (0, 0), (0, 0), (0, 0)]) X kX3 kz_RX6_23 tyX3 tyX3_ok (fun j hj => by rcases (show j = 0 ∨ j = 1 ∨ j = 2 ∨ j = 3 ∨ j = 4 ∨ j = 5 ∨ j = 6 by omega) with rfl | rfl | rfl | rfl | rfl | rfl | rfl <;> rfl) (by decide +kernel) (show _ = sA31 from rfl) (by rw [hRm]; exact Nat.le_of_ble_eq_true rfl) (by rw [hRm]; exact Nat.le_of_ble_eq_true rfl) dX6_newStands_19 rfl ?_
  refine r_cs 8 63 rfl rfl ?_
  refine r_dup (q := 23) X rfl dX6_newStands_22 rfl ?_
  refine r_callINv (q := 26) X (c_StandInit K.2.1 G base sA31 17 (by decide +kernel)) kn_RX6_25 (by decide) (by decide) ⟨(by rw [hRm]; exact Nat.le_of_ble_eq_true rfl), (by rw [hRm]; exact Nat.le_of_ble_eq_true rfl)⟩ rfl (Nat.le_of_ble_eq_true rfl) dX6_newStands_23 rfl (fun M1 L1 hp => ?_)
  obtain ⟨rfl, rfl⟩ := hp
  refine r_cs 8 63 rfl rfl ?_
  refine r_aast (q := 27) (i := 10) (n := 14) (ds := [(3, 11), (3, 12), (3, 13), (3, 14), (3, 15), (3, 16), (2, 0), (2, 0), (2, 0), (2, 0), (2, 0), (2, 0), (2, 0), (2, 0)]) (a := 6) (j := 17) (ds2 := [(0, 0), (0, 0), (0, 0), (0, 0), (0, 0), (0, 0), (0, 0)]) X (by decide +kernel) (by decide) (by decide) rfl (by decide +kernel) (show _ = sA32 from rfl) dX6_newStands_26 rfl ?_
  refine r_iinc (q := 30) (i := 2) (x := nI 6) (v := nI 7) X rfl (Nat.le_of_ble_eq_true rfl) (kinc 1 rfl) dX6_newStands_27 rfl ?_
  refine r_goto (tgt := 11) X (by decide) dX6_newStands_30 ?_
  refine r_iload_n (q := 12) (i := 2) (j := 2) (x := nI 7) X rfl rfl dX6_newStands_11 rfl ?_
  refine r_aload_n (q := 13) (i := 1) (j := 1) (x := base + 10) X rfl rfl dX6_newStands_12 rfl ?_
  refine r_alen (q := 14) (i := 10) (a := 2) (n := 14) (ds := [(3, 11), (3, 12), (3, 13), (3, 14), (3, 15), (3, 16), (3, 17), (2, 0), (2, 0), (2, 0), (2, 0), (2, 0), (2, 0), (2, 0)]) X (by decide +kernel) dX6_newStands_13 rfl ?_
  refine r_icmp_ge (q := 17) (tgt := 33) X (by decide) dX6_newStands_14 rfl (fun c => absurd c (by decide)) (fun _ => ?_)
  refine r_aload_n (q := 18) (i := 1) (j := 1) (x := base + 10) X rfl rfl dX6_newStands_17 rfl ?_
  refine r_iload_n (q := 19) (i := 2) (j := 2) (x := nI 7) X rfl rfl dX6_newStands_18 rfl ?_
  refine r_new (q := 22) (j := 18) (ds := [(0, 0), (0, 0), (0, 0), (0, 0), (0, 0), (0, 0), (0, 0)]) X kX3 kz_RX6_23 tyX3 tyX3_ok (fun j hj => by rcases (show j = 0 ∨ j = 1 ∨ j = 2 ∨ j = 3 ∨ j = 4 ∨ j = 5 ∨ j = 6 by omega) with rfl | rfl | rfl | rfl | rfl | rfl | rfl <;> rfl) (by decide +kernel) (show _ = sA33 from rfl) (by rw [hRm]; exact Nat.le_of_ble_eq_true rfl) (by rw [hRm]; exact Nat.le_of_ble_eq_true rfl) dX6_newStands_19 rfl ?_
  refine r_cs 9 70 rfl rfl ?_
  refine r_dup (q := 23) X rfl dX6_newStands_22 rfl ?_
  refine r_callINv (q := 26) X (c_StandInit K.2.1 G base sA33 18 (by decide +kernel)) kn_RX6_25 (by decide) (by decide) ⟨(by rw [hRm]; exact Nat.le_of_ble_eq_true rfl), (by rw [hRm]; exact Nat.le_of_ble_eq_true rfl)⟩ rfl (Nat.le_of_ble_eq_true rfl) dX6_newStands_23 rfl (fun M1 L1 hp => ?_)
  obtain ⟨rfl, rfl⟩ := hp
  refine r_cs 9 70 rfl rfl ?_
  refine r_aast (q := 27) (i := 10) (n := 14) (ds := [(3, 11), (3, 12), (3, 13), (3, 14), (3, 15), (3, 16), (3, 17), (2, 0), (2, 0), (2, 0), (2, 0), (2, 0), (2, 0), (2, 0)]) (a := 7) (j := 18) (ds2 := [(0, 0), (0, 0), (0, 0), (0, 0), (0, 0), (0, 0), (0, 0)]) X (by decide +kernel) (by decide) (by decide) rfl (by decide +kernel) (show _ = sA34 from rfl) dX6_newStands_26 rfl ?_
  refine r_iinc (q := 30) (i := 2) (x := nI 7) (v := nI 8) X rfl (Nat.le_of_ble_eq_true rfl) (kinc 1 rfl) dX6_newStands_27 rfl ?_
  refine r_goto (tgt := 11) X (by decide) dX6_newStands_30 ?_
  refine r_iload_n (q := 12) (i := 2) (j := 2) (x := nI 8) X rfl rfl dX6_newStands_11 rfl ?_
  refine r_aload_n (q := 13) (i := 1) (j := 1) (x := base + 10) X rfl rfl dX6_newStands_12 rfl ?_
  refine r_alen (q := 14) (i := 10) (a := 2) (n := 14) (ds := [(3, 11), (3, 12), (3, 13), (3, 14), (3, 15), (3, 16), (3, 17), (3, 18), (2, 0), (2, 0), (2, 0), (2, 0), (2, 0), (2, 0)]) X (by decide +kernel) dX6_newStands_13 rfl ?_
  refine r_icmp_ge (q := 17) (tgt := 33) X (by decide) dX6_newStands_14 rfl (fun c => absurd c (by decide)) (fun _ => ?_)
  refine r_aload_n (q := 18) (i := 1) (j := 1) (x := base + 10) X rfl rfl dX6_newStands_17 rfl ?_
  refine r_iload_n (q := 19) (i := 2) (j := 2) (x := nI 8) X rfl rfl dX6_newStands_18 rfl ?_
  refine r_new (q := 22) (j := 19) (ds := [(0, 0), (0, 0), (0, 0), (0, 0), (0, 0), (0, 0), (0, 0)]) X kX3 kz_RX6_23 tyX3 tyX3_ok (fun j hj => by rcases (show j = 0 ∨ j = 1 ∨ j = 2 ∨ j = 3 ∨ j = 4 ∨ j = 5 ∨ j = 6 by omega) with rfl | rfl | rfl | rfl | rfl | rfl | rfl <;> rfl) (by decide +kernel) (show _ = sA35 from rfl) (by rw [hRm]; exact Nat.le_of_ble_eq_true rfl) (by rw [hRm]; exact Nat.le_of_ble_eq_true rfl) dX6_newStands_19 rfl ?_
  refine r_cs 10 77 rfl rfl ?_
  refine r_dup (q := 23) X rfl dX6_newStands_22 rfl ?_
  refine r_callINv (q := 26) X (c_StandInit K.2.1 G base sA35 19 (by decide +kernel)) kn_RX6_25 (by decide) (by decide) ⟨(by rw [hRm]; exact Nat.le_of_ble_eq_true rfl), (by rw [hRm]; exact Nat.le_of_ble_eq_true rfl)⟩ rfl (Nat.le_of_ble_eq_true rfl) dX6_newStands_23 rfl (fun M1 L1 hp => ?_)
  obtain ⟨rfl, rfl⟩ := hp
  refine r_cs 10 77 rfl rfl ?_
  refine r_aast (q := 27) (i := 10) (n := 14) (ds := [(3, 11), (3, 12), (3, 13), (3, 14), (3, 15), (3, 16), (3, 17), (3, 18), (2, 0), (2, 0), (2, 0), (2, 0), (2, 0), (2, 0)]) (a := 8) (j := 19) (ds2 := [(0, 0), (0, 0), (0, 0), (0, 0), (0, 0), (0, 0), (0, 0)]) X (by decide +kernel) (by decide) (by decide) rfl (by decide +kernel) (show _ = sA36 from rfl) dX6_newStands_26 rfl ?_
  refine r_iinc (q := 30) (i := 2) (x := nI 8) (v := nI 9) X rfl (Nat.le_of_ble_eq_true rfl) (kinc 1 rfl) dX6_newStands_27 rfl ?_
  refine r_goto (tgt := 11) X (by decide) dX6_newStands_30 ?_
  refine r_iload_n (q := 12) (i := 2) (j := 2) (x := nI 9) X rfl rfl dX6_newStands_11 rfl ?_
  refine r_aload_n (q := 13) (i := 1) (j := 1) (x := base + 10) X rfl rfl dX6_newStands_12 rfl ?_
  refine r_alen (q := 14) (i := 10) (a := 2) (n := 14) (ds := [(3, 11), (3, 12), (3, 13), (3, 14), (3, 15), (3, 16), (3, 17), (3, 18), (3, 19), (2, 0), (2, 0), (2, 0), (2, 0), (2, 0)]) X (by decide +kernel) dX6_newStands_13 rfl ?_
  refine r_icmp_ge (q := 17) (tgt := 33) X (by decide) dX6_newStands_14 rfl (fun c => absurd c (by decide)) (fun _ => ?_)
  refine r_aload_n (q := 18) (i := 1) (j := 1) (x := base + 10) X rfl rfl dX6_newStands_17 rfl ?_
  refine r_iload_n (q := 19) (i := 2) (j := 2) (x := nI 9) X rfl rfl dX6_newStands_18 rfl ?_
  refine r_new (q := 22) (j := 20) (ds := [(0, 0), (0, 0), (0, 0), (0, 0), (0, 0), (0, 0), (0, 0)]) X kX3 kz_RX6_23 tyX3 tyX3_ok (fun j hj => by rcases (show j = 0 ∨ j = 1 ∨ j = 2 ∨ j = 3 ∨ j = 4 ∨ j = 5 ∨ j = 6 by omega) with rfl | rfl | rfl | rfl | rfl | rfl | rfl <;> rfl) (by decide +kernel) (show _ = sA37 from rfl) (by rw [hRm]; exact Nat.le_of_ble_eq_true rfl) (by rw [hRm]; exact Nat.le_of_ble_eq_true rfl) dX6_newStands_19 rfl ?_
  refine r_cs 11 84 rfl rfl ?_
  refine r_dup (q := 23) X rfl dX6_newStands_22 rfl ?_
  refine r_callINv (q := 26) X (c_StandInit K.2.1 G base sA37 20 (by decide +kernel)) kn_RX6_25 (by decide) (by decide) ⟨(by rw [hRm]; exact Nat.le_of_ble_eq_true rfl), (by rw [hRm]; exact Nat.le_of_ble_eq_true rfl)⟩ rfl (Nat.le_of_ble_eq_true rfl) dX6_newStands_23 rfl (fun M1 L1 hp => ?_)
  obtain ⟨rfl, rfl⟩ := hp
  refine r_cs 11 84 rfl rfl ?_
  refine r_aast (q := 27) (i := 10) (n := 14) (ds := [(3, 11), (3, 12), (3, 13), (3, 14), (3, 15), (3, 16), (3, 17), (3, 18), (3, 19), (2, 0), (2, 0), (2, 0), (2, 0), (2, 0)]) (a := 9) (j := 20) (ds2 := [(0, 0), (0, 0), (0, 0), (0, 0), (0, 0), (0, 0), (0, 0)]) X (by decide +kernel) (by decide) (by decide) rfl (by decide +kernel) (show _ = sA38 from rfl) dX6_newStands_26 rfl ?_
  refine r_iinc (q := 30) (i := 2) (x := nI 9) (v := nI 10) X rfl (Nat.le_of_ble_eq_true rfl) (kinc 1 rfl) dX6_newStands_27 rfl ?_
  refine r_goto (tgt := 11) X (by decide) dX6_newStands_30 ?_
  refine r_iload_n (q := 12) (i := 2) (j := 2) (x := nI 10) X rfl rfl dX6_newStands_11 rfl ?_
  refine r_aload_n (q := 13) (i := 1) (j := 1) (x := base + 10) X rfl rfl dX6_newStands_12 rfl ?_
  refine r_alen (q := 14) (i := 10) (a := 2) (n := 14) (ds := [(3, 11), (3, 12), (3, 13), (3, 14), (3, 15), (3, 16), (3, 17), (3, 18), (3, 19), (3, 20), (2, 0), (2, 0), (2, 0), (2, 0)]) X (by decide +kernel) dX6_newStands_13 rfl ?_
  refine r_icmp_ge (q := 17) (tgt := 33) X (by decide) dX6_newStands_14 rfl (fun c => absurd c (by decide)) (fun _ => ?_)
  refine r_aload_n (q := 18) (i := 1) (j := 1) (x := base + 10) X rfl rfl dX6_newStands_17 rfl ?_
  refine r_iload_n (q := 19) (i := 2) (j := 2) (x := nI 10) X rfl rfl dX6_newStands_18 rfl ?_
  refine r_new (q := 22) (j := 21) (ds := [(0, 0), (0, 0), (0, 0), (0, 0), (0, 0), (0, 0), (0, 0)]) X kX3 kz_RX6_23 tyX3 tyX3_ok (fun j hj => by rcases (show j = 0 ∨ j = 1 ∨ j = 2 ∨ j = 3 ∨ j = 4 ∨ j = 5 ∨ j = 6 by omega) with rfl | rfl | rfl | rfl | rfl | rfl | rfl <;> rfl) (by decide +kernel) (show _ = sA39 from rfl) (by rw [hRm]; exact Nat.le_of_ble_eq_true rfl) (by rw [hRm]; exact Nat.le_of_ble_eq_true rfl) dX6_newStands_19 rfl ?_
  refine r_cs 12 91 rfl rfl ?_
  refine r_dup (q := 23) X rfl dX6_newStands_22 rfl ?_
  refine r_callINv (q := 26) X (c_StandInit K.2.1 G base sA39 21 (by decide +kernel)) kn_RX6_25 (by decide) (by decide) ⟨(by rw [hRm]; exact Nat.le_of_ble_eq_true rfl), (by rw [hRm]; exact Nat.le_of_ble_eq_true rfl)⟩ rfl (Nat.le_of_ble_eq_true rfl) dX6_newStands_23 rfl (fun M1 L1 hp => ?_)
  obtain ⟨rfl, rfl⟩ := hp
  refine r_cs 12 91 rfl rfl ?_
  refine r_aast (q := 27) (i := 10) (n := 14) (ds := [(3, 11), (3, 12), (3, 13), (3, 14), (3, 15), (3, 16), (3, 17), (3, 18), (3, 19), (3, 20), (2, 0), (2, 0), (2, 0), (2, 0)]) (a := 10) (j := 21) (ds2 := [(0, 0), (0, 0), (0, 0), (0, 0), (0, 0), (0, 0), (0, 0)]) X (by decide +kernel) (by decide) (by decide) rfl (by decide +kernel) (show _ = sA40 from rfl) dX6_newStands_26 rfl ?_
  refine r_iinc (q := 30) (i := 2) (x := nI 10) (v := nI 11) X rfl (Nat.le_of_ble_eq_true rfl) (kinc 1 rfl) dX6_newStands_27 rfl ?_
  refine r_goto (tgt := 11) X (by decide) dX6_newStands_30 ?_
  refine r_iload_n (q := 12) (i := 2) (j := 2) (x := nI 11) X rfl rfl dX6_newStands_11 rfl ?_
  refine r_aload_n (q := 13) (i := 1) (j := 1) (x := base + 10) X rfl rfl dX6_newStands_12 rfl ?_
  refine r_alen (q := 14) (i := 10) (a := 2) (n := 14) (ds := [(3, 11), (3, 12), (3, 13), (3, 14), (3, 15), (3, 16), (3, 17), (3, 18), (3, 19), (3, 20), (3, 21), (2, 0), (2, 0), (2, 0)]) X (by decide +kernel) dX6_newStands_13 rfl ?_
  refine r_icmp_ge (q := 17) (tgt := 33) X (by decide) dX6_newStands_14 rfl (fun c => absurd c (by decide)) (fun _ => ?_)
  refine r_aload_n (q := 18) (i := 1) (j := 1) (x := base + 10) X rfl rfl dX6_newStands_17 rfl ?_
  refine r_iload_n (q := 19) (i := 2) (j := 2) (x := nI 11) X rfl rfl dX6_newStands_18 rfl ?_
  refine r_new (q := 22) (j := 22) (ds := [(0, 0), (0, 0), (0, 0), (0, 0), (0, 0), (0, 0), (0, 0)]) X kX3 kz_RX6_23 tyX3 tyX3_ok (fun j hj => by rcases (show j = 0 ∨ j = 1 ∨ j = 2 ∨ j = 3 ∨ j = 4 ∨ j = 5 ∨ j = 6 by omega) with rfl | rfl | rfl | rfl | rfl | rfl | rfl <;> rfl) (by decide +kernel) (show _ = sA41 from rfl) (by rw [hRm]; exact Nat.le_of_ble_eq_true rfl) (by rw [hRm]; exact Nat.le_of_ble_eq_true rfl) dX6_newStands_19 rfl ?_
  refine r_cs 13 98 rfl rfl ?_
  refine r_dup (q := 23) X rfl dX6_newStands_22 rfl ?_
  refine r_callINv (q := 26) X (c_StandInit K.2.1 G base sA41 22 (by decide +kernel)) kn_RX6_25 (by decide) (by decide) ⟨(by rw [hRm]; exact Nat.le_of_ble_eq_true rfl), (by rw [hRm]; exact Nat.le_of_ble_eq_true rfl)⟩ rfl (Nat.le_of_ble_eq_true rfl) dX6_newStands_23 rfl (fun M1 L1 hp => ?_)
  obtain ⟨rfl, rfl⟩ := hp
  refine r_cs 13 98 rfl rfl ?_
  refine r_aast (q := 27) (i := 10) (n := 14) (ds := [(3, 11), (3, 12), (3, 13), (3, 14), (3, 15), (3, 16), (3, 17), (3, 18), (3, 19), (3, 20), (3, 21), (2, 0), (2, 0), (2, 0)]) (a := 11) (j := 22) (ds2 := [(0, 0), (0, 0), (0, 0), (0, 0), (0, 0), (0, 0), (0, 0)]) X (by decide +kernel) (by decide) (by decide) rfl (by decide +kernel) (show _ = sA42 from rfl) dX6_newStands_26 rfl ?_
  refine r_iinc (q := 30) (i := 2) (x := nI 11) (v := nI 12) X rfl (Nat.le_of_ble_eq_true rfl) (kinc 1 rfl) dX6_newStands_27 rfl ?_
  refine r_goto (tgt := 11) X (by decide) dX6_newStands_30 ?_
  refine r_iload_n (q := 12) (i := 2) (j := 2) (x := nI 12) X rfl rfl dX6_newStands_11 rfl ?_
  refine r_aload_n (q := 13) (i := 1) (j := 1) (x := base + 10) X rfl rfl dX6_newStands_12 rfl ?_
  refine r_alen (q := 14) (i := 10) (a := 2) (n := 14) (ds := [(3, 11), (3, 12), (3, 13), (3, 14), (3, 15), (3, 16), (3, 17), (3, 18), (3, 19), (3, 20), (3, 21), (3, 22), (2, 0), (2, 0)]) X (by decide +kernel) dX6_newStands_13 rfl ?_
  refine r_icmp_ge (q := 17) (tgt := 33) X (by decide) dX6_newStands_14 rfl (fun c => absurd c (by decide)) (fun _ => ?_)
  refine r_aload_n (q := 18) (i := 1) (j := 1) (x := base + 10) X rfl rfl dX6_newStands_17 rfl ?_
  refine r_iload_n (q := 19) (i := 2) (j := 2) (x := nI 12) X rfl rfl dX6_newStands_18 rfl ?_
  refine r_new (q := 22) (j := 23) (ds := [(0, 0), (0, 0), (0, 0), (0, 0), (0, 0), (0, 0), (0, 0)]) X kX3 kz_RX6_23 tyX3 tyX3_ok (fun j hj => by rcases (show j = 0 ∨ j = 1 ∨ j = 2 ∨ j = 3 ∨ j = 4 ∨ j = 5 ∨ j = 6 by omega) with rfl | rfl | rfl | rfl | rfl | rfl | rfl <;> rfl) (by decide +kernel) (show _ = sA43 from rfl) (by rw [hRm]; exact Nat.le_of_ble_eq_true rfl) (by rw [hRm]; exact Nat.le_of_ble_eq_true rfl) dX6_newStands_19 rfl ?_
  refine r_cs 14 105 rfl rfl ?_
  refine r_dup (q := 23) X rfl dX6_newStands_22 rfl ?_
  refine r_callINv (q := 26) X (c_StandInit K.2.1 G base sA43 23 (by decide +kernel)) kn_RX6_25 (by decide) (by decide) ⟨(by rw [hRm]; exact Nat.le_of_ble_eq_true rfl), (by rw [hRm]; exact Nat.le_of_ble_eq_true rfl)⟩ rfl (Nat.le_of_ble_eq_true rfl) dX6_newStands_23 rfl (fun M1 L1 hp => ?_)
  obtain ⟨rfl, rfl⟩ := hp
  refine r_cs 14 105 rfl rfl ?_
  refine r_aast (q := 27) (i := 10) (n := 14) (ds := [(3, 11), (3, 12), (3, 13), (3, 14), (3, 15), (3, 16), (3, 17), (3, 18), (3, 19), (3, 20), (3, 21), (3, 22), (2, 0), (2, 0)]) (a := 12) (j := 23) (ds2 := [(0, 0), (0, 0), (0, 0), (0, 0), (0, 0), (0, 0), (0, 0)]) X (by decide +kernel) (by decide) (by decide) rfl (by decide +kernel) (show _ = sA44 from rfl) dX6_newStands_26 rfl ?_
  refine r_iinc (q := 30) (i := 2) (x := nI 12) (v := nI 13) X rfl (Nat.le_of_ble_eq_true rfl) (kinc 1 rfl) dX6_newStands_27 rfl ?_
  refine r_goto (tgt := 11) X (by decide) dX6_newStands_30 ?_
  refine r_iload_n (q := 12) (i := 2) (j := 2) (x := nI 13) X rfl rfl dX6_newStands_11 rfl ?_
  refine r_aload_n (q := 13) (i := 1) (j := 1) (x := base + 10) X rfl rfl dX6_newStands_12 rfl ?_
  refine r_alen (q := 14) (i := 10) (a := 2) (n := 14) (ds := [(3, 11), (3, 12), (3, 13), (3, 14), (3, 15), (3, 16), (3, 17), (3, 18), (3, 19), (3, 20), (3, 21), (3, 22), (3, 23), (2, 0)]) X (by decide +kernel) dX6_newStands_13 rfl ?_
  refine r_icmp_ge (q := 17) (tgt := 33) X (by decide) dX6_newStands_14 rfl (fun c => absurd c (by decide)) (fun _ => ?_)
  refine r_aload_n (q := 18) (i := 1) (j := 1) (x := base + 10) X rfl rfl dX6_newStands_17 rfl ?_
  refine r_iload_n (q := 19) (i := 2) (j := 2) (x := nI 13) X rfl rfl dX6_newStands_18 rfl ?_
  refine r_new (q := 22) (j := 24) (ds := [(0, 0), (0, 0), (0, 0), (0, 0), (0, 0), (0, 0), (0, 0)]) X kX3 kz_RX6_23 tyX3 tyX3_ok (fun j hj => by rcases (show j = 0 ∨ j = 1 ∨ j = 2 ∨ j = 3 ∨ j = 4 ∨ j = 5 ∨ j = 6 by omega) with rfl | rfl | rfl | rfl | rfl | rfl | rfl <;> rfl) (by decide +kernel) (show _ = sA45 from rfl) (by rw [hRm]; exact Nat.le_of_ble_eq_true rfl) (by rw [hRm]; exact Nat.le_of_ble_eq_true rfl) dX6_newStands_19 rfl ?_
  refine r_cs 15 112 rfl rfl ?_
  refine r_dup (q := 23) X rfl dX6_newStands_22 rfl ?_
  refine r_callINv (q := 26) X (c_StandInit K.2.1 G base sA45 24 (by decide +kernel)) kn_RX6_25 (by decide) (by decide) ⟨(by rw [hRm]; exact Nat.le_of_ble_eq_true rfl), (by rw [hRm]; exact Nat.le_of_ble_eq_true rfl)⟩ rfl (Nat.le_of_ble_eq_true rfl) dX6_newStands_23 rfl (fun M1 L1 hp => ?_)
  obtain ⟨rfl, rfl⟩ := hp
  refine r_cs 15 112 rfl rfl ?_
  refine r_aast (q := 27) (i := 10) (n := 14) (ds := [(3, 11), (3, 12), (3, 13), (3, 14), (3, 15), (3, 16), (3, 17), (3, 18), (3, 19), (3, 20), (3, 21), (3, 22), (3, 23), (2, 0)]) (a := 13) (j := 24) (ds2 := [(0, 0), (0, 0), (0, 0), (0, 0), (0, 0), (0, 0), (0, 0)]) X (by decide +kernel) (by decide) (by decide) rfl (by decide +kernel) (show _ = sA46 from rfl) dX6_newStands_26 rfl ?_
  refine r_iinc (q := 30) (i := 2) (x := nI 13) (v := nI 14) X rfl (Nat.le_of_ble_eq_true rfl) (kinc 1 rfl) dX6_newStands_27 rfl ?_
  refine r_goto (tgt := 11) X (by decide) dX6_newStands_30 ?_
  refine r_iload_n (q := 12) (i := 2) (j := 2) (x := nI 14) X rfl rfl dX6_newStands_11 rfl ?_
  refine r_aload_n (q := 13) (i := 1) (j := 1) (x := base + 10) X rfl rfl dX6_newStands_12 rfl ?_
  refine r_alen (q := 14) (i := 10) (a := 2) (n := 14) (ds := [(3, 11), (3, 12), (3, 13), (3, 14), (3, 15), (3, 16), (3, 17), (3, 18), (3, 19), (3, 20), (3, 21), (3, 22), (3, 23), (3, 24)]) X (by decide +kernel) dX6_newStands_13 rfl ?_
  refine r_icmp_ge (q := 17) (tgt := 33) X (by decide) dX6_newStands_14 rfl (fun _ => ?_) (fun c => absurd c (by decide))
  refine r_aload_n (q := 34) (i := 1) (j := 1) (x := base + 10) X rfl rfl dX6_newStands_33 rfl ?_
  exact r_aret X Y (Or.inr ⟨_, rfl⟩) ⟨rfl, rfl⟩ dX6_newStands_34
def sA47 : List ks_S := sA46.set 9 (0, 0, [(3, 10), (0, 0), (0, 0)])
theorem kn_RX0_9 : ks_sSN RX0 9 yX6_newStands "KeyholeNews" cX6_newStands 3 (some (.array (.object "KeyholeNews$Stand"))) 1 := ⟨⟨by decide +kernel, kw 126 (by decide +kernel), kw 25 (by decide +kernel), kw 127 (by decide +kernel)⟩, ⟨by decide +kernel, by decide +kernel, by decide +kernel⟩⟩
set_option maxHeartbeats 8000000 in
set_option maxRecDepth 20000 in
theorem c_X0Init (l : Launch) (G : ks_G) (base : Nat) : KV l G base 3 15 112 yX0_init cX0_init 1 [.ref (base + 9)] sA17 sA47 M0 L0 (fun M1 L1 => M1 = M0 ∧ L1 = L0) := by
  refine k_metv (by decide) (Nat.le_of_ble_eq_true rfl) (fun K hK hRm X Y => ?_)
  subst hK
  have hnm : (kMe K).name = "<init>" := Y.2.2.2
  refine r_pl [(0, .ref (base + 9))] ⟨rfl, trivial⟩ ?_
  refine r_aload_n (q := 1) (i := 0) (j := 0) (x := base + 9) X rfl rfl dX0_init_0 rfl ?_
  refine r_objinit (q := 4) X ko_RX0 (by decide) (Nat.le_of_ble_eq_true rfl) dX0_init_1 rfl ?_
  refine r_aload_n (q := 5) (i := 0) (j := 0) (x := base + 9) X rfl rfl dX0_init_4 rfl ?_
  refine r_bipush (q := 7) (v := nI 14) X kb_14 dX0_init_5 rfl ?_
  refine r_callSNr (q := 10) X (c_newStands_14 K.2.1 G base) kn_RX0_9 (by decide) (by decide) ⟨(by rw [hRm]; exact Nat.le_of_ble_eq_true rfl), (by rw [hRm]; exact Nat.le_of_ble_eq_true rfl)⟩ rfl (Nat.le_of_ble_eq_true rfl) dX0_init_7 rfl (fun M1 L1 hp => ?_)
  obtain ⟨rfl, rfl⟩ := hp
  refine r_cs 15 112 rfl rfl ?_
  refine r_putr (q := 13) (i := 9) (j := 10) (ds := [(2, 0), (0, 0), (0, 0)]) (ty := tyX0 0) X fk_X0_13 hnm ⟨⟨by decide +kernel, by decide +kernel⟩, tyX0_ok 0 (by decide)⟩ ⟨rfl, rfl⟩ (by decide +kernel) rfl dX0_init_10 rfl ?_
  refine r_sh sA47 rfl ?_
  refine r_aload_n (q := 14) (i := 0) (j := 0) (x := base + 9) X rfl rfl dX0_init_13 rfl ?_
  refine r_iconst (q := 15) (v := nI 0) X kc_0 dX0_init_14 rfl ?_
  refine r_puti (q := 18) (i := 9) (n := 0) (ds := [(3, 10), (0, 0), (0, 0)]) X fk_X0_19 kp_X0_1 (by decide +kernel) rfl dX0_init_15 rfl ?_
  refine r_mem M0 (M0_put _ _) ?_
  refine r_aload_n (q := 19) (i := 0) (j := 0) (x := base + 9) X rfl rfl dX0_init_18 rfl ?_
  refine r_iconst (q := 20) (v := nI 0) X kc_0 dX0_init_19 rfl ?_
  refine r_puti (q := 23) (i := 9) (n := 0) (ds := [(3, 10), (0, 0), (0, 0)]) X fk_X0_23 kp_X0_2 (by decide +kernel) rfl dX0_init_20 rfl ?_
  refine r_mem M0 (M0_put _ _) ?_
  exact r_vret X Y ⟨rfl, rfl⟩ dX0_init_23
def sA48 : List ks_S := sA47.set 0 (0, 6, [(3, 1), (3, 3), (3, 7), (3, 8), (3, 9), (2, 0), (2, 0), (2, 0), (2, 0), (0, 0), (1, 0)])
def sA49 : List ks_S := sA48 ++ [(0, 1, [(2, 0), (2, 0)])]
def sA50 : List ks_S := sA49 ++ [(3, 7, List.replicate 7 (2, 0))]
def sA51 : List ks_S := sA50 ++ [kSt]
def sA52 : List ks_S := sA51.set 26 (3, 7, [(3, 27), (2, 0), (2, 0), (2, 0), (2, 0), (2, 0), (2, 0)])
def sA53 : List ks_S := sA52 ++ [kSt]
def sA54 : List ks_S := sA53.set 26 (3, 7, [(3, 27), (3, 28), (2, 0), (2, 0), (2, 0), (2, 0), (2, 0)])
def sA55 : List ks_S := sA54 ++ [kSt]
def sA56 : List ks_S := sA55.set 26 (3, 7, [(3, 27), (3, 28), (3, 29), (2, 0), (2, 0), (2, 0), (2, 0)])
def sA57 : List ks_S := sA56 ++ [kSt]
def sA58 : List ks_S := sA57.set 26 (3, 7, [(3, 27), (3, 28), (3, 29), (3, 30), (2, 0), (2, 0), (2, 0)])
def sA59 : List ks_S := sA58 ++ [kSt]
def sA60 : List ks_S := sA59.set 26 (3, 7, [(3, 27), (3, 28), (3, 29), (3, 30), (3, 31), (2, 0), (2, 0)])
def sA61 : List ks_S := sA60 ++ [kSt]
def sA62 : List ks_S := sA61.set 26 (3, 7, [(3, 27), (3, 28), (3, 29), (3, 30), (3, 31), (3, 32), (2, 0)])
def sA63 : List ks_S := sA62 ++ [kSt]
def sA64 : List ks_S := sA63.set 26 (3, 7, [(3, 27), (3, 28), (3, 29), (3, 30), (3, 31), (3, 32), (3, 33)])
theorem kn_RX6_35 : ks_sIN RX6 35 yX0_init "KeyholeNews" cX0_init 1 0 := ⟨⟨by decide +kernel, kw 122 (by decide +kernel), kw 29 (by decide +kernel), kw 123 (by decide +kernel)⟩, ⟨by decide +kernel, by decide +kernel, by decide +kernel⟩, by decide +kernel⟩
theorem kz_RX6_40 : Cond.classLink RX6 40 RX1 ∈ ks_all ∧ Cond.instantiable RX1 2 ∈ ks_all ∧ Cond.initialized RX1 ∈ ks_all := ⟨kw 143 (by decide +kernel), kw 144 (by decide +kernel), kw 31 (by decide +kernel)⟩
theorem ko_RX1 : Cond.methodLink RX1 3 objectInit ∈ ks_all ∧ Cond.instanceMethod objectInit ∈ ks_all ∧ Cond.code objectInit ⟨#[0xb1]⟩ 1 none ∈ ks_all := ⟨kw 148 (by decide +kernel), kw 41 (by decide +kernel), kw 42 (by decide +kernel)⟩
set_option maxHeartbeats 8000000 in
set_option maxRecDepth 20000 in
theorem c_newStands_7 (l : Launch) (G : ks_G) (base : Nat) : KR l G base 2 8 56 yX6_newStands cX6_newStands 3 (.array (.object "KeyholeNews$Stand")) [.int (nI 7)] sA49 sA64 26 M0 L0 (fun M1 L1 => M1 = M0 ∧ L1 = L0) := by
  refine k_metr (by decide) (Nat.le_of_ble_eq_true rfl) (fun K hK hRm X Y => ?_)
  subst hK
  refine r_pl [(0, .int (nI 7))] ⟨rfl, trivial⟩ ?_
  refine r_iload_n (q := 1) (i := 0) (j := 0) (x := nI 7) X rfl rfl dX6_newStands_0 rfl ?_
  refine r_iconst (q := 2) (v := nI 0) X kc_0 dX6_newStands_1 rfl ?_
  refine r_max (q := 5) (v := nI 7) X (by decide) km_RX6_225 ⟨Nat.zero_le _, Nat.zero_le _⟩ (by decide) (Nat.le_of_ble_eq_true rfl) dX6_newStands_2 rfl ?_
  refine r_newq (q := 8) (j := 26) X (by decide) kz_RX6_23.1 (by decide +kernel) (show _ = sA50 from rfl) (by rw [hRm]; exact Nat.le_of_ble_eq_true rfl) (by rw [hRm]; exact Nat.le_of_ble_eq_true rfl) dX6_newStands_5 rfl ?_
  refine r_cs 1 7 rfl rfl ?_
  refine r_astore_n (q := 9) (i := 1) (j := 1) X rfl (Nat.le_of_ble_eq_true rfl) dX6_newStands_8 rfl ?_
  refine r_iconst (q := 10) (v := nI 0) X kc_0 dX6_newStands_9 rfl ?_
  refine r_istore_n (q := 11) (i := 2) (j := 2) X rfl (Nat.le_of_ble_eq_true rfl) dX6_newStands_10 rfl ?_
  refine r_iload_n (q := 12) (i := 2) (j := 2) (x := nI 0) X rfl rfl dX6_newStands_11 rfl ?_
  refine r_aload_n (q := 13) (i := 1) (j := 1) (x := base + 26) X rfl rfl dX6_newStands_12 rfl ?_
  refine r_alen (q := 14) (i := 26) (a := 2) (n := 7) (ds := [(2, 0), (2, 0), (2, 0), (2, 0), (2, 0), (2, 0), (2, 0)]) X (by decide +kernel) dX6_newStands_13 rfl ?_
  refine r_icmp_ge (q := 17) (tgt := 33) X (by decide) dX6_newStands_14 rfl (fun c => absurd c (by decide)) (fun _ => ?_)
  refine r_aload_n (q := 18) (i := 1) (j := 1) (x := base + 26) X rfl rfl dX6_newStands_17 rfl ?_
  refine r_iload_n (q := 19) (i := 2) (j := 2) (x := nI 0) X rfl rfl dX6_newStands_18 rfl ?_
  refine r_new (q := 22) (j := 27) (ds := [(0, 0), (0, 0), (0, 0), (0, 0), (0, 0), (0, 0), (0, 0)]) X kX3 kz_RX6_23 tyX3 tyX3_ok (fun j hj => by rcases (show j = 0 ∨ j = 1 ∨ j = 2 ∨ j = 3 ∨ j = 4 ∨ j = 5 ∨ j = 6 by omega) with rfl | rfl | rfl | rfl | rfl | rfl | rfl <;> rfl) (by decide +kernel) (show _ = sA51 from rfl) (by rw [hRm]; exact Nat.le_of_ble_eq_true rfl) (by rw [hRm]; exact Nat.le_of_ble_eq_true rfl) dX6_newStands_19 rfl ?_
  refine r_cs 2 14 rfl rfl ?_
  refine r_dup (q := 23) X rfl dX6_newStands_22 rfl ?_
  refine r_callINv (q := 26) X (c_StandInit K.2.1 G base sA51 27 (by decide +kernel)) kn_RX6_25 (by decide) (by decide) ⟨(by rw [hRm]; exact Nat.le_of_ble_eq_true rfl), (by rw [hRm]; exact Nat.le_of_ble_eq_true rfl)⟩ rfl (Nat.le_of_ble_eq_true rfl) dX6_newStands_23 rfl (fun M1 L1 hp => ?_)
  obtain ⟨rfl, rfl⟩ := hp
  refine r_cs 2 14 rfl rfl ?_
  refine r_aast (q := 27) (i := 26) (n := 7) (ds := [(2, 0), (2, 0), (2, 0), (2, 0), (2, 0), (2, 0), (2, 0)]) (a := 0) (j := 27) (ds2 := [(0, 0), (0, 0), (0, 0), (0, 0), (0, 0), (0, 0), (0, 0)]) X (by decide +kernel) (by decide) (by decide) rfl (by decide +kernel) (show _ = sA52 from rfl) dX6_newStands_26 rfl ?_
  refine r_iinc (q := 30) (i := 2) (x := nI 0) (v := nI 1) X rfl (Nat.le_of_ble_eq_true rfl) (kinc 1 rfl) dX6_newStands_27 rfl ?_
  refine r_goto (tgt := 11) X (by decide) dX6_newStands_30 ?_
  refine r_iload_n (q := 12) (i := 2) (j := 2) (x := nI 1) X rfl rfl dX6_newStands_11 rfl ?_
  refine r_aload_n (q := 13) (i := 1) (j := 1) (x := base + 26) X rfl rfl dX6_newStands_12 rfl ?_
  refine r_alen (q := 14) (i := 26) (a := 2) (n := 7) (ds := [(3, 27), (2, 0), (2, 0), (2, 0), (2, 0), (2, 0), (2, 0)]) X (by decide +kernel) dX6_newStands_13 rfl ?_
  refine r_icmp_ge (q := 17) (tgt := 33) X (by decide) dX6_newStands_14 rfl (fun c => absurd c (by decide)) (fun _ => ?_)
  refine r_aload_n (q := 18) (i := 1) (j := 1) (x := base + 26) X rfl rfl dX6_newStands_17 rfl ?_
  refine r_iload_n (q := 19) (i := 2) (j := 2) (x := nI 1) X rfl rfl dX6_newStands_18 rfl ?_
  refine r_new (q := 22) (j := 28) (ds := [(0, 0), (0, 0), (0, 0), (0, 0), (0, 0), (0, 0), (0, 0)]) X kX3 kz_RX6_23 tyX3 tyX3_ok (fun j hj => by rcases (show j = 0 ∨ j = 1 ∨ j = 2 ∨ j = 3 ∨ j = 4 ∨ j = 5 ∨ j = 6 by omega) with rfl | rfl | rfl | rfl | rfl | rfl | rfl <;> rfl) (by decide +kernel) (show _ = sA53 from rfl) (by rw [hRm]; exact Nat.le_of_ble_eq_true rfl) (by rw [hRm]; exact Nat.le_of_ble_eq_true rfl) dX6_newStands_19 rfl ?_
  refine r_cs 3 21 rfl rfl ?_
  refine r_dup (q := 23) X rfl dX6_newStands_22 rfl ?_
  refine r_callINv (q := 26) X (c_StandInit K.2.1 G base sA53 28 (by decide +kernel)) kn_RX6_25 (by decide) (by decide) ⟨(by rw [hRm]; exact Nat.le_of_ble_eq_true rfl), (by rw [hRm]; exact Nat.le_of_ble_eq_true rfl)⟩ rfl (Nat.le_of_ble_eq_true rfl) dX6_newStands_23 rfl (fun M1 L1 hp => ?_)
  obtain ⟨rfl, rfl⟩ := hp
  refine r_cs 3 21 rfl rfl ?_
  refine r_aast (q := 27) (i := 26) (n := 7) (ds := [(3, 27), (2, 0), (2, 0), (2, 0), (2, 0), (2, 0), (2, 0)]) (a := 1) (j := 28) (ds2 := [(0, 0), (0, 0), (0, 0), (0, 0), (0, 0), (0, 0), (0, 0)]) X (by decide +kernel) (by decide) (by decide) rfl (by decide +kernel) (show _ = sA54 from rfl) dX6_newStands_26 rfl ?_
  refine r_iinc (q := 30) (i := 2) (x := nI 1) (v := nI 2) X rfl (Nat.le_of_ble_eq_true rfl) (kinc 1 rfl) dX6_newStands_27 rfl ?_
  refine r_goto (tgt := 11) X (by decide) dX6_newStands_30 ?_
  refine r_iload_n (q := 12) (i := 2) (j := 2) (x := nI 2) X rfl rfl dX6_newStands_11 rfl ?_
  refine r_aload_n (q := 13) (i := 1) (j := 1) (x := base + 26) X rfl rfl dX6_newStands_12 rfl ?_
  refine r_alen (q := 14) (i := 26) (a := 2) (n := 7) (ds := [(3, 27), (3, 28), (2, 0), (2, 0), (2, 0), (2, 0), (2, 0)]) X (by decide +kernel) dX6_newStands_13 rfl ?_
  refine r_icmp_ge (q := 17) (tgt := 33) X (by decide) dX6_newStands_14 rfl (fun c => absurd c (by decide)) (fun _ => ?_)
  refine r_aload_n (q := 18) (i := 1) (j := 1) (x := base + 26) X rfl rfl dX6_newStands_17 rfl ?_
  refine r_iload_n (q := 19) (i := 2) (j := 2) (x := nI 2) X rfl rfl dX6_newStands_18 rfl ?_
  refine r_new (q := 22) (j := 29) (ds := [(0, 0), (0, 0), (0, 0), (0, 0), (0, 0), (0, 0), (0, 0)]) X kX3 kz_RX6_23 tyX3 tyX3_ok (fun j hj => by rcases (show j = 0 ∨ j = 1 ∨ j = 2 ∨ j = 3 ∨ j = 4 ∨ j = 5 ∨ j = 6 by omega) with rfl | rfl | rfl | rfl | rfl | rfl | rfl <;> rfl) (by decide +kernel) (show _ = sA55 from rfl) (by rw [hRm]; exact Nat.le_of_ble_eq_true rfl) (by rw [hRm]; exact Nat.le_of_ble_eq_true rfl) dX6_newStands_19 rfl ?_
  refine r_cs 4 28 rfl rfl ?_
  refine r_dup (q := 23) X rfl dX6_newStands_22 rfl ?_
  refine r_callINv (q := 26) X (c_StandInit K.2.1 G base sA55 29 (by decide +kernel)) kn_RX6_25 (by decide) (by decide) ⟨(by rw [hRm]; exact Nat.le_of_ble_eq_true rfl), (by rw [hRm]; exact Nat.le_of_ble_eq_true rfl)⟩ rfl (Nat.le_of_ble_eq_true rfl) dX6_newStands_23 rfl (fun M1 L1 hp => ?_)
  obtain ⟨rfl, rfl⟩ := hp
  refine r_cs 4 28 rfl rfl ?_
  refine r_aast (q := 27) (i := 26) (n := 7) (ds := [(3, 27), (3, 28), (2, 0), (2, 0), (2, 0), (2, 0), (2, 0)]) (a := 2) (j := 29) (ds2 := [(0, 0), (0, 0), (0, 0), (0, 0), (0, 0), (0, 0), (0, 0)]) X (by decide +kernel) (by decide) (by decide) rfl (by decide +kernel) (show _ = sA56 from rfl) dX6_newStands_26 rfl ?_
  refine r_iinc (q := 30) (i := 2) (x := nI 2) (v := nI 3) X rfl (Nat.le_of_ble_eq_true rfl) (kinc 1 rfl) dX6_newStands_27 rfl ?_
  refine r_goto (tgt := 11) X (by decide) dX6_newStands_30 ?_
  refine r_iload_n (q := 12) (i := 2) (j := 2) (x := nI 3) X rfl rfl dX6_newStands_11 rfl ?_
  refine r_aload_n (q := 13) (i := 1) (j := 1) (x := base + 26) X rfl rfl dX6_newStands_12 rfl ?_
  refine r_alen (q := 14) (i := 26) (a := 2) (n := 7) (ds := [(3, 27), (3, 28), (3, 29), (2, 0), (2, 0), (2, 0), (2, 0)]) X (by decide +kernel) dX6_newStands_13 rfl ?_
  refine r_icmp_ge (q := 17) (tgt := 33) X (by decide) dX6_newStands_14 rfl (fun c => absurd c (by decide)) (fun _ => ?_)
  refine r_aload_n (q := 18) (i := 1) (j := 1) (x := base + 26) X rfl rfl dX6_newStands_17 rfl ?_
  refine r_iload_n (q := 19) (i := 2) (j := 2) (x := nI 3) X rfl rfl dX6_newStands_18 rfl ?_
  refine r_new (q := 22) (j := 30) (ds := [(0, 0), (0, 0), (0, 0), (0, 0), (0, 0), (0, 0), (0, 0)]) X kX3 kz_RX6_23 tyX3 tyX3_ok (fun j hj => by rcases (show j = 0 ∨ j = 1 ∨ j = 2 ∨ j = 3 ∨ j = 4 ∨ j = 5 ∨ j = 6 by omega) with rfl | rfl | rfl | rfl | rfl | rfl | rfl <;> rfl) (by decide +kernel) (show _ = sA57 from rfl) (by rw [hRm]; exact Nat.le_of_ble_eq_true rfl) (by rw [hRm]; exact Nat.le_of_ble_eq_true rfl) dX6_newStands_19 rfl ?_
  refine r_cs 5 35 rfl rfl ?_
  refine r_dup (q := 23) X rfl dX6_newStands_22 rfl ?_
  refine r_callINv (q := 26) X (c_StandInit K.2.1 G base sA57 30 (by decide +kernel)) kn_RX6_25 (by decide) (by decide) ⟨(by rw [hRm]; exact Nat.le_of_ble_eq_true rfl), (by rw [hRm]; exact Nat.le_of_ble_eq_true rfl)⟩ rfl (Nat.le_of_ble_eq_true rfl) dX6_newStands_23 rfl (fun M1 L1 hp => ?_)
  obtain ⟨rfl, rfl⟩ := hp
  refine r_cs 5 35 rfl rfl ?_
  refine r_aast (q := 27) (i := 26) (n := 7) (ds := [(3, 27), (3, 28), (3, 29), (2, 0), (2, 0), (2, 0), (2, 0)]) (a := 3) (j := 30) (ds2 := [(0, 0), (0, 0), (0, 0), (0, 0), (0, 0), (0, 0), (0, 0)]) X (by decide +kernel) (by decide) (by decide) rfl (by decide +kernel) (show _ = sA58 from rfl) dX6_newStands_26 rfl ?_
  refine r_iinc (q := 30) (i := 2) (x := nI 3) (v := nI 4) X rfl (Nat.le_of_ble_eq_true rfl) (kinc 1 rfl) dX6_newStands_27 rfl ?_
  refine r_goto (tgt := 11) X (by decide) dX6_newStands_30 ?_
  refine r_iload_n (q := 12) (i := 2) (j := 2) (x := nI 4) X rfl rfl dX6_newStands_11 rfl ?_
  refine r_aload_n (q := 13) (i := 1) (j := 1) (x := base + 26) X rfl rfl dX6_newStands_12 rfl ?_
  refine r_alen (q := 14) (i := 26) (a := 2) (n := 7) (ds := [(3, 27), (3, 28), (3, 29), (3, 30), (2, 0), (2, 0), (2, 0)]) X (by decide +kernel) dX6_newStands_13 rfl ?_
  refine r_icmp_ge (q := 17) (tgt := 33) X (by decide) dX6_newStands_14 rfl (fun c => absurd c (by decide)) (fun _ => ?_)
  refine r_aload_n (q := 18) (i := 1) (j := 1) (x := base + 26) X rfl rfl dX6_newStands_17 rfl ?_
  refine r_iload_n (q := 19) (i := 2) (j := 2) (x := nI 4) X rfl rfl dX6_newStands_18 rfl ?_
  refine r_new (q := 22) (j := 31) (ds := [(0, 0), (0, 0), (0, 0), (0, 0), (0, 0), (0, 0), (0, 0)]) X kX3 kz_RX6_23 tyX3 tyX3_ok (fun j hj => by rcases (show j = 0 ∨ j = 1 ∨ j = 2 ∨ j = 3 ∨ j = 4 ∨ j = 5 ∨ j = 6 by omega) with rfl | rfl | rfl | rfl | rfl | rfl | rfl <;> rfl) (by decide +kernel) (show _ = sA59 from rfl) (by rw [hRm]; exact Nat.le_of_ble_eq_true rfl) (by rw [hRm]; exact Nat.le_of_ble_eq_true rfl) dX6_newStands_19 rfl ?_
  refine r_cs 6 42 rfl rfl ?_
  refine r_dup (q := 23) X rfl dX6_newStands_22 rfl ?_
  refine r_callINv (q := 26) X (c_StandInit K.2.1 G base sA59 31 (by decide +kernel)) kn_RX6_25 (by decide) (by decide) ⟨(by rw [hRm]; exact Nat.le_of_ble_eq_true rfl), (by rw [hRm]; exact Nat.le_of_ble_eq_true rfl)⟩ rfl (Nat.le_of_ble_eq_true rfl) dX6_newStands_23 rfl (fun M1 L1 hp => ?_)
  obtain ⟨rfl, rfl⟩ := hp
  refine r_cs 6 42 rfl rfl ?_
  refine r_aast (q := 27) (i := 26) (n := 7) (ds := [(3, 27), (3, 28), (3, 29), (3, 30), (2, 0), (2, 0), (2, 0)]) (a := 4) (j := 31) (ds2 := [(0, 0), (0, 0), (0, 0), (0, 0), (0, 0), (0, 0), (0, 0)]) X (by decide +kernel) (by decide) (by decide) rfl (by decide +kernel) (show _ = sA60 from rfl) dX6_newStands_26 rfl ?_
  refine r_iinc (q := 30) (i := 2) (x := nI 4) (v := nI 5) X rfl (Nat.le_of_ble_eq_true rfl) (kinc 1 rfl) dX6_newStands_27 rfl ?_
  refine r_goto (tgt := 11) X (by decide) dX6_newStands_30 ?_
  refine r_iload_n (q := 12) (i := 2) (j := 2) (x := nI 5) X rfl rfl dX6_newStands_11 rfl ?_
  refine r_aload_n (q := 13) (i := 1) (j := 1) (x := base + 26) X rfl rfl dX6_newStands_12 rfl ?_
  refine r_alen (q := 14) (i := 26) (a := 2) (n := 7) (ds := [(3, 27), (3, 28), (3, 29), (3, 30), (3, 31), (2, 0), (2, 0)]) X (by decide +kernel) dX6_newStands_13 rfl ?_
  refine r_icmp_ge (q := 17) (tgt := 33) X (by decide) dX6_newStands_14 rfl (fun c => absurd c (by decide)) (fun _ => ?_)
  refine r_aload_n (q := 18) (i := 1) (j := 1) (x := base + 26) X rfl rfl dX6_newStands_17 rfl ?_
  refine r_iload_n (q := 19) (i := 2) (j := 2) (x := nI 5) X rfl rfl dX6_newStands_18 rfl ?_
  refine r_new (q := 22) (j := 32) (ds := [(0, 0), (0, 0), (0, 0), (0, 0), (0, 0), (0, 0), (0, 0)]) X kX3 kz_RX6_23 tyX3 tyX3_ok (fun j hj => by rcases (show j = 0 ∨ j = 1 ∨ j = 2 ∨ j = 3 ∨ j = 4 ∨ j = 5 ∨ j = 6 by omega) with rfl | rfl | rfl | rfl | rfl | rfl | rfl <;> rfl) (by decide +kernel) (show _ = sA61 from rfl) (by rw [hRm]; exact Nat.le_of_ble_eq_true rfl) (by rw [hRm]; exact Nat.le_of_ble_eq_true rfl) dX6_newStands_19 rfl ?_
  refine r_cs 7 49 rfl rfl ?_
  refine r_dup (q := 23) X rfl dX6_newStands_22 rfl ?_
  refine r_callINv (q := 26) X (c_StandInit K.2.1 G base sA61 32 (by decide +kernel)) kn_RX6_25 (by decide) (by decide) ⟨(by rw [hRm]; exact Nat.le_of_ble_eq_true rfl), (by rw [hRm]; exact Nat.le_of_ble_eq_true rfl)⟩ rfl (Nat.le_of_ble_eq_true rfl) dX6_newStands_23 rfl (fun M1 L1 hp => ?_)
  obtain ⟨rfl, rfl⟩ := hp
  refine r_cs 7 49 rfl rfl ?_
  refine r_aast (q := 27) (i := 26) (n := 7) (ds := [(3, 27), (3, 28), (3, 29), (3, 30), (3, 31), (2, 0), (2, 0)]) (a := 5) (j := 32) (ds2 := [(0, 0), (0, 0), (0, 0), (0, 0), (0, 0), (0, 0), (0, 0)]) X (by decide +kernel) (by decide) (by decide) rfl (by decide +kernel) (show _ = sA62 from rfl) dX6_newStands_26 rfl ?_
  refine r_iinc (q := 30) (i := 2) (x := nI 5) (v := nI 6) X rfl (Nat.le_of_ble_eq_true rfl) (kinc 1 rfl) dX6_newStands_27 rfl ?_
  refine r_goto (tgt := 11) X (by decide) dX6_newStands_30 ?_
  refine r_iload_n (q := 12) (i := 2) (j := 2) (x := nI 6) X rfl rfl dX6_newStands_11 rfl ?_
  refine r_aload_n (q := 13) (i := 1) (j := 1) (x := base + 26) X rfl rfl dX6_newStands_12 rfl ?_
  refine r_alen (q := 14) (i := 26) (a := 2) (n := 7) (ds := [(3, 27), (3, 28), (3, 29), (3, 30), (3, 31), (3, 32), (2, 0)]) X (by decide +kernel) dX6_newStands_13 rfl ?_
  refine r_icmp_ge (q := 17) (tgt := 33) X (by decide) dX6_newStands_14 rfl (fun c => absurd c (by decide)) (fun _ => ?_)
  refine r_aload_n (q := 18) (i := 1) (j := 1) (x := base + 26) X rfl rfl dX6_newStands_17 rfl ?_
  refine r_iload_n (q := 19) (i := 2) (j := 2) (x := nI 6) X rfl rfl dX6_newStands_18 rfl ?_
  refine r_new (q := 22) (j := 33) (ds := [(0, 0), (0, 0), (0, 0), (0, 0), (0, 0), (0, 0), (0, 0)]) X kX3 kz_RX6_23 tyX3 tyX3_ok (fun j hj => by rcases (show j = 0 ∨ j = 1 ∨ j = 2 ∨ j = 3 ∨ j = 4 ∨ j = 5 ∨ j = 6 by omega) with rfl | rfl | rfl | rfl | rfl | rfl | rfl <;> rfl) (by decide +kernel) (show _ = sA63 from rfl) (by rw [hRm]; exact Nat.le_of_ble_eq_true rfl) (by rw [hRm]; exact Nat.le_of_ble_eq_true rfl) dX6_newStands_19 rfl ?_
  refine r_cs 8 56 rfl rfl ?_
  refine r_dup (q := 23) X rfl dX6_newStands_22 rfl ?_
  refine r_callINv (q := 26) X (c_StandInit K.2.1 G base sA63 33 (by decide +kernel)) kn_RX6_25 (by decide) (by decide) ⟨(by rw [hRm]; exact Nat.le_of_ble_eq_true rfl), (by rw [hRm]; exact Nat.le_of_ble_eq_true rfl)⟩ rfl (Nat.le_of_ble_eq_true rfl) dX6_newStands_23 rfl (fun M1 L1 hp => ?_)
  obtain ⟨rfl, rfl⟩ := hp
  refine r_cs 8 56 rfl rfl ?_
  refine r_aast (q := 27) (i := 26) (n := 7) (ds := [(3, 27), (3, 28), (3, 29), (3, 30), (3, 31), (3, 32), (2, 0)]) (a := 6) (j := 33) (ds2 := [(0, 0), (0, 0), (0, 0), (0, 0), (0, 0), (0, 0), (0, 0)]) X (by decide +kernel) (by decide) (by decide) rfl (by decide +kernel) (show _ = sA64 from rfl) dX6_newStands_26 rfl ?_
  refine r_iinc (q := 30) (i := 2) (x := nI 6) (v := nI 7) X rfl (Nat.le_of_ble_eq_true rfl) (kinc 1 rfl) dX6_newStands_27 rfl ?_
  refine r_goto (tgt := 11) X (by decide) dX6_newStands_30 ?_
  refine r_iload_n (q := 12) (i := 2) (j := 2) (x := nI 7) X rfl rfl dX6_newStands_11 rfl ?_
  refine r_aload_n (q := 13) (i := 1) (j := 1) (x := base + 26) X rfl rfl dX6_newStands_12 rfl ?_
  refine r_alen (q := 14) (i := 26) (a := 2) (n := 7) (ds := [(3, 27), (3, 28), (3, 29), (3, 30), (3, 31), (3, 32), (3, 33)]) X (by decide +kernel) dX6_newStands_13 rfl ?_
  refine r_icmp_ge (q := 17) (tgt := 33) X (by decide) dX6_newStands_14 rfl (fun _ => ?_) (fun c => absurd c (by decide))
  refine r_aload_n (q := 34) (i := 1) (j := 1) (x := base + 26) X rfl rfl dX6_newStands_33 rfl ?_
  exact r_aret X Y (Or.inr ⟨_, rfl⟩) ⟨rfl, rfl⟩ dX6_newStands_34
def sA65 : List ks_S := sA64.set 25 (0, 1, [(3, 26), (2, 0)])
def sA66 : List ks_S := sA65 ++ [kSt]
def sA67 : List ks_S := sA66.set 25 (0, 1, [(3, 26), (3, 34)])
theorem kn_RX1_9 : ks_sSN RX1 9 yX6_newStands "KeyholeNews" cX6_newStands 3 (some (.array (.object "KeyholeNews$Stand"))) 1 := ⟨⟨by decide +kernel, kw 126 (by decide +kernel), kw 25 (by decide +kernel), kw 127 (by decide +kernel)⟩, ⟨by decide +kernel, by decide +kernel, by decide +kernel⟩⟩
theorem kz_RX1_19 : Cond.classLink RX1 19 RX3 ∈ ks_all ∧ Cond.instantiable RX3 7 ∈ ks_all ∧ Cond.initialized RX3 ∈ ks_all := ⟨kw 150 (by decide +kernel), kw 85 (by decide +kernel), kw 28 (by decide +kernel)⟩
theorem kn_RX1_21 : ks_sIN RX1 21 yX3_init "KeyholeNews" cX3_init 1 0 := ⟨⟨by decide +kernel, kw 87 (by decide +kernel), kw 28 (by decide +kernel), kw 88 (by decide +kernel)⟩, ⟨by decide +kernel, by decide +kernel, by decide +kernel⟩, by decide +kernel⟩
set_option maxHeartbeats 8000000 in
set_option maxRecDepth 20000 in
theorem c_X1Init (l : Launch) (G : ks_G) (base : Nat) : KV l G base 3 9 63 yX1_init cX1_init 1 [.ref (base + 25)] sA49 sA67 M0 L0 (fun M1 L1 => M1 = M0 ∧ L1 = L0) := by
  refine k_metv (by decide) (Nat.le_of_ble_eq_true rfl) (fun K hK hRm X Y => ?_)
  subst hK
  have hnm : (kMe K).name = "<init>" := Y.2.2.2
  refine r_pl [(0, .ref (base + 25))] ⟨rfl, trivial⟩ ?_
  refine r_aload_n (q := 1) (i := 0) (j := 0) (x := base + 25) X rfl rfl dX1_init_0 rfl ?_
  refine r_objinit (q := 4) X ko_RX1 (by decide) (Nat.le_of_ble_eq_true rfl) dX1_init_1 rfl ?_
  refine r_aload_n (q := 5) (i := 0) (j := 0) (x := base + 25) X rfl rfl dX1_init_4 rfl ?_
  refine r_bipush (q := 7) (v := nI 7) X kb_7 dX1_init_5 rfl ?_
  refine r_callSNr (q := 10) X (c_newStands_7 K.2.1 G base) kn_RX1_9 (by decide) (by decide) ⟨(by rw [hRm]; exact Nat.le_of_ble_eq_true rfl), (by rw [hRm]; exact Nat.le_of_ble_eq_true rfl)⟩ rfl (Nat.le_of_ble_eq_true rfl) dX1_init_7 rfl (fun M1 L1 hp => ?_)
  obtain ⟨rfl, rfl⟩ := hp
  refine r_cs 8 56 rfl rfl ?_
  refine r_putr (q := 13) (i := 25) (j := 26) (ds := [(2, 0), (2, 0)]) (ty := tyX1 0) X fk_X1_13 hnm ⟨⟨by decide +kernel, by decide +kernel⟩, tyX1_ok 0 (by decide)⟩ ⟨rfl, rfl⟩ (by decide +kernel) rfl dX1_init_10 rfl ?_
  refine r_sh sA65 rfl ?_
  refine r_aload_n (q := 14) (i := 0) (j := 0) (x := base + 25) X rfl rfl dX1_init_13 rfl ?_
  refine r_new (q := 17) (j := 34) (ds := [(0, 0), (0, 0), (0, 0), (0, 0), (0, 0), (0, 0), (0, 0)]) X kX3 kz_RX1_19 tyX3 tyX3_ok (fun j hj => by rcases (show j = 0 ∨ j = 1 ∨ j = 2 ∨ j = 3 ∨ j = 4 ∨ j = 5 ∨ j = 6 by omega) with rfl | rfl | rfl | rfl | rfl | rfl | rfl <;> rfl) (by decide +kernel) (show _ = sA66 from rfl) (by rw [hRm]; exact Nat.le_of_ble_eq_true rfl) (by rw [hRm]; exact Nat.le_of_ble_eq_true rfl) dX1_init_14 rfl ?_
  refine r_cs 9 63 rfl rfl ?_
  refine r_dup (q := 18) X rfl dX1_init_17 rfl ?_
  refine r_callINv (q := 21) X (c_StandInit K.2.1 G base sA66 34 (by decide +kernel)) kn_RX1_21 (by decide) (by decide) ⟨(by rw [hRm]; exact Nat.le_of_ble_eq_true rfl), (by rw [hRm]; exact Nat.le_of_ble_eq_true rfl)⟩ rfl (Nat.le_of_ble_eq_true rfl) dX1_init_18 rfl (fun M1 L1 hp => ?_)
  obtain ⟨rfl, rfl⟩ := hp
  refine r_cs 9 63 rfl rfl ?_
  refine r_putr (q := 24) (i := 25) (j := 34) (ds := [(3, 26), (2, 0)]) (ty := tyX1 1) X fk_X1_22 hnm ⟨⟨by decide +kernel, by decide +kernel⟩, tyX1_ok 1 (by decide)⟩ ⟨rfl, rfl⟩ (by decide +kernel) rfl dX1_init_21 rfl ?_
  refine r_sh sA67 rfl ?_
  exact r_vret X Y ⟨rfl, rfl⟩ dX1_init_24
def sA68 : List ks_S := sA67.set 0 (0, 6, [(3, 1), (3, 3), (3, 7), (3, 8), (3, 9), (3, 25), (2, 0), (2, 0), (2, 0), (0, 0), (1, 0)])
def sA69 : List ks_S := sA68 ++ [(0, 2, [(2, 0), (2, 0), (2, 0), (2, 0), (0, 0)])]
def sA70 : List ks_S := sA69 ++ [(1, 6, [])]
def sA71 : List ks_S := sA70.set 35 (0, 2, [(3, 36), (2, 0), (2, 0), (2, 0), (0, 0)])
def sA72 : List ks_S := sA71 ++ [(1, 6, [])]
def sA73 : List ks_S := sA72.set 35 (0, 2, [(3, 36), (3, 37), (2, 0), (2, 0), (0, 0)])
def sA74 : List ks_S := sA73 ++ [(1, 6, [])]
def sA75 : List ks_S := sA74.set 35 (0, 2, [(3, 36), (3, 37), (3, 38), (2, 0), (0, 0)])
def sA76 : List ks_S := sA75 ++ [(1, 6, [])]
def sA77 : List ks_S := sA76.set 35 (0, 2, [(3, 36), (3, 37), (3, 38), (3, 39), (0, 0)])
theorem kn_RX6_42 : ks_sIN RX6 42 yX1_init "KeyholeNews" cX1_init 1 0 := ⟨⟨by decide +kernel, kw 146 (by decide +kernel), kw 31 (by decide +kernel), kw 147 (by decide +kernel)⟩, ⟨by decide +kernel, by decide +kernel, by decide +kernel⟩, by decide +kernel⟩
theorem kz_RX6_47 : Cond.classLink RX6 47 RX2 ∈ ks_all ∧ Cond.instantiable RX2 5 ∈ ks_all ∧ Cond.initialized RX2 ∈ ks_all := ⟨kw 159 (by decide +kernel), kw 160 (by decide +kernel), kw 32 (by decide +kernel)⟩
theorem ko_RX2 : Cond.methodLink RX2 3 objectInit ∈ ks_all ∧ Cond.instanceMethod objectInit ∈ ks_all ∧ Cond.code objectInit ⟨#[0xb1]⟩ 1 none ∈ ks_all := ⟨kw 164 (by decide +kernel), kw 41 (by decide +kernel), kw 42 (by decide +kernel)⟩
set_option maxHeartbeats 8000000 in
set_option maxRecDepth 20000 in
theorem c_X2Init (l : Launch) (G : ks_G) (base : Nat) : KV l G base 1 4 24 yX2_init cX2_init 1 [.ref (base + 35)] sA69 sA77 M0 L0 (fun M1 L1 => M1 = M0 ∧ L1 = L0) := by
  refine k_metv (by decide) (Nat.le_of_ble_eq_true rfl) (fun K hK hRm X Y => ?_)
  subst hK
  have hnm : (kMe K).name = "<init>" := Y.2.2.2
  refine r_pl [(0, .ref (base + 35))] ⟨rfl, trivial⟩ ?_
  refine r_aload_n (q := 1) (i := 0) (j := 0) (x := base + 35) X rfl rfl dX2_init_0 rfl ?_
  refine r_objinit (q := 4) X ko_RX2 (by decide) (Nat.le_of_ble_eq_true rfl) dX2_init_1 rfl ?_
  refine r_aload_n (q := 5) (i := 0) (j := 0) (x := base + 35) X rfl rfl dX2_init_4 rfl ?_
  refine r_bipush (q := 7) (v := nI 6) X kb_6 dX2_init_5 rfl ?_
  refine r_newi (q := 9) (j := 36) X (by decide) (show Cond.arrayClass .int ∈ ks_all from kw 57 (by decide +kernel)) (by decide +kernel) (show _ = sA70 from rfl) (by rw [hRm]; exact Nat.le_of_ble_eq_true rfl) (by rw [hRm]; exact Nat.le_of_ble_eq_true rfl) dX2_init_7 rfl ?_
  refine r_cs 1 6 rfl rfl ?_
  refine r_putr (q := 12) (i := 35) (j := 36) (ds := [(2, 0), (2, 0), (2, 0), (2, 0), (0, 0)]) (ty := tyX2 0) X fk_X2_9 hnm ⟨⟨by decide +kernel, by decide +kernel⟩, tyX2_ok 0 (by decide)⟩ ⟨rfl, rfl⟩ (by decide +kernel) rfl dX2_init_9 rfl ?_
  refine r_sh sA71 rfl ?_
  refine r_aload_n (q := 13) (i := 0) (j := 0) (x := base + 35) X rfl rfl dX2_init_12 rfl ?_
  refine r_bipush (q := 15) (v := nI 6) X kb_6 dX2_init_13 rfl ?_
  refine r_newi (q := 17) (j := 37) X (by decide) (show Cond.arrayClass .int ∈ ks_all from kw 57 (by decide +kernel)) (by decide +kernel) (show _ = sA72 from rfl) (by rw [hRm]; exact Nat.le_of_ble_eq_true rfl) (by rw [hRm]; exact Nat.le_of_ble_eq_true rfl) dX2_init_15 rfl ?_
  refine r_cs 2 12 rfl rfl ?_
  refine r_putr (q := 20) (i := 35) (j := 37) (ds := [(3, 36), (2, 0), (2, 0), (2, 0), (0, 0)]) (ty := tyX2 1) X fk_X2_15 hnm ⟨⟨by decide +kernel, by decide +kernel⟩, tyX2_ok 1 (by decide)⟩ ⟨rfl, rfl⟩ (by decide +kernel) rfl dX2_init_17 rfl ?_
  refine r_sh sA73 rfl ?_
  refine r_aload_n (q := 21) (i := 0) (j := 0) (x := base + 35) X rfl rfl dX2_init_20 rfl ?_
  refine r_bipush (q := 23) (v := nI 6) X kb_6 dX2_init_21 rfl ?_
  refine r_newi (q := 25) (j := 38) X (by decide) (show Cond.arrayClass .int ∈ ks_all from kw 57 (by decide +kernel)) (by decide +kernel) (show _ = sA74 from rfl) (by rw [hRm]; exact Nat.le_of_ble_eq_true rfl) (by rw [hRm]; exact Nat.le_of_ble_eq_true rfl) dX2_init_23 rfl ?_
  refine r_cs 3 18 rfl rfl ?_
  refine r_putr (q := 28) (i := 35) (j := 38) (ds := [(3, 36), (3, 37), (2, 0), (2, 0), (0, 0)]) (ty := tyX2 2) X fk_X2_18 hnm ⟨⟨by decide +kernel, by decide +kernel⟩, tyX2_ok 2 (by decide)⟩ ⟨rfl, rfl⟩ (by decide +kernel) rfl dX2_init_25 rfl ?_
  refine r_sh sA75 rfl ?_
  refine r_aload_n (q := 29) (i := 0) (j := 0) (x := base + 35) X rfl rfl dX2_init_28 rfl ?_
  refine r_bipush (q := 31) (v := nI 6) X kb_6 dX2_init_29 rfl ?_
  refine r_newi (q := 33) (j := 39) X (by decide) (show Cond.arrayClass .int ∈ ks_all from kw 57 (by decide +kernel)) (by decide +kernel) (show _ = sA76 from rfl) (by rw [hRm]; exact Nat.le_of_ble_eq_true rfl) (by rw [hRm]; exact Nat.le_of_ble_eq_true rfl) dX2_init_31 rfl ?_
  refine r_cs 4 24 rfl rfl ?_
  refine r_putr (q := 36) (i := 35) (j := 39) (ds := [(3, 36), (3, 37), (3, 38), (2, 0), (0, 0)]) (ty := tyX2 3) X fk_X2_21 hnm ⟨⟨by decide +kernel, by decide +kernel⟩, tyX2_ok 3 (by decide)⟩ ⟨rfl, rfl⟩ (by decide +kernel) rfl dX2_init_33 rfl ?_
  refine r_sh sA77 rfl ?_
  refine r_aload_n (q := 37) (i := 0) (j := 0) (x := base + 35) X rfl rfl dX2_init_36 rfl ?_
  refine r_iconst (q := 38) (v := nI 0) X kc_0 dX2_init_37 rfl ?_
  refine r_puti (q := 41) (i := 35) (n := 0) (ds := [(3, 36), (3, 37), (3, 38), (3, 39), (0, 0)]) X fk_X2_24 kp_X2_4 (by decide +kernel) rfl dX2_init_38 rfl ?_
  refine r_mem M0 (M0_put _ _) ?_
  exact r_vret X Y ⟨rfl, rfl⟩ dX2_init_41
def sA78 : List ks_S := sA77.set 0 (0, 6, [(3, 1), (3, 3), (3, 7), (3, 8), (3, 9), (3, 25), (3, 35), (2, 0), (2, 0), (0, 0), (1, 0)])
def sA79 : List ks_S := sA78 ++ [(3, 2, List.replicate 2 (2, 0))]
def sA80 : List ks_S := sA79 ++ [kSt]
def sA81 : List ks_S := sA80.set 40 (3, 2, [(3, 41), (2, 0)])
def sA82 : List ks_S := sA81 ++ [kSt]
def sA83 : List ks_S := sA82.set 40 (3, 2, [(3, 41), (3, 42)])
theorem kn_RX6_49 : ks_sIN RX6 49 yX2_init "KeyholeNews" cX2_init 1 0 := ⟨⟨by decide +kernel, kw 162 (by decide +kernel), kw 32 (by decide +kernel), kw 163 (by decide +kernel)⟩, ⟨by decide +kernel, by decide +kernel, by decide +kernel⟩, by decide +kernel⟩
set_option maxHeartbeats 8000000 in
set_option maxRecDepth 20000 in
theorem c_newStands_2 (l : Launch) (G : ks_G) (base : Nat) : KR l G base 2 3 16 yX6_newStands cX6_newStands 3 (.array (.object "KeyholeNews$Stand")) [.int (nI 2)] sA78 sA83 40 M0 L0 (fun M1 L1 => M1 = M0 ∧ L1 = L0) := by
  refine k_metr (by decide) (Nat.le_of_ble_eq_true rfl) (fun K hK hRm X Y => ?_)
  subst hK
  refine r_pl [(0, .int (nI 2))] ⟨rfl, trivial⟩ ?_
  refine r_iload_n (q := 1) (i := 0) (j := 0) (x := nI 2) X rfl rfl dX6_newStands_0 rfl ?_
  refine r_iconst (q := 2) (v := nI 0) X kc_0 dX6_newStands_1 rfl ?_
  refine r_max (q := 5) (v := nI 2) X (by decide) km_RX6_225 ⟨Nat.zero_le _, Nat.zero_le _⟩ (by decide) (Nat.le_of_ble_eq_true rfl) dX6_newStands_2 rfl ?_
  refine r_newq (q := 8) (j := 40) X (by decide) kz_RX6_23.1 (by decide +kernel) (show _ = sA79 from rfl) (by rw [hRm]; exact Nat.le_of_ble_eq_true rfl) (by rw [hRm]; exact Nat.le_of_ble_eq_true rfl) dX6_newStands_5 rfl ?_
  refine r_cs 1 2 rfl rfl ?_
  refine r_astore_n (q := 9) (i := 1) (j := 1) X rfl (Nat.le_of_ble_eq_true rfl) dX6_newStands_8 rfl ?_
  refine r_iconst (q := 10) (v := nI 0) X kc_0 dX6_newStands_9 rfl ?_
  refine r_istore_n (q := 11) (i := 2) (j := 2) X rfl (Nat.le_of_ble_eq_true rfl) dX6_newStands_10 rfl ?_
  refine r_iload_n (q := 12) (i := 2) (j := 2) (x := nI 0) X rfl rfl dX6_newStands_11 rfl ?_
  refine r_aload_n (q := 13) (i := 1) (j := 1) (x := base + 40) X rfl rfl dX6_newStands_12 rfl ?_
  refine r_alen (q := 14) (i := 40) (a := 2) (n := 2) (ds := [(2, 0), (2, 0)]) X (by decide +kernel) dX6_newStands_13 rfl ?_
  refine r_icmp_ge (q := 17) (tgt := 33) X (by decide) dX6_newStands_14 rfl (fun c => absurd c (by decide)) (fun _ => ?_)
  refine r_aload_n (q := 18) (i := 1) (j := 1) (x := base + 40) X rfl rfl dX6_newStands_17 rfl ?_
  refine r_iload_n (q := 19) (i := 2) (j := 2) (x := nI 0) X rfl rfl dX6_newStands_18 rfl ?_
  refine r_new (q := 22) (j := 41) (ds := [(0, 0), (0, 0), (0, 0), (0, 0), (0, 0), (0, 0), (0, 0)]) X kX3 kz_RX6_23 tyX3 tyX3_ok (fun j hj => by rcases (show j = 0 ∨ j = 1 ∨ j = 2 ∨ j = 3 ∨ j = 4 ∨ j = 5 ∨ j = 6 by omega) with rfl | rfl | rfl | rfl | rfl | rfl | rfl <;> rfl) (by decide +kernel) (show _ = sA80 from rfl) (by rw [hRm]; exact Nat.le_of_ble_eq_true rfl) (by rw [hRm]; exact Nat.le_of_ble_eq_true rfl) dX6_newStands_19 rfl ?_
  refine r_cs 2 9 rfl rfl ?_
  refine r_dup (q := 23) X rfl dX6_newStands_22 rfl ?_
  refine r_callINv (q := 26) X (c_StandInit K.2.1 G base sA80 41 (by decide +kernel)) kn_RX6_25 (by decide) (by decide) ⟨(by rw [hRm]; exact Nat.le_of_ble_eq_true rfl), (by rw [hRm]; exact Nat.le_of_ble_eq_true rfl)⟩ rfl (Nat.le_of_ble_eq_true rfl) dX6_newStands_23 rfl (fun M1 L1 hp => ?_)
  obtain ⟨rfl, rfl⟩ := hp
  refine r_cs 2 9 rfl rfl ?_
  refine r_aast (q := 27) (i := 40) (n := 2) (ds := [(2, 0), (2, 0)]) (a := 0) (j := 41) (ds2 := [(0, 0), (0, 0), (0, 0), (0, 0), (0, 0), (0, 0), (0, 0)]) X (by decide +kernel) (by decide) (by decide) rfl (by decide +kernel) (show _ = sA81 from rfl) dX6_newStands_26 rfl ?_
  refine r_iinc (q := 30) (i := 2) (x := nI 0) (v := nI 1) X rfl (Nat.le_of_ble_eq_true rfl) (kinc 1 rfl) dX6_newStands_27 rfl ?_
  refine r_goto (tgt := 11) X (by decide) dX6_newStands_30 ?_
  refine r_iload_n (q := 12) (i := 2) (j := 2) (x := nI 1) X rfl rfl dX6_newStands_11 rfl ?_
  refine r_aload_n (q := 13) (i := 1) (j := 1) (x := base + 40) X rfl rfl dX6_newStands_12 rfl ?_
  refine r_alen (q := 14) (i := 40) (a := 2) (n := 2) (ds := [(3, 41), (2, 0)]) X (by decide +kernel) dX6_newStands_13 rfl ?_
  refine r_icmp_ge (q := 17) (tgt := 33) X (by decide) dX6_newStands_14 rfl (fun c => absurd c (by decide)) (fun _ => ?_)
  refine r_aload_n (q := 18) (i := 1) (j := 1) (x := base + 40) X rfl rfl dX6_newStands_17 rfl ?_
  refine r_iload_n (q := 19) (i := 2) (j := 2) (x := nI 1) X rfl rfl dX6_newStands_18 rfl ?_
  refine r_new (q := 22) (j := 42) (ds := [(0, 0), (0, 0), (0, 0), (0, 0), (0, 0), (0, 0), (0, 0)]) X kX3 kz_RX6_23 tyX3 tyX3_ok (fun j hj => by rcases (show j = 0 ∨ j = 1 ∨ j = 2 ∨ j = 3 ∨ j = 4 ∨ j = 5 ∨ j = 6 by omega) with rfl | rfl | rfl | rfl | rfl | rfl | rfl <;> rfl) (by decide +kernel) (show _ = sA82 from rfl) (by rw [hRm]; exact Nat.le_of_ble_eq_true rfl) (by rw [hRm]; exact Nat.le_of_ble_eq_true rfl) dX6_newStands_19 rfl ?_
  refine r_cs 3 16 rfl rfl ?_
  refine r_dup (q := 23) X rfl dX6_newStands_22 rfl ?_
  refine r_callINv (q := 26) X (c_StandInit K.2.1 G base sA82 42 (by decide +kernel)) kn_RX6_25 (by decide) (by decide) ⟨(by rw [hRm]; exact Nat.le_of_ble_eq_true rfl), (by rw [hRm]; exact Nat.le_of_ble_eq_true rfl)⟩ rfl (Nat.le_of_ble_eq_true rfl) dX6_newStands_23 rfl (fun M1 L1 hp => ?_)
  obtain ⟨rfl, rfl⟩ := hp
  refine r_cs 3 16 rfl rfl ?_
  refine r_aast (q := 27) (i := 40) (n := 2) (ds := [(3, 41), (2, 0)]) (a := 1) (j := 42) (ds2 := [(0, 0), (0, 0), (0, 0), (0, 0), (0, 0), (0, 0), (0, 0)]) X (by decide +kernel) (by decide) (by decide) rfl (by decide +kernel) (show _ = sA83 from rfl) dX6_newStands_26 rfl ?_
  refine r_iinc (q := 30) (i := 2) (x := nI 1) (v := nI 2) X rfl (Nat.le_of_ble_eq_true rfl) (kinc 1 rfl) dX6_newStands_27 rfl ?_
  refine r_goto (tgt := 11) X (by decide) dX6_newStands_30 ?_
  refine r_iload_n (q := 12) (i := 2) (j := 2) (x := nI 2) X rfl rfl dX6_newStands_11 rfl ?_
  refine r_aload_n (q := 13) (i := 1) (j := 1) (x := base + 40) X rfl rfl dX6_newStands_12 rfl ?_
  refine r_alen (q := 14) (i := 40) (a := 2) (n := 2) (ds := [(3, 41), (3, 42)]) X (by decide +kernel) dX6_newStands_13 rfl ?_
  refine r_icmp_ge (q := 17) (tgt := 33) X (by decide) dX6_newStands_14 rfl (fun _ => ?_) (fun c => absurd c (by decide))
  refine r_aload_n (q := 34) (i := 1) (j := 1) (x := base + 40) X rfl rfl dX6_newStands_33 rfl ?_
  exact r_aret X Y (Or.inr ⟨_, rfl⟩) ⟨rfl, rfl⟩ dX6_newStands_34
def sA84 : List ks_S := sA83.set 0 (0, 6, [(3, 1), (3, 3), (3, 7), (3, 8), (3, 9), (3, 25), (3, 35), (3, 40), (2, 0), (0, 0), (1, 0)])
def sA85 : List ks_S := sA84 ++ [(1, 6, [])]
def sA86 : List ks_S := sA85.set 0 (0, 6, [(3, 1), (3, 3), (3, 7), (3, 8), (3, 9), (3, 25), (3, 35), (3, 40), (3, 43), (0, 0), (1, 0)])
set_option maxHeartbeats 8000000 in
set_option maxRecDepth 20000 in
theorem c_X6Init (l : Launch) (G : ks_G) (base : Nat) : KV l G base 4 43 360 yX6_init cX6_init 1 [.ref (base + 0)] sA0 sA86 M0 L0 (fun M1 L1 => M1 = M0 ∧ L1 = L0) := by
  refine k_metv (by decide) (Nat.le_of_ble_eq_true rfl) (fun K hK hRm X Y => ?_)
  subst hK
  have hnm : (kMe K).name = "<init>" := Y.2.2.2
  refine r_pl [(0, .ref (base + 0))] ⟨rfl, trivial⟩ ?_
  refine r_aload_n (q := 1) (i := 0) (j := 0) (x := base + 0) X rfl rfl dX6_init_0 rfl ?_
  refine r_objinit (q := 4) X ko_RX6 (by decide) (Nat.le_of_ble_eq_true rfl) dX6_init_1 rfl ?_
  refine r_aload_n (q := 5) (i := 0) (j := 0) (x := base + 0) X rfl rfl dX6_init_4 rfl ?_
  refine r_new (q := 8) (j := 1) (ds := [(2, 0), (0, 0)]) X kX5 kz_RX6_7 tyX5 tyX5_ok (fun j hj => by rcases (show j = 0 ∨ j = 1 by omega) with rfl | rfl <;> rfl) (by decide +kernel) (show _ = sA1 from rfl) (by rw [hRm]; exact Nat.le_of_ble_eq_true rfl) (by rw [hRm]; exact Nat.le_of_ble_eq_true rfl) dX6_init_5 rfl ?_
  refine r_cs 1 2 rfl rfl ?_
  refine r_dup (q := 9) X rfl dX6_init_8 rfl ?_
  refine r_callINv (q := 12) X (c_X5Init K.2.1 G base) kn_RX6_9 (by decide) (by decide) ⟨(by rw [hRm]; exact Nat.le_of_ble_eq_true rfl), (by rw [hRm]; exact Nat.le_of_ble_eq_true rfl)⟩ rfl (Nat.le_of_ble_eq_true rfl) dX6_init_9 rfl (fun M1 L1 hp => ?_)
  obtain ⟨rfl, rfl⟩ := hp
  refine r_cs 2 50 rfl rfl ?_
  refine r_putr (q := 15) (i := 0) (j := 1) (ds := [(2, 0), (2, 0), (2, 0), (2, 0), (2, 0), (2, 0), (2, 0), (2, 0), (2, 0), (0, 0), (1, 0)]) (ty := tyX6 0) X fk_X6_10 hnm ⟨⟨by decide +kernel, by decide +kernel⟩, tyX6_ok 0 (by decide)⟩ ⟨rfl, rfl⟩ (by decide +kernel) rfl dX6_init_12 rfl ?_
  refine r_sh sA4 rfl ?_
  refine r_aload_n (q := 16) (i := 0) (j := 0) (x := base + 0) X rfl rfl dX6_init_15 rfl ?_
  refine r_new (q := 19) (j := 3) (ds := [(2, 0), (2, 0), (2, 0), (0, 0), (0, 0)]) X kX4 kz_RX6_16 tyX4 tyX4_ok (fun j hj => by rcases (show j = 0 ∨ j = 1 ∨ j = 2 ∨ j = 3 ∨ j = 4 by omega) with rfl | rfl | rfl | rfl | rfl <;> rfl) (by decide +kernel) (show _ = sA5 from rfl) (by rw [hRm]; exact Nat.le_of_ble_eq_true rfl) (by rw [hRm]; exact Nat.le_of_ble_eq_true rfl) dX6_init_16 rfl ?_
  refine r_cs 3 55 rfl rfl ?_
  refine r_dup (q := 20) X rfl dX6_init_19 rfl ?_
  refine r_callINv (q := 23) X (c_X4Init K.2.1 G base) kn_RX6_18 (by decide) (by decide) ⟨(by rw [hRm]; exact Nat.le_of_ble_eq_true rfl), (by rw [hRm]; exact Nat.le_of_ble_eq_true rfl)⟩ rfl (Nat.le_of_ble_eq_true rfl) dX6_init_20 rfl (fun M1 L1 hp => ?_)
  obtain ⟨rfl, rfl⟩ := hp
  refine r_cs 6 115 rfl rfl ?_
  refine r_putr (q := 26) (i := 0) (j := 3) (ds := [(3, 1), (2, 0), (2, 0), (2, 0), (2, 0), (2, 0), (2, 0), (2, 0), (2, 0), (0, 0), (1, 0)]) (ty := tyX6 1) X fk_X6_19 hnm ⟨⟨by decide +kernel, by decide +kernel⟩, tyX6_ok 1 (by decide)⟩ ⟨rfl, rfl⟩ (by decide +kernel) rfl dX6_init_23 rfl ?_
  refine r_sh sA12 rfl ?_
  refine r_aload_n (q := 27) (i := 0) (j := 0) (x := base + 0) X rfl rfl dX6_init_26 rfl ?_
  refine r_new (q := 30) (j := 7) (ds := [(0, 0), (0, 0), (0, 0), (0, 0), (0, 0), (0, 0), (0, 0)]) X kX3 kz_RX6_23 tyX3 tyX3_ok (fun j hj => by rcases (show j = 0 ∨ j = 1 ∨ j = 2 ∨ j = 3 ∨ j = 4 ∨ j = 5 ∨ j = 6 by omega) with rfl | rfl | rfl | rfl | rfl | rfl | rfl <;> rfl) (by decide +kernel) (show _ = sA13 from rfl) (by rw [hRm]; exact Nat.le_of_ble_eq_true rfl) (by rw [hRm]; exact Nat.le_of_ble_eq_true rfl) dX6_init_27 rfl ?_
  refine r_cs 7 122 rfl rfl ?_
  refine r_dup (q := 31) X rfl dX6_init_30 rfl ?_
  refine r_callINv (q := 34) X (c_StandInit K.2.1 G base sA13 7 (by decide +kernel)) kn_RX6_25 (by decide) (by decide) ⟨(by rw [hRm]; exact Nat.le_of_ble_eq_true rfl), (by rw [hRm]; exact Nat.le_of_ble_eq_true rfl)⟩ rfl (Nat.le_of_ble_eq_true rfl) dX6_init_31 rfl (fun M1 L1 hp => ?_)
  obtain ⟨rfl, rfl⟩ := hp
  refine r_cs 7 122 rfl rfl ?_
  refine r_putr (q := 37) (i := 0) (j := 7) (ds := [(3, 1), (3, 3), (2, 0), (2, 0), (2, 0), (2, 0), (2, 0), (2, 0), (2, 0), (0, 0), (1, 0)]) (ty := tyX6 2) X fk_X6_26 hnm ⟨⟨by decide +kernel, by decide +kernel⟩, tyX6_ok 2 (by decide)⟩ ⟨rfl, rfl⟩ (by decide +kernel) rfl dX6_init_34 rfl ?_
  refine r_sh sA14 rfl ?_
  refine r_aload_n (q := 38) (i := 0) (j := 0) (x := base + 0) X rfl rfl dX6_init_37 rfl ?_
  refine r_new (q := 41) (j := 8) (ds := [(0, 0), (0, 0), (0, 0), (0, 0), (0, 0), (0, 0), (0, 0)]) X kX3 kz_RX6_23 tyX3 tyX3_ok (fun j hj => by rcases (show j = 0 ∨ j = 1 ∨ j = 2 ∨ j = 3 ∨ j = 4 ∨ j = 5 ∨ j = 6 by omega) with rfl | rfl | rfl | rfl | rfl | rfl | rfl <;> rfl) (by decide +kernel) (show _ = sA15 from rfl) (by rw [hRm]; exact Nat.le_of_ble_eq_true rfl) (by rw [hRm]; exact Nat.le_of_ble_eq_true rfl) dX6_init_38 rfl ?_
  refine r_cs 8 129 rfl rfl ?_
  refine r_dup (q := 42) X rfl dX6_init_41 rfl ?_
  refine r_callINv (q := 45) X (c_StandInit K.2.1 G base sA15 8 (by decide +kernel)) kn_RX6_25 (by decide) (by decide) ⟨(by rw [hRm]; exact Nat.le_of_ble_eq_true rfl), (by rw [hRm]; exact Nat.le_of_ble_eq_true rfl)⟩ rfl (Nat.le_of_ble_eq_true rfl) dX6_init_42 rfl (fun M1 L1 hp => ?_)
  obtain ⟨rfl, rfl⟩ := hp
  refine r_cs 8 129 rfl rfl ?_
  refine r_putr (q := 48) (i := 0) (j := 8) (ds := [(3, 1), (3, 3), (3, 7), (2, 0), (2, 0), (2, 0), (2, 0), (2, 0), (2, 0), (0, 0), (1, 0)]) (ty := tyX6 3) X fk_X6_30 hnm ⟨⟨by decide +kernel, by decide +kernel⟩, tyX6_ok 3 (by decide)⟩ ⟨rfl, rfl⟩ (by decide +kernel) rfl dX6_init_45 rfl ?_
  refine r_sh sA16 rfl ?_
  refine r_aload_n (q := 49) (i := 0) (j := 0) (x := base + 0) X rfl rfl dX6_init_48 rfl ?_
  refine r_new (q := 52) (j := 9) (ds := [(2, 0), (0, 0), (0, 0)]) X kX0 kz_RX6_33 tyX0 tyX0_ok (fun j hj => by rcases (show j = 0 ∨ j = 1 ∨ j = 2 by omega) with rfl | rfl | rfl <;> rfl) (by decide +kernel) (show _ = sA17 from rfl) (by rw [hRm]; exact Nat.le_of_ble_eq_true rfl) (by rw [hRm]; exact Nat.le_of_ble_eq_true rfl) dX6_init_49 rfl ?_
  refine r_cs 9 132 rfl rfl ?_
  refine r_dup (q := 53) X rfl dX6_init_52 rfl ?_
  refine r_callINv (q := 56) X (c_X0Init K.2.1 G base) kn_RX6_35 (by decide) (by decide) ⟨(by rw [hRm]; exact Nat.le_of_ble_eq_true rfl), (by rw [hRm]; exact Nat.le_of_ble_eq_true rfl)⟩ rfl (Nat.le_of_ble_eq_true rfl) dX6_init_53 rfl (fun M1 L1 hp => ?_)
  obtain ⟨rfl, rfl⟩ := hp
  refine r_cs 24 244 rfl rfl ?_
  refine r_putr (q := 59) (i := 0) (j := 9) (ds := [(3, 1), (3, 3), (3, 7), (3, 8), (2, 0), (2, 0), (2, 0), (2, 0), (2, 0), (0, 0), (1, 0)]) (ty := tyX6 4) X fk_X6_36 hnm ⟨⟨by decide +kernel, by decide +kernel⟩, tyX6_ok 4 (by decide)⟩ ⟨rfl, rfl⟩ (by decide +kernel) rfl dX6_init_56 rfl ?_
  refine r_sh sA48 rfl ?_
  refine r_aload_n (q := 60) (i := 0) (j := 0) (x := base + 0) X rfl rfl dX6_init_59 rfl ?_
  refine r_new (q := 63) (j := 25) (ds := [(2, 0), (2, 0)]) X kX1 kz_RX6_40 tyX1 tyX1_ok (fun j hj => by rcases (show j = 0 ∨ j = 1 by omega) with rfl | rfl <;> rfl) (by decide +kernel) (show _ = sA49 from rfl) (by rw [hRm]; exact Nat.le_of_ble_eq_true rfl) (by rw [hRm]; exact Nat.le_of_ble_eq_true rfl) dX6_init_60 rfl ?_
  refine r_cs 25 246 rfl rfl ?_
  refine r_dup (q := 64) X rfl dX6_init_63 rfl ?_
  refine r_callINv (q := 67) X (c_X1Init K.2.1 G base) kn_RX6_42 (by decide) (by decide) ⟨(by rw [hRm]; exact Nat.le_of_ble_eq_true rfl), (by rw [hRm]; exact Nat.le_of_ble_eq_true rfl)⟩ rfl (Nat.le_of_ble_eq_true rfl) dX6_init_64 rfl (fun M1 L1 hp => ?_)
  obtain ⟨rfl, rfl⟩ := hp
  refine r_cs 34 309 rfl rfl ?_
  refine r_putr (q := 70) (i := 0) (j := 25) (ds := [(3, 1), (3, 3), (3, 7), (3, 8), (3, 9), (2, 0), (2, 0), (2, 0), (2, 0), (0, 0), (1, 0)]) (ty := tyX6 5) X fk_X6_43 hnm ⟨⟨by decide +kernel, by decide +kernel⟩, tyX6_ok 5 (by decide)⟩ ⟨rfl, rfl⟩ (by decide +kernel) rfl dX6_init_67 rfl ?_
  refine r_sh sA68 rfl ?_
  refine r_aload_n (q := 71) (i := 0) (j := 0) (x := base + 0) X rfl rfl dX6_init_70 rfl ?_
  refine r_new (q := 74) (j := 35) (ds := [(2, 0), (2, 0), (2, 0), (2, 0), (0, 0)]) X kX2 kz_RX6_47 tyX2 tyX2_ok (fun j hj => by rcases (show j = 0 ∨ j = 1 ∨ j = 2 ∨ j = 3 ∨ j = 4 by omega) with rfl | rfl | rfl | rfl | rfl <;> rfl) (by decide +kernel) (show _ = sA69 from rfl) (by rw [hRm]; exact Nat.le_of_ble_eq_true rfl) (by rw [hRm]; exact Nat.le_of_ble_eq_true rfl) dX6_init_71 rfl ?_
  refine r_cs 35 314 rfl rfl ?_
  refine r_dup (q := 75) X rfl dX6_init_74 rfl ?_
  refine r_callINv (q := 78) X (c_X2Init K.2.1 G base) kn_RX6_49 (by decide) (by decide) ⟨(by rw [hRm]; exact Nat.le_of_ble_eq_true rfl), (by rw [hRm]; exact Nat.le_of_ble_eq_true rfl)⟩ rfl (Nat.le_of_ble_eq_true rfl) dX6_init_75 rfl (fun M1 L1 hp => ?_)
  obtain ⟨rfl, rfl⟩ := hp
  refine r_cs 39 338 rfl rfl ?_
  refine r_putr (q := 81) (i := 0) (j := 35) (ds := [(3, 1), (3, 3), (3, 7), (3, 8), (3, 9), (3, 25), (2, 0), (2, 0), (2, 0), (0, 0), (1, 0)]) (ty := tyX6 6) X fk_X6_50 hnm ⟨⟨by decide +kernel, by decide +kernel⟩, tyX6_ok 6 (by decide)⟩ ⟨rfl, rfl⟩ (by decide +kernel) rfl dX6_init_78 rfl ?_
  refine r_sh sA78 rfl ?_
  refine r_aload_n (q := 82) (i := 0) (j := 0) (x := base + 0) X rfl rfl dX6_init_81 rfl ?_
  refine r_iconst (q := 83) (v := nI 2) X kc_2 dX6_init_82 rfl ?_
  refine r_callSr (q := 86) X (c_newStands_2 K.2.1 G base) ks_RX6_54 (by decide) (by decide) ⟨(by rw [hRm]; exact Nat.le_of_ble_eq_true rfl), (by rw [hRm]; exact Nat.le_of_ble_eq_true rfl)⟩ rfl (Nat.le_of_ble_eq_true rfl) dX6_init_83 rfl (fun M1 L1 hp => ?_)
  obtain ⟨rfl, rfl⟩ := hp
  refine r_cs 42 354 rfl rfl ?_
  refine r_putr (q := 89) (i := 0) (j := 40) (ds := [(3, 1), (3, 3), (3, 7), (3, 8), (3, 9), (3, 25), (3, 35), (2, 0), (2, 0), (0, 0), (1, 0)]) (ty := tyX6 7) X fk_X6_58 hnm ⟨⟨by decide +kernel, by decide +kernel⟩, tyX6_ok 7 (by decide)⟩ ⟨rfl, rfl⟩ (by decide +kernel) rfl dX6_init_86 rfl ?_
  refine r_sh sA84 rfl ?_
  refine r_aload_n (q := 90) (i := 0) (j := 0) (x := base + 0) X rfl rfl dX6_init_89 rfl ?_
  refine r_bipush (q := 92) (v := nI 6) X kb_6 dX6_init_90 rfl ?_
  refine r_newi (q := 94) (j := 43) X (by decide) (show Cond.arrayClass .int ∈ ks_all from kw 57 (by decide +kernel)) (by decide +kernel) (show _ = sA85 from rfl) (by rw [hRm]; exact Nat.le_of_ble_eq_true rfl) (by rw [hRm]; exact Nat.le_of_ble_eq_true rfl) dX6_init_92 rfl ?_
  refine r_cs 43 360 rfl rfl ?_
  refine r_putr (q := 97) (i := 0) (j := 43) (ds := [(3, 1), (3, 3), (3, 7), (3, 8), (3, 9), (3, 25), (3, 35), (3, 40), (2, 0), (0, 0), (1, 0)]) (ty := tyX6 8) X fk_X6_62 hnm ⟨⟨by decide +kernel, by decide +kernel⟩, tyX6_ok 8 (by decide)⟩ ⟨rfl, rfl⟩ (by decide +kernel) rfl dX6_init_94 rfl ?_
  refine r_sh sA86 rfl ?_
  refine r_aload_n (q := 98) (i := 0) (j := 0) (x := base + 0) X rfl rfl dX6_init_97 rfl ?_
  refine r_iconst (q := 99) (v := nI 0) X kc_0 dX6_init_98 rfl ?_
  refine r_puti (q := 102) (i := 0) (n := 0) (ds := [(3, 1), (3, 3), (3, 7), (3, 8), (3, 9), (3, 25), (3, 35), (3, 40), (3, 43), (0, 0), (1, 0)]) X fk_X6_66 kp_X6_9 (by decide +kernel) rfl dX6_init_99 rfl ?_
  refine r_mem M0 (M0_put _ _) ?_
  refine r_aload_n (q := 103) (i := 0) (j := 0) (x := base + 0) X rfl rfl dX6_init_102 rfl ?_
  refine r_lconst (q := 104) (v := 0) X rfl dX6_init_103 rfl ?_
  refine r_putl (q := 107) (i := 0) (x := 0) (ds := [(3, 1), (3, 3), (3, 7), (3, 8), (3, 9), (3, 25), (3, 35), (3, 40), (3, 43), (0, 0), (1, 0)]) X fk_X6_70 kp_X6_10 (by decide +kernel) rfl (ks_ho (by decide)) dX6_init_104 rfl ?_
  refine r_lm L0 (by funext a; simp [upl, L0]) ?_
  exact r_vret X Y ⟨rfl, rfl⟩ dX6_init_107
def sA87 : List ks_S := sA86 ++ [(0, 7, [(0, 0), (2, 0), (0, 0), (0, 0), (0, 0), (2, 0), (2, 0), (0, 0), (0, 0), (2, 0), (2, 0), (2, 0), (2, 0), (2, 0), (0, 0), (2, 0), (2, 0), (0, 0), (2, 0), (2, 0), (2, 0), (2, 0), (1, 0), (0, 0), (0, 0), (0, 0), (0, 0), (2, 0), (2, 0), (0, 0)])]
def sA88 : List ks_S := sA87 ++ [(1, 48, [])]
def sA89 : List ks_S := sA88.set 44 (0, 7, [(0, 0), (3, 45), (0, 0), (0, 0), (0, 0), (2, 0), (2, 0), (0, 0), (0, 0), (2, 0), (2, 0), (2, 0), (2, 0), (2, 0), (0, 0), (2, 0), (2, 0), (0, 0), (2, 0), (2, 0), (2, 0), (2, 0), (1, 0), (0, 0), (0, 0), (0, 0), (0, 0), (2, 0), (2, 0), (0, 0)])
def sA90 : List ks_S := sA89 ++ [(1, 6, [])]
def sA91 : List ks_S := sA90.set 44 (0, 7, [(0, 0), (3, 45), (0, 0), (0, 0), (0, 0), (3, 46), (2, 0), (0, 0), (0, 0), (2, 0), (2, 0), (2, 0), (2, 0), (2, 0), (0, 0), (2, 0), (2, 0), (0, 0), (2, 0), (2, 0), (2, 0), (2, 0), (1, 0), (0, 0), (0, 0), (0, 0), (0, 0), (2, 0), (2, 0), (0, 0)])
def sA92 : List ks_S := sA91 ++ [(1, 18, [])]
def sA93 : List ks_S := sA92.set 44 (0, 7, [(0, 0), (3, 45), (0, 0), (0, 0), (0, 0), (3, 46), (3, 47), (0, 0), (0, 0), (2, 0), (2, 0), (2, 0), (2, 0), (2, 0), (0, 0), (2, 0), (2, 0), (0, 0), (2, 0), (2, 0), (2, 0), (2, 0), (1, 0), (0, 0), (0, 0), (0, 0), (0, 0), (2, 0), (2, 0), (0, 0)])
def sA94 : List ks_S := sA93 ++ [(1, 24, [])]
def sA95 : List ks_S := sA94.set 44 (0, 7, [(0, 0), (3, 45), (0, 0), (0, 0), (0, 0), (3, 46), (3, 47), (0, 0), (0, 0), (3, 48), (2, 0), (2, 0), (2, 0), (2, 0), (0, 0), (2, 0), (2, 0), (0, 0), (2, 0), (2, 0), (2, 0), (2, 0), (1, 0), (0, 0), (0, 0), (0, 0), (0, 0), (2, 0), (2, 0), (0, 0)])
def sA96 : List ks_S := sA95 ++ [(1, 12, [])]
def sA97 : List ks_S := sA96.set 44 (0, 7, [(0, 0), (3, 45), (0, 0), (0, 0), (0, 0), (3, 46), (3, 47), (0, 0), (0, 0), (3, 48), (3, 49), (2, 0), (2, 0), (2, 0), (0, 0), (2, 0), (2, 0), (0, 0), (2, 0), (2, 0), (2, 0), (2, 0), (1, 0), (0, 0), (0, 0), (0, 0), (0, 0), (2, 0), (2, 0), (0, 0)])
def sA98 : List ks_S := sA97 ++ [(1, 12, [])]
def sA99 : List ks_S := sA98.set 44 (0, 7, [(0, 0), (3, 45), (0, 0), (0, 0), (0, 0), (3, 46), (3, 47), (0, 0), (0, 0), (3, 48), (3, 49), (3, 50), (2, 0), (2, 0), (0, 0), (2, 0), (2, 0), (0, 0), (2, 0), (2, 0), (2, 0), (2, 0), (1, 0), (0, 0), (0, 0), (0, 0), (0, 0), (2, 0), (2, 0), (0, 0)])
def sA100 : List ks_S := sA99 ++ [(1, 12, [])]
def sA101 : List ks_S := sA100.set 44 (0, 7, [(0, 0), (3, 45), (0, 0), (0, 0), (0, 0), (3, 46), (3, 47), (0, 0), (0, 0), (3, 48), (3, 49), (3, 50), (3, 51), (2, 0), (0, 0), (2, 0), (2, 0), (0, 0), (2, 0), (2, 0), (2, 0), (2, 0), (1, 0), (0, 0), (0, 0), (0, 0), (0, 0), (2, 0), (2, 0), (0, 0)])
def sA102 : List ks_S := sA101 ++ [(1, 168, [])]
def sA103 : List ks_S := sA102.set 44 (0, 7, [(0, 0), (3, 45), (0, 0), (0, 0), (0, 0), (3, 46), (3, 47), (0, 0), (0, 0), (3, 48), (3, 49), (3, 50), (3, 51), (3, 52), (0, 0), (2, 0), (2, 0), (0, 0), (2, 0), (2, 0), (2, 0), (2, 0), (1, 0), (0, 0), (0, 0), (0, 0), (0, 0), (2, 0), (2, 0), (0, 0)])
def sA104 : List ks_S := sA103 ++ [(1, 24, [])]
def sA105 : List ks_S := sA104.set 44 (0, 7, [(0, 0), (3, 45), (0, 0), (0, 0), (0, 0), (3, 46), (3, 47), (0, 0), (0, 0), (3, 48), (3, 49), (3, 50), (3, 51), (3, 52), (0, 0), (3, 53), (2, 0), (0, 0), (2, 0), (2, 0), (2, 0), (2, 0), (1, 0), (0, 0), (0, 0), (0, 0), (0, 0), (2, 0), (2, 0), (0, 0)])
def sA106 : List ks_S := sA105 ++ [(2, 2, [])]
def sA107 : List ks_S := sA106.set 44 (0, 7, [(0, 0), (3, 45), (0, 0), (0, 0), (0, 0), (3, 46), (3, 47), (0, 0), (0, 0), (3, 48), (3, 49), (3, 50), (3, 51), (3, 52), (0, 0), (3, 53), (3, 54), (0, 0), (2, 0), (2, 0), (2, 0), (2, 0), (1, 0), (0, 0), (0, 0), (0, 0), (0, 0), (2, 0), (2, 0), (0, 0)])
def sA108 : List ks_S := sA107 ++ [(1, 6, [])]
def sA109 : List ks_S := sA108.set 44 (0, 7, [(0, 0), (3, 45), (0, 0), (0, 0), (0, 0), (3, 46), (3, 47), (0, 0), (0, 0), (3, 48), (3, 49), (3, 50), (3, 51), (3, 52), (0, 0), (3, 53), (3, 54), (0, 0), (3, 55), (2, 0), (2, 0), (2, 0), (1, 0), (0, 0), (0, 0), (0, 0), (0, 0), (2, 0), (2, 0), (0, 0)])
def sA110 : List ks_S := sA109 ++ [(1, 6, [])]
def sA111 : List ks_S := sA110.set 44 (0, 7, [(0, 0), (3, 45), (0, 0), (0, 0), (0, 0), (3, 46), (3, 47), (0, 0), (0, 0), (3, 48), (3, 49), (3, 50), (3, 51), (3, 52), (0, 0), (3, 53), (3, 54), (0, 0), (3, 55), (3, 56), (2, 0), (2, 0), (1, 0), (0, 0), (0, 0), (0, 0), (0, 0), (2, 0), (2, 0), (0, 0)])
def sA112 : List ks_S := sA111 ++ [(1, 6, [])]
def sA113 : List ks_S := sA112.set 44 (0, 7, [(0, 0), (3, 45), (0, 0), (0, 0), (0, 0), (3, 46), (3, 47), (0, 0), (0, 0), (3, 48), (3, 49), (3, 50), (3, 51), (3, 52), (0, 0), (3, 53), (3, 54), (0, 0), (3, 55), (3, 56), (3, 57), (2, 0), (1, 0), (0, 0), (0, 0), (0, 0), (0, 0), (2, 0), (2, 0), (0, 0)])
def sA114 : List ks_S := sA113 ++ [(1, 6, [])]
def sA115 : List ks_S := sA114.set 44 (0, 7, [(0, 0), (3, 45), (0, 0), (0, 0), (0, 0), (3, 46), (3, 47), (0, 0), (0, 0), (3, 48), (3, 49), (3, 50), (3, 51), (3, 52), (0, 0), (3, 53), (3, 54), (0, 0), (3, 55), (3, 56), (3, 57), (3, 58), (1, 0), (0, 0), (0, 0), (0, 0), (0, 0), (2, 0), (2, 0), (0, 0)])
def sA116 : List ks_S := sA115 ++ [(1, 64, [])]
def sA117 : List ks_S := sA116.set 44 (0, 7, [(0, 0), (3, 45), (0, 0), (0, 0), (0, 0), (3, 46), (3, 47), (0, 0), (0, 0), (3, 48), (3, 49), (3, 50), (3, 51), (3, 52), (0, 0), (3, 53), (3, 54), (0, 0), (3, 55), (3, 56), (3, 57), (3, 58), (1, 0), (0, 0), (0, 0), (0, 0), (0, 0), (3, 59), (2, 0), (0, 0)])
def sA118 : List ks_S := sA117 ++ [(1, 6, [])]
def sA119 : List ks_S := sA118.set 44 (0, 7, [(0, 0), (3, 45), (0, 0), (0, 0), (0, 0), (3, 46), (3, 47), (0, 0), (0, 0), (3, 48), (3, 49), (3, 50), (3, 51), (3, 52), (0, 0), (3, 53), (3, 54), (0, 0), (3, 55), (3, 56), (3, 57), (3, 58), (1, 0), (0, 0), (0, 0), (0, 0), (0, 0), (3, 59), (3, 60), (0, 0)])
theorem ko_RX7 : Cond.methodLink RX7 1 objectInit ∈ ks_all ∧ Cond.instanceMethod objectInit ∈ ks_all ∧ Cond.code objectInit ⟨#[0xb1]⟩ 1 none ∈ ks_all := ⟨kw 521 (by decide +kernel), kw 41 (by decide +kernel), kw 42 (by decide +kernel)⟩
set_option maxHeartbeats 8000000 in
set_option maxRecDepth 20000 in
theorem c_X7Init (l : Launch) (G : ks_G) (base : Nat) : KV l G base 1 16 420 yX7_init cX7_init 1 [.ref (base + 44)] sA87 sA119 M0 L0 (fun M1 L1 => M1 = M0 ∧ L1 = L0) := by
  refine k_metv (by decide) (Nat.le_of_ble_eq_true rfl) (fun K hK hRm X Y => ?_)
  subst hK
  have hnm : (kMe K).name = "<init>" := Y.2.2.2
  refine r_pl [(0, .ref (base + 44))] ⟨rfl, trivial⟩ ?_
  refine r_aload_n (q := 1) (i := 0) (j := 0) (x := base + 44) X rfl rfl dX7_init_0 rfl ?_
  refine r_objinit (q := 4) X ko_RX7 (by decide) (Nat.le_of_ble_eq_true rfl) dX7_init_1 rfl ?_
  refine r_aload_n (q := 5) (i := 0) (j := 0) (x := base + 44) X rfl rfl dX7_init_4 rfl ?_
  refine r_bipush (q := 7) (v := nI 48) X kb_48 dX7_init_5 rfl ?_
  refine r_newi (q := 9) (j := 45) X (by decide) (show Cond.arrayClass .int ∈ ks_all from kw 57 (by decide +kernel)) (by decide +kernel) (show _ = sA88 from rfl) (by rw [hRm]; exact Nat.le_of_ble_eq_true rfl) (by rw [hRm]; exact Nat.le_of_ble_eq_true rfl) dX7_init_7 rfl ?_
  refine r_cs 1 48 rfl rfl ?_
  refine r_putr (q := 12) (i := 44) (j := 45) (ds := [(0, 0), (2, 0), (0, 0), (0, 0), (0, 0), (2, 0), (2, 0), (0, 0), (0, 0), (2, 0), (2, 0), (2, 0), (2, 0), (2, 0), (0, 0), (2, 0), (2, 0), (0, 0), (2, 0), (2, 0), (2, 0), (2, 0), (1, 0), (0, 0), (0, 0), (0, 0), (0, 0), (2, 0), (2, 0), (0, 0)]) (ty := tyX7 1) X fk_X7_7 hnm ⟨⟨by decide +kernel, by decide +kernel⟩, tyX7_ok 1 (by decide)⟩ ⟨rfl, rfl⟩ (by decide +kernel) rfl dX7_init_9 rfl ?_
  refine r_sh sA89 rfl ?_
  refine r_aload_n (q := 13) (i := 0) (j := 0) (x := base + 44) X rfl rfl dX7_init_12 rfl ?_
  refine r_bipush (q := 15) (v := nI 6) X kb_6 dX7_init_13 rfl ?_
  refine r_newi (q := 17) (j := 46) X (by decide) (show Cond.arrayClass .int ∈ ks_all from kw 57 (by decide +kernel)) (by decide +kernel) (show _ = sA90 from rfl) (by rw [hRm]; exact Nat.le_of_ble_eq_true rfl) (by rw [hRm]; exact Nat.le_of_ble_eq_true rfl) dX7_init_15 rfl ?_
  refine r_cs 2 54 rfl rfl ?_
  refine r_putr (q := 20) (i := 44) (j := 46) (ds := [(0, 0), (3, 45), (0, 0), (0, 0), (0, 0), (2, 0), (2, 0), (0, 0), (0, 0), (2, 0), (2, 0), (2, 0), (2, 0), (2, 0), (0, 0), (2, 0), (2, 0), (0, 0), (2, 0), (2, 0), (2, 0), (2, 0), (1, 0), (0, 0), (0, 0), (0, 0), (0, 0), (2, 0), (2, 0), (0, 0)]) (ty := tyX7 5) X fk_X7_13 hnm ⟨⟨by decide +kernel, by decide +kernel⟩, tyX7_ok 5 (by decide)⟩ ⟨rfl, rfl⟩ (by decide +kernel) rfl dX7_init_17 rfl ?_
  refine r_sh sA91 rfl ?_
  refine r_aload_n (q := 21) (i := 0) (j := 0) (x := base + 44) X rfl rfl dX7_init_20 rfl ?_
  refine r_bipush (q := 23) (v := nI 18) X kb_18 dX7_init_21 rfl ?_
  refine r_newi (q := 25) (j := 47) X (by decide) (show Cond.arrayClass .int ∈ ks_all from kw 57 (by decide +kernel)) (by decide +kernel) (show _ = sA92 from rfl) (by rw [hRm]; exact Nat.le_of_ble_eq_true rfl) (by rw [hRm]; exact Nat.le_of_ble_eq_true rfl) dX7_init_23 rfl ?_
  refine r_cs 3 72 rfl rfl ?_
  refine r_putr (q := 28) (i := 44) (j := 47) (ds := [(0, 0), (3, 45), (0, 0), (0, 0), (0, 0), (3, 46), (2, 0), (0, 0), (0, 0), (2, 0), (2, 0), (2, 0), (2, 0), (2, 0), (0, 0), (2, 0), (2, 0), (0, 0), (2, 0), (2, 0), (2, 0), (2, 0), (1, 0), (0, 0), (0, 0), (0, 0), (0, 0), (2, 0), (2, 0), (0, 0)]) (ty := tyX7 6) X fk_X7_16 hnm ⟨⟨by decide +kernel, by decide +kernel⟩, tyX7_ok 6 (by decide)⟩ ⟨rfl, rfl⟩ (by decide +kernel) rfl dX7_init_25 rfl ?_
  refine r_sh sA93 rfl ?_
  refine r_aload_n (q := 29) (i := 0) (j := 0) (x := base + 44) X rfl rfl dX7_init_28 rfl ?_
  refine r_bipush (q := 31) (v := nI 24) X kb_24 dX7_init_29 rfl ?_
  refine r_newi (q := 33) (j := 48) X (by decide) (show Cond.arrayClass .int ∈ ks_all from kw 57 (by decide +kernel)) (by decide +kernel) (show _ = sA94 from rfl) (by rw [hRm]; exact Nat.le_of_ble_eq_true rfl) (by rw [hRm]; exact Nat.le_of_ble_eq_true rfl) dX7_init_31 rfl ?_
  refine r_cs 4 96 rfl rfl ?_
  refine r_putr (q := 36) (i := 44) (j := 48) (ds := [(0, 0), (3, 45), (0, 0), (0, 0), (0, 0), (3, 46), (3, 47), (0, 0), (0, 0), (2, 0), (2, 0), (2, 0), (2, 0), (2, 0), (0, 0), (2, 0), (2, 0), (0, 0), (2, 0), (2, 0), (2, 0), (2, 0), (1, 0), (0, 0), (0, 0), (0, 0), (0, 0), (2, 0), (2, 0), (0, 0)]) (ty := tyX7 9) X fk_X7_19 hnm ⟨⟨by decide +kernel, by decide +kernel⟩, tyX7_ok 9 (by decide)⟩ ⟨rfl, rfl⟩ (by decide +kernel) rfl dX7_init_33 rfl ?_
  refine r_sh sA95 rfl ?_
  refine r_aload_n (q := 37) (i := 0) (j := 0) (x := base + 44) X rfl rfl dX7_init_36 rfl ?_
  refine r_bipush (q := 39) (v := nI 12) X kb_12 dX7_init_37 rfl ?_
  refine r_newi (q := 41) (j := 49) X (by decide) (show Cond.arrayClass .int ∈ ks_all from kw 57 (by decide +kernel)) (by decide +kernel) (show _ = sA96 from rfl) (by rw [hRm]; exact Nat.le_of_ble_eq_true rfl) (by rw [hRm]; exact Nat.le_of_ble_eq_true rfl) dX7_init_39 rfl ?_
  refine r_cs 5 108 rfl rfl ?_
  refine r_putr (q := 44) (i := 44) (j := 49) (ds := [(0, 0), (3, 45), (0, 0), (0, 0), (0, 0), (3, 46), (3, 47), (0, 0), (0, 0), (3, 48), (2, 0), (2, 0), (2, 0), (2, 0), (0, 0), (2, 0), (2, 0), (0, 0), (2, 0), (2, 0), (2, 0), (2, 0), (1, 0), (0, 0), (0, 0), (0, 0), (0, 0), (2, 0), (2, 0), (0, 0)]) (ty := tyX7 10) X fk_X7_22 hnm ⟨⟨by decide +kernel, by decide +kernel⟩, tyX7_ok 10 (by decide)⟩ ⟨rfl, rfl⟩ (by decide +kernel) rfl dX7_init_41 rfl ?_
  refine r_sh sA97 rfl ?_
  refine r_aload_n (q := 45) (i := 0) (j := 0) (x := base + 44) X rfl rfl dX7_init_44 rfl ?_
  refine r_bipush (q := 47) (v := nI 12) X kb_12 dX7_init_45 rfl ?_
  refine r_newi (q := 49) (j := 50) X (by decide) (show Cond.arrayClass .int ∈ ks_all from kw 57 (by decide +kernel)) (by decide +kernel) (show _ = sA98 from rfl) (by rw [hRm]; exact Nat.le_of_ble_eq_true rfl) (by rw [hRm]; exact Nat.le_of_ble_eq_true rfl) dX7_init_47 rfl ?_
  refine r_cs 6 120 rfl rfl ?_
  refine r_putr (q := 52) (i := 44) (j := 50) (ds := [(0, 0), (3, 45), (0, 0), (0, 0), (0, 0), (3, 46), (3, 47), (0, 0), (0, 0), (3, 48), (3, 49), (2, 0), (2, 0), (2, 0), (0, 0), (2, 0), (2, 0), (0, 0), (2, 0), (2, 0), (2, 0), (2, 0), (1, 0), (0, 0), (0, 0), (0, 0), (0, 0), (2, 0), (2, 0), (0, 0)]) (ty := tyX7 11) X fk_X7_25 hnm ⟨⟨by decide +kernel, by decide +kernel⟩, tyX7_ok 11 (by decide)⟩ ⟨rfl, rfl⟩ (by decide +kernel) rfl dX7_init_49 rfl ?_
  refine r_sh sA99 rfl ?_
  refine r_aload_n (q := 53) (i := 0) (j := 0) (x := base + 44) X rfl rfl dX7_init_52 rfl ?_
  refine r_bipush (q := 55) (v := nI 12) X kb_12 dX7_init_53 rfl ?_
  refine r_newi (q := 57) (j := 51) X (by decide) (show Cond.arrayClass .int ∈ ks_all from kw 57 (by decide +kernel)) (by decide +kernel) (show _ = sA100 from rfl) (by rw [hRm]; exact Nat.le_of_ble_eq_true rfl) (by rw [hRm]; exact Nat.le_of_ble_eq_true rfl) dX7_init_55 rfl ?_
  refine r_cs 7 132 rfl rfl ?_
  refine r_putr (q := 60) (i := 44) (j := 51) (ds := [(0, 0), (3, 45), (0, 0), (0, 0), (0, 0), (3, 46), (3, 47), (0, 0), (0, 0), (3, 48), (3, 49), (3, 50), (2, 0), (2, 0), (0, 0), (2, 0), (2, 0), (0, 0), (2, 0), (2, 0), (2, 0), (2, 0), (1, 0), (0, 0), (0, 0), (0, 0), (0, 0), (2, 0), (2, 0), (0, 0)]) (ty := tyX7 12) X fk_X7_28 hnm ⟨⟨by decide +kernel, by decide +kernel⟩, tyX7_ok 12 (by decide)⟩ ⟨rfl, rfl⟩ (by decide +kernel) rfl dX7_init_57 rfl ?_
  refine r_sh sA101 rfl ?_
  refine r_aload_n (q := 61) (i := 0) (j := 0) (x := base + 44) X rfl rfl dX7_init_60 rfl ?_
  refine r_sipush (q := 64) (v := nI 168) X ks_168 dX7_init_61 rfl ?_
  refine r_newi (q := 66) (j := 52) X (by decide) (show Cond.arrayClass .int ∈ ks_all from kw 57 (by decide +kernel)) (by decide +kernel) (show _ = sA102 from rfl) (by rw [hRm]; exact Nat.le_of_ble_eq_true rfl) (by rw [hRm]; exact Nat.le_of_ble_eq_true rfl) dX7_init_64 rfl ?_
  refine r_cs 8 300 rfl rfl ?_
  refine r_putr (q := 69) (i := 44) (j := 52) (ds := [(0, 0), (3, 45), (0, 0), (0, 0), (0, 0), (3, 46), (3, 47), (0, 0), (0, 0), (3, 48), (3, 49), (3, 50), (3, 51), (2, 0), (0, 0), (2, 0), (2, 0), (0, 0), (2, 0), (2, 0), (2, 0), (2, 0), (1, 0), (0, 0), (0, 0), (0, 0), (0, 0), (2, 0), (2, 0), (0, 0)]) (ty := tyX7 13) X fk_X7_31 hnm ⟨⟨by decide +kernel, by decide +kernel⟩, tyX7_ok 13 (by decide)⟩ ⟨rfl, rfl⟩ (by decide +kernel) rfl dX7_init_66 rfl ?_
  refine r_sh sA103 rfl ?_
  refine r_aload_n (q := 70) (i := 0) (j := 0) (x := base + 44) X rfl rfl dX7_init_69 rfl ?_
  refine r_bipush (q := 72) (v := nI 24) X kb_24 dX7_init_70 rfl ?_
  refine r_newi (q := 74) (j := 53) X (by decide) (show Cond.arrayClass .int ∈ ks_all from kw 57 (by decide +kernel)) (by decide +kernel) (show _ = sA104 from rfl) (by rw [hRm]; exact Nat.le_of_ble_eq_true rfl) (by rw [hRm]; exact Nat.le_of_ble_eq_true rfl) dX7_init_72 rfl ?_
  refine r_cs 9 324 rfl rfl ?_
  refine r_putr (q := 77) (i := 44) (j := 53) (ds := [(0, 0), (3, 45), (0, 0), (0, 0), (0, 0), (3, 46), (3, 47), (0, 0), (0, 0), (3, 48), (3, 49), (3, 50), (3, 51), (3, 52), (0, 0), (2, 0), (2, 0), (0, 0), (2, 0), (2, 0), (2, 0), (2, 0), (1, 0), (0, 0), (0, 0), (0, 0), (0, 0), (2, 0), (2, 0), (0, 0)]) (ty := tyX7 15) X fk_X7_34 hnm ⟨⟨by decide +kernel, by decide +kernel⟩, tyX7_ok 15 (by decide)⟩ ⟨rfl, rfl⟩ (by decide +kernel) rfl dX7_init_74 rfl ?_
  refine r_sh sA105 rfl ?_
  refine r_aload_n (q := 78) (i := 0) (j := 0) (x := base + 44) X rfl rfl dX7_init_77 rfl ?_
  refine r_iconst (q := 79) (v := nI 2) X kc_2 dX7_init_78 rfl ?_
  refine r_newz (q := 81) (j := 54) X (by decide) (show Cond.arrayClass .boolean ∈ ks_all from kw 613 (by decide +kernel)) (by decide +kernel) (show _ = sA106 from rfl) (by rw [hRm]; exact Nat.le_of_ble_eq_true rfl) (by rw [hRm]; exact Nat.le_of_ble_eq_true rfl) dX7_init_79 rfl ?_
  refine r_cs 10 326 rfl rfl ?_
  refine r_putr (q := 84) (i := 44) (j := 54) (ds := [(0, 0), (3, 45), (0, 0), (0, 0), (0, 0), (3, 46), (3, 47), (0, 0), (0, 0), (3, 48), (3, 49), (3, 50), (3, 51), (3, 52), (0, 0), (3, 53), (2, 0), (0, 0), (2, 0), (2, 0), (2, 0), (2, 0), (1, 0), (0, 0), (0, 0), (0, 0), (0, 0), (2, 0), (2, 0), (0, 0)]) (ty := tyX7 16) X fk_X7_37 hnm ⟨⟨by decide +kernel, by decide +kernel⟩, tyX7_ok 16 (by decide)⟩ ⟨rfl, rfl⟩ (by decide +kernel) rfl dX7_init_81 rfl ?_
  refine r_sh sA107 rfl ?_
  refine r_aload_n (q := 85) (i := 0) (j := 0) (x := base + 44) X rfl rfl dX7_init_84 rfl ?_
  refine r_bipush (q := 87) (v := nI 6) X kb_6 dX7_init_85 rfl ?_
  refine r_newi (q := 89) (j := 55) X (by decide) (show Cond.arrayClass .int ∈ ks_all from kw 57 (by decide +kernel)) (by decide +kernel) (show _ = sA108 from rfl) (by rw [hRm]; exact Nat.le_of_ble_eq_true rfl) (by rw [hRm]; exact Nat.le_of_ble_eq_true rfl) dX7_init_87 rfl ?_
  refine r_cs 11 332 rfl rfl ?_
  refine r_putr (q := 92) (i := 44) (j := 55) (ds := [(0, 0), (3, 45), (0, 0), (0, 0), (0, 0), (3, 46), (3, 47), (0, 0), (0, 0), (3, 48), (3, 49), (3, 50), (3, 51), (3, 52), (0, 0), (3, 53), (3, 54), (0, 0), (2, 0), (2, 0), (2, 0), (2, 0), (1, 0), (0, 0), (0, 0), (0, 0), (0, 0), (2, 0), (2, 0), (0, 0)]) (ty := tyX7 18) X fk_X7_41 hnm ⟨⟨by decide +kernel, by decide +kernel⟩, tyX7_ok 18 (by decide)⟩ ⟨rfl, rfl⟩ (by decide +kernel) rfl dX7_init_89 rfl ?_
  refine r_sh sA109 rfl ?_
  refine r_aload_n (q := 93) (i := 0) (j := 0) (x := base + 44) X rfl rfl dX7_init_92 rfl ?_
  refine r_bipush (q := 95) (v := nI 6) X kb_6 dX7_init_93 rfl ?_
  refine r_newi (q := 97) (j := 56) X (by decide) (show Cond.arrayClass .int ∈ ks_all from kw 57 (by decide +kernel)) (by decide +kernel) (show _ = sA110 from rfl) (by rw [hRm]; exact Nat.le_of_ble_eq_true rfl) (by rw [hRm]; exact Nat.le_of_ble_eq_true rfl) dX7_init_95 rfl ?_
  refine r_cs 12 338 rfl rfl ?_
  refine r_putr (q := 100) (i := 44) (j := 56) (ds := [(0, 0), (3, 45), (0, 0), (0, 0), (0, 0), (3, 46), (3, 47), (0, 0), (0, 0), (3, 48), (3, 49), (3, 50), (3, 51), (3, 52), (0, 0), (3, 53), (3, 54), (0, 0), (3, 55), (2, 0), (2, 0), (2, 0), (1, 0), (0, 0), (0, 0), (0, 0), (0, 0), (2, 0), (2, 0), (0, 0)]) (ty := tyX7 19) X fk_X7_44 hnm ⟨⟨by decide +kernel, by decide +kernel⟩, tyX7_ok 19 (by decide)⟩ ⟨rfl, rfl⟩ (by decide +kernel) rfl dX7_init_97 rfl ?_
  refine r_sh sA111 rfl ?_
  refine r_aload_n (q := 101) (i := 0) (j := 0) (x := base + 44) X rfl rfl dX7_init_100 rfl ?_
  refine r_bipush (q := 103) (v := nI 6) X kb_6 dX7_init_101 rfl ?_
  refine r_newi (q := 105) (j := 57) X (by decide) (show Cond.arrayClass .int ∈ ks_all from kw 57 (by decide +kernel)) (by decide +kernel) (show _ = sA112 from rfl) (by rw [hRm]; exact Nat.le_of_ble_eq_true rfl) (by rw [hRm]; exact Nat.le_of_ble_eq_true rfl) dX7_init_103 rfl ?_
  refine r_cs 13 344 rfl rfl ?_
  refine r_putr (q := 108) (i := 44) (j := 57) (ds := [(0, 0), (3, 45), (0, 0), (0, 0), (0, 0), (3, 46), (3, 47), (0, 0), (0, 0), (3, 48), (3, 49), (3, 50), (3, 51), (3, 52), (0, 0), (3, 53), (3, 54), (0, 0), (3, 55), (3, 56), (2, 0), (2, 0), (1, 0), (0, 0), (0, 0), (0, 0), (0, 0), (2, 0), (2, 0), (0, 0)]) (ty := tyX7 20) X fk_X7_47 hnm ⟨⟨by decide +kernel, by decide +kernel⟩, tyX7_ok 20 (by decide)⟩ ⟨rfl, rfl⟩ (by decide +kernel) rfl dX7_init_105 rfl ?_
  refine r_sh sA113 rfl ?_
  refine r_aload_n (q := 109) (i := 0) (j := 0) (x := base + 44) X rfl rfl dX7_init_108 rfl ?_
  refine r_bipush (q := 111) (v := nI 6) X kb_6 dX7_init_109 rfl ?_
  refine r_newi (q := 113) (j := 58) X (by decide) (show Cond.arrayClass .int ∈ ks_all from kw 57 (by decide +kernel)) (by decide +kernel) (show _ = sA114 from rfl) (by rw [hRm]; exact Nat.le_of_ble_eq_true rfl) (by rw [hRm]; exact Nat.le_of_ble_eq_true rfl) dX7_init_111 rfl ?_
  refine r_cs 14 350 rfl rfl ?_
  refine r_putr (q := 116) (i := 44) (j := 58) (ds := [(0, 0), (3, 45), (0, 0), (0, 0), (0, 0), (3, 46), (3, 47), (0, 0), (0, 0), (3, 48), (3, 49), (3, 50), (3, 51), (3, 52), (0, 0), (3, 53), (3, 54), (0, 0), (3, 55), (3, 56), (3, 57), (2, 0), (1, 0), (0, 0), (0, 0), (0, 0), (0, 0), (2, 0), (2, 0), (0, 0)]) (ty := tyX7 21) X fk_X7_50 hnm ⟨⟨by decide +kernel, by decide +kernel⟩, tyX7_ok 21 (by decide)⟩ ⟨rfl, rfl⟩ (by decide +kernel) rfl dX7_init_113 rfl ?_
  refine r_sh sA115 rfl ?_
  refine r_aload_n (q := 117) (i := 0) (j := 0) (x := base + 44) X rfl rfl dX7_init_116 rfl ?_
  refine r_bipush (q := 119) (v := nI 64) X kb_64 dX7_init_117 rfl ?_
  refine r_newi (q := 121) (j := 59) X (by decide) (show Cond.arrayClass .int ∈ ks_all from kw 57 (by decide +kernel)) (by decide +kernel) (show _ = sA116 from rfl) (by rw [hRm]; exact Nat.le_of_ble_eq_true rfl) (by rw [hRm]; exact Nat.le_of_ble_eq_true rfl) dX7_init_119 rfl ?_
  refine r_cs 15 414 rfl rfl ?_
  refine r_putr (q := 124) (i := 44) (j := 59) (ds := [(0, 0), (3, 45), (0, 0), (0, 0), (0, 0), (3, 46), (3, 47), (0, 0), (0, 0), (3, 48), (3, 49), (3, 50), (3, 51), (3, 52), (0, 0), (3, 53), (3, 54), (0, 0), (3, 55), (3, 56), (3, 57), (3, 58), (1, 0), (0, 0), (0, 0), (0, 0), (0, 0), (2, 0), (2, 0), (0, 0)]) (ty := tyX7 27) X fk_X7_53 hnm ⟨⟨by decide +kernel, by decide +kernel⟩, tyX7_ok 27 (by decide)⟩ ⟨rfl, rfl⟩ (by decide +kernel) rfl dX7_init_121 rfl ?_
  refine r_sh sA117 rfl ?_
  refine r_aload_n (q := 125) (i := 0) (j := 0) (x := base + 44) X rfl rfl dX7_init_124 rfl ?_
  refine r_bipush (q := 127) (v := nI 6) X kb_6 dX7_init_125 rfl ?_
  refine r_newi (q := 129) (j := 60) X (by decide) (show Cond.arrayClass .int ∈ ks_all from kw 57 (by decide +kernel)) (by decide +kernel) (show _ = sA118 from rfl) (by rw [hRm]; exact Nat.le_of_ble_eq_true rfl) (by rw [hRm]; exact Nat.le_of_ble_eq_true rfl) dX7_init_127 rfl ?_
  refine r_cs 16 420 rfl rfl ?_
  refine r_putr (q := 132) (i := 44) (j := 60) (ds := [(0, 0), (3, 45), (0, 0), (0, 0), (0, 0), (3, 46), (3, 47), (0, 0), (0, 0), (3, 48), (3, 49), (3, 50), (3, 51), (3, 52), (0, 0), (3, 53), (3, 54), (0, 0), (3, 55), (3, 56), (3, 57), (3, 58), (1, 0), (0, 0), (0, 0), (0, 0), (0, 0), (3, 59), (2, 0), (0, 0)]) (ty := tyX7 28) X fk_X7_56 hnm ⟨⟨by decide +kernel, by decide +kernel⟩, tyX7_ok 28 (by decide)⟩ ⟨rfl, rfl⟩ (by decide +kernel) rfl dX7_init_129 rfl ?_
  refine r_sh sA119 rfl ?_
  exact r_vret X Y ⟨rfl, rfl⟩ dX7_init_132
theorem sA_SH : sA119 = SH := by decide +kernel
