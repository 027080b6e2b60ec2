/-! Equal answers, and the invariant behind: calls that change what is held -/
theorem F7_44 {M M1 : ks_M} {L L1 : ks_L} (hf : F6 M M1 L L1) (k : Nat) : M1 44 k = M 44 k := congrFun (hf.1 44 (by decide)) k
/-- the parts carried over -/
theorem t_sp {M M2 : ks_M} (h : sp (M 3 3) (M 44 4) (M 4) (M 5) (M 6) (M 46) (M 47)) (e3 : M2 3 = M 3) (e44 : M2 44 4 = M 44 4) (e4 : M2 4 = M 4) (e5 : M2 5 = M 5) (e6 : M2 6 = M 6) (e46 : M2 46 = M 46) (e47 : M2 47 = M 47) : sp (M2 3 3) (M2 44 4) (M2 4) (M2 5) (M2 6) (M2 46) (M2 47) := by
  rw [e3, e44, e4, e5, e6, e46, e47]; exact h
theorem t_tx {M M2 : ks_M} (h : tx (M 1 1) (M 2) (M 45) (M 44 2)) (e1 : M2 1 = M 1) (e2 : M2 2 = M 2) (e45 : M2 45 = M 45) (e44 : M2 44 2 = M 44 2) : tx (M2 1 1) (M2 2) (M2 45) (M2 44 2) := by
  rw [e1, e2, e45, e44]; exact h
theorem t_ep {M M2 : ks_M} (h : ep (M 35 4) (M 44 17) (M 36) (M 37) (M 38) (M 39) (M 55) (M 56) (M 57) (M 58)) (e : ∀ a, 35 ≤ a → a < 40 → M2 a = M a) (e44 : M2 44 17 = M 44 17) (e5 : ∀ a, 55 ≤ a → a < 59 → M2 a = M a) : ep (M2 35 4) (M2 44 17) (M2 36) (M2 37) (M2 38) (M2 39) (M2 55) (M2 56) (M2 57) (M2 58) := by
  rw [e 35 (by omega) (by omega), e 36 (by omega) (by omega), e 37 (by omega) (by omega), e 38 (by omega) (by omega), e 39 (by omega) (by omega), e44, e5 55 (by omega) (by omega), e5 56 (by omega) (by omega), e5 57 (by omega) (by omega), e5 58 (by omega) (by omega)]; exact h
theorem t_ap {c d : Nat} {M M2 : ks_M} (h : ap (M 3 3) c (M 9 2) (M 44 14) (M 9 1) (fun k => M (11 + k)) (M 52)) (hcd : c ≤ d) (e3 : M2 3 = M 3) (e9 : M2 9 = M 9) (e44 : M2 44 14 = M 44 14) (e52 : M2 52 = M 52) (e : ∀ a, 11 ≤ a → a < 25 → M2 a = M a) : ap (M2 3 3) d (M2 9 2) (M2 44 14) (M2 9 1) (fun k => M2 (11 + k)) (M2 52) := by
  rw [e3, e9, e44, e52]; exact ap_c (ap_m h hcd) (fun k hk => e (11 + k) (by omega) (by omega))
theorem t_kp {c d : Nat} {M M2 : ks_M} (h : kp (M 3 3) c (M 0 9) (fun s => M (41 + s)) (M 53) (M 54)) (hcd : c ≤ d) (e3 : M2 3 = M 3) (e0 : M2 0 = M 0) (e53 : M2 53 = M 53) (e54 : M2 54 = M 54) (e41 : M2 41 = M 41) (e42 : M2 42 = M 42) : kp (M2 3 3) d (M2 0 9) (fun s => M2 (41 + s)) (M2 53) (M2 54) := by
  rw [e3, e0, e53, e54]; exact kp_c (kp_m h hcd) (fun s hs => by rcases (show s = 0 ∨ s = 1 by omega) with rfl | rfl; exact e41; exact e42)
theorem t_pp {c d : Nat} {M M2 : ks_M} (h : pp (M 3 3) c (M 7) (M 49)) (hcd : c ≤ d) (e3 : M2 3 = M 3) (e7 : M2 7 = M 7) (e49 : M2 49 = M 49) : pp (M2 3 3) d (M2 7) (M2 49) := by
  rw [e3, e7, e49]; exact pp_m h hcd
theorem rem6_25 {M : ks_M} {a : Nat} (h : 25 ≤ a) : rem6 M 7 a = M a := by
  unfold rem6 sv6
  split <;> (funext b; rw [up2_o (by omega), sr_o (by omega)])
/-- an act: remembered on both sides, then both rows changed alike -/
theorem inv_act {c : Nat} {M M1 M2 : ks_M} {L : ks_L} {x y : Nat → Nat} (I : INV c M L) (hp : pp (M 3 3) (c + 1) x y) (ht : ∀ h, 6 ≤ h → y (6 + h) < 8) (h1 : M1 = sr (rem6 M 7) 7 x) (h2 : M2 = sr (nt7 M1) 49 y) : INV (c + 1) M2 L := by
  have g1 : ∀ a, a ≠ 7 → (a < 9 ∨ 25 ≤ a) → M1 a = M a := fun a q1 q2 => by
    rw [h1, sr_o q1]
    rcases q2 with q2 | q2
    · exact rem6_o q2
    · exact rem6_25 q2
  have g2 : ∀ a, a ≠ 44 → a ≠ 49 → a ≠ 52 → M2 a = M1 a := fun a q1 q2 q3 => by rw [h2, sr_o q2]; exact nt7_o q1 q3
  have g : ∀ a, a ≠ 7 → (a < 9 ∨ 25 ≤ a) → a ≠ 44 → a ≠ 49 → a ≠ 52 → M2 a = M a := fun a q1 q2 q3 q4 q5 => (g2 a q3 q4 q5).trans (g1 a q1 q2)
  have g44 : ∀ k, k ≠ 14 → M2 44 k = M 44 k := fun k q => by rw [h2, sr_o (by decide), nt7_44 q, g1 44 (by decide) (by decide)]
  have e7 : M2 7 = x := by rw [g2 7 (by decide) (by decide) (by decide), h1, sr_s]
  have e49 : M2 49 = y := by rw [h2, sr_s]
  obtain ⟨i0, i1, i2, i3, i4, i5, i6, i7, i8⟩ := I
  have e3 : M2 3 = M 3 := g 3 (by decide) (by decide) (by decide) (by decide) (by decide)
  refine ⟨(g44 0 (by decide)).trans i0, t_tx i1 (g 1 (by decide) (by decide) (by decide) (by decide) (by decide)) (g 2 (by decide) (by decide) (by decide) (by decide) (by decide)) (g 45 (by decide) (by decide) (by decide) (by decide) (by decide)) (g44 2 (by decide)), t_sp i2 e3 (g44 4 (by decide)) (g 4 (by decide) (by decide) (by decide) (by decide) (by decide)) (g 5 (by decide) (by decide) (by decide) (by decide) (by decide)) (g 6 (by decide) (by decide) (by decide) (by decide) (by decide)) (g 46 (by decide) (by decide) (by decide) (by decide) (by decide)) (g 47 (by decide) (by decide) (by decide) (by decide) (by decide)), by rw [e3, e7, e49]; exact hp, by rw [e49]; exact ht, ?_, t_kp i6 (by omega) e3 (g 0 (by decide) (by decide) (by decide) (by decide) (by decide)) (g 53 (by decide) (by decide) (by decide) (by decide) (by decide)) (g 54 (by decide) (by decide) (by decide) (by decide) (by decide)) (g 41 (by decide) (by decide) (by decide) (by decide) (by decide)) (g 42 (by decide) (by decide) (by decide) (by decide) (by decide)), t_ep i7 (fun a q1 q2 => g a (by omega) (by omega) (by omega) (by omega) (by omega)) (g44 17 (by decide)) (fun a q1 q2 => g a (by omega) (by omega) (by omega) (by omega) (by omega)), i8⟩
  have ha := ap_rem (M1 := M1) i5 i3 (congrFun (g1 44 (by decide) (by decide)) 14) (g1 52 (by decide) (by decide)) (g1 49 (by decide) (by decide))
  have r9 : M2 9 = rem6 M 7 9 := by rw [g2 9 (by decide) (by decide) (by decide), h1, sr_o (by decide)]
  have r14 : M2 44 14 = nt7 M1 44 14 := by rw [h2, sr_o (by decide)]
  have r52 : M2 52 = nt7 M1 52 := by rw [h2, sr_o (by decide)]
  rw [e3, r9, r14, r52]
  exact ap_c (ap_m ha (by omega)) (fun k hk => by rw [g2 (11 + k) (by omega) (by omega) (by omega), h1, sr_o (by omega)])
theorem tk7_tail {M : ks_M} {y : Nat → Nat} {t : Nat} (ht : t < 4) (h0 : y 0 < 6) (h : ∀ q, 6 ≤ q → y (6 + q) < 8) : ∀ q, 6 ≤ q → tk7 M y t (6 + q) < 8 := by
  intro q hq
  rcases (show t = 0 ∨ t = 1 ∨ t = 2 ∨ t = 3 by omega) with rfl | rfl | rfl | rfl
  · rw [tk7_0, up1_o (by omega), up1_o (by omega)]; exact h q hq
  · rw [tk7_1, up1_o (by omega), up1_o (by omega)]; exact h q hq
  · rw [tk7_2, up1_o (by omega), up1_o (by omega), up1_o (by omega), up1_o (by omega)]; exact h q hq
  · rw [tk7_3, up1_o (by omega)]; exact h q hq
theorem inv_turn {c t : Nat} {M M1 M2 : ks_M} {L : ks_L} (I : INV c M L) (ht : t < 4) (hc : cn (M 3 3) (M 7) t = 1) (h1 : M1 = act6 M t) (h2 : M2 = act7 M1 t) : INV (c + 1) M2 L := by
  have hf : F6 M M1 L L := by rw [h1]; exact F6_sr F6_rem (by decide)
  have hS := inv_SS I hf
  have hm := inv_sm I hf
  rw [inv_n7 I hf] at hS
  obtain ⟨p1, p2, p3⟩ := I.2.2.2.1
  refine inv_act (x := tk (M 6) (M 7) t) (y := tk7 M1 (M1 49) t) I ⟨sm_tk hS hm p2 hc ht, tk_ok (inv_n6 I) p2 hc ht, ?_⟩ ?_ h1 h2
  · rw [tk_3v (M 6) (M 7) ht]
    have := gn_1000 (inv_S I) (M 7)
    split <;> omega
  · refine tk7_tail ht ?_ ?_
    · rw [hm.1 0 (by decide)]; exact p2.1
    · rw [hf.1 49 (by decide)]; exact I.2.2.2.2.1
theorem inv_cn {c t : Nat} {M M1 : ks_M} {L L1 : ks_L} (I : INV c M L) (hf : F6 M M1 L L1) (ht : t < 4) : cn7 (M1 44 4) (M1 49) t = cn (M 3 3) (M 7) t := by
  rw [inv_n7 I hf]; exact sm_cn (inv_sm I hf) (inv_0n I) ht
theorem inv_tk {c t : Nat} {M M1 : ks_M} {L L1 : ks_L} (I : INV c M L) (hf : F6 M M1 L L1) (ht : t < 4) (hc : cn (M 3 3) (M 7) t = 1) {k : Nat} (hk : k < 6) : tk7 M1 (M1 49) t k = tk (M 6) (M 7) t k := by
  have hS := inv_SS I hf
  rw [inv_n7 I hf] at hS
  exact (sm_tk hS (inv_sm I hf) I.2.2.2.1.2.1 hc ht).1 k hk
theorem b_walk {c : Nat} {M M1 M2 : ks_M} {L L1 L2 : ks_L} {x : Int32} {r1 r2 : Int32} (I : INV c M L) (hc : c ≤ 100) (h6 : Q6_walk M L x r1 M1 L1) (h7 : Q7_walk M1 L1 x r2 M2 L2) : r1 = r2 ∧ INV (c + 1) M2 L2 := by
  have hf := a_walk h6
  unfold Q6_walk at h6
  unfold Q7_walk at h7
  have hcn := fun t ht => inv_cn (t := t) I hf ht
  rcases h6 with ⟨rfl, hno, rfl, rfl⟩ | ⟨t, ht, hx, h6, rfl⟩
  · rcases h7 with ⟨rfl, hno2, rfl, rfl⟩ | ⟨w, hw, hy, -⟩
    · exact ⟨rfl, inv_id I⟩
    · exact absurd hy (hno w hw)
  · rcases h7 with ⟨rfl, hno2, rfl, rfl⟩ | ⟨w, hw, hy, h7, rfl⟩
    · exact absurd hx (hno2 t ht)
    · obtain rfl : t = w := nI_inj (by omega) (by omega) (hx.symm.trans hy)
      rw [hcn t (by omega)] at h7
      rcases h6 with ⟨h0, rfl, hM⟩ | ⟨h0, rfl, hM⟩
      · rcases h7 with ⟨g0, rfl, rfl⟩ | ⟨g0, rfl, rfl⟩
        · subst hM; exact ⟨rfl, inv_id I⟩
        · omega
      · rcases h7 with ⟨g0, rfl, rfl⟩ | ⟨g0, rfl, rfl⟩
        · omega
        · exact ⟨congrArg nI (inv_tk I hf (by omega) h0 (by decide)).symm, inv_turn I (by omega) h0 hM rfl⟩
theorem b_look {c : Nat} {M M1 M2 : ks_M} {L L1 L2 : ks_L}  {r1 r2 : Int32} (I : INV c M L) (hc : c ≤ 100) (h6 : Q6_look M L  r1 M1 L1) (h7 : Q7_look M1 L1  r2 M2 L2) : r1 = r2 ∧ INV (c + 1) M2 L2 := by
  have hf := a_look h6
  unfold Q6_look at h6
  unfold Q7_look at h7
  have hcn := inv_cn (t := 2) I hf (by decide)
  have hS := inv_SS I hf
  rw [inv_n7 I hf] at hS
  obtain ⟨h6, rfl⟩ := h6
  obtain ⟨h7, rfl⟩ := h7
  rw [hcn] at h7
  rcases h6 with ⟨h0, rfl, hM⟩ | ⟨h0, rfl, hM⟩
  · rcases h7 with ⟨g0, rfl, rfl⟩ | ⟨g0, rfl, rfl⟩
    · subst hM; exact ⟨rfl, inv_id I⟩
    · omega
  · rcases h7 with ⟨g0, rfl, rfl⟩ | ⟨g0, rfl, rfl⟩
    · omega
    · exact ⟨congrArg nI (sm_gn hS (inv_sm I hf) I.2.2.2.1.2.1 (cn_two h0).1).symm, inv_turn I (by decide) h0 hM rfl⟩
theorem b_pause {c : Nat} {M M1 M2 : ks_M} {L L1 L2 : ks_L}  {r1 r2 : Int32} (I : INV c M L) (hc : c ≤ 100) (h6 : Q6_pause M L  r1 M1 L1) (h7 : Q7_pause M1 L1  r2 M2 L2) : r1 = r2 ∧ INV (c + 1) M2 L2 := by
  have hf := a_pause h6
  unfold Q6_pause at h6
  unfold Q7_pause at h7
  obtain ⟨rfl, hM, rfl⟩ := h6
  obtain ⟨rfl, rfl, rfl⟩ := h7
  exact ⟨congrArg nI (inv_tk I hf (by decide) (cn_3 _ _) (by decide)).symm, inv_turn I (by decide) (cn_3 _ _) hM rfl⟩
theorem b_lamp {c : Nat} {M M1 M2 : ks_M} {L L1 L2 : ks_L} {x : Int32} {r1 r2 : Int32} (I : INV c M L) (hc : c ≤ 100) (h6 : Q6_lamp M L x r1 M1 L1) (h7 : Q7_lamp M1 L1 x r2 M2 L2) : r1 = r2 ∧ INV (c + 1) M2 L2 := by
  have hf := a_lamp h6
  unfold Q6_lamp at h6
  unfold Q7_lamp at h7
  have hn := inv_n7 I hf
  have hn6 := inv_n6 I
  have hm := inv_sm I hf
  obtain ⟨h6, rfl⟩ := h6
  obtain ⟨h7, rfl⟩ := h7
  rw [hn, hm.1 4 (by decide)] at h7
  rcases h6 with ⟨rfl, hno, hM⟩ | ⟨q, hq, hx, rfl, hM⟩
  · rcases h7 with ⟨rfl, hno2, rfl⟩ | ⟨w, hw, hy, -⟩
    · subst hM; exact ⟨rfl, inv_id I⟩
    · exact absurd hy (hno w hw)
  · rcases h7 with ⟨rfl, hno2, rfl⟩ | ⟨w, hw, hy, rfl, hM2⟩
    · exact absurd hx (hno2 q hq)
    · obtain rfl : q = w := nI_inj (by omega) (by omega) (hx.symm.trans hy)
      obtain ⟨p1, p2, p3⟩ := I.2.2.2.1
      have h64 : M 7 4 ^^^ 1 <<< q < 64 := kx64 (by have := p2.2.2.2.2; omega) (by omega)
      refine ⟨rfl, inv_act (M1 := M1) (x := up1 (M 7) 4 (M 7 4 ^^^ 1 <<< q)) (y := up1 (M1 49) 4 (M 7 4 ^^^ 1 <<< q)) I ⟨sm_u4 hm _, rok_l (rok_m p2 (by omega)) h64, by show M 7 3 ≤ _; omega⟩ (fun j hj => ?_) ?_ ?_⟩
      · rw [up1_o (by omega), hf.1 49 (by decide)]; exact I.2.2.2.2.1 j hj
      · rw [hM, sr_up, show rem6 M 7 7 = M 7 from rem6_o (by decide)]
      · rw [hM2, sr_up, show nt7 M1 49 = M1 49 from nt7_o (by decide) (by decide)]
theorem b_key {c : Nat} {M M1 M2 : ks_M} {L L1 L2 : ks_L} {x : Int32} {r1 r2 : Int32} (I : INV c M L) (hc : c ≤ 100) (h6 : Q6_key M L x r1 M1 L1) (h7 : Q7_key M1 L1 x r2 M2 L2) : r1 = r2 ∧ INV (c + 1) M2 L2 := by
  have hf := a_key h6
  unfold Q6_key at h6
  unfold Q7_key at h7
  have hn := inv_n7 I hf
  have hn6 := inv_n6 I
  have hm := inv_sm I hf
  obtain ⟨h6, rfl⟩ := h6
  obtain ⟨h7, rfl⟩ := h7
  rw [hn, hm.1 5 (by decide)] at h7
  rcases h6 with ⟨rfl, hno, hM⟩ | ⟨q, hq, hx, rfl, hM⟩
  · rcases h7 with ⟨rfl, hno2, rfl⟩ | ⟨w, hw, hy, -⟩
    · subst hM; exact ⟨rfl, inv_id I⟩
    · exact absurd hy (hno w hw)
  · rcases h7 with ⟨rfl, hno2, rfl⟩ | ⟨w, hw, hy, rfl, hM2⟩
    · exact absurd hx (hno2 q hq)
    · obtain rfl : q = w := nI_inj (by omega) (by omega) (hx.symm.trans hy)
      obtain ⟨p1, p2, p3⟩ := I.2.2.2.1
      have h64 : M 7 5 ^^^ 1 <<< q < 64 := kx64 (by have := p2.2.2.2.2; omega) (by omega)
      refine ⟨rfl, inv_act (M1 := M1) (x := up1 (M 7) 5 (M 7 5 ^^^ 1 <<< q)) (y := up1 (M1 49) 5 (M 7 5 ^^^ 1 <<< q)) I ⟨sm_u5 hm _, rok_k (rok_m p2 (by omega)) h64, by show M 7 3 ≤ _; omega⟩ (fun j hj => ?_) ?_ ?_⟩
      · rw [up1_o (by omega), hf.1 49 (by decide)]; exact I.2.2.2.2.1 j hj
      · rw [hM, sr_up, show rem6 M 7 7 = M 7 from rem6_o (by decide)]
      · rw [hM2, sr_up, show nt7 M1 49 = M1 49 from nt7_o (by decide) (by decide)]
