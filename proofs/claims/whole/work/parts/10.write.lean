/-! THE ROWS that write: fields and arrays -/
section ROWS
variable {K : ks_Cx} {G : ks_G} {base nL : Nat} {own : String} {cc : ByteArray} {d cells slots : Nat} {sh : List ks_S} {M : ks_M} {L : ks_L} {pc q : Nat} {pl : List (Nat × Value)} {st : List Value}
theorem ks_wput (X : KX K G base nL own cc d) {H : Heap} {locs : List Loc} {ls : Array Slot} (hR : ks_R G base sh M L H) (hS : va_S (ks_A base) (kS K).heap H locs) {idx ci N f i : Nat} {C : String} {T : u_T} {ds : List (Nat × Nat)} {ty : FieldType} {v : Value} (hk : ks_lk own idx ci C T N f) (hfin : (T f).2.2.2 = false) (hp : parseFieldDescriptor (T f).2.2.1 = some ty) (hn : narrow ty v = v) (hfit : fits ty v = true) (hs : sh[i]? = some (0, ci, ds)) (hl : f < ds.length) (hd : decode cc pc = .ok (.putfield idx, 3))
    (kk : ∀ (H1 : Heap) (locs1 : List Loc), va_P G.1 ks_cl ((ks_w G base sh M L).set i (base + i, .inr (ci, (ds.mapIdx (ks_v base (M i) (L i))).set f v))) H1 → H1.size = H.size → va_S (ks_A base) (kS K).heap H1 locs1 → KW K H1 locs1 cells slots (F0 (kM K) (pc + 3) ls st)) : KW K H locs cells slots (F0 (kM K) pc ls (v :: .ref (base + i) :: st)) := by
  obtain ⟨⟨g1, g2, ⟨ty0, g3⟩, g4⟩, g5, g6⟩ := hk
  have he : (ks_w G base sh M L)[i]? = some (base + i, .inr (ci, ds.mapIdx (ks_v base (M i) (L i)))) := ks_w_get hs
  have hap := va_apart (own := own) X.2.2.2.2.1 g2 ty0 g3 g4 X.2.2.2.2.2.1.1 g1
  obtain ⟨r, z1, cell, z2, z3, z4, z5⟩ := hR.1 i _ he
  obtain rfl : r = (C, T, N) := Option.some.inj (z1.symm.trans g1)
  obtain ⟨y1, y2, kC, y3, y4⟩ := X.2.2.2.2.2.1.1.1 ci _ g1
  obtain ⟨cf, kf, fi, fl, x1, x2⟩ := y1 f g5
  have hlay := X.2.2.2.2.1 _ (g2 _ (u_in_lay g5))
  unfold u_lay at hlay
  rw [if_neg (by rw [hfin]; decide)] at hlay
  have hst := (u_facts y2 y3 (u_lays X.2.2.2.2.1 g2 g5) x1).1
  have h6 := u_store y2 y3 y4 hlay x1 hp hn hfit
  refine W.putK X.1 X.2.1 (f := fl) ⟨X.2.2.2.1, X.2.2.2.2.1 _ g6, ⟨_, _, _, x1⟩, hst⟩ (by rw [z3]; exact h6) z2 z4 (by rw [x2]; exact k2_hasslot (z5 f g5)) rfl rfl hd fun H1 e1 e2 e3 => ?_
  rw [x2] at e1 ⊢
  exact kk H1 _ (hR.1.set ks_D he ⟨_, g1, t_OB.to (V := updV (vp_V _) f v) ⟨_, e1, z3, z4, t_set z5 hap g5 v⟩ (fun j _ => vp_updV_set (by rw [List.length_mapIdx]; exact hl) v j)⟩ e3) e2 (hS.put e2 e3 (Nat.le_add_right _ _))
theorem ks_wputF (X : KX K G base nL own cc d) {H : Heap} {locs : List Loc} {ls : Array Slot} (hR : ks_R G base sh M L H) (hS : va_S (ks_A base) (kS K).heap H locs) {idx ci N f i : Nat} {C : String} {T : u_T} {ds : List (Nat × Nat)} {ty : FieldType} {v : Value} (hk : ks_lk own idx ci C T N f) (hfin : (T f).2.2.2 = true) (hin2 : (kMe K).name = "<init>") (hdecl : (T f).1 = own) (hp : parseFieldDescriptor (T f).2.2.1 = some ty) (hn : narrow ty v = v) (hfit : fits ty v = true) (hs : sh[i]? = some (0, ci, ds)) (hl : f < ds.length) (hd : decode cc pc = .ok (.putfield idx, 3))
    (kk : ∀ (H1 : Heap) (locs1 : List Loc), va_P G.1 ks_cl ((ks_w G base sh M L).set i (base + i, .inr (ci, (ds.mapIdx (ks_v base (M i) (L i))).set f v))) H1 → H1.size = H.size → va_S (ks_A base) (kS K).heap H1 locs1 → KW K H1 locs1 cells slots (F0 (kM K) (pc + 3) ls st)) : KW K H locs cells slots (F0 (kM K) pc ls (v :: .ref (base + i) :: st)) := by
  obtain ⟨⟨g1, g2, ⟨ty0, g3⟩, g4⟩, g5, g6⟩ := hk
  have he : (ks_w G base sh M L)[i]? = some (base + i, .inr (ci, ds.mapIdx (ks_v base (M i) (L i)))) := ks_w_get hs
  have hap := va_apart (own := own) X.2.2.2.2.1 g2 ty0 g3 g4 X.2.2.2.2.2.1.1 g1
  obtain ⟨r, z1, cell, z2, z3, z4, z5⟩ := hR.1 i _ he
  obtain rfl : r = (C, T, N) := Option.some.inj (z1.symm.trans g1)
  obtain ⟨y1, y2, kC, y3, y4⟩ := X.2.2.2.2.2.1.1.1 ci _ g1
  obtain ⟨cf, kf, fi, fl, x1, x2⟩ := y1 f g5
  have hlay := X.2.2.2.2.1 _ (g2 _ (u_in_lay g5))
  unfold u_lay at hlay
  rw [if_pos hfin] at hlay
  have hst := (u_facts y2 y3 (u_lays X.2.2.2.2.1 g2 g5) x1).1
  have hcf : (kM K).cls = cf := by
    obtain ⟨_, _, c2, _, _, _, -, -, w1, -, -, -, w2, -⟩ := Cond.laysFinal_spec hlay
    have w3 : c2 = cf := by have w4 := x1.symm.trans w1; simp at w4; exact w4.1.symm
    rw [hdecl] at w2
    rw [← w3]; exact Option.some.inj (X.2.2.2.1.symm.trans w2)
  have h6 := u_fits y2 y3 y4 (Or.inr hlay) x1 hp hn hfit
  refine W.putFinK X.1 X.2.1 X.2.2.2.1 (X.2.2.2.2.1 _ g6) x1 hst hcf hin2 (by rw [z3]; exact h6) z2 z4 (by rw [x2]; exact k2_hasslot (z5 f g5)) rfl rfl hd fun H1 e1 e2 e3 => ?_
  rw [x2] at e1 ⊢
  exact kk H1 _ (hR.1.set ks_D he ⟨_, g1, t_OB.to (V := updV (vp_V _) f v) ⟨_, e1, z3, z4, t_set z5 hap g5 v⟩ (fun j _ => vp_updV_set (by rw [List.length_mapIdx]; exact hl) v j)⟩ e3) e2 (hS.put e2 e3 (Nat.le_add_right _ _))
theorem ks_setd {ds : List (Nat × Nat)} {f : Nat} {t : Nat × Nat} (ht : ds[f]? = some t) : ds.set f t = ds := by
  refine List.ext_getElem? fun j => ?_
  by_cases hj : j = f
  · subst hj; rw [List.getElem?_set_self (List.getElem?_eq_some_iff.mp ht).1, ht]
  · rw [List.getElem?_set_ne (fun q => hj q.symm)]
theorem r_puti (X : KX K G base nL own cc d) {idx ci N f i z n : Nat} {C : String} {T : u_T} {ds : List (Nat × Nat)} (hk : ks_lk own idx ci C T N f) (hp : (T f).2.2.2 = false ∧ parseFieldDescriptor (T f).2.2.1 = some .int) (hs : sh[i]? = some (0, ci, ds)) (ht : ds[f]? = some (0, z)) (hd : decode cc pc = .ok (.putfield idx, 3)) (hq : pc + 3 = q) (k : RN K G base nL cells slots sh (up2 M i f n) L q pl st) : RN K G base nL cells slots sh M L pc pl (.int (nI n) :: .ref (base + i) :: st) := by
  subst hq
  intro H locs ls hR hS hl
  refine ks_wput X (ls := ls) hR hS hk hp.1 hp.2 rfl rfl hs (List.getElem?_eq_some_iff.mp ht).1 hd (fun H1 locs1 hP1 hz hS1 => k H1 locs1 ls ⟨?_, hz.trans hR.2⟩ hS1 hl)
  have hset := ks_w_set (G := G) (base := base) (M := M) (M' := up2 M i f n) (L := L) (L' := L) (e' := (0, ci, ds)) (v := .inr (ci, (ds.mapIdx (ks_v base (M i) (L i))).set f (.int (nI n)))) hs (by
    have h9 := ks_mapIdx_set (base := base) (f := M i) (f' := up2 M i f n i) (x := L i) (x' := L i) (t' := (0, z)) (v := .int (nI n)) ht (by show Value.int (nI (up2 M i f n i f)) = _; rw [up2_s]) (fun j u hj _ => by
      unfold ks_v; rw [up2_k hj])
    rw [ks_setd ht] at h9
    exact congrArg (fun z => (Sum.inr (ci, z) : va_E)) h9) (fun j hj => by funext b; exact up2_o hj) (fun _ _ => rfl)
  rw [ks_set_self hs] at hset
  rw [← hset]
  exact hP1
theorem r_putl (X : KX K G base nL own cc d) {idx ci N f i z : Nat} {x : Int64} {C : String} {T : u_T} {ds : List (Nat × Nat)} (hk : ks_lk own idx ci C T N f) (hp : (T f).2.2.2 = false ∧ parseFieldDescriptor (T f).2.2.1 = some .long) (hs : sh[i]? = some (0, ci, ds)) (ht : ds[f]? = some (1, z)) (ho : ∀ j u, j ≠ f → ds[j]? = some u → u.1 ≠ 1) (hd : decode cc pc = .ok (.putfield idx, 3)) (hq : pc + 3 = q) (k : RN K G base nL cells slots sh M (upl L i x) q pl st) : RN K G base nL cells slots sh M L pc pl (.long x :: .ref (base + i) :: st) := by
  subst hq
  intro H locs ls hR hS hl
  refine ks_wput X (ls := ls) hR hS hk hp.1 hp.2 rfl rfl hs (List.getElem?_eq_some_iff.mp ht).1 hd (fun H1 locs1 hP1 hz hS1 => k H1 locs1 ls ⟨?_, hz.trans hR.2⟩ hS1 hl)
  have hset := ks_w_set (G := G) (base := base) (M := M) (M' := M) (L := L) (L' := upl L i x) (e' := (0, ci, ds)) (v := .inr (ci, (ds.mapIdx (ks_v base (M i) (L i))).set f (.long x))) hs (by
    have h9 := ks_mapIdx_set (base := base) (f := M i) (f' := M i) (x := L i) (x' := upl L i x i) (t' := (1, z)) (v := .long x) ht (by show Value.long (upl L i x i) = _; simp [upl]) (fun j u hj hu => by
      have h1 := ho j u hj hu
      obtain ⟨u1, u2⟩ := u
      match u1, h1 with
      | 0, _ => rfl
      | 1, h => exact absurd rfl h
      | 2, _ => rfl
      | n + 3, _ => rfl)
    rw [ks_setd ht] at h9
    exact congrArg (fun z => (Sum.inr (ci, z) : va_E)) h9) (fun _ _ => rfl) (fun j hj => by simp [upl, hj])
  rw [ks_set_self hs] at hset
  rw [← hset]
  exact hP1
theorem r_putr (X : KX K G base nL own cc d) {idx ci N f i j : Nat} {C : String} {T : u_T} {ds : List (Nat × Nat)} {t : Nat × Nat} {ty : FieldType} (hk : ks_lk own idx ci C T N f) (hin2 : (kMe K).name = "<init>") (hp : ((T f).2.2.2 = true ∧ (T f).1 = own) ∧ parseFieldDescriptor (T f).2.2.1 = some ty) (hn : narrow ty (.ref (base + j)) = .ref (base + j) ∧ fits ty (.ref (base + j)) = true) (hs : sh[i]? = some (0, ci, ds)) (ht : ds[f]? = some t) (hd : decode cc pc = .ok (.putfield idx, 3)) (hq : pc + 3 = q) (k : RN K G base nL cells slots (sh.set i (0, ci, ds.set f (3, j))) M L q pl st) : RN K G base nL cells slots sh M L pc pl (.ref (base + j) :: .ref (base + i) :: st) := by
  subst hq
  intro H locs ls hR hS hl
  refine ks_wputF X (ls := ls) hR hS hk hp.1.1 hin2 hp.1.2 hp.2 hn.1 hn.2 hs (List.getElem?_eq_some_iff.mp ht).1 hd (fun H1 locs1 hP1 hz hS1 => k H1 locs1 ls ⟨?_, (hz.trans hR.2).trans (by rw [List.length_set])⟩ hS1 hl)
  have hset := ks_w_set (G := G) (base := base) (M := M) (M' := M) (L := L) (L' := L) (e' := (0, ci, ds.set f (3, j))) (v := .inr (ci, (ds.mapIdx (ks_v base (M i) (L i))).set f (.ref (base + j)))) hs (congrArg (fun z => (Sum.inr (ci, z) : va_E)) (ks_mapIdx_set (base := base) (t' := (3, j)) (v := .ref (base + j)) ht rfl (fun _ _ _ _ => rfl))) (fun _ _ => rfl) (fun _ _ => rfl)
  rw [← hset]
  exact hP1
theorem kin {j n : Nat} (h : j < n) (hn : n < 2 ^ 31) : vp_in (nI j) n := vp_in_nI h hn
theorem r_alen (X : KX K G base nL own cc d) {i a n : Nat} {ds : List (Nat × Nat)} (hs : sh[i]? = some (a + 1, n, ds)) (hd : decode cc pc = .ok (.arraylength, 1)) (hq : pc + 1 = q) (k : RN K G base nL cells slots sh M L q pl (.int (nI n) :: st)) : RN K G base nL cells slots sh M L pc pl (.ref (base + i) :: st) := by
  subst hq
  intro H locs ls hR hS hl
  have he := ks_w_get (G := G) (base := base) (M := M) (L := L) hs
  match a, he with
  | 0, he => exact va_alen X.1 X.2.1 X.2.2.2.2.2.1.1 hR.1 i 0 he (tys := ks_T G) rfl rfl hd (k H locs ls hR hS hl)
  | 1, he => exact va_alen X.1 X.2.1 X.2.2.2.2.2.1.1 hR.1 i 1 he (tys := ks_T G) rfl rfl hd (k H locs ls hR hS hl)
  | n + 2, he => exact va_alen X.1 X.2.1 X.2.2.2.2.2.1.1 hR.1 i 2 he (tys := ks_T G) rfl rfl hd (k H locs ls hR hS hl)
theorem r_iald (X : KX K G base nL own cc d) {i n j v : Nat} {ds : List (Nat × Nat)} (hs : sh[i]? = some (1, n, ds)) (hj : j < n) (hn : n < 2 ^ 31) (hv : M i j = v) (hd : decode cc pc = .ok (.iaload, 1)) (hq : pc + 1 = q) (k : RN K G base nL cells slots sh M L q pl (.int (nI v) :: st)) : RN K G base nL cells slots sh M L pc pl (.int (nI j) :: .ref (base + i) :: st) := by
  subst hq
  subst hv
  intro H locs ls hR hS hl
  have he : (ks_w G base sh M L)[i]? = some (base + i, .inl (G.2.1, n, .inl (fun j => nI (M i j)))) := ks_w_get hs
  refine va_iald X.1 X.2.1 X.2.2.2.2.2.1.1 hR.1 i 0 he (tys := ks_T G) rfl (kin hj hn) hd ?_
  rw [nI_clamp (Nat.lt_trans hj hn)]
  exact k H locs ls hR hS hl
theorem r_bald (X : KX K G base nL own cc d) {i n j v : Nat} {ds : List (Nat × Nat)} (hs : sh[i]? = some (2, n, ds)) (hj : j < n) (hn : n < 2 ^ 31) (hv : M i j = v) (hd : decode cc pc = .ok (.baload, 1)) (hq : pc + 1 = q) (k : RN K G base nL cells slots sh M L q pl (.int (nI v) :: st)) : RN K G base nL cells slots sh M L pc pl (.int (nI j) :: .ref (base + i) :: st) := by
  subst hq
  subst hv
  intro H locs ls hR hS hl
  have he : (ks_w G base sh M L)[i]? = some (base + i, .inl (G.2.2.1, n, .inl (fun j => nI (M i j)))) := ks_w_get hs
  refine va_zald X.1 X.2.1 X.2.2.2.2.2.1.1 hR.1 i 1 he (tys := ks_T G) rfl (kin hj hn) hd ?_
  rw [nI_clamp (Nat.lt_trans hj hn)]
  exact k H locs ls hR hS hl
theorem r_aald (X : KX K G base nL own cc d) {i n j t : Nat} {ds : List (Nat × Nat)} (hs : sh[i]? = some (3, n, ds)) (hj : j < n) (hn : n < 2 ^ 31) (hv : ds[j]? = some (3, t)) (hd : decode cc pc = .ok (.aaload, 1)) (hq : pc + 1 = q) (k : RN K G base nL cells slots sh M L q pl (.ref (base + t) :: st)) : RN K G base nL cells slots sh M L pc pl (.int (nI j) :: .ref (base + i) :: st) := by
  subst hq
  intro H locs ls hR hS hl
  have he : (ks_w G base sh M L)[i]? = some (base + i, .inl (G.2.2.2, n, .inr (.inr (.inr (.inr (ks_r base ds)))))) := ks_w_get hs
  refine va_aldq X.1 X.2.1 X.2.2.2.2.2.1.1 hR.1 i 2 he (tys := ks_T G) rfl (kin hj hn) hd ?_
  rw [nI_clamp (Nat.lt_trans hj hn), show ks_r base ds j = some (base + t) by simp [ks_r, hv]]
  exact k H locs ls hR hS hl
theorem ks_upd (f : Nat → Nat) (j v : Nat) : upd (fun j => nI (f j)) j (nI v) = fun b => nI (if b = j then v else f b) := by
  funext b
  unfold upd
  split <;> rfl
theorem r_iast (X : KX K G base nL own cc d) {i n j v : Nat} {ds : List (Nat × Nat)} (hs : sh[i]? = some (1, n, ds)) (hj : j < n) (hn : n < 2 ^ 31) (hd : decode cc pc = .ok (.iastore, 1)) (hq : pc + 1 = q) (k : RN K G base nL cells slots sh (up2 M i j v) L q pl st) : RN K G base nL cells slots sh M L pc pl (.int (nI v) :: .int (nI j) :: .ref (base + i) :: st) := by
  subst hq
  intro H locs ls hR hS hl
  have he : (ks_w G base sh M L)[i]? = some (base + i, .inl (G.2.1, n, .inl (fun j => nI (M i j)))) := ks_w_get hs
  refine W.iast X.1 X.2.1 (hR.1 i _ he) ((X.2.2.2.2.2.1.1.2 0 _ (show (ks_T G)[0]? = some (G.2.1, .int) from rfl)).1 n (fun j => .int (nI (M i j)))) (fun q => by cases q) (by show ¬ (nI j < 0 ∨ (arrV _ _ _).slots.size ≤ _); rw [arrV_size]; exact kin hj hn) rfl rfl hd fun H1 e z oq => k H1 _ ls ⟨?_, z.trans hR.2⟩ (hS.put z oq (Nat.le_add_right _ _)) hl
  have hset := ks_w_set (G := G) (base := base) (M := M) (M' := up2 M i j v) (L := L) (L' := L) (e' := (1, n, ds)) (v := .inl (G.2.1, n, .inl (upd (fun j => nI (M i j)) j (nI v)))) hs (by
    rw [ks_upd]
    show (Sum.inl (G.2.1, n, Sum.inl (fun b => nI (up2 M i j v i b))) : va_E) = _
    simp [up2]) (fun j hj => by funext b; exact up2_o hj) (fun _ _ => rfl)
  rw [ks_set_self hs] at hset
  rw [← hset]
  refine hR.1.set ks_D he ?_ oq
  show H1[base + i]? = some (vp_cell _ _)
  rw [e, vp_cell_i, vp_cell_i, arrV_store, nI_clamp (Nat.lt_trans hj hn)]
  congr 2
  funext b
  by_cases hb : b = j <;> simp [updV, upd, hb]
theorem r_bast (X : KX K G base nL own cc d) {i n j v : Nat} {ds : List (Nat × Nat)} (hs : sh[i]? = some (2, n, ds)) (hj : j < n) (hn : n < 2 ^ 31) (hv : vp_nar .boolean (nI v) = nI v) (hd : decode cc pc = .ok (.bastore, 1)) (hq : pc + 1 = q) (k : RN K G base nL cells slots sh (up2 M i j v) L q pl st) : RN K G base nL cells slots sh M L pc pl (.int (nI v) :: .int (nI j) :: .ref (base + i) :: st) := by
  subst hq
  intro H locs ls hR hS hl
  have he : (ks_w G base sh M L)[i]? = some (base + i, .inl (G.2.2.1, n, .inl (fun j => nI (M i j)))) := ks_w_get hs
  refine W.zast X.1 X.2.1 (hR.1 i _ he) ((X.2.2.2.2.2.1.1.2 1 _ (show (ks_T G)[1]? = some (G.2.2.1, .boolean) from rfl)).1 n (fun j => .int (nI (M i j)))) (fun q => by cases q) (by show ¬ (nI j < 0 ∨ (arrV _ _ _).slots.size ≤ _); rw [arrV_size]; exact kin hj hn) rfl rfl hd fun H1 e z oq => k H1 _ ls ⟨?_, z.trans hR.2⟩ (hS.put z oq (Nat.le_add_right _ _)) hl
  have hset := ks_w_set (G := G) (base := base) (M := M) (M' := up2 M i j v) (L := L) (L' := L) (e' := (2, n, ds)) (v := .inl (G.2.2.1, n, .inl (upd (fun j => nI (M i j)) j (nI v)))) hs (by
    rw [ks_upd]
    show (Sum.inl (G.2.2.1, n, Sum.inl (fun b => nI (up2 M i j v i b))) : va_E) = _
    simp [up2]) (fun j hj => by funext b; exact up2_o hj) (fun _ _ => rfl)
  rw [ks_set_self hs] at hset
  rw [← hset]
  refine hR.1.set ks_D he ?_ oq
  show H1[base + i]? = some (vp_cell _ _)
  have hnar : narrow .boolean (.int (nI v)) = .int (nI v) := by
    have h1 : ∀ x : Int32, narrow .boolean (.int x) = .int (vp_nar .boolean x) := fun x => by unfold vp_nar; rfl
    rw [h1, hv]
  rw [e, vp_cell_i, vp_cell_i, arrV_store, nI_clamp (Nat.lt_trans hj hn)]
  congr 2
  funext b
  by_cases hb : b = j <;> simp [updV, upd, hb, hnar]
end ROWS
