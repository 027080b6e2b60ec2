/-! NEW OBJECTS: the rows that grow the list of shapes, over a memory that is all 0 -/
def M0 : ks_M := fun _ _ => 0
def L0 : ks_L := fun _ => 0
theorem M0_put (i f : Nat) : up2 M0 i f 0 = M0 := up2_id rfl
theorem ks_wapp {G : ks_G} {base : Nat} {sh : List ks_S} {M : ks_M} {L : ks_L} (e : ks_S) : ks_w G base (sh ++ [e]) M L = ks_w G base sh M L ++ [(base + sh.length, ks_c G base e (M sh.length) (L sh.length))] := by
  simp [ks_w, List.mapIdx_append]
section ROWS
variable {K : ks_Cx} {G : ks_G} {base nL : Nat} {own : String} {cc : ByteArray} {d cells slots : Nat} {sh sh2 : List ks_S} {M : ks_M} {L : ks_L} {pc q : Nat} {pl : List (Nat × Value)} {st : List Value}
theorem r_sh (sh2 : List ks_S) (h : sh = sh2) (k : RN K G base nL cells slots sh2 M L pc pl st) : RN K G base nL cells slots sh M L pc pl st := h ▸ k
theorem r_cs (c2 s2 : Nat) (h1 : cells = c2) (h2 : slots = s2) (k : RN K G base nL c2 s2 sh M L pc pl st) : RN K G base nL cells slots sh M L pc pl st := by
  subst h1; subst h2; exact k
theorem ks_grow {H H1 : Heap} {locs : List Loc} {h : Nat} (X : KX K G base nL own cc d) (hz : H.size = h) (z1 : H1.size = h + 1) (o1 : ∀ q, q < h → H1[q]? = H[q]?) (hS : va_S (ks_A base) (kS K).heap H locs) : va_S (ks_A base) (kS K).heap H1 locs := by
  subst hz
  exact ⟨Nat.le_trans hS.1 (by rw [z1]; exact Nat.le_succ _), fun x h1 h2 => (o1 x (Nat.lt_of_lt_of_le h1 hS.1)).trans (hS.2.1 x h1 h2), hS.2.2⟩
theorem ks_keep {H H1 : Heap} (hR : ks_R G base sh M L H) (o1 : ∀ q, q < base + sh.length → H1[q]? = H[q]?) : va_P G.1 ks_cl (ks_w G base sh M L) H1 :=
  hR.1.kept (fun k x hx => o1 x.1 (by have h := (hR.1 k x hx).lt; rw [hR.2] at h; exact h))
theorem r_new (X : KX K G base nL own cc d) {idx ci N j : Nat} {C : String} {T : u_T} {ds : List (Nat × Nat)} (hk : ks_ok ci C T N) (hw : Cond.classLink own idx C ∈ ks_all ∧ Cond.instantiable C N ∈ ks_all ∧ Cond.initialized C ∈ ks_all) (ty : Nat → FieldType) (hty : ∀ k, k < N → parseFieldDescriptor (T k).2.2.1 = some (ty k)) (hds : ∀ j, j < N → defaultValue (ty j) = vp_V (ds.mapIdx (ks_v base (fun _ => 0) 0)) j) (hj : sh.length = j) (hsh : sh ++ [(0, ci, ds)] = sh2) (hcells : cells + 1 ≤ (kR K).cells) (hslots : slots + N ≤ (kR K).slots) (hd : decode cc pc = .ok (.new idx, 3)) (hq : pc + 3 = q) (k : RN K G base nL (cells + 1) (slots + N) sh2 M0 L0 q pl (.ref (base + j) :: st)) : RN K G base nL cells slots sh M0 L0 pc pl st := by
  subst hq
  subst hsh
  subst hj
  intro H locs ls hR hS hl
  have hKn := X.2.2.2.2.2.1.1.1 ci _ hk.1
  refine W.newcK X.1 X.2.1 X.2.2.2.1 (X.2.2.2.2.1 _ hw.1) (X.2.2.2.2.1 _ hw.2.1) (X.2.2.2.2.1 _ hw.2.2) rfl hd hcells hslots hKn.2.1 hR.2 fun H1 kC hkC e1 z1 o1 => ?_
  refine k H1 locs ls ⟨?_, by rw [z1, List.length_append]; rfl⟩ (ks_grow X hR.2 z1 o1 hS) hl
  rw [ks_wapp]
  refine (ks_keep hR o1).app (fun k x hx => ?_)
  have hz : k < 1 := (List.getElem?_eq_some_iff.mp hx).1
  rw [show k = 0 by omega] at hx
  cases hx
  exact ⟨_, hk.1, (u_born ty X.2.2.2.2.1 hk.2.1 hKn hkC e1 hty).to hds⟩
theorem r_newi (X : KX K G base nL own cc d) {n j : Nat} (hn : n < 1000) (hw : Cond.arrayClass .int ∈ ks_all) (hj : sh.length = j) (hsh : sh ++ [(1, n, [])] = sh2) (hcells : cells + 1 ≤ (kR K).cells) (hslots : slots + n ≤ (kR K).slots) (hd : decode cc pc = .ok (.newarray .int, 2)) (hq : pc + 2 = q) (k : RN K G base nL (cells + 1) (slots + n) sh2 M0 L0 q pl (.ref (base + j) :: st)) : RN K G base nL cells slots sh M0 L0 pc pl (.int (nI n) :: st) := by
  subst hq
  subst hsh
  subst hj
  intro H locs ls hR hS hl
  refine va_newaK (atype := .int) X.1 X.2.1 (X.2.2.2.2.1 _ hw) rfl hd rfl (nI_pos (by omega)) (nI_clamp (by omega)) (by show n * 4 ≤ _; omega) hcells hslots hR.2 fun H1 cA e1 z1 o1 hA hf => ?_
  have hg : cA = G.2.1 := Option.some.inj (hf.symm.trans (X.2.2.2.2.2.1.1.2 0 _ (show (ks_T G)[0]? = some (G.2.1, .int) from rfl)).2)
  subst hg
  refine k H1 locs ls ⟨?_, by rw [z1, List.length_append]; rfl⟩ (ks_grow X hR.2 z1 o1 hS) hl
  rw [ks_wapp]
  refine (ks_keep hR o1).app (fun k x hx => ?_)
  have hz : k < 1 := (List.getElem?_eq_some_iff.mp hx).1
  rw [show k = 0 by omega] at hx
  cases hx
  show H1[base + sh.length]? = some (vp_cell _ _)
  rw [e1]
  rfl
theorem r_newz (X : KX K G base nL own cc d) {n j : Nat} (hn : n < 1000) (hw : Cond.arrayClass .boolean ∈ ks_all) (hj : sh.length = j) (hsh : sh ++ [(2, n, [])] = sh2) (hcells : cells + 1 ≤ (kR K).cells) (hslots : slots + n ≤ (kR K).slots) (hd : decode cc pc = .ok (.newarray .boolean, 2)) (hq : pc + 2 = q) (k : RN K G base nL (cells + 1) (slots + n) sh2 M0 L0 q pl (.ref (base + j) :: st)) : RN K G base nL cells slots sh M0 L0 pc pl (.int (nI n) :: st) := by
  subst hq
  subst hsh
  subst hj
  intro H locs ls hR hS hl
  refine va_newaK (atype := .boolean) X.1 X.2.1 (X.2.2.2.2.1 _ hw) rfl hd rfl (nI_pos (by omega)) (nI_clamp (by omega)) (by show n * 1 ≤ _; omega) hcells hslots hR.2 fun H1 cA e1 z1 o1 hA hf => ?_
  have hg : cA = G.2.2.1 := Option.some.inj (hf.symm.trans (X.2.2.2.2.2.1.1.2 1 _ (show (ks_T G)[1]? = some (G.2.2.1, .boolean) from rfl)).2)
  subst hg
  refine k H1 locs ls ⟨?_, by rw [z1, List.length_append]; rfl⟩ (ks_grow X hR.2 z1 o1 hS) hl
  rw [ks_wapp]
  refine (ks_keep hR o1).app (fun k x hx => ?_)
  have hz : k < 1 := (List.getElem?_eq_some_iff.mp hx).1
  rw [show k = 0 by omega] at hx
  cases hx
  show H1[base + sh.length]? = some (vp_cell _ _)
  rw [e1]
  rfl
theorem r_newq (X : KX K G base nL own cc d) {idx n j : Nat} (hn : n < 1000) (hw : Cond.classLink own idx RX3 ∈ ks_all) (hj : sh.length = j) (hsh : sh ++ [(3, n, List.replicate n (2, 0))] = sh2) (hcells : cells + 1 ≤ (kR K).cells) (hslots : slots + n ≤ (kR K).slots) (hd : decode cc pc = .ok (.anewarray idx, 3)) (hq : pc + 3 = q) (k : RN K G base nL (cells + 1) (slots + n) sh2 M0 L0 q pl (.ref (base + j) :: st)) : RN K G base nL cells slots sh M0 L0 pc pl (.int (nI n) :: st) := by
  subst hq
  subst hsh
  subst hj
  intro H locs ls hR hS hl
  have hc : (nI n).toNatClampNeg = n := nI_clamp (by omega)
  have hb0 := hR.2
  refine W.anew (n := nI n) X.1 X.2.1 X.2.2.2.1 (X.2.2.2.2.1 _ hw) (va_AO.use X.2.2.2.2.2.1.2.1) rfl hd rfl (nI_pos (by omega)) (by rw [hc]; omega) hcells (by rw [hc]; exact hslots) fun cA kA comp f1 f2 f3 f4 => ?_
  obtain ⟨kA2, comp2, k1, k2, k3, k4⟩ := (X.2.2.2.2.2.1.1.2 2 _ (show (ks_T G)[2]? = some (G.2.2.2, .object RX3) from rfl)).2
  have hg : cA = G.2.2.2 := Option.some.inj (f1.symm.trans k4)
  subst hg
  rw [hc]
  generalize hH1 : H.push ({ cls := G.2.2.2, slots := Array.replicate n .null, vm := .none } : Cell) = H1
  have z1 : H1.size = base + sh.length + 1 := by rw [← hH1, Array.size_push, hb0]
  have e1 : H1[base + sh.length]? = some (arrV G.2.2.2 n (fun _ => .null)) := by rw [← hH1, ← hb0, Array.getElem?_push_size, ← arrV_new]
  have o1 : ∀ q : Nat, q < base + sh.length → H1[q]? = H[q]? := fun q hq => by rw [← hH1, Array.getElem?_push, if_neg (by rw [hb0]; exact Nat.ne_of_lt hq)]
  rw [hb0]
  refine k H1 locs ls ⟨?_, by rw [z1, List.length_append]; rfl⟩ (ks_grow X hR.2 z1 o1 hS) hl
  rw [ks_wapp]
  refine (ks_keep hR o1).app (fun k x hx => ?_)
  have hz : k < 1 := (List.getElem?_eq_some_iff.mp hx).1
  rw [show k = 0 by omega] at hx
  cases hx
  show H1[base + sh.length]? = some (vp_cell _ _)
  rw [e1]
  show _ = some (vp_cell G.2.2.2 (n, .inr (.inr (.inr (.inr (ks_r base (List.replicate n (2, 0))))))))
  rw [vp_cell_q]
  congr 2
  funext b
  have hn : ks_r base (List.replicate n (2, 0)) b = none := by
    unfold ks_r
    rw [List.getElem?_replicate]
    by_cases h : b < n
    · rw [if_pos h]; rfl
    · rw [if_neg h]
  rw [hn]
  rfl
theorem r_aast (X : KX K G base nL own cc d) {i n a j : Nat} {ds ds2 : List (Nat × Nat)} (hs : sh[i]? = some (3, n, ds)) (ha : a < n) (hn : n < 1000) (hlen : ds.length = n) (hj : sh[j]? = some (0, 3, ds2)) (hsh : sh.set i (3, n, ds.set a (3, j)) = sh2) (hd : decode cc pc = .ok (.aastore, 1)) (hq : pc + 1 = q) (k : RN K G base nL cells slots sh2 M L q pl st) : RN K G base nL cells slots sh M L pc pl (.ref (base + j) :: .int (nI a) :: .ref (base + i) :: st) := by
  subst hq
  subst hsh
  intro H locs ls hR hS hl
  have hc : (nI a).toNatClampNeg = a := nI_clamp (by omega)
  have he : (ks_w G base sh M L)[i]? = some (base + i, .inl (G.2.2.2, n, .inr (.inr (.inr (.inr (ks_r base ds)))))) := ks_w_get hs
  have hv : (ks_w G base sh M L)[j]? = some (base + j, .inr (3, ds2.mapIdx (ks_v base (M j) (L j)))) := ks_w_get hj
  obtain ⟨r', hr', cellV, g1, g2, g3, -⟩ := hR.1 j _ hv
  have hcls := (X.2.2.2.2.2.1.1.1 3 _ (show ks_cl[3]? = some (RX3, TX3, 7) from rfl)).2
  obtain ⟨kA, comp, k1, k2, k3, -⟩ := (X.2.2.2.2.2.1.1.2 2 _ (show (ks_T G)[2]? = some (G.2.2.2, .object RX3) from rfl)).2
  have hcomp : comp = G.1.1 3 := Option.some.inj (k3.symm.trans hcls.1)
  subst hcomp
  obtain ⟨kC, hkC, -⟩ := hcls.2
  refine W.aast X.1 X.2.1 (hR.1 i _ he) (fun q h => by cases h) (fun h => by cases h) k1 k2 rfl hkC ⟨nI_pos (by omega), by show _ < (arrV _ _ _).slots.size; rw [arrV_size, hc]; exact ha⟩ g1 (fun q h => by rw [g3] at h; cases h) (by rw [g2]; exact hkC) (by rw [g2]; exact va_assign hcls) rfl rfl hd fun H1 e z oq => k H1 _ ls ⟨?_, (z.trans hR.2).trans (by rw [List.length_set])⟩ (hS.put z oq (Nat.le_add_right _ _)) hl
  have hset := ks_w_set (G := G) (base := base) (M := M) (M' := M) (L := L) (L' := L) (e' := (3, n, ds.set a (3, j))) (v := .inl (G.2.2.2, n, .inr (.inr (.inr (.inr (va_up (ks_r base ds) a (some (base + j)))))))) hs (by
    have hf : ks_r base (ds.set a (3, j)) = va_up (ks_r base ds) a (some (base + j)) := by
      funext b
      unfold ks_r va_up
      by_cases hb : b = a
      · subst hb; rw [List.getElem?_set_self (by omega), if_pos rfl]; rfl
      · rw [List.getElem?_set_ne (fun h => hb h.symm), if_neg hb]
    show (Sum.inl (G.2.2.2, n, Sum.inr (Sum.inr (Sum.inr (Sum.inr (ks_r base (ds.set a (3, j))))))) : va_E) = _
    rw [hf]) (fun _ _ => rfl) (fun _ _ => rfl)
  rw [← hset]
  refine hR.1.set ks_D he ?_ oq
  show H1[base + i]? = some (vp_cell _ _)
  rw [e, vp_cell_q, vp_cell_q, arrV_store, hc]
  congr 2
  funext b
  by_cases hb : b = a
  · subst hb; simp [updV, va_up, va_rf]
  · simp [updV, va_up, hb]
theorem r_objinit (X : KX K G base nL own cc d) {idx a : Nat} (hw : Cond.methodLink own idx objectInit ∈ ks_all ∧ Cond.instanceMethod objectInit ∈ ks_all ∧ Cond.code objectInit ⟨#[0xb1]⟩ 1 none ∈ ks_all) (h1 : 1 ≤ d) (hr : (st.map fun v => v.category).sum ≤ 8) (hd : decode cc pc = .ok (.invokespecial idx, 3)) (hq : pc + 3 = q) (k : RN K G base nL cells slots sh M L q pl st) : RN K G base nL cells slots sh M L pc pl (.ref a :: st) := by
  subst hq
  intro H locs ls hR hS hl
  have h3 := X.2.2.2.2.2.2.2.1
  have h4 := X.2.2.2.2.2.2.2.2
  exact W.objInit X.1 X.2.1 X.2.2.2.1 (X.2.2.2.2.1 _ hw.1) (X.2.2.2.2.1 _ hw.2.1) (X.2.2.2.2.1 _ hw.2.2) rfl (by rw [X.2.2.1]; exact hl.1) rfl hd (by show 1 ≤ (kR K).frames; omega) (by show 2 * 0 + _ + 12 ≤ (kR K).locals; omega) (k H locs ls hR hS hl)
end ROWS
