/-! ENDS, ENTRIES, CALLS, NEW OBJECTS -/
def kB (K : ks_Cx) : List Frame := K.2.2.2.2.2.2.2.1
def kQ (K : ks_Cx) : State → Prop := K.2.2.2.2.2.2.2.2.2.2
def KQi (K : ks_Cx) (G : ks_G) (base : Nat) (sh : List ks_S) (mc ms : Nat) (rt : FieldType) (post : Int32 → ks_M → ks_L → Prop) : Prop := kQ K = MQ (kB K) (ks_Qi G base sh post) (kA K) (kS K) mc ms (ks_A base) ∧ (kMe K).sig.returnType = some rt ∧ (kMe K).locks = false
def KQl (K : ks_Cx) (G : ks_G) (base : Nat) (sh : List ks_S) (mc ms : Nat) (post : Int64 → ks_M → ks_L → Prop) : Prop := kQ K = MQ (kB K) (ks_Ql G base sh post) (kA K) (kS K) mc ms (ks_A base) ∧ (kMe K).sig.returnType = some .long ∧ (kMe K).locks = false
def KQv (K : ks_Cx) (G : ks_G) (base : Nat) (sh : List ks_S) (mc ms : Nat) (nm : String) (post : ks_M → ks_L → Prop) : Prop := kQ K = MQ (kB K) (ks_Qv G base sh post) (kA K) (kS K) mc ms (ks_A base) ∧ (kMe K).sig.returnType = none ∧ (kMe K).locks = false ∧ (kMe K).name = nm
def KQr (K : ks_Cx) (G : ks_G) (base : Nat) (sh : List ks_S) (j mc ms : Nat) (rt : FieldType) (post : ks_M → ks_L → Prop) : Prop := kQ K = MQ (kB K) (ks_Qr G base sh j post) (kA K) (kS K) mc ms (ks_A base) ∧ (kMe K).sig.returnType = some rt ∧ (kMe K).locks = false
section ROWS
variable {K : ks_Cx} {G : ks_G} {base nL : Nat} {own : String} {cc : ByteArray} {d cells slots mc ms : Nat} {sh sh2 : List ks_S} {M : ks_M} {L : ks_L} {pc q : Nat} {pl : List (Nat × Value)} {st st2 : List Value} {l : Launch} {y : MethodName} {rt : FieldType} {as : List Value}
theorem r_iret (X : KX K G base nL own cc d) {post : Int32 → ks_M → ks_L → Prop} {v : Int32} (Y : KQi K G base sh mc ms .int post) (hp : post v M L) (hd : decode cc pc = .ok (.ireturn, 1)) : RN K G base nL mc ms sh M L pc pl [.int v] := by
  intro H locs ls hR hS hl
  unfold KW
  rw [show K.2.2.2.2.2.2.2.2.2.2 = _ from Y.1]
  exact W.iret (v := v) X.1 X.2.1 Y.2.1 (fun t ht hW => ⟨⟨v, (M, L), rfl, hp, by subst ht; exact hR⟩, hS.F ht⟩) hS.2.2 hd Y.2.2
theorem r_zret (X : KX K G base nL own cc d) {post : Int32 → ks_M → ks_L → Prop} {v : Int32} (Y : KQi K G base sh mc ms .boolean post) (hn : narrow .boolean (.int v) = .int v) (hp : post v M L) (hd : decode cc pc = .ok (.ireturn, 1)) : RN K G base nL mc ms sh M L pc pl [.int v] := by
  intro H locs ls hR hS hl
  unfold KW
  rw [show K.2.2.2.2.2.2.2.2.2.2 = _ from Y.1]
  exact W.zret (v := v) (ty := .boolean) X.1 X.2.1 Y.2.1 hn (fun t ht hW => ⟨⟨v, (M, L), rfl, hp, by subst ht; exact hR⟩, hS.F ht⟩) hS.2.2 hd Y.2.2
theorem r_lret (X : KX K G base nL own cc d) {post : Int64 → ks_M → ks_L → Prop} {v : Int64} (Y : KQl K G base sh mc ms post) (hp : post v M L) (hd : decode cc pc = .ok (.lreturn, 1)) : RN K G base nL mc ms sh M L pc pl [.long v] := by
  intro H locs ls hR hS hl
  unfold KW
  rw [show K.2.2.2.2.2.2.2.2.2.2 = _ from Y.1]
  exact W.lret (v := v) X.1 X.2.1 Y.2.1 (fun t ht hW => ⟨⟨v, (M, L), rfl, hp, by subst ht; exact hR⟩, hS.F ht⟩) hS.2.2 hd Y.2.2
theorem r_vret (X : KX K G base nL own cc d) {nm : String} {post : ks_M → ks_L → Prop} (Y : KQv K G base sh mc ms nm post) (hp : post M L) (hd : decode cc pc = .ok (.return_, 1)) : RN K G base nL mc ms sh M L pc pl [] := by
  intro H locs ls hR hS hl
  unfold KW
  rw [show K.2.2.2.2.2.2.2.2.2.2 = _ from Y.1]
  exact W.vret X.1 X.2.1 Y.2.1 (fun t ht hW => ⟨⟨(M, L), rfl, hp, by subst ht; exact hR⟩, hS.F ht⟩) hS.2.2 hd Y.2.2.1
theorem r_aret (X : KX K G base nL own cc d) {j : Nat} {post : ks_M → ks_L → Prop} (Y : KQr K G base sh j mc ms rt post) (hrt : (∃ n, rt = .object n) ∨ ∃ t, rt = .array t) (hp : post M L) (hd : decode cc pc = .ok (.areturn, 1)) : RN K G base nL mc ms sh M L pc pl [.ref (base + j)] := by
  intro H locs ls hR hS hl
  unfold KW
  rw [show K.2.2.2.2.2.2.2.2.2.2 = _ from Y.1]
  exact W.aret (v := .ref (base + j)) X.1 X.2.1 Y.2.1 hrt (Or.inr ⟨_, rfl⟩) (fun t ht hW => ⟨⟨(M, L), base + j, rfl, hp, rfl, by subst ht; exact hR⟩, hS.F ht⟩) hS.2.2 hd Y.2.2
theorem r_widen {c2 s2 : Nat} (h1 : cells ≤ c2) (h2 : slots ≤ s2) (k : RN K G base nL c2 s2 sh M L pc pl st) : RN K G base nL cells slots sh M L pc pl st := fun H locs ls hR hS hl => W.widen h1 h2 (k H locs ls hR hS hl)
-- entries
theorem k_meti {nL2 : Nat} {cc2 : ByteArray} {post : Int32 → ks_M → ks_L → Prop} (hy : plainName y.cls = true) (hlen : (lg_sl as).length ≤ nL2) (body : ∀ K : ks_Cx, K.2.1 = l → KX K G base nL2 y.cls cc2 d → KQi K G base sh 0 0 rt post → RN K G base nL2 0 0 sh M L 0 (lv_args 0 as) []) : KI l G base d y cc2 nL2 rt as sh M L post := by
  refine Met.ofW (cc := cc2) (maxL := nL2) (ret := some rt) hy rfl ?_
  intro p e s m args below meth c s₁ B hml hv
  obtain ⟨rfl, hR, hK⟩ := hv
  have hts := atoms_spec (ws := .code y cc2 nL2 (some rt) :: ks_all) B.pre
  have h1 := body (p, l, e, ks_rm d 0 0, s, m, as.toArray, below, meth, c, MQ below (ks_Qi G base sh post) as.toArray s 0 0 (ks_A base)) rfl ⟨B.exec, B.bytes, hml, findClass_of_methodNamed B.named, fun w hw => hts w (List.mem_cons_of_mem _ hw), hK, by show base ≤ s.heap.size; rw [hR.2]; exact Nat.le_add_right _ _, Nat.le_refl d, Nat.le_refl (48 * d)⟩ ⟨rfl, B.returns, B.notSynchronized⟩
  rw [lg_entry_eq]
  exact h1 s.heap [] _ hR va_S.rf (lv_entry as hlen)
theorem k_metl {nL2 : Nat} {cc2 : ByteArray} {post : Int64 → ks_M → ks_L → Prop} (hy : plainName y.cls = true) (hlen : (lg_sl as).length ≤ nL2) (body : ∀ K : ks_Cx, K.2.1 = l → KX K G base nL2 y.cls cc2 d → KQl K G base sh 0 0 post → RN K G base nL2 0 0 sh M L 0 (lv_args 0 as) []) : KL l G base d y cc2 nL2 as sh M L post := by
  refine Met.ofW (cc := cc2) (maxL := nL2) (ret := some .long) hy rfl ?_
  intro p e s m args below meth c s₁ B hml hv
  obtain ⟨rfl, hR, hK⟩ := hv
  have hts := atoms_spec (ws := .code y cc2 nL2 (some .long) :: ks_all) B.pre
  have h1 := body (p, l, e, ks_rm d 0 0, s, m, as.toArray, below, meth, c, MQ below (ks_Ql G base sh post) as.toArray s 0 0 (ks_A base)) rfl ⟨B.exec, B.bytes, hml, findClass_of_methodNamed B.named, fun w hw => hts w (List.mem_cons_of_mem _ hw), hK, by show base ≤ s.heap.size; rw [hR.2]; exact Nat.le_add_right _ _, Nat.le_refl d, Nat.le_refl (48 * d)⟩ ⟨rfl, B.returns, B.notSynchronized⟩
  rw [lg_entry_eq]
  exact h1 s.heap [] _ hR va_S.rf (lv_entry as hlen)
theorem k_metv {nL2 : Nat} {cc2 : ByteArray} {post : ks_M → ks_L → Prop} (hy : plainName y.cls = true) (hlen : (lg_sl as).length ≤ nL2) (body : ∀ K : ks_Cx, K.2.1 = l → kR K = ks_rm d mc ms → KX K G base nL2 y.cls cc2 d → KQv K G base sh2 mc ms y.name post → RN K G base nL2 0 0 sh M L 0 (lv_args 0 as) []) : KV l G base d mc ms y cc2 nL2 as sh sh2 M L post := by
  refine Met.ofW (cc := cc2) (maxL := nL2) (ret := none) hy rfl ?_
  intro p e s m args below meth c s₁ B hml hv
  obtain ⟨rfl, hR, hK⟩ := hv
  have hts := atoms_spec (ws := .code y cc2 nL2 none :: ks_all) B.pre
  have h1 := body (p, l, e, ks_rm d mc ms, s, m, as.toArray, below, meth, c, MQ below (ks_Qv G base sh2 post) as.toArray s mc ms (ks_A base)) rfl rfl ⟨B.exec, B.bytes, hml, findClass_of_methodNamed B.named, fun w hw => hts w (List.mem_cons_of_mem _ hw), hK, by show base ≤ s.heap.size; rw [hR.2]; exact Nat.le_add_right _ _, Nat.le_refl d, Nat.le_refl (48 * d)⟩ ⟨rfl, B.returns, B.notSynchronized, (name_of_methodNamed B.named B.method).1⟩
  rw [lg_entry_eq]
  exact h1 s.heap [] _ hR va_S.rf (lv_entry as hlen)
theorem k_metr {nL2 j : Nat} {cc2 : ByteArray} {post : ks_M → ks_L → Prop} (hy : plainName y.cls = true) (hlen : (lg_sl as).length ≤ nL2) (body : ∀ K : ks_Cx, K.2.1 = l → kR K = ks_rm d mc ms → KX K G base nL2 y.cls cc2 d → KQr K G base sh2 j mc ms rt post → RN K G base nL2 0 0 sh M L 0 (lv_args 0 as) []) : KR l G base d mc ms y cc2 nL2 rt as sh sh2 j M L post := by
  refine Met.ofW (cc := cc2) (maxL := nL2) (ret := some rt) hy rfl ?_
  intro p e s m args below meth c s₁ B hml hv
  obtain ⟨rfl, hR, hK⟩ := hv
  have hts := atoms_spec (ws := .code y cc2 nL2 (some rt) :: ks_all) B.pre
  have h1 := body (p, l, e, ks_rm d mc ms, s, m, as.toArray, below, meth, c, MQ below (ks_Qr G base sh2 j post) as.toArray s mc ms (ks_A base)) rfl rfl ⟨B.exec, B.bytes, hml, findClass_of_methodNamed B.named, fun w hw => hts w (List.mem_cons_of_mem _ hw), hK, by show base ≤ s.heap.size; rw [hR.2]; exact Nat.le_add_right _ _, Nat.le_refl d, Nat.le_refl (48 * d)⟩ ⟨rfl, B.returns, B.notSynchronized⟩
  rw [lg_entry_eq]
  exact h1 s.heap [] _ hR va_S.rf (lv_entry as hlen)
-- calls
def ks_dc (y : MethodName) (n : Nat) : Prop := y.cls ≠ "java/lang/invoke/MethodHandle" ∧ y.cls ≠ "java/lang/invoke/VarHandle" ∧ (parseMethodDescriptor y.desc).map (fun d => d.parameters.length) = some n
def ks_sV (own : String) (idx : Nat) (y : MethodName) (cc : ByteArray) (nL : Nat) (ret : Option FieldType) (n : Nat) : Prop := (Cond.methodLink own idx y ∈ ks_all ∧ Cond.instanceMethod y ∈ ks_all ∧ Cond.selects y.cls y y ∈ ks_all ∧ Cond.initialized y.cls ∈ ks_all ∧ Cond.code y cc nL ret ∈ ks_all) ∧ ks_dc y n
def ks_sS (own : String) (idx : Nat) (y : MethodName) (cc : ByteArray) (nL : Nat) (ret : Option FieldType) (n : Nat) : Prop := (Cond.methodLink own idx y ∈ ks_all ∧ Cond.static y ∈ ks_all ∧ Cond.initialized y.cls ∈ ks_all ∧ Cond.code y cc nL ret ∈ ks_all) ∧ ks_dc y n
def ks_sI (own : String) (idx : Nat) (y : MethodName) (cc : ByteArray) (nL : Nat) (n : Nat) : Prop := (Cond.methodLink own idx y ∈ ks_all ∧ Cond.instanceMethod y ∈ ks_all ∧ Cond.initialized y.cls ∈ ks_all ∧ Cond.code y cc nL none ∈ ks_all) ∧ ks_dc y n ∧ y.name = "<init>"
def ks_sIN (own : String) (idx : Nat) (y : MethodName) (host : String) (cc : ByteArray) (nL : Nat) (n : Nat) : Prop := ((own, idx, y, host) ∈ ks_N ∧ Cond.instanceMethod y ∈ ks_all ∧ Cond.initialized y.cls ∈ ks_all ∧ Cond.code y cc nL none ∈ ks_all) ∧ ks_dc y n ∧ y.name = "<init>"
def ks_sSN (own : String) (idx : Nat) (y : MethodName) (host : String) (cc : ByteArray) (nL : Nat) (ret : Option FieldType) (n : Nat) : Prop := ((own, idx, y, host) ∈ ks_N ∧ Cond.static y ∈ ks_all ∧ Cond.initialized y.cls ∈ ks_all ∧ Cond.code y cc nL ret ∈ ks_all) ∧ ks_dc y n
theorem ks_gin {y : MethodName} {cc : ByteArray} {nL : Nat} {ret : Option FieldType} (h : Cond.code y cc nL ret ∈ ks_all) : GoodIn ks_all (.code y cc nL ret :: ks_all) := fun w hw => (List.mem_cons.mp hw).elim (fun e => e ▸ ks_good _ h) (fun hw => ks_good w hw)
theorem ks_blind {M : ks_M} {L : ks_L} : FrameBlind (ks_Pc G base as sh M L) := fun a U g mk h => ⟨h.1, h.2.1, ks_K.same rfl h.2.2⟩
theorem ks_fit {nL2 d2 : Nat} (X : KX K G base nL own cc d) (h1 : d2 < d) (h2 : nL2 ≤ 29) {mc ms : Nat} : (ks_rm d2 mc ms).frames + 1 ≤ (kR K).frames ∧ 8 + (nL2 + 11) + (ks_rm d2 mc ms).locals ≤ (kR K).locals := by
  have h3 := X.2.2.2.2.2.2.2.1
  have h4 := X.2.2.2.2.2.2.2.2
  show d2 + 1 ≤ _ ∧ 8 + (nL2 + 11) + 48 * d2 ≤ _
  omega
theorem ks_fix (X : KX K G base nL own cc d) : CallFix K.1 (kM K) (kC K) cc nL (kS K) (kA K) ks_all own := ⟨X.1, X.2.1, X.2.2.1, X.2.2.2.1, X.2.2.2.2.1⟩
theorem ks_cB (X : KX K G base nL own cc d) {idx n nL2 d2 mc ms : Nat} {cc2 : ByteArray} {ret : Option FieldType} (hl : Cond.methodLink own idx y ∈ ks_all) (hi : Cond.initialized y.cls ∈ ks_all) (hc : Cond.code y cc2 nL2 ret ∈ ks_all) (hdc : ks_dc y n) (h1 : d2 < d) (h2 : nL2 ≤ 29) :
    CallB (kR K) (kS K) (kA K) own idx y cc2 nL2 ret (.code y cc2 nL2 ret :: ks_all) (ks_rm d2 mc ms) mc ms n :=
  callB_of n X.2.2.2.2.1 (ks_gin hc) rfl rfl rfl (X.2.2.2.2.1 _ hi) (X.2.2.2.2.1 _ hl) hdc (ks_fit X h1 h2)
theorem ks_cN (X : KX K G base nL own cc d) {idx n nL2 d2 mc ms : Nat} {host : String} {cc2 : ByteArray} {ret : Option FieldType} (hl : (own, idx, y, host) ∈ ks_N) (hi : Cond.initialized y.cls ∈ ks_all) (hc : Cond.code y cc2 nL2 ret ∈ ks_all) (hdc : ks_dc y n) (h1 : d2 < d) (h2 : nL2 ≤ 29) :
    va_CN (kR K) (kS K) (kA K) own idx y host cc2 nL2 ret (.code y cc2 nL2 ret :: ks_all) (ks_rm d2 mc ms) mc ms n :=
  va_cnB n X.2.2.2.2.1 (ks_gin hc) rfl rfl rfl (X.2.2.2.2.2.1.2.2 _ hl) (X.2.2.2.2.1 _ hi) hdc (ks_fit X h1 h2)
theorem ks_preV (X : KX K G base nL own cc d) {H : Heap} (hR : ks_R G base sh M L H) {i ci N : Nat} {T : u_T} {ds : List (Nat × Nat)} {C : String} {as2 : List Value} (hs : sh[i]? = some (0, ci, ds)) (hc : ks_cl[ci]? = some (C, T, N)) : PreV (kS K) H C (base + i) (ks_Pc G base (.ref (base + i) :: as2) sh M L) as2 :=
  ⟨ks_blind, va_recv X.2.2.2.2.2.1.1 hR.1 hc (q0 := i) (ks_w_get hs), fun U hU hW => ⟨rfl, by rw [hU]; exact hR, X.2.2.2.2.2.1.warm hW⟩⟩
theorem ks_preS (X : KX K G base nL own cc d) {H : Heap} (hR : ks_R G base sh M L H) {as2 : List Value} : PreS (kS K) H (ks_Pc G base as2 sh M L) as2 :=
  ⟨ks_blind, fun U hU hW => ⟨rfl, by rw [hU]; exact hR, X.2.2.2.2.2.1.warm hW⟩⟩
theorem r_callVi (X : KX K G base nL own cc d) {idx d2 nL2 i ci N : Nat} {cc2 : ByteArray} {as2 : List Value} {T : u_T} {ds : List (Nat × Nat)} {post : Int32 → ks_M → ks_L → Prop} (hM : KI K.2.1 G base d2 y cc2 nL2 rt (.ref (base + i) :: as2) sh M L post) (hs : sh[i]? = some (0, ci, ds)) (hc : ks_cl[ci]? = some (y.cls, T, N)) (hw : ks_sV own idx y cc2 nL2 (some rt) as2.length) (h1 : d2 < d) (h2 : nL2 ≤ 29) (hcs : cells ≤ (kR K).cells ∧ slots ≤ (kR K).slots) (hst : st2 = as2.reverse ++ .ref (base + i) :: st) (hr : (st.map fun v => v.category).sum ≤ 8) (hd : decode cc pc = .ok (.invokevirtual idx, 3)) (hq : pc + 3 = q) (k : ∀ (r : Int32) (M1 : ks_M) (L1 : ks_L), post r M1 L1 → RN K G base nL cells slots sh M1 L1 q pl (.int r :: st)) : RN K G base nL cells slots sh M L pc pl st2 := by
  subst hq
  subst hst
  intro H locs ls hR hS hl
  exact va_calli (va_runV (As := as2) (rest := st) (ks_fix X) hM ⟨ks_cB X hw.1.1 hw.1.2.2.2.1 hw.1.2.2.2.2 hw.2 h1 h2, X.2.2.2.2.1 _ hw.1.2.1, X.2.2.2.2.1 _ hw.1.2.2.1⟩ (ks_preV X hR hs hc) rfl rfl hl.1 rfl (lv_room hr) hd ⟨hcs.1, hcs.2⟩) hS (fun q _ h => h) (fun q h => h) (fun r u t H1 locs1 ht hvm hp hB hz hk hS1 => k r u.1 u.2 hp H1 locs1 ls (by rw [← ht]; exact hB) hS1 hl)
theorem r_callVl (X : KX K G base nL own cc d) {idx d2 nL2 i ci N : Nat} {cc2 : ByteArray} {as2 : List Value} {T : u_T} {ds : List (Nat × Nat)} {post : Int64 → ks_M → ks_L → Prop} (hM : KL K.2.1 G base d2 y cc2 nL2 (.ref (base + i) :: as2) sh M L post) (hs : sh[i]? = some (0, ci, ds)) (hc : ks_cl[ci]? = some (y.cls, T, N)) (hw : ks_sV own idx y cc2 nL2 (some .long) as2.length) (h1 : d2 < d) (h2 : nL2 ≤ 29) (hcs : cells ≤ (kR K).cells ∧ slots ≤ (kR K).slots) (hst : st2 = as2.reverse ++ .ref (base + i) :: st) (hr : (st.map fun v => v.category).sum ≤ 8) (hd : decode cc pc = .ok (.invokevirtual idx, 3)) (hq : pc + 3 = q) (k : ∀ (r : Int64) (M1 : ks_M) (L1 : ks_L), post r M1 L1 → RN K G base nL cells slots sh M1 L1 q pl (.long r :: st)) : RN K G base nL cells slots sh M L pc pl st2 := by
  subst hq
  subst hst
  intro H locs ls hR hS hl
  exact va_calll (va_runV (As := as2) (rest := st) (ks_fix X) hM ⟨ks_cB X hw.1.1 hw.1.2.2.2.1 hw.1.2.2.2.2 hw.2 h1 h2, X.2.2.2.2.1 _ hw.1.2.1, X.2.2.2.2.1 _ hw.1.2.2.1⟩ (ks_preV X hR hs hc) rfl rfl hl.1 rfl (lv_room hr) hd ⟨hcs.1, hcs.2⟩) hS (fun q _ h => h) (fun q h => h) (fun r u t H1 locs1 ht hvm hp hB hz hk hS1 => k r u.1 u.2 hp H1 locs1 ls (by rw [← ht]; exact hB) hS1 hl)
theorem r_callVv (X : KX K G base nL own cc d) {idx d2 nL2 mc2 ms2 i ci N : Nat} {cc2 : ByteArray} {as2 : List Value} {T : u_T} {ds : List (Nat × Nat)} {post : ks_M → ks_L → Prop} (hM : KV K.2.1 G base d2 mc2 ms2 y cc2 nL2 (.ref (base + i) :: as2) sh sh2 M L post) (hs : sh[i]? = some (0, ci, ds)) (hc : ks_cl[ci]? = some (y.cls, T, N)) (hw : ks_sV own idx y cc2 nL2 none as2.length) (h1 : d2 < d) (h2 : nL2 ≤ 29) (hcs : cells + mc2 ≤ (kR K).cells ∧ slots + ms2 ≤ (kR K).slots) (hst : st2 = as2.reverse ++ .ref (base + i) :: st) (hr : (st.map fun v => v.category).sum ≤ 8) (hd : decode cc pc = .ok (.invokevirtual idx, 3)) (hq : pc + 3 = q) (k : ∀ (M1 : ks_M) (L1 : ks_L), post M1 L1 → RN K G base nL (cells + mc2) (slots + ms2) sh2 M1 L1 q pl (st)) : RN K G base nL cells slots sh M L pc pl st2 := by
  subst hq
  subst hst
  intro H locs ls hR hS hl
  exact va_callv (va_runV (As := as2) (rest := st) (ks_fix X) hM ⟨ks_cB X hw.1.1 hw.1.2.2.2.1 hw.1.2.2.2.2 hw.2 h1 h2, X.2.2.2.2.1 _ hw.1.2.1, X.2.2.2.2.1 _ hw.1.2.2.1⟩ (ks_preV X hR hs hc) rfl rfl hl.1 rfl (lv_room hr) hd ⟨hcs.1, hcs.2⟩) hS (fun q _ h => h) (fun q h => h) (fun u t H1 locs1 ht hvm hp hB hz hk hS1 => k u.1 u.2 hp H1 locs1 ls (by rw [← ht]; exact hB) hS1 hl)
theorem r_callSi (X : KX K G base nL own cc d) {idx d2 nL2 : Nat} {cc2 : ByteArray} {as2 : List Value} {post : Int32 → ks_M → ks_L → Prop} (hM : KI K.2.1 G base d2 y cc2 nL2 rt as2 sh M L post) (hw : ks_sS own idx y cc2 nL2 (some rt) as2.length) (h1 : d2 < d) (h2 : nL2 ≤ 29) (hcs : cells ≤ (kR K).cells ∧ slots ≤ (kR K).slots) (hst : st2 = as2.reverse ++ st) (hr : (st.map fun v => v.category).sum ≤ 8) (hd : decode cc pc = .ok (.invokestatic idx, 3)) (hq : pc + 3 = q) (k : ∀ (r : Int32) (M1 : ks_M) (L1 : ks_L), post r M1 L1 → RN K G base nL cells slots sh M1 L1 q pl (.int r :: st)) : RN K G base nL cells slots sh M L pc pl st2 := by
  subst hq
  subst hst
  intro H locs ls hR hS hl
  exact va_calli (va_runS (As := as2) (rest := st) (ks_fix X) hM ⟨ks_cB X hw.1.1 hw.1.2.2.1 hw.1.2.2.2 hw.2 h1 h2, X.2.2.2.2.1 _ hw.1.2.1⟩ (ks_preS X hR) rfl rfl hl.1 rfl (lv_room hr) hd ⟨hcs.1, hcs.2⟩) hS (fun q _ h => h) (fun q h => h) (fun r u t H1 locs1 ht hvm hp hB hz hk hS1 => k r u.1 u.2 hp H1 locs1 ls (by rw [← ht]; exact hB) hS1 hl)
theorem r_callSv (X : KX K G base nL own cc d) {idx d2 nL2 mc2 ms2 : Nat} {cc2 : ByteArray} {as2 : List Value} {post : ks_M → ks_L → Prop} (hM : KV K.2.1 G base d2 mc2 ms2 y cc2 nL2 as2 sh sh2 M L post) (hw : ks_sS own idx y cc2 nL2 none as2.length) (h1 : d2 < d) (h2 : nL2 ≤ 29) (hcs : cells + mc2 ≤ (kR K).cells ∧ slots + ms2 ≤ (kR K).slots) (hst : st2 = as2.reverse ++ st) (hr : (st.map fun v => v.category).sum ≤ 8) (hd : decode cc pc = .ok (.invokestatic idx, 3)) (hq : pc + 3 = q) (k : ∀ (M1 : ks_M) (L1 : ks_L), post M1 L1 → RN K G base nL (cells + mc2) (slots + ms2) sh2 M1 L1 q pl (st)) : RN K G base nL cells slots sh M L pc pl st2 := by
  subst hq
  subst hst
  intro H locs ls hR hS hl
  exact va_callv (va_runS (As := as2) (rest := st) (ks_fix X) hM ⟨ks_cB X hw.1.1 hw.1.2.2.1 hw.1.2.2.2 hw.2 h1 h2, X.2.2.2.2.1 _ hw.1.2.1⟩ (ks_preS X hR) rfl rfl hl.1 rfl (lv_room hr) hd ⟨hcs.1, hcs.2⟩) hS (fun q _ h => h) (fun q h => h) (fun u t H1 locs1 ht hvm hp hB hz hk hS1 => k u.1 u.2 hp H1 locs1 ls (by rw [← ht]; exact hB) hS1 hl)
theorem r_callIv (X : KX K G base nL own cc d) {idx d2 nL2 mc2 ms2 i : Nat} {cc2 : ByteArray} {as2 : List Value} {post : ks_M → ks_L → Prop} (hM : KV K.2.1 G base d2 mc2 ms2 y cc2 nL2 (.ref (base + i) :: as2) sh sh2 M L post) (hw : ks_sI own idx y cc2 nL2 as2.length) (h1 : d2 < d) (h2 : nL2 ≤ 29) (hcs : cells + mc2 ≤ (kR K).cells ∧ slots + ms2 ≤ (kR K).slots) (hst : st2 = as2.reverse ++ .ref (base + i) :: st) (hr : (st.map fun v => v.category).sum ≤ 8) (hd : decode cc pc = .ok (.invokespecial idx, 3)) (hq : pc + 3 = q) (k : ∀ (M1 : ks_M) (L1 : ks_L), post M1 L1 → RN K G base nL (cells + mc2) (slots + ms2) sh2 M1 L1 q pl (st)) : RN K G base nL cells slots sh M L pc pl st2 := by
  subst hq
  subst hst
  intro H locs ls hR hS hl
  exact va_callv (va_runI (As := as2) (rest := st) (ks_fix X) hM ⟨ks_cB X hw.1.1 hw.1.2.2.1 hw.1.2.2.2 hw.2.1 h1 h2, hw.2.2, X.2.2.2.2.1 _ hw.1.2.1⟩ (ks_preS X hR) rfl rfl hl.1 rfl (lv_room hr) hd ⟨hcs.1, hcs.2⟩) hS (fun q _ h => h) (fun q h => h) (fun u t H1 locs1 ht hvm hp hB hz hk hS1 => k u.1 u.2 hp H1 locs1 ls (by rw [← ht]; exact hB) hS1 hl)
theorem r_callINv (X : KX K G base nL own cc d) {idx d2 nL2 mc2 ms2 i : Nat} {host : String} {cc2 : ByteArray} {as2 : List Value} {post : ks_M → ks_L → Prop} (hM : KV K.2.1 G base d2 mc2 ms2 y cc2 nL2 (.ref (base + i) :: as2) sh sh2 M L post) (hw : ks_sIN own idx y host cc2 nL2 as2.length) (h1 : d2 < d) (h2 : nL2 ≤ 29) (hcs : cells + mc2 ≤ (kR K).cells ∧ slots + ms2 ≤ (kR K).slots) (hst : st2 = as2.reverse ++ .ref (base + i) :: st) (hr : (st.map fun v => v.category).sum ≤ 8) (hd : decode cc pc = .ok (.invokespecial idx, 3)) (hq : pc + 3 = q) (k : ∀ (M1 : ks_M) (L1 : ks_L), post M1 L1 → RN K G base nL (cells + mc2) (slots + ms2) sh2 M1 L1 q pl (st)) : RN K G base nL cells slots sh M L pc pl st2 := by
  subst hq
  subst hst
  intro H locs ls hR hS hl
  exact va_callv (va_runIN (As := as2) (rest := st) (ks_fix X) hM ⟨ks_cN X hw.1.1 hw.1.2.2.1 hw.1.2.2.2 hw.2.1 h1 h2, hw.2.2, X.2.2.2.2.1 _ hw.1.2.1⟩ (ks_preS X hR) rfl rfl hl.1 rfl (lv_room hr) hd ⟨hcs.1, hcs.2⟩) hS (fun q _ h => h) (fun q h => h) (fun u t H1 locs1 ht hvm hp hB hz hk hS1 => k u.1 u.2 hp H1 locs1 ls (by rw [← ht]; exact hB) hS1 hl)
theorem r_callSNr (X : KX K G base nL own cc d) {idx d2 nL2 mc2 ms2 j : Nat} {host : String} {cc2 : ByteArray} {as2 : List Value} {post : ks_M → ks_L → Prop} (hM : KR K.2.1 G base d2 mc2 ms2 y cc2 nL2 rt as2 sh sh2 j M L post) (hw : ks_sSN own idx y host cc2 nL2 (some rt) as2.length) (h1 : d2 < d) (h2 : nL2 ≤ 29) (hcs : cells + mc2 ≤ (kR K).cells ∧ slots + ms2 ≤ (kR K).slots) (hst : st2 = as2.reverse ++ st) (hr : (st.map fun v => v.category).sum ≤ 8) (hd : decode cc pc = .ok (.invokestatic idx, 3)) (hq : pc + 3 = q) (k : ∀ (M1 : ks_M) (L1 : ks_L), post M1 L1 → RN K G base nL (cells + mc2) (slots + ms2) sh2 M1 L1 q pl (.ref (base + j) :: st)) : RN K G base nL cells slots sh M L pc pl st2 := by
  subst hq
  subst hst
  intro H locs ls hR hS hl
  exact va_callr (va_runSN (As := as2) (rest := st) (ks_fix X) hM ⟨ks_cN X hw.1.1 hw.1.2.2.1 hw.1.2.2.2 hw.2 h1 h2, X.2.2.2.2.1 _ hw.1.2.1, trivial⟩ (ks_preS X hR) rfl rfl hl.1 rfl (lv_room hr) hd ⟨hcs.1, hcs.2⟩) hS (fun q _ h => h) (fun q h => h) (fun u ra t H1 locs1 ht hvm hp hB hz hk hS1 => by obtain ⟨rfl, hB⟩ := hB; exact k u.1 u.2 hp H1 locs1 ls (by rw [← ht]; exact hB) hS1 hl)
theorem r_callSr (X : KX K G base nL own cc d) {idx d2 nL2 mc2 ms2 j : Nat} {cc2 : ByteArray} {as2 : List Value} {post : ks_M → ks_L → Prop} (hM : KR K.2.1 G base d2 mc2 ms2 y cc2 nL2 rt as2 sh sh2 j M L post) (hw : ks_sS own idx y cc2 nL2 (some rt) as2.length) (h1 : d2 < d) (h2 : nL2 ≤ 29) (hcs : cells + mc2 ≤ (kR K).cells ∧ slots + ms2 ≤ (kR K).slots) (hst : st2 = as2.reverse ++ st) (hr : (st.map fun v => v.category).sum ≤ 8) (hd : decode cc pc = .ok (.invokestatic idx, 3)) (hq : pc + 3 = q) (k : ∀ (M1 : ks_M) (L1 : ks_L), post M1 L1 → RN K G base nL (cells + mc2) (slots + ms2) sh2 M1 L1 q pl (.ref (base + j) :: st)) : RN K G base nL cells slots sh M L pc pl st2 := by
  subst hq
  subst hst
  intro H locs ls hR hS hl
  exact va_callr (va_runS (As := as2) (rest := st) (ks_fix X) hM ⟨ks_cB X hw.1.1 hw.1.2.2.1 hw.1.2.2.2 hw.2 h1 h2, X.2.2.2.2.1 _ hw.1.2.1⟩ (ks_preS X hR) rfl rfl hl.1 rfl (lv_room hr) hd ⟨hcs.1, hcs.2⟩) hS (fun q _ h => h) (fun q h => h) (fun u ra t H1 locs1 ht hvm hp hB hz hk hS1 => by obtain ⟨rfl, hB⟩ := hB; exact k u.1 u.2 hp H1 locs1 ls (by rw [← ht]; exact hB) hS1 hl)
theorem r_max (X : KX K G base nL own cc d) {idx : Nat} {x y v : Int32} (hv : (if x < y then y else x) = v) (hw : Cond.methodLink own idx Lib.Math.max.name ∈ ks_all) (hcs : cells ≤ (kR K).cells ∧ slots ≤ (kR K).slots) (h1 : 0 < d) (hr : (st.map fun v => v.category).sum ≤ 8) (hd : decode cc pc = .ok (.invokestatic idx, 3)) (hq : pc + 3 = q) (k : RN K G base nL cells slots sh M L q pl (.int v :: st)) : RN K G base nL cells slots sh M L pc pl (.int y :: .int x :: st) := by
  subst hq
  subst hv
  intro H locs ls hR hS hl
  have h3 := X.2.2.2.2.2.2.2.1
  have h4 := X.2.2.2.2.2.2.2.2
  exact va_mmax X.1 X.2.1 (X.2.2.1.trans hl.1.symm) X.2.2.2.1 (X.2.2.2.2.1 _ hw) (X.2.2.2.2.1 (.static Lib.Math.max.name) (by decide +kernel)) (X.2.2.2.2.1 (.initialized "java/lang/Math") (by decide +kernel)) (X.2.2.2.2.1 (.code Lib.Math.max.name Lib.Math.max.code 2 (some .int)) (by decide +kernel)) (show 1 ≤ (kR K).frames by omega) (show _ + 13 ≤ (kR K).locals by omega) hcs.1 hcs.2 hd (k H locs ls hR hS hl)
theorem r_min (X : KX K G base nL own cc d) {idx : Nat} {x y v : Int32} (hv : (if y < x then y else x) = v) (hw : Cond.methodLink own idx Lib.Math.min.name ∈ ks_all) (hcs : cells ≤ (kR K).cells ∧ slots ≤ (kR K).slots) (h1 : 0 < d) (hr : (st.map fun v => v.category).sum ≤ 8) (hd : decode cc pc = .ok (.invokestatic idx, 3)) (hq : pc + 3 = q) (k : RN K G base nL cells slots sh M L q pl (.int v :: st)) : RN K G base nL cells slots sh M L pc pl (.int y :: .int x :: st) := by
  subst hq
  subst hv
  intro H locs ls hR hS hl
  have h3 := X.2.2.2.2.2.2.2.1
  have h4 := X.2.2.2.2.2.2.2.2
  exact va_mmin X.1 X.2.1 (X.2.2.1.trans hl.1.symm) X.2.2.2.1 (X.2.2.2.2.1 _ hw) (X.2.2.2.2.1 (.static Lib.Math.min.name) (by decide +kernel)) (X.2.2.2.2.1 (.initialized "java/lang/Math") (by decide +kernel)) (X.2.2.2.2.1 (.code Lib.Math.min.name Lib.Math.min.code 2 (some .int)) (by decide +kernel)) (show 1 ≤ (kR K).frames by omega) (show _ + 13 ≤ (kR K).locals by omega) hcs.1 hcs.2 hd (k H locs ls hR hS hl)
end ROWS
