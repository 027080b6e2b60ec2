/-! THE LAW: each case of its switch, its loop -/
set_option maxHeartbeats 4000000 in
theorem lc_write {K : ks_Cx} {G : ks_G} {base cells slots b n i c : Nat} {xs : Nat → Int32} {M : ks_M} {L : ks_L} (X : KX K G base 4 RL cL_law 20) (hXs : va_X b n xs (kS K) (kS K).heap) (hbl : b < (kS K).heap.size) (hbb : (kS K).heap.size ≤ base) (hn : n < 1000) (hcs : cells ≤ (kR K).cells ∧ slots ≤ (kR K).slots) (hi : i + 6 ≤ n) (I : INV c M L) (hc : c ≤ 100) (kc : ∀ M2 L2, INV (c + 1) M2 L2 → RN K G base 4 cells slots SH M2 L2 916 [(0, .ref b), (1, .ref (base + 0)), (2, .ref (base + 44)), (3, .int (nI i))] []) : RN K G base 4 cells slots SH M L 156 [(0, .ref b), (1, .ref (base + 0)), (2, .ref (base + 44)), (3, .int (nI i))] [] := by
  refine r_aload_n (q := 157) (i := 1) (j := 1) (x := base + 0) X rfl rfl dL_law_156 rfl ?_
  refine r_aload_n (q := 158) (i := 0) (j := 0) (x := b) X rfl rfl dL_law_157 rfl ?_
  refine r_iload_n (q := 159) (i := 3) (j := 3) (x := nI i) X rfl rfl dL_law_158 rfl ?_
  refine r_iconst (q := 160) (v := nI 1) X kc_1 dL_law_159 rfl ?_
  refine r_iaddR (q := 161) (x := nI i) (y := nI 1) (v := nI (i + 1)) X (nI_add _ _) dL_law_160 rfl ?_
  refine r_sld (q := 162) (j := i + 1) X hXs hbl hbb hn (by omega) dL_law_161 rfl ?_
  refine r_callVi (q := 165) X (w6_write K.2.1 G base I hc (xs (i + 1))) kh_0 rfl ks_RL_13 (by decide) (by decide) hcs rfl (Nat.le_of_ble_eq_true rfl) dL_law_162 rfl (fun r1 M1 L1 h6 => ?_)
  have hf := a_write h6
  refine r_aload_n (q := 166) (i := 2) (j := 2) (x := base + 44) X rfl rfl dL_law_165 rfl ?_
  refine r_aload_n (q := 167) (i := 0) (j := 0) (x := b) X rfl rfl dL_law_166 rfl ?_
  refine r_iload_n (q := 168) (i := 3) (j := 3) (x := nI i) X rfl rfl dL_law_167 rfl ?_
  refine r_iconst (q := 169) (v := nI 1) X kc_1 dL_law_168 rfl ?_
  refine r_iaddR (q := 170) (x := nI i) (y := nI 1) (v := nI (i + 1)) X (nI_add _ _) dL_law_169 rfl ?_
  refine r_sld (q := 171) (j := i + 1) X hXs hbl hbb hn (by omega) dL_law_170 rfl ?_
  refine r_callVi (q := 174) X (w7_write K.2.1 G base I hc hf (xs (i + 1))) kh_44 rfl ks_RL_17 (by decide) (by decide) hcs rfl (Nat.le_of_ble_eq_true rfl) dL_law_171 rfl (fun r2 M2 L2 h7 => ?_)
  obtain ⟨he, I2⟩ := b_write I hc h6 h7
  subst he
  refine r_icmp_eq (q := 177) (tgt := 916) X (by decide) dL_law_174 rfl (fun _ => ?_) (fun h => absurd rfl h)
  exact kc _ _ I2
set_option maxHeartbeats 4000000 in
theorem lc_wipe {K : ks_Cx} {G : ks_G} {base cells slots b n i c : Nat} {xs : Nat → Int32} {M : ks_M} {L : ks_L} (X : KX K G base 4 RL cL_law 20) (hXs : va_X b n xs (kS K) (kS K).heap) (hbl : b < (kS K).heap.size) (hbb : (kS K).heap.size ≤ base) (hn : n < 1000) (hcs : cells ≤ (kR K).cells ∧ slots ≤ (kR K).slots) (hi : i + 6 ≤ n) (I : INV c M L) (hc : c ≤ 100) (kc : ∀ M2 L2, INV (c + 1) M2 L2 → RN K G base 4 cells slots SH M2 L2 916 [(0, .ref b), (1, .ref (base + 0)), (2, .ref (base + 44)), (3, .int (nI i))] []) : RN K G base 4 cells slots SH M L 179 [(0, .ref b), (1, .ref (base + 0)), (2, .ref (base + 44)), (3, .int (nI i))] [] := by
  refine r_aload_n (q := 180) (i := 1) (j := 1) (x := base + 0) X rfl rfl dL_law_179 rfl ?_
  refine r_callVi (q := 183) X (w6_wipe K.2.1 G base I hc ) kh_0 rfl ks_RL_18 (by decide) (by decide) hcs rfl (Nat.le_of_ble_eq_true rfl) dL_law_180 rfl (fun r1 M1 L1 h6 => ?_)
  have hf := a_wipe h6
  refine r_aload_n (q := 184) (i := 2) (j := 2) (x := base + 44) X rfl rfl dL_law_183 rfl ?_
  refine r_callVi (q := 187) X (w7_wipe K.2.1 G base I hc hf ) kh_44 rfl ks_RL_22 (by decide) (by decide) hcs rfl (Nat.le_of_ble_eq_true rfl) dL_law_184 rfl (fun r2 M2 L2 h7 => ?_)
  obtain ⟨he, I2⟩ := b_wipe I hc h6 h7
  subst he
  refine r_icmp_eq (q := 190) (tgt := 916) X (by decide) dL_law_187 rfl (fun _ => ?_) (fun h => absurd rfl h)
  exact kc _ _ I2
set_option maxHeartbeats 4000000 in
theorem lc_fault {K : ks_Cx} {G : ks_G} {base cells slots b n i c : Nat} {xs : Nat → Int32} {M : ks_M} {L : ks_L} (X : KX K G base 4 RL cL_law 20) (hXs : va_X b n xs (kS K) (kS K).heap) (hbl : b < (kS K).heap.size) (hbb : (kS K).heap.size ≤ base) (hn : n < 1000) (hcs : cells ≤ (kR K).cells ∧ slots ≤ (kR K).slots) (hi : i + 6 ≤ n) (I : INV c M L) (hc : c ≤ 100) (kc : ∀ M2 L2, INV (c + 1) M2 L2 → RN K G base 4 cells slots SH M2 L2 916 [(0, .ref b), (1, .ref (base + 0)), (2, .ref (base + 44)), (3, .int (nI i))] []) : RN K G base 4 cells slots SH M L 192 [(0, .ref b), (1, .ref (base + 0)), (2, .ref (base + 44)), (3, .int (nI i))] [] := by
  refine r_aload_n (q := 193) (i := 1) (j := 1) (x := base + 0) X rfl rfl dL_law_192 rfl ?_
  refine r_callVi (q := 196) X (w6_fault K.2.1 G base I hc ) kh_0 rfl ks_RL_23 (by decide) (by decide) hcs rfl (Nat.le_of_ble_eq_true rfl) dL_law_193 rfl (fun r1 M1 L1 h6 => ?_)
  have hf := a_fault h6
  refine r_aload_n (q := 197) (i := 2) (j := 2) (x := base + 44) X rfl rfl dL_law_196 rfl ?_
  refine r_callVi (q := 200) X (w7_fault K.2.1 G base I hc hf ) kh_44 rfl ks_RL_26 (by decide) (by decide) hcs rfl (Nat.le_of_ble_eq_true rfl) dL_law_197 rfl (fun r2 M2 L2 h7 => ?_)
  obtain ⟨he, I2⟩ := b_fault I hc h6 h7
  subst he
  refine r_icmp_eq (q := 203) (tgt := 916) X (by decide) dL_law_200 rfl (fun _ => ?_) (fun h => absurd rfl h)
  exact kc _ _ I2
set_option maxHeartbeats 4000000 in
theorem lc_street {K : ks_Cx} {G : ks_G} {base cells slots b n i c : Nat} {xs : Nat → Int32} {M : ks_M} {L : ks_L} (X : KX K G base 4 RL cL_law 20) (hXs : va_X b n xs (kS K) (kS K).heap) (hbl : b < (kS K).heap.size) (hbb : (kS K).heap.size ≤ base) (hn : n < 1000) (hcs : cells ≤ (kR K).cells ∧ slots ≤ (kR K).slots) (hi : i + 6 ≤ n) (I : INV c M L) (hc : c ≤ 100) (kc : ∀ M2 L2, INV (c + 1) M2 L2 → RN K G base 4 cells slots SH M2 L2 916 [(0, .ref b), (1, .ref (base + 0)), (2, .ref (base + 44)), (3, .int (nI i))] []) : RN K G base 4 cells slots SH M L 205 [(0, .ref b), (1, .ref (base + 0)), (2, .ref (base + 44)), (3, .int (nI i))] [] := by
  refine r_aload_n (q := 206) (i := 1) (j := 1) (x := base + 0) X rfl rfl dL_law_205 rfl ?_
  refine r_callVi (q := 209) X (w6_street K.2.1 G base I hc ) kh_0 rfl ks_RL_27 (by decide) (by decide) hcs rfl (Nat.le_of_ble_eq_true rfl) dL_law_206 rfl (fun r1 M1 L1 h6 => ?_)
  have hf := a_street h6
  refine r_aload_n (q := 210) (i := 2) (j := 2) (x := base + 44) X rfl rfl dL_law_209 rfl ?_
  refine r_callVi (q := 213) X (w7_street K.2.1 G base I hc hf ) kh_44 rfl ks_RL_30 (by decide) (by decide) hcs rfl (Nat.le_of_ble_eq_true rfl) dL_law_210 rfl (fun r2 M2 L2 h7 => ?_)
  obtain ⟨he, I2⟩ := b_street I hc h6 h7
  subst he
  refine r_icmp_eq (q := 216) (tgt := 916) X (by decide) dL_law_213 rfl (fun _ => ?_) (fun h => absurd rfl h)
  exact kc _ _ I2
set_option maxHeartbeats 4000000 in
theorem lc_about {K : ks_Cx} {G : ks_G} {base cells slots b n i c : Nat} {xs : Nat → Int32} {M : ks_M} {L : ks_L} (X : KX K G base 4 RL cL_law 20) (hXs : va_X b n xs (kS K) (kS K).heap) (hbl : b < (kS K).heap.size) (hbb : (kS K).heap.size ≤ base) (hn : n < 1000) (hcs : cells ≤ (kR K).cells ∧ slots ≤ (kR K).slots) (hi : i + 6 ≤ n) (I : INV c M L) (hc : c ≤ 100) (kc : ∀ M2 L2, INV (c + 1) M2 L2 → RN K G base 4 cells slots SH M2 L2 916 [(0, .ref b), (1, .ref (base + 0)), (2, .ref (base + 44)), (3, .int (nI i))] []) : RN K G base 4 cells slots SH M L 218 [(0, .ref b), (1, .ref (base + 0)), (2, .ref (base + 44)), (3, .int (nI i))] [] := by
  refine r_aload_n (q := 219) (i := 1) (j := 1) (x := base + 0) X rfl rfl dL_law_218 rfl ?_
  refine r_aload_n (q := 220) (i := 0) (j := 0) (x := b) X rfl rfl dL_law_219 rfl ?_
  refine r_iload_n (q := 221) (i := 3) (j := 3) (x := nI i) X rfl rfl dL_law_220 rfl ?_
  refine r_iconst (q := 222) (v := nI 1) X kc_1 dL_law_221 rfl ?_
  refine r_iaddR (q := 223) (x := nI i) (y := nI 1) (v := nI (i + 1)) X (nI_add _ _) dL_law_222 rfl ?_
  refine r_sld (q := 224) (j := i + 1) X hXs hbl hbb hn (by omega) dL_law_223 rfl ?_
  refine r_callVi (q := 227) X (w6_about K.2.1 G base I hc (xs (i + 1))) kh_0 rfl ks_RL_31 (by decide) (by decide) hcs rfl (Nat.le_of_ble_eq_true rfl) dL_law_224 rfl (fun r1 M1 L1 h6 => ?_)
  have hf := a_about h6
  refine r_aload_n (q := 228) (i := 2) (j := 2) (x := base + 44) X rfl rfl dL_law_227 rfl ?_
  refine r_aload_n (q := 229) (i := 0) (j := 0) (x := b) X rfl rfl dL_law_228 rfl ?_
  refine r_iload_n (q := 230) (i := 3) (j := 3) (x := nI i) X rfl rfl dL_law_229 rfl ?_
  refine r_iconst (q := 231) (v := nI 1) X kc_1 dL_law_230 rfl ?_
  refine r_iaddR (q := 232) (x := nI i) (y := nI 1) (v := nI (i + 1)) X (nI_add _ _) dL_law_231 rfl ?_
  refine r_sld (q := 233) (j := i + 1) X hXs hbl hbb hn (by omega) dL_law_232 rfl ?_
  refine r_callVi (q := 236) X (w7_about K.2.1 G base I hc hf (xs (i + 1))) kh_44 rfl ks_RL_34 (by decide) (by decide) hcs rfl (Nat.le_of_ble_eq_true rfl) dL_law_233 rfl (fun r2 M2 L2 h7 => ?_)
  obtain ⟨he, I2⟩ := b_about I hc h6 h7
  subst he
  refine r_icmp_eq (q := 239) (tgt := 916) X (by decide) dL_law_236 rfl (fun _ => ?_) (fun h => absurd rfl h)
  exact kc _ _ I2
set_option maxHeartbeats 4000000 in
theorem lc_house {K : ks_Cx} {G : ks_G} {base cells slots b n i c : Nat} {xs : Nat → Int32} {M : ks_M} {L : ks_L} (X : KX K G base 4 RL cL_law 20) (hXs : va_X b n xs (kS K) (kS K).heap) (hbl : b < (kS K).heap.size) (hbb : (kS K).heap.size ≤ base) (hn : n < 1000) (hcs : cells ≤ (kR K).cells ∧ slots ≤ (kR K).slots) (hi : i + 6 ≤ n) (I : INV c M L) (hc : c ≤ 100) (kc : ∀ M2 L2, INV (c + 1) M2 L2 → RN K G base 4 cells slots SH M2 L2 916 [(0, .ref b), (1, .ref (base + 0)), (2, .ref (base + 44)), (3, .int (nI i))] []) : RN K G base 4 cells slots SH M L 241 [(0, .ref b), (1, .ref (base + 0)), (2, .ref (base + 44)), (3, .int (nI i))] [] := by
  refine r_aload_n (q := 242) (i := 1) (j := 1) (x := base + 0) X rfl rfl dL_law_241 rfl ?_
  refine r_aload_n (q := 243) (i := 0) (j := 0) (x := b) X rfl rfl dL_law_242 rfl ?_
  refine r_iload_n (q := 244) (i := 3) (j := 3) (x := nI i) X rfl rfl dL_law_243 rfl ?_
  refine r_iconst (q := 245) (v := nI 1) X kc_1 dL_law_244 rfl ?_
  refine r_iaddR (q := 246) (x := nI i) (y := nI 1) (v := nI (i + 1)) X (nI_add _ _) dL_law_245 rfl ?_
  refine r_sld (q := 247) (j := i + 1) X hXs hbl hbb hn (by omega) dL_law_246 rfl ?_
  refine r_aload_n (q := 248) (i := 0) (j := 0) (x := b) X rfl rfl dL_law_247 rfl ?_
  refine r_iload_n (q := 249) (i := 3) (j := 3) (x := nI i) X rfl rfl dL_law_248 rfl ?_
  refine r_iconst (q := 250) (v := nI 2) X kc_2 dL_law_249 rfl ?_
  refine r_iaddR (q := 251) (x := nI i) (y := nI 2) (v := nI (i + 2)) X (nI_add _ _) dL_law_250 rfl ?_
  refine r_sld (q := 252) (j := i + 2) X hXs hbl hbb hn (by omega) dL_law_251 rfl ?_
  refine r_callVi (q := 255) X (w6_house K.2.1 G base I hc (xs (i + 1)) (xs (i + 2))) kh_0 rfl ks_RL_35 (by decide) (by decide) hcs rfl (Nat.le_of_ble_eq_true rfl) dL_law_252 rfl (fun r1 M1 L1 h6 => ?_)
  have hf := a_house h6
  refine r_aload_n (q := 256) (i := 2) (j := 2) (x := base + 44) X rfl rfl dL_law_255 rfl ?_
  refine r_aload_n (q := 257) (i := 0) (j := 0) (x := b) X rfl rfl dL_law_256 rfl ?_
  refine r_iload_n (q := 258) (i := 3) (j := 3) (x := nI i) X rfl rfl dL_law_257 rfl ?_
  refine r_iconst (q := 259) (v := nI 1) X kc_1 dL_law_258 rfl ?_
  refine r_iaddR (q := 260) (x := nI i) (y := nI 1) (v := nI (i + 1)) X (nI_add _ _) dL_law_259 rfl ?_
  refine r_sld (q := 261) (j := i + 1) X hXs hbl hbb hn (by omega) dL_law_260 rfl ?_
  refine r_aload_n (q := 262) (i := 0) (j := 0) (x := b) X rfl rfl dL_law_261 rfl ?_
  refine r_iload_n (q := 263) (i := 3) (j := 3) (x := nI i) X rfl rfl dL_law_262 rfl ?_
  refine r_iconst (q := 264) (v := nI 2) X kc_2 dL_law_263 rfl ?_
  refine r_iaddR (q := 265) (x := nI i) (y := nI 2) (v := nI (i + 2)) X (nI_add _ _) dL_law_264 rfl ?_
  refine r_sld (q := 266) (j := i + 2) X hXs hbl hbb hn (by omega) dL_law_265 rfl ?_
  refine r_callVi (q := 269) X (w7_house K.2.1 G base I hc hf (xs (i + 1)) (xs (i + 2))) kh_44 rfl ks_RL_39 (by decide) (by decide) hcs rfl (Nat.le_of_ble_eq_true rfl) dL_law_266 rfl (fun r2 M2 L2 h7 => ?_)
  obtain ⟨he, I2⟩ := b_house I hc h6 h7
  subst he
  refine r_icmp_eq (q := 272) (tgt := 916) X (by decide) dL_law_269 rfl (fun _ => ?_) (fun h => absurd rfl h)
  exact kc _ _ I2
set_option maxHeartbeats 4000000 in
theorem lc_sight {K : ks_Cx} {G : ks_G} {base cells slots b n i c : Nat} {xs : Nat → Int32} {M : ks_M} {L : ks_L} (X : KX K G base 4 RL cL_law 20) (hXs : va_X b n xs (kS K) (kS K).heap) (hbl : b < (kS K).heap.size) (hbb : (kS K).heap.size ≤ base) (hn : n < 1000) (hcs : cells ≤ (kR K).cells ∧ slots ≤ (kR K).slots) (hi : i + 6 ≤ n) (I : INV c M L) (hc : c ≤ 100) (kc : ∀ M2 L2, INV (c + 1) M2 L2 → RN K G base 4 cells slots SH M2 L2 916 [(0, .ref b), (1, .ref (base + 0)), (2, .ref (base + 44)), (3, .int (nI i))] []) : RN K G base 4 cells slots SH M L 274 [(0, .ref b), (1, .ref (base + 0)), (2, .ref (base + 44)), (3, .int (nI i))] [] := by
  refine r_aload_n (q := 275) (i := 1) (j := 1) (x := base + 0) X rfl rfl dL_law_274 rfl ?_
  refine r_aload_n (q := 276) (i := 0) (j := 0) (x := b) X rfl rfl dL_law_275 rfl ?_
  refine r_iload_n (q := 277) (i := 3) (j := 3) (x := nI i) X rfl rfl dL_law_276 rfl ?_
  refine r_iconst (q := 278) (v := nI 1) X kc_1 dL_law_277 rfl ?_
  refine r_iaddR (q := 279) (x := nI i) (y := nI 1) (v := nI (i + 1)) X (nI_add _ _) dL_law_278 rfl ?_
  refine r_sld (q := 280) (j := i + 1) X hXs hbl hbb hn (by omega) dL_law_279 rfl ?_
  refine r_aload_n (q := 281) (i := 0) (j := 0) (x := b) X rfl rfl dL_law_280 rfl ?_
  refine r_iload_n (q := 282) (i := 3) (j := 3) (x := nI i) X rfl rfl dL_law_281 rfl ?_
  refine r_iconst (q := 283) (v := nI 2) X kc_2 dL_law_282 rfl ?_
  refine r_iaddR (q := 284) (x := nI i) (y := nI 2) (v := nI (i + 2)) X (nI_add _ _) dL_law_283 rfl ?_
  refine r_sld (q := 285) (j := i + 2) X hXs hbl hbb hn (by omega) dL_law_284 rfl ?_
  refine r_callVi (q := 288) X (w6_sight K.2.1 G base I hc (xs (i + 1)) (xs (i + 2))) kh_0 rfl ks_RL_40 (by decide) (by decide) hcs rfl (Nat.le_of_ble_eq_true rfl) dL_law_285 rfl (fun r1 M1 L1 h6 => ?_)
  have hf := a_sight h6
  refine r_aload_n (q := 289) (i := 2) (j := 2) (x := base + 44) X rfl rfl dL_law_288 rfl ?_
  refine r_aload_n (q := 290) (i := 0) (j := 0) (x := b) X rfl rfl dL_law_289 rfl ?_
  refine r_iload_n (q := 291) (i := 3) (j := 3) (x := nI i) X rfl rfl dL_law_290 rfl ?_
  refine r_iconst (q := 292) (v := nI 1) X kc_1 dL_law_291 rfl ?_
  refine r_iaddR (q := 293) (x := nI i) (y := nI 1) (v := nI (i + 1)) X (nI_add _ _) dL_law_292 rfl ?_
  refine r_sld (q := 294) (j := i + 1) X hXs hbl hbb hn (by omega) dL_law_293 rfl ?_
  refine r_aload_n (q := 295) (i := 0) (j := 0) (x := b) X rfl rfl dL_law_294 rfl ?_
  refine r_iload_n (q := 296) (i := 3) (j := 3) (x := nI i) X rfl rfl dL_law_295 rfl ?_
  refine r_iconst (q := 297) (v := nI 2) X kc_2 dL_law_296 rfl ?_
  refine r_iaddR (q := 298) (x := nI i) (y := nI 2) (v := nI (i + 2)) X (nI_add _ _) dL_law_297 rfl ?_
  refine r_sld (q := 299) (j := i + 2) X hXs hbl hbb hn (by omega) dL_law_298 rfl ?_
  refine r_callVi (q := 302) X (w7_sight K.2.1 G base I hc hf (xs (i + 1)) (xs (i + 2))) kh_44 rfl ks_RL_43 (by decide) (by decide) hcs rfl (Nat.le_of_ble_eq_true rfl) dL_law_299 rfl (fun r2 M2 L2 h7 => ?_)
  obtain ⟨he, I2⟩ := b_sight I hc h6 h7
  subst he
  refine r_icmp_eq (q := 305) (tgt := 916) X (by decide) dL_law_302 rfl (fun _ => ?_) (fun h => absurd rfl h)
  exact kc _ _ I2
set_option maxHeartbeats 4000000 in
theorem lc_walk {K : ks_Cx} {G : ks_G} {base cells slots b n i c : Nat} {xs : Nat → Int32} {M : ks_M} {L : ks_L} (X : KX K G base 4 RL cL_law 20) (hXs : va_X b n xs (kS K) (kS K).heap) (hbl : b < (kS K).heap.size) (hbb : (kS K).heap.size ≤ base) (hn : n < 1000) (hcs : cells ≤ (kR K).cells ∧ slots ≤ (kR K).slots) (hi : i + 6 ≤ n) (I : INV c M L) (hc : c ≤ 100) (kc : ∀ M2 L2, INV (c + 1) M2 L2 → RN K G base 4 cells slots SH M2 L2 916 [(0, .ref b), (1, .ref (base + 0)), (2, .ref (base + 44)), (3, .int (nI i))] []) : RN K G base 4 cells slots SH M L 307 [(0, .ref b), (1, .ref (base + 0)), (2, .ref (base + 44)), (3, .int (nI i))] [] := by
  refine r_aload_n (q := 308) (i := 1) (j := 1) (x := base + 0) X rfl rfl dL_law_307 rfl ?_
  refine r_aload_n (q := 309) (i := 0) (j := 0) (x := b) X rfl rfl dL_law_308 rfl ?_
  refine r_iload_n (q := 310) (i := 3) (j := 3) (x := nI i) X rfl rfl dL_law_309 rfl ?_
  refine r_iconst (q := 311) (v := nI 1) X kc_1 dL_law_310 rfl ?_
  refine r_iaddR (q := 312) (x := nI i) (y := nI 1) (v := nI (i + 1)) X (nI_add _ _) dL_law_311 rfl ?_
  refine r_sld (q := 313) (j := i + 1) X hXs hbl hbb hn (by omega) dL_law_312 rfl ?_
  refine r_callVi (q := 316) X (w6_walk K.2.1 G base I hc (xs (i + 1))) kh_0 rfl ks_RL_44 (by decide) (by decide) hcs rfl (Nat.le_of_ble_eq_true rfl) dL_law_313 rfl (fun r1 M1 L1 h6 => ?_)
  have hf := a_walk h6
  refine r_aload_n (q := 317) (i := 2) (j := 2) (x := base + 44) X rfl rfl dL_law_316 rfl ?_
  refine r_aload_n (q := 318) (i := 0) (j := 0) (x := b) X rfl rfl dL_law_317 rfl ?_
  refine r_iload_n (q := 319) (i := 3) (j := 3) (x := nI i) X rfl rfl dL_law_318 rfl ?_
  refine r_iconst (q := 320) (v := nI 1) X kc_1 dL_law_319 rfl ?_
  refine r_iaddR (q := 321) (x := nI i) (y := nI 1) (v := nI (i + 1)) X (nI_add _ _) dL_law_320 rfl ?_
  refine r_sld (q := 322) (j := i + 1) X hXs hbl hbb hn (by omega) dL_law_321 rfl ?_
  refine r_callVi (q := 325) X (w7_walk K.2.1 G base I hc hf (xs (i + 1))) kh_44 rfl ks_RL_47 (by decide) (by decide) hcs rfl (Nat.le_of_ble_eq_true rfl) dL_law_322 rfl (fun r2 M2 L2 h7 => ?_)
  obtain ⟨he, I2⟩ := b_walk I hc h6 h7
  subst he
  refine r_icmp_eq (q := 328) (tgt := 916) X (by decide) dL_law_325 rfl (fun _ => ?_) (fun h => absurd rfl h)
  exact kc _ _ I2
set_option maxHeartbeats 4000000 in
theorem lc_look {K : ks_Cx} {G : ks_G} {base cells slots b n i c : Nat} {xs : Nat → Int32} {M : ks_M} {L : ks_L} (X : KX K G base 4 RL cL_law 20) (hXs : va_X b n xs (kS K) (kS K).heap) (hbl : b < (kS K).heap.size) (hbb : (kS K).heap.size ≤ base) (hn : n < 1000) (hcs : cells ≤ (kR K).cells ∧ slots ≤ (kR K).slots) (hi : i + 6 ≤ n) (I : INV c M L) (hc : c ≤ 100) (kc : ∀ M2 L2, INV (c + 1) M2 L2 → RN K G base 4 cells slots SH M2 L2 916 [(0, .ref b), (1, .ref (base + 0)), (2, .ref (base + 44)), (3, .int (nI i))] []) : RN K G base 4 cells slots SH M L 330 [(0, .ref b), (1, .ref (base + 0)), (2, .ref (base + 44)), (3, .int (nI i))] [] := by
  refine r_aload_n (q := 331) (i := 1) (j := 1) (x := base + 0) X rfl rfl dL_law_330 rfl ?_
  refine r_callVi (q := 334) X (w6_look K.2.1 G base I hc ) kh_0 rfl ks_RL_48 (by decide) (by decide) hcs rfl (Nat.le_of_ble_eq_true rfl) dL_law_331 rfl (fun r1 M1 L1 h6 => ?_)
  have hf := a_look h6
  refine r_aload_n (q := 335) (i := 2) (j := 2) (x := base + 44) X rfl rfl dL_law_334 rfl ?_
  refine r_callVi (q := 338) X (w7_look K.2.1 G base I hc hf ) kh_44 rfl ks_RL_51 (by decide) (by decide) hcs rfl (Nat.le_of_ble_eq_true rfl) dL_law_335 rfl (fun r2 M2 L2 h7 => ?_)
  obtain ⟨he, I2⟩ := b_look I hc h6 h7
  subst he
  refine r_icmp_eq (q := 341) (tgt := 916) X (by decide) dL_law_338 rfl (fun _ => ?_) (fun h => absurd rfl h)
  exact kc _ _ I2
set_option maxHeartbeats 4000000 in
theorem lc_pause {K : ks_Cx} {G : ks_G} {base cells slots b n i c : Nat} {xs : Nat → Int32} {M : ks_M} {L : ks_L} (X : KX K G base 4 RL cL_law 20) (hXs : va_X b n xs (kS K) (kS K).heap) (hbl : b < (kS K).heap.size) (hbb : (kS K).heap.size ≤ base) (hn : n < 1000) (hcs : cells ≤ (kR K).cells ∧ slots ≤ (kR K).slots) (hi : i + 6 ≤ n) (I : INV c M L) (hc : c ≤ 100) (kc : ∀ M2 L2, INV (c + 1) M2 L2 → RN K G base 4 cells slots SH M2 L2 916 [(0, .ref b), (1, .ref (base + 0)), (2, .ref (base + 44)), (3, .int (nI i))] []) : RN K G base 4 cells slots SH M L 343 [(0, .ref b), (1, .ref (base + 0)), (2, .ref (base + 44)), (3, .int (nI i))] [] := by
  refine r_aload_n (q := 344) (i := 1) (j := 1) (x := base + 0) X rfl rfl dL_law_343 rfl ?_
  refine r_callVi (q := 347) X (w6_pause K.2.1 G base I hc ) kh_0 rfl ks_RL_52 (by decide) (by decide) hcs rfl (Nat.le_of_ble_eq_true rfl) dL_law_344 rfl (fun r1 M1 L1 h6 => ?_)
  have hf := a_pause h6
  refine r_aload_n (q := 348) (i := 2) (j := 2) (x := base + 44) X rfl rfl dL_law_347 rfl ?_
  refine r_callVi (q := 351) X (w7_pause K.2.1 G base I hc hf ) kh_44 rfl ks_RL_55 (by decide) (by decide) hcs rfl (Nat.le_of_ble_eq_true rfl) dL_law_348 rfl (fun r2 M2 L2 h7 => ?_)
  obtain ⟨he, I2⟩ := b_pause I hc h6 h7
  subst he
  refine r_icmp_eq (q := 354) (tgt := 916) X (by decide) dL_law_351 rfl (fun _ => ?_) (fun h => absurd rfl h)
  exact kc _ _ I2
set_option maxHeartbeats 4000000 in
theorem lc_lamp {K : ks_Cx} {G : ks_G} {base cells slots b n i c : Nat} {xs : Nat → Int32} {M : ks_M} {L : ks_L} (X : KX K G base 4 RL cL_law 20) (hXs : va_X b n xs (kS K) (kS K).heap) (hbl : b < (kS K).heap.size) (hbb : (kS K).heap.size ≤ base) (hn : n < 1000) (hcs : cells ≤ (kR K).cells ∧ slots ≤ (kR K).slots) (hi : i + 6 ≤ n) (I : INV c M L) (hc : c ≤ 100) (kc : ∀ M2 L2, INV (c + 1) M2 L2 → RN K G base 4 cells slots SH M2 L2 916 [(0, .ref b), (1, .ref (base + 0)), (2, .ref (base + 44)), (3, .int (nI i))] []) : RN K G base 4 cells slots SH M L 356 [(0, .ref b), (1, .ref (base + 0)), (2, .ref (base + 44)), (3, .int (nI i))] [] := by
  refine r_aload_n (q := 357) (i := 1) (j := 1) (x := base + 0) X rfl rfl dL_law_356 rfl ?_
  refine r_aload_n (q := 358) (i := 0) (j := 0) (x := b) X rfl rfl dL_law_357 rfl ?_
  refine r_iload_n (q := 359) (i := 3) (j := 3) (x := nI i) X rfl rfl dL_law_358 rfl ?_
  refine r_iconst (q := 360) (v := nI 1) X kc_1 dL_law_359 rfl ?_
  refine r_iaddR (q := 361) (x := nI i) (y := nI 1) (v := nI (i + 1)) X (nI_add _ _) dL_law_360 rfl ?_
  refine r_sld (q := 362) (j := i + 1) X hXs hbl hbb hn (by omega) dL_law_361 rfl ?_
  refine r_callVi (q := 365) X (w6_lamp K.2.1 G base I hc (xs (i + 1))) kh_0 rfl ks_RL_56 (by decide) (by decide) hcs rfl (Nat.le_of_ble_eq_true rfl) dL_law_362 rfl (fun r1 M1 L1 h6 => ?_)
  have hf := a_lamp h6
  refine r_aload_n (q := 366) (i := 2) (j := 2) (x := base + 44) X rfl rfl dL_law_365 rfl ?_
  refine r_aload_n (q := 367) (i := 0) (j := 0) (x := b) X rfl rfl dL_law_366 rfl ?_
  refine r_iload_n (q := 368) (i := 3) (j := 3) (x := nI i) X rfl rfl dL_law_367 rfl ?_
  refine r_iconst (q := 369) (v := nI 1) X kc_1 dL_law_368 rfl ?_
  refine r_iaddR (q := 370) (x := nI i) (y := nI 1) (v := nI (i + 1)) X (nI_add _ _) dL_law_369 rfl ?_
  refine r_sld (q := 371) (j := i + 1) X hXs hbl hbb hn (by omega) dL_law_370 rfl ?_
  refine r_callVi (q := 374) X (w7_lamp K.2.1 G base I hc hf (xs (i + 1))) kh_44 rfl ks_RL_59 (by decide) (by decide) hcs rfl (Nat.le_of_ble_eq_true rfl) dL_law_371 rfl (fun r2 M2 L2 h7 => ?_)
  obtain ⟨he, I2⟩ := b_lamp I hc h6 h7
  subst he
  refine r_icmp_eq (q := 377) (tgt := 916) X (by decide) dL_law_374 rfl (fun _ => ?_) (fun h => absurd rfl h)
  exact kc _ _ I2
set_option maxHeartbeats 4000000 in
theorem lc_key {K : ks_Cx} {G : ks_G} {base cells slots b n i c : Nat} {xs : Nat → Int32} {M : ks_M} {L : ks_L} (X : KX K G base 4 RL cL_law 20) (hXs : va_X b n xs (kS K) (kS K).heap) (hbl : b < (kS K).heap.size) (hbb : (kS K).heap.size ≤ base) (hn : n < 1000) (hcs : cells ≤ (kR K).cells ∧ slots ≤ (kR K).slots) (hi : i + 6 ≤ n) (I : INV c M L) (hc : c ≤ 100) (kc : ∀ M2 L2, INV (c + 1) M2 L2 → RN K G base 4 cells slots SH M2 L2 916 [(0, .ref b), (1, .ref (base + 0)), (2, .ref (base + 44)), (3, .int (nI i))] []) : RN K G base 4 cells slots SH M L 379 [(0, .ref b), (1, .ref (base + 0)), (2, .ref (base + 44)), (3, .int (nI i))] [] := by
  refine r_aload_n (q := 380) (i := 1) (j := 1) (x := base + 0) X rfl rfl dL_law_379 rfl ?_
  refine r_aload_n (q := 381) (i := 0) (j := 0) (x := b) X rfl rfl dL_law_380 rfl ?_
  refine r_iload_n (q := 382) (i := 3) (j := 3) (x := nI i) X rfl rfl dL_law_381 rfl ?_
  refine r_iconst (q := 383) (v := nI 1) X kc_1 dL_law_382 rfl ?_
  refine r_iaddR (q := 384) (x := nI i) (y := nI 1) (v := nI (i + 1)) X (nI_add _ _) dL_law_383 rfl ?_
  refine r_sld (q := 385) (j := i + 1) X hXs hbl hbb hn (by omega) dL_law_384 rfl ?_
  refine r_callVi (q := 388) X (w6_key K.2.1 G base I hc (xs (i + 1))) kh_0 rfl ks_RL_60 (by decide) (by decide) hcs rfl (Nat.le_of_ble_eq_true rfl) dL_law_385 rfl (fun r1 M1 L1 h6 => ?_)
  have hf := a_key h6
  refine r_aload_n (q := 389) (i := 2) (j := 2) (x := base + 44) X rfl rfl dL_law_388 rfl ?_
  refine r_aload_n (q := 390) (i := 0) (j := 0) (x := b) X rfl rfl dL_law_389 rfl ?_
  refine r_iload_n (q := 391) (i := 3) (j := 3) (x := nI i) X rfl rfl dL_law_390 rfl ?_
  refine r_iconst (q := 392) (v := nI 1) X kc_1 dL_law_391 rfl ?_
  refine r_iaddR (q := 393) (x := nI i) (y := nI 1) (v := nI (i + 1)) X (nI_add _ _) dL_law_392 rfl ?_
  refine r_sld (q := 394) (j := i + 1) X hXs hbl hbb hn (by omega) dL_law_393 rfl ?_
  refine r_callVi (q := 397) X (w7_key K.2.1 G base I hc hf (xs (i + 1))) kh_44 rfl ks_RL_63 (by decide) (by decide) hcs rfl (Nat.le_of_ble_eq_true rfl) dL_law_394 rfl (fun r2 M2 L2 h7 => ?_)
  obtain ⟨he, I2⟩ := b_key I hc h6 h7
  subst he
  refine r_icmp_eq (q := 400) (tgt := 916) X (by decide) dL_law_397 rfl (fun _ => ?_) (fun h => absurd rfl h)
  exact kc _ _ I2
set_option maxHeartbeats 4000000 in
theorem lc_undo {K : ks_Cx} {G : ks_G} {base cells slots b n i c : Nat} {xs : Nat → Int32} {M : ks_M} {L : ks_L} (X : KX K G base 4 RL cL_law 20) (hXs : va_X b n xs (kS K) (kS K).heap) (hbl : b < (kS K).heap.size) (hbb : (kS K).heap.size ≤ base) (hn : n < 1000) (hcs : cells ≤ (kR K).cells ∧ slots ≤ (kR K).slots) (hi : i + 6 ≤ n) (I : INV c M L) (hc : c ≤ 100) (kc : ∀ M2 L2, INV (c + 1) M2 L2 → RN K G base 4 cells slots SH M2 L2 916 [(0, .ref b), (1, .ref (base + 0)), (2, .ref (base + 44)), (3, .int (nI i))] []) : RN K G base 4 cells slots SH M L 402 [(0, .ref b), (1, .ref (base + 0)), (2, .ref (base + 44)), (3, .int (nI i))] [] := by
  refine r_aload_n (q := 403) (i := 1) (j := 1) (x := base + 0) X rfl rfl dL_law_402 rfl ?_
  refine r_callVi (q := 406) X (w6_undo K.2.1 G base I hc ) kh_0 rfl ks_RL_64 (by decide) (by decide) hcs rfl (Nat.le_of_ble_eq_true rfl) dL_law_403 rfl (fun r1 M1 L1 h6 => ?_)
  have hf := a_undo h6
  refine r_aload_n (q := 407) (i := 2) (j := 2) (x := base + 44) X rfl rfl dL_law_406 rfl ?_
  refine r_callVi (q := 410) X (w7_undo K.2.1 G base I hc hf ) kh_44 rfl ks_RL_67 (by decide) (by decide) hcs rfl (Nat.le_of_ble_eq_true rfl) dL_law_407 rfl (fun r2 M2 L2 h7 => ?_)
  obtain ⟨he, I2⟩ := b_undo I hc h6 h7
  subst he
  refine r_icmp_eq (q := 413) (tgt := 916) X (by decide) dL_law_410 rfl (fun _ => ?_) (fun h => absurd rfl h)
  exact kc _ _ I2
set_option maxHeartbeats 4000000 in
theorem lc_best {K : ks_Cx} {G : ks_G} {base cells slots b n i c : Nat} {xs : Nat → Int32} {M : ks_M} {L : ks_L} (X : KX K G base 4 RL cL_law 20) (hXs : va_X b n xs (kS K) (kS K).heap) (hbl : b < (kS K).heap.size) (hbb : (kS K).heap.size ≤ base) (hn : n < 1000) (hcs : cells ≤ (kR K).cells ∧ slots ≤ (kR K).slots) (hi : i + 6 ≤ n) (I : INV c M L) (hc : c ≤ 100) (kc : ∀ M2 L2, INV (c + 1) M2 L2 → RN K G base 4 cells slots SH M2 L2 916 [(0, .ref b), (1, .ref (base + 0)), (2, .ref (base + 44)), (3, .int (nI i))] []) : RN K G base 4 cells slots SH M L 415 [(0, .ref b), (1, .ref (base + 0)), (2, .ref (base + 44)), (3, .int (nI i))] [] := by
  refine r_aload_n (q := 416) (i := 1) (j := 1) (x := base + 0) X rfl rfl dL_law_415 rfl ?_
  refine r_aload_n (q := 417) (i := 0) (j := 0) (x := b) X rfl rfl dL_law_416 rfl ?_
  refine r_iload_n (q := 418) (i := 3) (j := 3) (x := nI i) X rfl rfl dL_law_417 rfl ?_
  refine r_iconst (q := 419) (v := nI 1) X kc_1 dL_law_418 rfl ?_
  refine r_iaddR (q := 420) (x := nI i) (y := nI 1) (v := nI (i + 1)) X (nI_add _ _) dL_law_419 rfl ?_
  refine r_sld (q := 421) (j := i + 1) X hXs hbl hbb hn (by omega) dL_law_420 rfl ?_
  refine r_aload_n (q := 422) (i := 0) (j := 0) (x := b) X rfl rfl dL_law_421 rfl ?_
  refine r_iload_n (q := 423) (i := 3) (j := 3) (x := nI i) X rfl rfl dL_law_422 rfl ?_
  refine r_iconst (q := 424) (v := nI 2) X kc_2 dL_law_423 rfl ?_
  refine r_iaddR (q := 425) (x := nI i) (y := nI 2) (v := nI (i + 2)) X (nI_add _ _) dL_law_424 rfl ?_
  refine r_sld (q := 426) (j := i + 2) X hXs hbl hbb hn (by omega) dL_law_425 rfl ?_
  refine r_if_eq (q := 429) (tgt := 433) X (by decide) dL_law_426 rfl (fun hz => ?_) (fun hz => ?_)
  · skip
    refine r_iconst (q := 434) (v := nI 0) X kc_0 dL_law_433 rfl ?_
    refine r_callVi (q := 437) X (w6_best K.2.1 G base I hc (xs (i + 1)) 0 (by decide)) kh_0 rfl ks_RL_68 (by decide) (by decide) hcs rfl (Nat.le_of_ble_eq_true rfl) dL_law_434 rfl (fun r1 M1 L1 h6 => ?_)
    have hf := a_best h6
    refine r_aload_n (q := 438) (i := 2) (j := 2) (x := base + 44) X rfl rfl dL_law_437 rfl ?_
    refine r_aload_n (q := 439) (i := 0) (j := 0) (x := b) X rfl rfl dL_law_438 rfl ?_
    refine r_iload_n (q := 440) (i := 3) (j := 3) (x := nI i) X rfl rfl dL_law_439 rfl ?_
    refine r_iconst (q := 441) (v := nI 1) X kc_1 dL_law_440 rfl ?_
    refine r_iaddR (q := 442) (x := nI i) (y := nI 1) (v := nI (i + 1)) X (nI_add _ _) dL_law_441 rfl ?_
    refine r_sld (q := 443) (j := i + 1) X hXs hbl hbb hn (by omega) dL_law_442 rfl ?_
    refine r_aload_n (q := 444) (i := 0) (j := 0) (x := b) X rfl rfl dL_law_443 rfl ?_
    refine r_iload_n (q := 445) (i := 3) (j := 3) (x := nI i) X rfl rfl dL_law_444 rfl ?_
    refine r_iconst (q := 446) (v := nI 2) X kc_2 dL_law_445 rfl ?_
    refine r_iaddR (q := 447) (x := nI i) (y := nI 2) (v := nI (i + 2)) X (nI_add _ _) dL_law_446 rfl ?_
    refine r_sld (q := 448) (j := i + 2) X hXs hbl hbb hn (by omega) dL_law_447 rfl ?_
    refine r_if_eq (q := 451) (tgt := 455) X (by decide) dL_law_448 rfl (fun _ => ?_) (fun h => absurd hz h)
    refine r_iconst (q := 456) (v := nI 0) X kc_0 dL_law_455 rfl ?_
    refine r_callVi (q := 459) X (w7_best K.2.1 G base I hc hf (xs (i + 1)) 0 (by decide)) kh_44 rfl ks_RL_72 (by decide) (by decide) hcs rfl (Nat.le_of_ble_eq_true rfl) dL_law_456 rfl (fun r2 M2 L2 h7 => ?_)
    obtain ⟨he, I2⟩ := b_best I hc h6 h7
    subst he
    refine r_icmp_eq (q := 462) (tgt := 916) X (by decide) dL_law_459 rfl (fun _ => ?_) (fun h => absurd rfl h)
    exact kc _ _ I2
  · skip
    refine r_iconst (q := 430) (v := nI 1) X kc_1 dL_law_429 rfl ?_
    refine r_goto (tgt := 434) X (by decide) dL_law_430 ?_
    refine r_callVi (q := 437) X (w6_best K.2.1 G base I hc (xs (i + 1)) 1 (by decide)) kh_0 rfl ks_RL_68 (by decide) (by decide) hcs rfl (Nat.le_of_ble_eq_true rfl) dL_law_434 rfl (fun r1 M1 L1 h6 => ?_)
    have hf := a_best h6
    refine r_aload_n (q := 438) (i := 2) (j := 2) (x := base + 44) X rfl rfl dL_law_437 rfl ?_
    refine r_aload_n (q := 439) (i := 0) (j := 0) (x := b) X rfl rfl dL_law_438 rfl ?_
    refine r_iload_n (q := 440) (i := 3) (j := 3) (x := nI i) X rfl rfl dL_law_439 rfl ?_
    refine r_iconst (q := 441) (v := nI 1) X kc_1 dL_law_440 rfl ?_
    refine r_iaddR (q := 442) (x := nI i) (y := nI 1) (v := nI (i + 1)) X (nI_add _ _) dL_law_441 rfl ?_
    refine r_sld (q := 443) (j := i + 1) X hXs hbl hbb hn (by omega) dL_law_442 rfl ?_
    refine r_aload_n (q := 444) (i := 0) (j := 0) (x := b) X rfl rfl dL_law_443 rfl ?_
    refine r_iload_n (q := 445) (i := 3) (j := 3) (x := nI i) X rfl rfl dL_law_444 rfl ?_
    refine r_iconst (q := 446) (v := nI 2) X kc_2 dL_law_445 rfl ?_
    refine r_iaddR (q := 447) (x := nI i) (y := nI 2) (v := nI (i + 2)) X (nI_add _ _) dL_law_446 rfl ?_
    refine r_sld (q := 448) (j := i + 2) X hXs hbl hbb hn (by omega) dL_law_447 rfl ?_
    refine r_if_eq (q := 451) (tgt := 455) X (by decide) dL_law_448 rfl (fun h => absurd h hz) (fun _ => ?_)
    refine r_iconst (q := 452) (v := nI 1) X kc_1 dL_law_451 rfl ?_
    refine r_goto (tgt := 456) X (by decide) dL_law_452 ?_
    refine r_callVi (q := 459) X (w7_best K.2.1 G base I hc hf (xs (i + 1)) 1 (by decide)) kh_44 rfl ks_RL_72 (by decide) (by decide) hcs rfl (Nat.le_of_ble_eq_true rfl) dL_law_456 rfl (fun r2 M2 L2 h7 => ?_)
    obtain ⟨he, I2⟩ := b_best I hc h6 h7
    subst he
    refine r_icmp_eq (q := 462) (tgt := 916) X (by decide) dL_law_459 rfl (fun _ => ?_) (fun h => absurd rfl h)
    exact kc _ _ I2
set_option maxHeartbeats 4000000 in
theorem lc_fewest {K : ks_Cx} {G : ks_G} {base cells slots b n i c : Nat} {xs : Nat → Int32} {M : ks_M} {L : ks_L} (X : KX K G base 4 RL cL_law 20) (hXs : va_X b n xs (kS K) (kS K).heap) (hbl : b < (kS K).heap.size) (hbb : (kS K).heap.size ≤ base) (hn : n < 1000) (hcs : cells ≤ (kR K).cells ∧ slots ≤ (kR K).slots) (hi : i + 6 ≤ n) (I : INV c M L) (hc : c ≤ 100) (kc : ∀ M2 L2, INV (c + 1) M2 L2 → RN K G base 4 cells slots SH M2 L2 916 [(0, .ref b), (1, .ref (base + 0)), (2, .ref (base + 44)), (3, .int (nI i))] []) : RN K G base 4 cells slots SH M L 464 [(0, .ref b), (1, .ref (base + 0)), (2, .ref (base + 44)), (3, .int (nI i))] [] := by
  refine r_aload_n (q := 465) (i := 1) (j := 1) (x := base + 0) X rfl rfl dL_law_464 rfl ?_
  refine r_aload_n (q := 466) (i := 0) (j := 0) (x := b) X rfl rfl dL_law_465 rfl ?_
  refine r_iload_n (q := 467) (i := 3) (j := 3) (x := nI i) X rfl rfl dL_law_466 rfl ?_
  refine r_iconst (q := 468) (v := nI 1) X kc_1 dL_law_467 rfl ?_
  refine r_iaddR (q := 469) (x := nI i) (y := nI 1) (v := nI (i + 1)) X (nI_add _ _) dL_law_468 rfl ?_
  refine r_sld (q := 470) (j := i + 1) X hXs hbl hbb hn (by omega) dL_law_469 rfl ?_
  refine r_callVi (q := 473) X (w6_fewest K.2.1 G base I hc (xs (i + 1))) kh_0 rfl ks_RL_73 (by decide) (by decide) hcs rfl (Nat.le_of_ble_eq_true rfl) dL_law_470 rfl (fun r1 M1 L1 h6 => ?_)
  have hf := a_fewest h6
  refine r_aload_n (q := 474) (i := 2) (j := 2) (x := base + 44) X rfl rfl dL_law_473 rfl ?_
  refine r_aload_n (q := 475) (i := 0) (j := 0) (x := b) X rfl rfl dL_law_474 rfl ?_
  refine r_iload_n (q := 476) (i := 3) (j := 3) (x := nI i) X rfl rfl dL_law_475 rfl ?_
  refine r_iconst (q := 477) (v := nI 1) X kc_1 dL_law_476 rfl ?_
  refine r_iaddR (q := 478) (x := nI i) (y := nI 1) (v := nI (i + 1)) X (nI_add _ _) dL_law_477 rfl ?_
  refine r_sld (q := 479) (j := i + 1) X hXs hbl hbb hn (by omega) dL_law_478 rfl ?_
  refine r_callVi (q := 482) X (w7_fewest K.2.1 G base I hc hf (xs (i + 1))) kh_44 rfl ks_RL_76 (by decide) (by decide) hcs rfl (Nat.le_of_ble_eq_true rfl) dL_law_479 rfl (fun r2 M2 L2 h7 => ?_)
  obtain ⟨he, I2⟩ := b_fewest I hc h6 h7
  subst he
  refine r_icmp_eq (q := 485) (tgt := 916) X (by decide) dL_law_482 rfl (fun _ => ?_) (fun h => absurd rfl h)
  exact kc _ _ I2
set_option maxHeartbeats 4000000 in
theorem lc_keys {K : ks_Cx} {G : ks_G} {base cells slots b n i c : Nat} {xs : Nat → Int32} {M : ks_M} {L : ks_L} (X : KX K G base 4 RL cL_law 20) (hXs : va_X b n xs (kS K) (kS K).heap) (hbl : b < (kS K).heap.size) (hbb : (kS K).heap.size ≤ base) (hn : n < 1000) (hcs : cells ≤ (kR K).cells ∧ slots ≤ (kR K).slots) (hi : i + 6 ≤ n) (I : INV c M L) (hc : c ≤ 100) (kc : ∀ M2 L2, INV (c + 1) M2 L2 → RN K G base 4 cells slots SH M2 L2 916 [(0, .ref b), (1, .ref (base + 0)), (2, .ref (base + 44)), (3, .int (nI i))] []) : RN K G base 4 cells slots SH M L 487 [(0, .ref b), (1, .ref (base + 0)), (2, .ref (base + 44)), (3, .int (nI i))] [] := by
  refine r_aload_n (q := 488) (i := 1) (j := 1) (x := base + 0) X rfl rfl dL_law_487 rfl ?_
  refine r_aload_n (q := 489) (i := 0) (j := 0) (x := b) X rfl rfl dL_law_488 rfl ?_
  refine r_iload_n (q := 490) (i := 3) (j := 3) (x := nI i) X rfl rfl dL_law_489 rfl ?_
  refine r_iconst (q := 491) (v := nI 1) X kc_1 dL_law_490 rfl ?_
  refine r_iaddR (q := 492) (x := nI i) (y := nI 1) (v := nI (i + 1)) X (nI_add _ _) dL_law_491 rfl ?_
  refine r_sld (q := 493) (j := i + 1) X hXs hbl hbb hn (by omega) dL_law_492 rfl ?_
  refine r_aload_n (q := 494) (i := 0) (j := 0) (x := b) X rfl rfl dL_law_493 rfl ?_
  refine r_iload_n (q := 495) (i := 3) (j := 3) (x := nI i) X rfl rfl dL_law_494 rfl ?_
  refine r_iconst (q := 496) (v := nI 2) X kc_2 dL_law_495 rfl ?_
  refine r_iaddR (q := 497) (x := nI i) (y := nI 2) (v := nI (i + 2)) X (nI_add _ _) dL_law_496 rfl ?_
  refine r_sld (q := 498) (j := i + 2) X hXs hbl hbb hn (by omega) dL_law_497 rfl ?_
  refine r_callVi (q := 501) X (w6_keys K.2.1 G base I hc (xs (i + 1)) (xs (i + 2))) kh_0 rfl ks_RL_77 (by decide) (by decide) hcs rfl (Nat.le_of_ble_eq_true rfl) dL_law_498 rfl (fun r1 M1 L1 h6 => ?_)
  have hf := a_keys h6
  refine r_aload_n (q := 502) (i := 2) (j := 2) (x := base + 44) X rfl rfl dL_law_501 rfl ?_
  refine r_aload_n (q := 503) (i := 0) (j := 0) (x := b) X rfl rfl dL_law_502 rfl ?_
  refine r_iload_n (q := 504) (i := 3) (j := 3) (x := nI i) X rfl rfl dL_law_503 rfl ?_
  refine r_iconst (q := 505) (v := nI 1) X kc_1 dL_law_504 rfl ?_
  refine r_iaddR (q := 506) (x := nI i) (y := nI 1) (v := nI (i + 1)) X (nI_add _ _) dL_law_505 rfl ?_
  refine r_sld (q := 507) (j := i + 1) X hXs hbl hbb hn (by omega) dL_law_506 rfl ?_
  refine r_aload_n (q := 508) (i := 0) (j := 0) (x := b) X rfl rfl dL_law_507 rfl ?_
  refine r_iload_n (q := 509) (i := 3) (j := 3) (x := nI i) X rfl rfl dL_law_508 rfl ?_
  refine r_iconst (q := 510) (v := nI 2) X kc_2 dL_law_509 rfl ?_
  refine r_iaddR (q := 511) (x := nI i) (y := nI 2) (v := nI (i + 2)) X (nI_add _ _) dL_law_510 rfl ?_
  refine r_sld (q := 512) (j := i + 2) X hXs hbl hbb hn (by omega) dL_law_511 rfl ?_
  refine r_callVi (q := 515) X (w7_keys K.2.1 G base I hc hf (xs (i + 1)) (xs (i + 2))) kh_44 rfl ks_RL_80 (by decide) (by decide) hcs rfl (Nat.le_of_ble_eq_true rfl) dL_law_512 rfl (fun r2 M2 L2 h7 => ?_)
  obtain ⟨he, I2⟩ := b_keys I hc h6 h7
  subst he
  refine r_icmp_eq (q := 518) (tgt := 916) X (by decide) dL_law_515 rfl (fun _ => ?_) (fun h => absurd rfl h)
  exact kc _ _ I2
set_option maxHeartbeats 4000000 in
theorem lc_judge {K : ks_Cx} {G : ks_G} {base cells slots b n i c : Nat} {xs : Nat → Int32} {M : ks_M} {L : ks_L} (X : KX K G base 4 RL cL_law 20) (hXs : va_X b n xs (kS K) (kS K).heap) (hbl : b < (kS K).heap.size) (hbb : (kS K).heap.size ≤ base) (hn : n < 1000) (hcs : cells ≤ (kR K).cells ∧ slots ≤ (kR K).slots) (hi : i + 6 ≤ n) (I : INV c M L) (hc : c ≤ 100) (kc : ∀ M2 L2, INV (c + 1) M2 L2 → RN K G base 4 cells slots SH M2 L2 916 [(0, .ref b), (1, .ref (base + 0)), (2, .ref (base + 44)), (3, .int (nI i))] []) : RN K G base 4 cells slots SH M L 520 [(0, .ref b), (1, .ref (base + 0)), (2, .ref (base + 44)), (3, .int (nI i))] [] := by
  refine r_aload_n (q := 521) (i := 1) (j := 1) (x := base + 0) X rfl rfl dL_law_520 rfl ?_
  refine r_aload_n (q := 522) (i := 0) (j := 0) (x := b) X rfl rfl dL_law_521 rfl ?_
  refine r_iload_n (q := 523) (i := 3) (j := 3) (x := nI i) X rfl rfl dL_law_522 rfl ?_
  refine r_iconst (q := 524) (v := nI 1) X kc_1 dL_law_523 rfl ?_
  refine r_iaddR (q := 525) (x := nI i) (y := nI 1) (v := nI (i + 1)) X (nI_add _ _) dL_law_524 rfl ?_
  refine r_sld (q := 526) (j := i + 1) X hXs hbl hbb hn (by omega) dL_law_525 rfl ?_
  refine r_aload_n (q := 527) (i := 0) (j := 0) (x := b) X rfl rfl dL_law_526 rfl ?_
  refine r_iload_n (q := 528) (i := 3) (j := 3) (x := nI i) X rfl rfl dL_law_527 rfl ?_
  refine r_iconst (q := 529) (v := nI 2) X kc_2 dL_law_528 rfl ?_
  refine r_iaddR (q := 530) (x := nI i) (y := nI 2) (v := nI (i + 2)) X (nI_add _ _) dL_law_529 rfl ?_
  refine r_sld (q := 531) (j := i + 2) X hXs hbl hbb hn (by omega) dL_law_530 rfl ?_
  refine r_callVi (q := 534) X (w6_judge K.2.1 G base I hc (xs (i + 1)) (xs (i + 2))) kh_0 rfl ks_RL_81 (by decide) (by decide) hcs rfl (Nat.le_of_ble_eq_true rfl) dL_law_531 rfl (fun r1 M1 L1 h6 => ?_)
  have hf := a_judge h6
  refine r_aload_n (q := 535) (i := 2) (j := 2) (x := base + 44) X rfl rfl dL_law_534 rfl ?_
  refine r_aload_n (q := 536) (i := 0) (j := 0) (x := b) X rfl rfl dL_law_535 rfl ?_
  refine r_iload_n (q := 537) (i := 3) (j := 3) (x := nI i) X rfl rfl dL_law_536 rfl ?_
  refine r_iconst (q := 538) (v := nI 1) X kc_1 dL_law_537 rfl ?_
  refine r_iaddR (q := 539) (x := nI i) (y := nI 1) (v := nI (i + 1)) X (nI_add _ _) dL_law_538 rfl ?_
  refine r_sld (q := 540) (j := i + 1) X hXs hbl hbb hn (by omega) dL_law_539 rfl ?_
  refine r_aload_n (q := 541) (i := 0) (j := 0) (x := b) X rfl rfl dL_law_540 rfl ?_
  refine r_iload_n (q := 542) (i := 3) (j := 3) (x := nI i) X rfl rfl dL_law_541 rfl ?_
  refine r_iconst (q := 543) (v := nI 2) X kc_2 dL_law_542 rfl ?_
  refine r_iaddR (q := 544) (x := nI i) (y := nI 2) (v := nI (i + 2)) X (nI_add _ _) dL_law_543 rfl ?_
  refine r_sld (q := 545) (j := i + 2) X hXs hbl hbb hn (by omega) dL_law_544 rfl ?_
  refine r_callVi (q := 548) X (w7_judge K.2.1 G base I hc hf (xs (i + 1)) (xs (i + 2))) kh_44 rfl ks_RL_84 (by decide) (by decide) hcs rfl (Nat.le_of_ble_eq_true rfl) dL_law_545 rfl (fun r2 M2 L2 h7 => ?_)
  obtain ⟨he, I2⟩ := b_judge I hc h6 h7
  subst he
  refine r_icmp_eq (q := 551) (tgt := 916) X (by decide) dL_law_548 rfl (fun _ => ?_) (fun h => absurd rfl h)
  exact kc _ _ I2
set_option maxHeartbeats 4000000 in
theorem lc_share {K : ks_Cx} {G : ks_G} {base cells slots b n i c : Nat} {xs : Nat → Int32} {M : ks_M} {L : ks_L} (X : KX K G base 4 RL cL_law 20) (hXs : va_X b n xs (kS K) (kS K).heap) (hbl : b < (kS K).heap.size) (hbb : (kS K).heap.size ≤ base) (hn : n < 1000) (hcs : cells ≤ (kR K).cells ∧ slots ≤ (kR K).slots) (hi : i + 6 ≤ n) (I : INV c M L) (hc : c ≤ 100) (kc : ∀ M2 L2, INV (c + 1) M2 L2 → RN K G base 4 cells slots SH M2 L2 916 [(0, .ref b), (1, .ref (base + 0)), (2, .ref (base + 44)), (3, .int (nI i))] []) : RN K G base 4 cells slots SH M L 553 [(0, .ref b), (1, .ref (base + 0)), (2, .ref (base + 44)), (3, .int (nI i))] [] := by
  refine r_aload_n (q := 554) (i := 1) (j := 1) (x := base + 0) X rfl rfl dL_law_553 rfl ?_
  refine r_aload_n (q := 555) (i := 0) (j := 0) (x := b) X rfl rfl dL_law_554 rfl ?_
  refine r_iload_n (q := 556) (i := 3) (j := 3) (x := nI i) X rfl rfl dL_law_555 rfl ?_
  refine r_iconst (q := 557) (v := nI 1) X kc_1 dL_law_556 rfl ?_
  refine r_iaddR (q := 558) (x := nI i) (y := nI 1) (v := nI (i + 1)) X (nI_add _ _) dL_law_557 rfl ?_
  refine r_sld (q := 559) (j := i + 1) X hXs hbl hbb hn (by omega) dL_law_558 rfl ?_
  refine r_aload_n (q := 560) (i := 0) (j := 0) (x := b) X rfl rfl dL_law_559 rfl ?_
  refine r_iload_n (q := 561) (i := 3) (j := 3) (x := nI i) X rfl rfl dL_law_560 rfl ?_
  refine r_iconst (q := 562) (v := nI 2) X kc_2 dL_law_561 rfl ?_
  refine r_iaddR (q := 563) (x := nI i) (y := nI 2) (v := nI (i + 2)) X (nI_add _ _) dL_law_562 rfl ?_
  refine r_sld (q := 564) (j := i + 2) X hXs hbl hbb hn (by omega) dL_law_563 rfl ?_
  refine r_if_eq (q := 567) (tgt := 571) X (by decide) dL_law_564 rfl (fun hz => ?_) (fun hz => ?_)
  · skip
    refine r_iconst (q := 572) (v := nI 0) X kc_0 dL_law_571 rfl ?_
    refine r_callVi (q := 575) X (w6_share K.2.1 G base I hc (xs (i + 1)) 0 (by decide)) kh_0 rfl ks_RL_85 (by decide) (by decide) hcs rfl (Nat.le_of_ble_eq_true rfl) dL_law_572 rfl (fun r1 M1 L1 h6 => ?_)
    have hf := a_share h6
    refine r_aload_n (q := 576) (i := 2) (j := 2) (x := base + 44) X rfl rfl dL_law_575 rfl ?_
    refine r_aload_n (q := 577) (i := 0) (j := 0) (x := b) X rfl rfl dL_law_576 rfl ?_
    refine r_iload_n (q := 578) (i := 3) (j := 3) (x := nI i) X rfl rfl dL_law_577 rfl ?_
    refine r_iconst (q := 579) (v := nI 1) X kc_1 dL_law_578 rfl ?_
    refine r_iaddR (q := 580) (x := nI i) (y := nI 1) (v := nI (i + 1)) X (nI_add _ _) dL_law_579 rfl ?_
    refine r_sld (q := 581) (j := i + 1) X hXs hbl hbb hn (by omega) dL_law_580 rfl ?_
    refine r_aload_n (q := 582) (i := 0) (j := 0) (x := b) X rfl rfl dL_law_581 rfl ?_
    refine r_iload_n (q := 583) (i := 3) (j := 3) (x := nI i) X rfl rfl dL_law_582 rfl ?_
    refine r_iconst (q := 584) (v := nI 2) X kc_2 dL_law_583 rfl ?_
    refine r_iaddR (q := 585) (x := nI i) (y := nI 2) (v := nI (i + 2)) X (nI_add _ _) dL_law_584 rfl ?_
    refine r_sld (q := 586) (j := i + 2) X hXs hbl hbb hn (by omega) dL_law_585 rfl ?_
    refine r_if_eq (q := 589) (tgt := 593) X (by decide) dL_law_586 rfl (fun _ => ?_) (fun h => absurd hz h)
    refine r_iconst (q := 594) (v := nI 0) X kc_0 dL_law_593 rfl ?_
    refine r_callVi (q := 597) X (w7_share K.2.1 G base I hc hf (xs (i + 1)) 0 (by decide)) kh_44 rfl ks_RL_88 (by decide) (by decide) hcs rfl (Nat.le_of_ble_eq_true rfl) dL_law_594 rfl (fun r2 M2 L2 h7 => ?_)
    obtain ⟨he, I2⟩ := b_share I hc h6 h7
    subst he
    refine r_icmp_eq (q := 600) (tgt := 916) X (by decide) dL_law_597 rfl (fun _ => ?_) (fun h => absurd rfl h)
    exact kc _ _ I2
  · skip
    refine r_iconst (q := 568) (v := nI 1) X kc_1 dL_law_567 rfl ?_
    refine r_goto (tgt := 572) X (by decide) dL_law_568 ?_
    refine r_callVi (q := 575) X (w6_share K.2.1 G base I hc (xs (i + 1)) 1 (by decide)) kh_0 rfl ks_RL_85 (by decide) (by decide) hcs rfl (Nat.le_of_ble_eq_true rfl) dL_law_572 rfl (fun r1 M1 L1 h6 => ?_)
    have hf := a_share h6
    refine r_aload_n (q := 576) (i := 2) (j := 2) (x := base + 44) X rfl rfl dL_law_575 rfl ?_
    refine r_aload_n (q := 577) (i := 0) (j := 0) (x := b) X rfl rfl dL_law_576 rfl ?_
    refine r_iload_n (q := 578) (i := 3) (j := 3) (x := nI i) X rfl rfl dL_law_577 rfl ?_
    refine r_iconst (q := 579) (v := nI 1) X kc_1 dL_law_578 rfl ?_
    refine r_iaddR (q := 580) (x := nI i) (y := nI 1) (v := nI (i + 1)) X (nI_add _ _) dL_law_579 rfl ?_
    refine r_sld (q := 581) (j := i + 1) X hXs hbl hbb hn (by omega) dL_law_580 rfl ?_
    refine r_aload_n (q := 582) (i := 0) (j := 0) (x := b) X rfl rfl dL_law_581 rfl ?_
    refine r_iload_n (q := 583) (i := 3) (j := 3) (x := nI i) X rfl rfl dL_law_582 rfl ?_
    refine r_iconst (q := 584) (v := nI 2) X kc_2 dL_law_583 rfl ?_
    refine r_iaddR (q := 585) (x := nI i) (y := nI 2) (v := nI (i + 2)) X (nI_add _ _) dL_law_584 rfl ?_
    refine r_sld (q := 586) (j := i + 2) X hXs hbl hbb hn (by omega) dL_law_585 rfl ?_
    refine r_if_eq (q := 589) (tgt := 593) X (by decide) dL_law_586 rfl (fun h => absurd h hz) (fun _ => ?_)
    refine r_iconst (q := 590) (v := nI 1) X kc_1 dL_law_589 rfl ?_
    refine r_goto (tgt := 594) X (by decide) dL_law_590 ?_
    refine r_callVi (q := 597) X (w7_share K.2.1 G base I hc hf (xs (i + 1)) 1 (by decide)) kh_44 rfl ks_RL_88 (by decide) (by decide) hcs rfl (Nat.le_of_ble_eq_true rfl) dL_law_594 rfl (fun r2 M2 L2 h7 => ?_)
    obtain ⟨he, I2⟩ := b_share I hc h6 h7
    subst he
    refine r_icmp_eq (q := 600) (tgt := 916) X (by decide) dL_law_597 rfl (fun _ => ?_) (fun h => absurd rfl h)
    exact kc _ _ I2
set_option maxHeartbeats 4000000 in
theorem lc_see {K : ks_Cx} {G : ks_G} {base cells slots b n i c : Nat} {xs : Nat → Int32} {M : ks_M} {L : ks_L} (X : KX K G base 4 RL cL_law 20) (hXs : va_X b n xs (kS K) (kS K).heap) (hbl : b < (kS K).heap.size) (hbb : (kS K).heap.size ≤ base) (hn : n < 1000) (hcs : cells ≤ (kR K).cells ∧ slots ≤ (kR K).slots) (hi : i + 6 ≤ n) (I : INV c M L) (hc : c ≤ 100) (kc : ∀ M2 L2, INV (c + 1) M2 L2 → RN K G base 4 cells slots SH M2 L2 916 [(0, .ref b), (1, .ref (base + 0)), (2, .ref (base + 44)), (3, .int (nI i))] []) : RN K G base 4 cells slots SH M L 602 [(0, .ref b), (1, .ref (base + 0)), (2, .ref (base + 44)), (3, .int (nI i))] [] := by
  refine r_aload_n (q := 603) (i := 1) (j := 1) (x := base + 0) X rfl rfl dL_law_602 rfl ?_
  refine r_aload_n (q := 604) (i := 0) (j := 0) (x := b) X rfl rfl dL_law_603 rfl ?_
  refine r_iload_n (q := 605) (i := 3) (j := 3) (x := nI i) X rfl rfl dL_law_604 rfl ?_
  refine r_iconst (q := 606) (v := nI 1) X kc_1 dL_law_605 rfl ?_
  refine r_iaddR (q := 607) (x := nI i) (y := nI 1) (v := nI (i + 1)) X (nI_add _ _) dL_law_606 rfl ?_
  refine r_sld (q := 608) (j := i + 1) X hXs hbl hbb hn (by omega) dL_law_607 rfl ?_
  refine r_aload_n (q := 609) (i := 0) (j := 0) (x := b) X rfl rfl dL_law_608 rfl ?_
  refine r_iload_n (q := 610) (i := 3) (j := 3) (x := nI i) X rfl rfl dL_law_609 rfl ?_
  refine r_iconst (q := 611) (v := nI 2) X kc_2 dL_law_610 rfl ?_
  refine r_iaddR (q := 612) (x := nI i) (y := nI 2) (v := nI (i + 2)) X (nI_add _ _) dL_law_611 rfl ?_
  refine r_sld (q := 613) (j := i + 2) X hXs hbl hbb hn (by omega) dL_law_612 rfl ?_
  refine r_aload_n (q := 614) (i := 0) (j := 0) (x := b) X rfl rfl dL_law_613 rfl ?_
  refine r_iload_n (q := 615) (i := 3) (j := 3) (x := nI i) X rfl rfl dL_law_614 rfl ?_
  refine r_iconst (q := 616) (v := nI 3) X kc_3 dL_law_615 rfl ?_
  refine r_iaddR (q := 617) (x := nI i) (y := nI 3) (v := nI (i + 3)) X (nI_add _ _) dL_law_616 rfl ?_
  refine r_sld (q := 618) (j := i + 3) X hXs hbl hbb hn (by omega) dL_law_617 rfl ?_
  refine r_aload_n (q := 619) (i := 0) (j := 0) (x := b) X rfl rfl dL_law_618 rfl ?_
  refine r_iload_n (q := 620) (i := 3) (j := 3) (x := nI i) X rfl rfl dL_law_619 rfl ?_
  refine r_iconst (q := 621) (v := nI 4) X kc_4 dL_law_620 rfl ?_
  refine r_iaddR (q := 622) (x := nI i) (y := nI 4) (v := nI (i + 4)) X (nI_add _ _) dL_law_621 rfl ?_
  refine r_sld (q := 623) (j := i + 4) X hXs hbl hbb hn (by omega) dL_law_622 rfl ?_
  refine r_callVi (q := 626) X (w6_see K.2.1 G base I hc (xs (i + 1)) (xs (i + 2)) (xs (i + 3)) (xs (i + 4))) kh_0 rfl ks_RL_89 (by decide) (by decide) hcs rfl (Nat.le_of_ble_eq_true rfl) dL_law_623 rfl (fun r1 M1 L1 h6 => ?_)
  have hf := a_see h6
  refine r_aload_n (q := 627) (i := 2) (j := 2) (x := base + 44) X rfl rfl dL_law_626 rfl ?_
  refine r_aload_n (q := 628) (i := 0) (j := 0) (x := b) X rfl rfl dL_law_627 rfl ?_
  refine r_iload_n (q := 629) (i := 3) (j := 3) (x := nI i) X rfl rfl dL_law_628 rfl ?_
  refine r_iconst (q := 630) (v := nI 1) X kc_1 dL_law_629 rfl ?_
  refine r_iaddR (q := 631) (x := nI i) (y := nI 1) (v := nI (i + 1)) X (nI_add _ _) dL_law_630 rfl ?_
  refine r_sld (q := 632) (j := i + 1) X hXs hbl hbb hn (by omega) dL_law_631 rfl ?_
  refine r_aload_n (q := 633) (i := 0) (j := 0) (x := b) X rfl rfl dL_law_632 rfl ?_
  refine r_iload_n (q := 634) (i := 3) (j := 3) (x := nI i) X rfl rfl dL_law_633 rfl ?_
  refine r_iconst (q := 635) (v := nI 2) X kc_2 dL_law_634 rfl ?_
  refine r_iaddR (q := 636) (x := nI i) (y := nI 2) (v := nI (i + 2)) X (nI_add _ _) dL_law_635 rfl ?_
  refine r_sld (q := 637) (j := i + 2) X hXs hbl hbb hn (by omega) dL_law_636 rfl ?_
  refine r_aload_n (q := 638) (i := 0) (j := 0) (x := b) X rfl rfl dL_law_637 rfl ?_
  refine r_iload_n (q := 639) (i := 3) (j := 3) (x := nI i) X rfl rfl dL_law_638 rfl ?_
  refine r_iconst (q := 640) (v := nI 3) X kc_3 dL_law_639 rfl ?_
  refine r_iaddR (q := 641) (x := nI i) (y := nI 3) (v := nI (i + 3)) X (nI_add _ _) dL_law_640 rfl ?_
  refine r_sld (q := 642) (j := i + 3) X hXs hbl hbb hn (by omega) dL_law_641 rfl ?_
  refine r_aload_n (q := 643) (i := 0) (j := 0) (x := b) X rfl rfl dL_law_642 rfl ?_
  refine r_iload_n (q := 644) (i := 3) (j := 3) (x := nI i) X rfl rfl dL_law_643 rfl ?_
  refine r_iconst (q := 645) (v := nI 4) X kc_4 dL_law_644 rfl ?_
  refine r_iaddR (q := 646) (x := nI i) (y := nI 4) (v := nI (i + 4)) X (nI_add _ _) dL_law_645 rfl ?_
  refine r_sld (q := 647) (j := i + 4) X hXs hbl hbb hn (by omega) dL_law_646 rfl ?_
  refine r_callVi (q := 650) X (w7_see K.2.1 G base I hc hf (xs (i + 1)) (xs (i + 2)) (xs (i + 3)) (xs (i + 4))) kh_44 rfl ks_RL_93 (by decide) (by decide) hcs rfl (Nat.le_of_ble_eq_true rfl) dL_law_647 rfl (fun r2 M2 L2 h7 => ?_)
  obtain ⟨he, I2⟩ := b_see I hc h6 h7
  subst he
  refine r_icmp_eq (q := 653) (tgt := 916) X (by decide) dL_law_650 rfl (fun _ => ?_) (fun h => absurd rfl h)
  exact kc _ _ I2
set_option maxHeartbeats 4000000 in
theorem lc_unsee {K : ks_Cx} {G : ks_G} {base cells slots b n i c : Nat} {xs : Nat → Int32} {M : ks_M} {L : ks_L} (X : KX K G base 4 RL cL_law 20) (hXs : va_X b n xs (kS K) (kS K).heap) (hbl : b < (kS K).heap.size) (hbb : (kS K).heap.size ≤ base) (hn : n < 1000) (hcs : cells ≤ (kR K).cells ∧ slots ≤ (kR K).slots) (hi : i + 6 ≤ n) (I : INV c M L) (hc : c ≤ 100) (kc : ∀ M2 L2, INV (c + 1) M2 L2 → RN K G base 4 cells slots SH M2 L2 916 [(0, .ref b), (1, .ref (base + 0)), (2, .ref (base + 44)), (3, .int (nI i))] []) : RN K G base 4 cells slots SH M L 655 [(0, .ref b), (1, .ref (base + 0)), (2, .ref (base + 44)), (3, .int (nI i))] [] := by
  refine r_aload_n (q := 656) (i := 1) (j := 1) (x := base + 0) X rfl rfl dL_law_655 rfl ?_
  refine r_callVi (q := 659) X (w6_unsee K.2.1 G base I hc ) kh_0 rfl ks_RL_94 (by decide) (by decide) hcs rfl (Nat.le_of_ble_eq_true rfl) dL_law_656 rfl (fun r1 M1 L1 h6 => ?_)
  have hf := a_unsee h6
  refine r_aload_n (q := 660) (i := 2) (j := 2) (x := base + 44) X rfl rfl dL_law_659 rfl ?_
  refine r_callVi (q := 663) X (w7_unsee K.2.1 G base I hc hf ) kh_44 rfl ks_RL_97 (by decide) (by decide) hcs rfl (Nat.le_of_ble_eq_true rfl) dL_law_660 rfl (fun r2 M2 L2 h7 => ?_)
  obtain ⟨he, I2⟩ := b_unsee I hc h6 h7
  subst he
  refine r_icmp_eq (q := 666) (tgt := 916) X (by decide) dL_law_663 rfl (fun _ => ?_) (fun h => absurd rfl h)
  exact kc _ _ I2
set_option maxHeartbeats 4000000 in
theorem lc_shapes {K : ks_Cx} {G : ks_G} {base cells slots b n i c : Nat} {xs : Nat → Int32} {M : ks_M} {L : ks_L} (X : KX K G base 4 RL cL_law 20) (hXs : va_X b n xs (kS K) (kS K).heap) (hbl : b < (kS K).heap.size) (hbb : (kS K).heap.size ≤ base) (hn : n < 1000) (hcs : cells ≤ (kR K).cells ∧ slots ≤ (kR K).slots) (hi : i + 6 ≤ n) (I : INV c M L) (hc : c ≤ 100) (kc : ∀ M2 L2, INV (c + 1) M2 L2 → RN K G base 4 cells slots SH M2 L2 916 [(0, .ref b), (1, .ref (base + 0)), (2, .ref (base + 44)), (3, .int (nI i))] []) : RN K G base 4 cells slots SH M L 668 [(0, .ref b), (1, .ref (base + 0)), (2, .ref (base + 44)), (3, .int (nI i))] [] := by
  refine r_aload_n (q := 669) (i := 1) (j := 1) (x := base + 0) X rfl rfl dL_law_668 rfl ?_
  refine r_aload_n (q := 670) (i := 0) (j := 0) (x := b) X rfl rfl dL_law_669 rfl ?_
  refine r_iload_n (q := 671) (i := 3) (j := 3) (x := nI i) X rfl rfl dL_law_670 rfl ?_
  refine r_iconst (q := 672) (v := nI 1) X kc_1 dL_law_671 rfl ?_
  refine r_iaddR (q := 673) (x := nI i) (y := nI 1) (v := nI (i + 1)) X (nI_add _ _) dL_law_672 rfl ?_
  refine r_sld (q := 674) (j := i + 1) X hXs hbl hbb hn (by omega) dL_law_673 rfl ?_
  refine r_callVi (q := 677) X (w6_shapes K.2.1 G base I hc (xs (i + 1))) kh_0 rfl ks_RL_98 (by decide) (by decide) hcs rfl (Nat.le_of_ble_eq_true rfl) dL_law_674 rfl (fun r1 M1 L1 h6 => ?_)
  have hf := a_shapes h6
  refine r_aload_n (q := 678) (i := 2) (j := 2) (x := base + 44) X rfl rfl dL_law_677 rfl ?_
  refine r_aload_n (q := 679) (i := 0) (j := 0) (x := b) X rfl rfl dL_law_678 rfl ?_
  refine r_iload_n (q := 680) (i := 3) (j := 3) (x := nI i) X rfl rfl dL_law_679 rfl ?_
  refine r_iconst (q := 681) (v := nI 1) X kc_1 dL_law_680 rfl ?_
  refine r_iaddR (q := 682) (x := nI i) (y := nI 1) (v := nI (i + 1)) X (nI_add _ _) dL_law_681 rfl ?_
  refine r_sld (q := 683) (j := i + 1) X hXs hbl hbb hn (by omega) dL_law_682 rfl ?_
  refine r_callVi (q := 686) X (w7_shapes K.2.1 G base I hc hf (xs (i + 1))) kh_44 rfl ks_RL_101 (by decide) (by decide) hcs rfl (Nat.le_of_ble_eq_true rfl) dL_law_683 rfl (fun r2 M2 L2 h7 => ?_)
  obtain ⟨he, I2⟩ := b_shapes I hc h6 h7
  subst he
  refine r_icmp_eq (q := 689) (tgt := 916) X (by decide) dL_law_686 rfl (fun _ => ?_) (fun h => absurd rfl h)
  exact kc _ _ I2
set_option maxHeartbeats 4000000 in
theorem lc_rests {K : ks_Cx} {G : ks_G} {base cells slots b n i c : Nat} {xs : Nat → Int32} {M : ks_M} {L : ks_L} (X : KX K G base 4 RL cL_law 20) (hXs : va_X b n xs (kS K) (kS K).heap) (hbl : b < (kS K).heap.size) (hbb : (kS K).heap.size ≤ base) (hn : n < 1000) (hcs : cells ≤ (kR K).cells ∧ slots ≤ (kR K).slots) (hi : i + 6 ≤ n) (I : INV c M L) (hc : c ≤ 100) (kc : ∀ M2 L2, INV (c + 1) M2 L2 → RN K G base 4 cells slots SH M2 L2 916 [(0, .ref b), (1, .ref (base + 0)), (2, .ref (base + 44)), (3, .int (nI i))] []) : RN K G base 4 cells slots SH M L 691 [(0, .ref b), (1, .ref (base + 0)), (2, .ref (base + 44)), (3, .int (nI i))] [] := by
  refine r_aload_n (q := 692) (i := 1) (j := 1) (x := base + 0) X rfl rfl dL_law_691 rfl ?_
  refine r_aload_n (q := 693) (i := 0) (j := 0) (x := b) X rfl rfl dL_law_692 rfl ?_
  refine r_iload_n (q := 694) (i := 3) (j := 3) (x := nI i) X rfl rfl dL_law_693 rfl ?_
  refine r_iconst (q := 695) (v := nI 1) X kc_1 dL_law_694 rfl ?_
  refine r_iaddR (q := 696) (x := nI i) (y := nI 1) (v := nI (i + 1)) X (nI_add _ _) dL_law_695 rfl ?_
  refine r_sld (q := 697) (j := i + 1) X hXs hbl hbb hn (by omega) dL_law_696 rfl ?_
  refine r_callVi (q := 700) X (w6_rests K.2.1 G base I hc (xs (i + 1))) kh_0 rfl ks_RL_102 (by decide) (by decide) hcs rfl (Nat.le_of_ble_eq_true rfl) dL_law_697 rfl (fun r1 M1 L1 h6 => ?_)
  have hf := a_rests h6
  refine r_aload_n (q := 701) (i := 2) (j := 2) (x := base + 44) X rfl rfl dL_law_700 rfl ?_
  refine r_aload_n (q := 702) (i := 0) (j := 0) (x := b) X rfl rfl dL_law_701 rfl ?_
  refine r_iload_n (q := 703) (i := 3) (j := 3) (x := nI i) X rfl rfl dL_law_702 rfl ?_
  refine r_iconst (q := 704) (v := nI 1) X kc_1 dL_law_703 rfl ?_
  refine r_iaddR (q := 705) (x := nI i) (y := nI 1) (v := nI (i + 1)) X (nI_add _ _) dL_law_704 rfl ?_
  refine r_sld (q := 706) (j := i + 1) X hXs hbl hbb hn (by omega) dL_law_705 rfl ?_
  refine r_callVi (q := 709) X (w7_rests K.2.1 G base I hc hf (xs (i + 1))) kh_44 rfl ks_RL_105 (by decide) (by decide) hcs rfl (Nat.le_of_ble_eq_true rfl) dL_law_706 rfl (fun r2 M2 L2 h7 => ?_)
  obtain ⟨he, I2⟩ := b_rests I hc h6 h7
  subst he
  refine r_icmp_eq (q := 712) (tgt := 916) X (by decide) dL_law_709 rfl (fun _ => ?_) (fun h => absurd rfl h)
  exact kc _ _ I2
set_option maxHeartbeats 4000000 in
theorem lc_chance {K : ks_Cx} {G : ks_G} {base cells slots b n i c : Nat} {xs : Nat → Int32} {M : ks_M} {L : ks_L} (X : KX K G base 4 RL cL_law 20) (hXs : va_X b n xs (kS K) (kS K).heap) (hbl : b < (kS K).heap.size) (hbb : (kS K).heap.size ≤ base) (hn : n < 1000) (hcs : cells ≤ (kR K).cells ∧ slots ≤ (kR K).slots) (hi : i + 6 ≤ n) (I : INV c M L) (hc : c ≤ 100) (kc : ∀ M2 L2, INV (c + 1) M2 L2 → RN K G base 4 cells slots SH M2 L2 916 [(0, .ref b), (1, .ref (base + 0)), (2, .ref (base + 44)), (3, .int (nI i))] []) : RN K G base 4 cells slots SH M L 714 [(0, .ref b), (1, .ref (base + 0)), (2, .ref (base + 44)), (3, .int (nI i))] [] := by
  refine r_aload_n (q := 715) (i := 1) (j := 1) (x := base + 0) X rfl rfl dL_law_714 rfl ?_
  refine r_aload_n (q := 716) (i := 0) (j := 0) (x := b) X rfl rfl dL_law_715 rfl ?_
  refine r_iload_n (q := 717) (i := 3) (j := 3) (x := nI i) X rfl rfl dL_law_716 rfl ?_
  refine r_iconst (q := 718) (v := nI 1) X kc_1 dL_law_717 rfl ?_
  refine r_iaddR (q := 719) (x := nI i) (y := nI 1) (v := nI (i + 1)) X (nI_add _ _) dL_law_718 rfl ?_
  refine r_sld (q := 720) (j := i + 1) X hXs hbl hbb hn (by omega) dL_law_719 rfl ?_
  refine r_aload_n (q := 721) (i := 0) (j := 0) (x := b) X rfl rfl dL_law_720 rfl ?_
  refine r_iload_n (q := 722) (i := 3) (j := 3) (x := nI i) X rfl rfl dL_law_721 rfl ?_
  refine r_iconst (q := 723) (v := nI 2) X kc_2 dL_law_722 rfl ?_
  refine r_iaddR (q := 724) (x := nI i) (y := nI 2) (v := nI (i + 2)) X (nI_add _ _) dL_law_723 rfl ?_
  refine r_sld (q := 725) (j := i + 2) X hXs hbl hbb hn (by omega) dL_law_724 rfl ?_
  refine r_aload_n (q := 726) (i := 0) (j := 0) (x := b) X rfl rfl dL_law_725 rfl ?_
  refine r_iload_n (q := 727) (i := 3) (j := 3) (x := nI i) X rfl rfl dL_law_726 rfl ?_
  refine r_iconst (q := 728) (v := nI 3) X kc_3 dL_law_727 rfl ?_
  refine r_iaddR (q := 729) (x := nI i) (y := nI 3) (v := nI (i + 3)) X (nI_add _ _) dL_law_728 rfl ?_
  refine r_sld (q := 730) (j := i + 3) X hXs hbl hbb hn (by omega) dL_law_729 rfl ?_
  refine r_aload_n (q := 731) (i := 0) (j := 0) (x := b) X rfl rfl dL_law_730 rfl ?_
  refine r_iload_n (q := 732) (i := 3) (j := 3) (x := nI i) X rfl rfl dL_law_731 rfl ?_
  refine r_iconst (q := 733) (v := nI 4) X kc_4 dL_law_732 rfl ?_
  refine r_iaddR (q := 734) (x := nI i) (y := nI 4) (v := nI (i + 4)) X (nI_add _ _) dL_law_733 rfl ?_
  refine r_sld (q := 735) (j := i + 4) X hXs hbl hbb hn (by omega) dL_law_734 rfl ?_
  refine r_aload_n (q := 736) (i := 0) (j := 0) (x := b) X rfl rfl dL_law_735 rfl ?_
  refine r_iload_n (q := 737) (i := 3) (j := 3) (x := nI i) X rfl rfl dL_law_736 rfl ?_
  refine r_iconst (q := 738) (v := nI 5) X kc_5 dL_law_737 rfl ?_
  refine r_iaddR (q := 739) (x := nI i) (y := nI 5) (v := nI (i + 5)) X (nI_add _ _) dL_law_738 rfl ?_
  refine r_sld (q := 740) (j := i + 5) X hXs hbl hbb hn (by omega) dL_law_739 rfl ?_
  refine r_if_eq (q := 743) (tgt := 747) X (by decide) dL_law_740 rfl (fun hz => ?_) (fun hz => ?_)
  · skip
    refine r_iconst (q := 748) (v := nI 0) X kc_0 dL_law_747 rfl ?_
    refine r_callVi (q := 751) X (w6_chance K.2.1 G base I hc (xs (i + 1)) (xs (i + 2)) (xs (i + 3)) (xs (i + 4)) 0 (by decide)) kh_0 rfl ks_RL_106 (by decide) (by decide) hcs rfl (Nat.le_of_ble_eq_true rfl) dL_law_748 rfl (fun r1 M1 L1 h6 => ?_)
    have hf := a_chance h6
    refine r_aload_n (q := 752) (i := 2) (j := 2) (x := base + 44) X rfl rfl dL_law_751 rfl ?_
    refine r_aload_n (q := 753) (i := 0) (j := 0) (x := b) X rfl rfl dL_law_752 rfl ?_
    refine r_iload_n (q := 754) (i := 3) (j := 3) (x := nI i) X rfl rfl dL_law_753 rfl ?_
    refine r_iconst (q := 755) (v := nI 1) X kc_1 dL_law_754 rfl ?_
    refine r_iaddR (q := 756) (x := nI i) (y := nI 1) (v := nI (i + 1)) X (nI_add _ _) dL_law_755 rfl ?_
    refine r_sld (q := 757) (j := i + 1) X hXs hbl hbb hn (by omega) dL_law_756 rfl ?_
    refine r_aload_n (q := 758) (i := 0) (j := 0) (x := b) X rfl rfl dL_law_757 rfl ?_
    refine r_iload_n (q := 759) (i := 3) (j := 3) (x := nI i) X rfl rfl dL_law_758 rfl ?_
    refine r_iconst (q := 760) (v := nI 2) X kc_2 dL_law_759 rfl ?_
    refine r_iaddR (q := 761) (x := nI i) (y := nI 2) (v := nI (i + 2)) X (nI_add _ _) dL_law_760 rfl ?_
    refine r_sld (q := 762) (j := i + 2) X hXs hbl hbb hn (by omega) dL_law_761 rfl ?_
    refine r_aload_n (q := 763) (i := 0) (j := 0) (x := b) X rfl rfl dL_law_762 rfl ?_
    refine r_iload_n (q := 764) (i := 3) (j := 3) (x := nI i) X rfl rfl dL_law_763 rfl ?_
    refine r_iconst (q := 765) (v := nI 3) X kc_3 dL_law_764 rfl ?_
    refine r_iaddR (q := 766) (x := nI i) (y := nI 3) (v := nI (i + 3)) X (nI_add _ _) dL_law_765 rfl ?_
    refine r_sld (q := 767) (j := i + 3) X hXs hbl hbb hn (by omega) dL_law_766 rfl ?_
    refine r_aload_n (q := 768) (i := 0) (j := 0) (x := b) X rfl rfl dL_law_767 rfl ?_
    refine r_iload_n (q := 769) (i := 3) (j := 3) (x := nI i) X rfl rfl dL_law_768 rfl ?_
    refine r_iconst (q := 770) (v := nI 4) X kc_4 dL_law_769 rfl ?_
    refine r_iaddR (q := 771) (x := nI i) (y := nI 4) (v := nI (i + 4)) X (nI_add _ _) dL_law_770 rfl ?_
    refine r_sld (q := 772) (j := i + 4) X hXs hbl hbb hn (by omega) dL_law_771 rfl ?_
    refine r_aload_n (q := 773) (i := 0) (j := 0) (x := b) X rfl rfl dL_law_772 rfl ?_
    refine r_iload_n (q := 774) (i := 3) (j := 3) (x := nI i) X rfl rfl dL_law_773 rfl ?_
    refine r_iconst (q := 775) (v := nI 5) X kc_5 dL_law_774 rfl ?_
    refine r_iaddR (q := 776) (x := nI i) (y := nI 5) (v := nI (i + 5)) X (nI_add _ _) dL_law_775 rfl ?_
    refine r_sld (q := 777) (j := i + 5) X hXs hbl hbb hn (by omega) dL_law_776 rfl ?_
    refine r_if_eq (q := 780) (tgt := 784) X (by decide) dL_law_777 rfl (fun _ => ?_) (fun h => absurd hz h)
    refine r_iconst (q := 785) (v := nI 0) X kc_0 dL_law_784 rfl ?_
    refine r_callVi (q := 788) X (w7_chance K.2.1 G base I hc hf (xs (i + 1)) (xs (i + 2)) (xs (i + 3)) (xs (i + 4)) 0 (by decide)) kh_44 rfl ks_RL_110 (by decide) (by decide) hcs rfl (Nat.le_of_ble_eq_true rfl) dL_law_785 rfl (fun r2 M2 L2 h7 => ?_)
    obtain ⟨he, I2⟩ := b_chance I hc h6 h7
    subst he
    refine r_icmp_eq (q := 791) (tgt := 916) X (by decide) dL_law_788 rfl (fun _ => ?_) (fun h => absurd rfl h)
    exact kc _ _ I2
  · skip
    refine r_iconst (q := 744) (v := nI 1) X kc_1 dL_law_743 rfl ?_
    refine r_goto (tgt := 748) X (by decide) dL_law_744 ?_
    refine r_callVi (q := 751) X (w6_chance K.2.1 G base I hc (xs (i + 1)) (xs (i + 2)) (xs (i + 3)) (xs (i + 4)) 1 (by decide)) kh_0 rfl ks_RL_106 (by decide) (by decide) hcs rfl (Nat.le_of_ble_eq_true rfl) dL_law_748 rfl (fun r1 M1 L1 h6 => ?_)
    have hf := a_chance h6
    refine r_aload_n (q := 752) (i := 2) (j := 2) (x := base + 44) X rfl rfl dL_law_751 rfl ?_
    refine r_aload_n (q := 753) (i := 0) (j := 0) (x := b) X rfl rfl dL_law_752 rfl ?_
    refine r_iload_n (q := 754) (i := 3) (j := 3) (x := nI i) X rfl rfl dL_law_753 rfl ?_
    refine r_iconst (q := 755) (v := nI 1) X kc_1 dL_law_754 rfl ?_
    refine r_iaddR (q := 756) (x := nI i) (y := nI 1) (v := nI (i + 1)) X (nI_add _ _) dL_law_755 rfl ?_
    refine r_sld (q := 757) (j := i + 1) X hXs hbl hbb hn (by omega) dL_law_756 rfl ?_
    refine r_aload_n (q := 758) (i := 0) (j := 0) (x := b) X rfl rfl dL_law_757 rfl ?_
    refine r_iload_n (q := 759) (i := 3) (j := 3) (x := nI i) X rfl rfl dL_law_758 rfl ?_
    refine r_iconst (q := 760) (v := nI 2) X kc_2 dL_law_759 rfl ?_
    refine r_iaddR (q := 761) (x := nI i) (y := nI 2) (v := nI (i + 2)) X (nI_add _ _) dL_law_760 rfl ?_
    refine r_sld (q := 762) (j := i + 2) X hXs hbl hbb hn (by omega) dL_law_761 rfl ?_
    refine r_aload_n (q := 763) (i := 0) (j := 0) (x := b) X rfl rfl dL_law_762 rfl ?_
    refine r_iload_n (q := 764) (i := 3) (j := 3) (x := nI i) X rfl rfl dL_law_763 rfl ?_
    refine r_iconst (q := 765) (v := nI 3) X kc_3 dL_law_764 rfl ?_
    refine r_iaddR (q := 766) (x := nI i) (y := nI 3) (v := nI (i + 3)) X (nI_add _ _) dL_law_765 rfl ?_
    refine r_sld (q := 767) (j := i + 3) X hXs hbl hbb hn (by omega) dL_law_766 rfl ?_
    refine r_aload_n (q := 768) (i := 0) (j := 0) (x := b) X rfl rfl dL_law_767 rfl ?_
    refine r_iload_n (q := 769) (i := 3) (j := 3) (x := nI i) X rfl rfl dL_law_768 rfl ?_
    refine r_iconst (q := 770) (v := nI 4) X kc_4 dL_law_769 rfl ?_
    refine r_iaddR (q := 771) (x := nI i) (y := nI 4) (v := nI (i + 4)) X (nI_add _ _) dL_law_770 rfl ?_
    refine r_sld (q := 772) (j := i + 4) X hXs hbl hbb hn (by omega) dL_law_771 rfl ?_
    refine r_aload_n (q := 773) (i := 0) (j := 0) (x := b) X rfl rfl dL_law_772 rfl ?_
    refine r_iload_n (q := 774) (i := 3) (j := 3) (x := nI i) X rfl rfl dL_law_773 rfl ?_
    refine r_iconst (q := 775) (v := nI 5) X kc_5 dL_law_774 rfl ?_
    refine r_iaddR (q := 776) (x := nI i) (y := nI 5) (v := nI (i + 5)) X (nI_add _ _) dL_law_775 rfl ?_
    refine r_sld (q := 777) (j := i + 5) X hXs hbl hbb hn (by omega) dL_law_776 rfl ?_
    refine r_if_eq (q := 780) (tgt := 784) X (by decide) dL_law_777 rfl (fun h => absurd h hz) (fun _ => ?_)
    refine r_iconst (q := 781) (v := nI 1) X kc_1 dL_law_780 rfl ?_
    refine r_goto (tgt := 785) X (by decide) dL_law_781 ?_
    refine r_callVi (q := 788) X (w7_chance K.2.1 G base I hc hf (xs (i + 1)) (xs (i + 2)) (xs (i + 3)) (xs (i + 4)) 1 (by decide)) kh_44 rfl ks_RL_110 (by decide) (by decide) hcs rfl (Nat.le_of_ble_eq_true rfl) dL_law_785 rfl (fun r2 M2 L2 h7 => ?_)
    obtain ⟨he, I2⟩ := b_chance I hc h6 h7
    subst he
    refine r_icmp_eq (q := 791) (tgt := 916) X (by decide) dL_law_788 rfl (fun _ => ?_) (fun h => absurd rfl h)
    exact kc _ _ I2
set_option maxHeartbeats 4000000 in
theorem lc_seed {K : ks_Cx} {G : ks_G} {base cells slots b n i c : Nat} {xs : Nat → Int32} {M : ks_M} {L : ks_L} (X : KX K G base 4 RL cL_law 20) (hXs : va_X b n xs (kS K) (kS K).heap) (hbl : b < (kS K).heap.size) (hbb : (kS K).heap.size ≤ base) (hn : n < 1000) (hcs : cells ≤ (kR K).cells ∧ slots ≤ (kR K).slots) (hi : i + 6 ≤ n) (I : INV c M L) (hc : c ≤ 100) (kc : ∀ M2 L2, INV (c + 1) M2 L2 → RN K G base 4 cells slots SH M2 L2 916 [(0, .ref b), (1, .ref (base + 0)), (2, .ref (base + 44)), (3, .int (nI i))] []) : RN K G base 4 cells slots SH M L 793 [(0, .ref b), (1, .ref (base + 0)), (2, .ref (base + 44)), (3, .int (nI i))] [] := by
  refine r_aload_n (q := 794) (i := 1) (j := 1) (x := base + 0) X rfl rfl dL_law_793 rfl ?_
  refine r_aload_n (q := 795) (i := 0) (j := 0) (x := b) X rfl rfl dL_law_794 rfl ?_
  refine r_iload_n (q := 796) (i := 3) (j := 3) (x := nI i) X rfl rfl dL_law_795 rfl ?_
  refine r_iconst (q := 797) (v := nI 1) X kc_1 dL_law_796 rfl ?_
  refine r_iaddR (q := 798) (x := nI i) (y := nI 1) (v := nI (i + 1)) X (nI_add _ _) dL_law_797 rfl ?_
  refine r_sld (q := 799) (j := i + 1) X hXs hbl hbb hn (by omega) dL_law_798 rfl ?_
  refine r_i2l (q := 800) (v := (xs (i + 1)).toInt64) X rfl dL_law_799 rfl ?_
  refine r_bipush (q := 802) (v := nI 32) X kb_32 dL_law_800 rfl ?_
  refine r_lshl (q := 803) (v := ((xs (i + 1)).toInt64 <<< ((nI 32).toInt64 &&& 63))) X rfl dL_law_802 rfl ?_
  refine r_aload_n (q := 804) (i := 0) (j := 0) (x := b) X rfl rfl dL_law_803 rfl ?_
  refine r_iload_n (q := 805) (i := 3) (j := 3) (x := nI i) X rfl rfl dL_law_804 rfl ?_
  refine r_iconst (q := 806) (v := nI 2) X kc_2 dL_law_805 rfl ?_
  refine r_iaddR (q := 807) (x := nI i) (y := nI 2) (v := nI (i + 2)) X (nI_add _ _) dL_law_806 rfl ?_
  refine r_sld (q := 808) (j := i + 2) X hXs hbl hbb hn (by omega) dL_law_807 rfl ?_
  refine r_i2l (q := 809) (v := (xs (i + 2)).toInt64) X rfl dL_law_808 rfl ?_
  refine r_ldc2 (q := 812) (v := 4294967295) X kl_RL_111 dL_law_809 rfl ?_
  refine r_land (q := 813) X  dL_law_812 rfl ?_
  refine r_lor (q := 814) X  dL_law_813 rfl ?_
  refine r_callVl (q := 817) X (w6_seed K.2.1 G base I hc ((((xs (i + 1)).toInt64 <<< ((nI 32).toInt64 &&& 63)) ||| ((xs (i + 2)).toInt64 &&& 4294967295)))) kh_0 rfl ks_RL_113 (by decide) (by decide) hcs rfl (Nat.le_of_ble_eq_true rfl) dL_law_814 rfl (fun r1 M1 L1 h6 => ?_)
  have hf := a_seed h6
  refine r_aload_n (q := 818) (i := 2) (j := 2) (x := base + 44) X rfl rfl dL_law_817 rfl ?_
  refine r_aload_n (q := 819) (i := 0) (j := 0) (x := b) X rfl rfl dL_law_818 rfl ?_
  refine r_iload_n (q := 820) (i := 3) (j := 3) (x := nI i) X rfl rfl dL_law_819 rfl ?_
  refine r_iconst (q := 821) (v := nI 1) X kc_1 dL_law_820 rfl ?_
  refine r_iaddR (q := 822) (x := nI i) (y := nI 1) (v := nI (i + 1)) X (nI_add _ _) dL_law_821 rfl ?_
  refine r_sld (q := 823) (j := i + 1) X hXs hbl hbb hn (by omega) dL_law_822 rfl ?_
  refine r_i2l (q := 824) (v := (xs (i + 1)).toInt64) X rfl dL_law_823 rfl ?_
  refine r_bipush (q := 826) (v := nI 32) X kb_32 dL_law_824 rfl ?_
  refine r_lshl (q := 827) (v := ((xs (i + 1)).toInt64 <<< ((nI 32).toInt64 &&& 63))) X rfl dL_law_826 rfl ?_
  refine r_aload_n (q := 828) (i := 0) (j := 0) (x := b) X rfl rfl dL_law_827 rfl ?_
  refine r_iload_n (q := 829) (i := 3) (j := 3) (x := nI i) X rfl rfl dL_law_828 rfl ?_
  refine r_iconst (q := 830) (v := nI 2) X kc_2 dL_law_829 rfl ?_
  refine r_iaddR (q := 831) (x := nI i) (y := nI 2) (v := nI (i + 2)) X (nI_add _ _) dL_law_830 rfl ?_
  refine r_sld (q := 832) (j := i + 2) X hXs hbl hbb hn (by omega) dL_law_831 rfl ?_
  refine r_i2l (q := 833) (v := (xs (i + 2)).toInt64) X rfl dL_law_832 rfl ?_
  refine r_ldc2 (q := 836) (v := 4294967295) X kl_RL_111 dL_law_833 rfl ?_
  refine r_land (q := 837) X  dL_law_836 rfl ?_
  refine r_lor (q := 838) X  dL_law_837 rfl ?_
  refine r_callVl (q := 841) X (w7_seed K.2.1 G base I hc hf ((((xs (i + 1)).toInt64 <<< ((nI 32).toInt64 &&& 63)) ||| ((xs (i + 2)).toInt64 &&& 4294967295)))) kh_44 rfl ks_RL_117 (by decide) (by decide) hcs rfl (Nat.le_of_ble_eq_true rfl) dL_law_838 rfl (fun r2 M2 L2 h7 => ?_)
  obtain ⟨he, I2⟩ := b_seed I hc h6 h7
  subst he
  refine r_lcmp (q := 842) X  dL_law_841 rfl ?_
  refine r_if_eq (q := 845) (tgt := 916) X (by decide) dL_law_842 rfl (fun _ => ?_) (fun h => absurd (lg_cmp_rf _) h)
  exact kc _ _ I2
set_option maxHeartbeats 4000000 in
theorem lc_rounds {K : ks_Cx} {G : ks_G} {base cells slots b n i c : Nat} {xs : Nat → Int32} {M : ks_M} {L : ks_L} (X : KX K G base 4 RL cL_law 20) (hXs : va_X b n xs (kS K) (kS K).heap) (hbl : b < (kS K).heap.size) (hbb : (kS K).heap.size ≤ base) (hn : n < 1000) (hcs : cells ≤ (kR K).cells ∧ slots ≤ (kR K).slots) (hi : i + 6 ≤ n) (I : INV c M L) (hc : c ≤ 100) (kc : ∀ M2 L2, INV (c + 1) M2 L2 → RN K G base 4 cells slots SH M2 L2 916 [(0, .ref b), (1, .ref (base + 0)), (2, .ref (base + 44)), (3, .int (nI i))] []) : RN K G base 4 cells slots SH M L 847 [(0, .ref b), (1, .ref (base + 0)), (2, .ref (base + 44)), (3, .int (nI i))] [] := by
  refine r_aload_n (q := 848) (i := 1) (j := 1) (x := base + 0) X rfl rfl dL_law_847 rfl ?_
  refine r_aload_n (q := 849) (i := 0) (j := 0) (x := b) X rfl rfl dL_law_848 rfl ?_
  refine r_iload_n (q := 850) (i := 3) (j := 3) (x := nI i) X rfl rfl dL_law_849 rfl ?_
  refine r_iconst (q := 851) (v := nI 1) X kc_1 dL_law_850 rfl ?_
  refine r_iaddR (q := 852) (x := nI i) (y := nI 1) (v := nI (i + 1)) X (nI_add _ _) dL_law_851 rfl ?_
  refine r_sld (q := 853) (j := i + 1) X hXs hbl hbb hn (by omega) dL_law_852 rfl ?_
  refine r_callVi (q := 856) X (w6_rounds K.2.1 G base I hc (xs (i + 1))) kh_0 rfl ks_RL_118 (by decide) (by decide) hcs rfl (Nat.le_of_ble_eq_true rfl) dL_law_853 rfl (fun r1 M1 L1 h6 => ?_)
  have hf := a_rounds h6
  refine r_aload_n (q := 857) (i := 2) (j := 2) (x := base + 44) X rfl rfl dL_law_856 rfl ?_
  refine r_aload_n (q := 858) (i := 0) (j := 0) (x := b) X rfl rfl dL_law_857 rfl ?_
  refine r_iload_n (q := 859) (i := 3) (j := 3) (x := nI i) X rfl rfl dL_law_858 rfl ?_
  refine r_iconst (q := 860) (v := nI 1) X kc_1 dL_law_859 rfl ?_
  refine r_iaddR (q := 861) (x := nI i) (y := nI 1) (v := nI (i + 1)) X (nI_add _ _) dL_law_860 rfl ?_
  refine r_sld (q := 862) (j := i + 1) X hXs hbl hbb hn (by omega) dL_law_861 rfl ?_
  refine r_callVi (q := 865) X (w7_rounds K.2.1 G base I hc hf (xs (i + 1))) kh_44 rfl ks_RL_121 (by decide) (by decide) hcs rfl (Nat.le_of_ble_eq_true rfl) dL_law_862 rfl (fun r2 M2 L2 h7 => ?_)
  obtain ⟨he, I2⟩ := b_rounds I hc h6 h7
  subst he
  refine r_icmp_eq (q := 868) (tgt := 916) X (by decide) dL_law_865 rfl (fun _ => ?_) (fun h => absurd rfl h)
  exact kc _ _ I2
set_option maxHeartbeats 4000000 in
theorem lc_keep {K : ks_Cx} {G : ks_G} {base cells slots b n i c : Nat} {xs : Nat → Int32} {M : ks_M} {L : ks_L} (X : KX K G base 4 RL cL_law 20) (hXs : va_X b n xs (kS K) (kS K).heap) (hbl : b < (kS K).heap.size) (hbb : (kS K).heap.size ≤ base) (hn : n < 1000) (hcs : cells ≤ (kR K).cells ∧ slots ≤ (kR K).slots) (hi : i + 6 ≤ n) (I : INV c M L) (hc : c ≤ 100) (kc : ∀ M2 L2, INV (c + 1) M2 L2 → RN K G base 4 cells slots SH M2 L2 916 [(0, .ref b), (1, .ref (base + 0)), (2, .ref (base + 44)), (3, .int (nI i))] []) : RN K G base 4 cells slots SH M L 870 [(0, .ref b), (1, .ref (base + 0)), (2, .ref (base + 44)), (3, .int (nI i))] [] := by
  refine r_aload_n (q := 871) (i := 1) (j := 1) (x := base + 0) X rfl rfl dL_law_870 rfl ?_
  refine r_aload_n (q := 872) (i := 0) (j := 0) (x := b) X rfl rfl dL_law_871 rfl ?_
  refine r_iload_n (q := 873) (i := 3) (j := 3) (x := nI i) X rfl rfl dL_law_872 rfl ?_
  refine r_iconst (q := 874) (v := nI 1) X kc_1 dL_law_873 rfl ?_
  refine r_iaddR (q := 875) (x := nI i) (y := nI 1) (v := nI (i + 1)) X (nI_add _ _) dL_law_874 rfl ?_
  refine r_sld (q := 876) (j := i + 1) X hXs hbl hbb hn (by omega) dL_law_875 rfl ?_
  refine r_callVi (q := 879) X (w6_keep K.2.1 G base I hc (xs (i + 1))) kh_0 rfl ks_RL_122 (by decide) (by decide) hcs rfl (Nat.le_of_ble_eq_true rfl) dL_law_876 rfl (fun r1 M1 L1 h6 => ?_)
  have hf := a_keep h6
  refine r_aload_n (q := 880) (i := 2) (j := 2) (x := base + 44) X rfl rfl dL_law_879 rfl ?_
  refine r_aload_n (q := 881) (i := 0) (j := 0) (x := b) X rfl rfl dL_law_880 rfl ?_
  refine r_iload_n (q := 882) (i := 3) (j := 3) (x := nI i) X rfl rfl dL_law_881 rfl ?_
  refine r_iconst (q := 883) (v := nI 1) X kc_1 dL_law_882 rfl ?_
  refine r_iaddR (q := 884) (x := nI i) (y := nI 1) (v := nI (i + 1)) X (nI_add _ _) dL_law_883 rfl ?_
  refine r_sld (q := 885) (j := i + 1) X hXs hbl hbb hn (by omega) dL_law_884 rfl ?_
  refine r_callVi (q := 888) X (w7_keep K.2.1 G base I hc hf (xs (i + 1))) kh_44 rfl ks_RL_125 (by decide) (by decide) hcs rfl (Nat.le_of_ble_eq_true rfl) dL_law_885 rfl (fun r2 M2 L2 h7 => ?_)
  obtain ⟨he, I2⟩ := b_keep I hc h6 h7
  subst he
  refine r_icmp_eq (q := 891) (tgt := 916) X (by decide) dL_law_888 rfl (fun _ => ?_) (fun h => absurd rfl h)
  exact kc _ _ I2
set_option maxHeartbeats 4000000 in
theorem lc_again {K : ks_Cx} {G : ks_G} {base cells slots b n i c : Nat} {xs : Nat → Int32} {M : ks_M} {L : ks_L} (X : KX K G base 4 RL cL_law 20) (hXs : va_X b n xs (kS K) (kS K).heap) (hbl : b < (kS K).heap.size) (hbb : (kS K).heap.size ≤ base) (hn : n < 1000) (hcs : cells ≤ (kR K).cells ∧ slots ≤ (kR K).slots) (hi : i + 6 ≤ n) (I : INV c M L) (hc : c ≤ 100) (kc : ∀ M2 L2, INV (c + 1) M2 L2 → RN K G base 4 cells slots SH M2 L2 916 [(0, .ref b), (1, .ref (base + 0)), (2, .ref (base + 44)), (3, .int (nI i))] []) : RN K G base 4 cells slots SH M L 893 [(0, .ref b), (1, .ref (base + 0)), (2, .ref (base + 44)), (3, .int (nI i))] [] := by
  refine r_aload_n (q := 894) (i := 1) (j := 1) (x := base + 0) X rfl rfl dL_law_893 rfl ?_
  refine r_aload_n (q := 895) (i := 0) (j := 0) (x := b) X rfl rfl dL_law_894 rfl ?_
  refine r_iload_n (q := 896) (i := 3) (j := 3) (x := nI i) X rfl rfl dL_law_895 rfl ?_
  refine r_iconst (q := 897) (v := nI 1) X kc_1 dL_law_896 rfl ?_
  refine r_iaddR (q := 898) (x := nI i) (y := nI 1) (v := nI (i + 1)) X (nI_add _ _) dL_law_897 rfl ?_
  refine r_sld (q := 899) (j := i + 1) X hXs hbl hbb hn (by omega) dL_law_898 rfl ?_
  refine r_callVi (q := 902) X (w6_again K.2.1 G base I hc (xs (i + 1))) kh_0 rfl ks_RL_126 (by decide) (by decide) hcs rfl (Nat.le_of_ble_eq_true rfl) dL_law_899 rfl (fun r1 M1 L1 h6 => ?_)
  have hf := a_again h6
  refine r_aload_n (q := 903) (i := 2) (j := 2) (x := base + 44) X rfl rfl dL_law_902 rfl ?_
  refine r_aload_n (q := 904) (i := 0) (j := 0) (x := b) X rfl rfl dL_law_903 rfl ?_
  refine r_iload_n (q := 905) (i := 3) (j := 3) (x := nI i) X rfl rfl dL_law_904 rfl ?_
  refine r_iconst (q := 906) (v := nI 1) X kc_1 dL_law_905 rfl ?_
  refine r_iaddR (q := 907) (x := nI i) (y := nI 1) (v := nI (i + 1)) X (nI_add _ _) dL_law_906 rfl ?_
  refine r_sld (q := 908) (j := i + 1) X hXs hbl hbb hn (by omega) dL_law_907 rfl ?_
  refine r_callVi (q := 911) X (w7_again K.2.1 G base I hc hf (xs (i + 1))) kh_44 rfl ks_RL_129 (by decide) (by decide) hcs rfl (Nat.le_of_ble_eq_true rfl) dL_law_908 rfl (fun r2 M2 L2 h7 => ?_)
  obtain ⟨he, I2⟩ := b_again I hc h6 h7
  subst he
  refine r_icmp_eq (q := 914) (tgt := 916) X (by decide) dL_law_911 rfl (fun _ => ?_) (fun h => absurd rfl h)
  exact kc _ _ I2
set_option maxHeartbeats 4000000 in
theorem law_loop {K : ks_Cx} {G : ks_G} {base cells slots b n : Nat} {xs : Nat → Int32} (X : KX K G base 4 RL cL_law 20) (hXs : va_X b n xs (kS K) (kS K).heap) (hbl : b < (kS K).heap.size) (hbb : (kS K).heap.size ≤ base) (hn : n ≤ 384) (hcs : cells ≤ (kR K).cells ∧ slots ≤ (kR K).slots) (hend : ∀ M L pl, RN K G base 4 cells slots SH M L 923 pl [.int (nI 1)]) : ∀ (fuel c i : Nat) (M : ks_M) (L : ks_L), 65 - c < fuel → c ≤ 64 → i = 6 * c → INV c M L → RN K G base 4 cells slots SH M L 18 [(0, .ref b), (1, .ref (base + 0)), (2, .ref (base + 44)), (3, .int (nI i))] [] := by
  intro fuel
  induction fuel with
  | zero => intro c i M L hfu; exact absurd hfu (Nat.not_lt_zero _)
  | succ fuel ih =>
    intro c i M L hfu hc hic I
    refine r_iload_n (q := 19) (i := 3) (j := 3) (x := nI i) X rfl rfl dL_law_18 rfl ?_
    refine r_aload_n (q := 20) (i := 0) (j := 0) (x := b) X rfl rfl dL_law_19 rfl ?_
    refine r_slen (q := 21) X hXs hbl hbb dL_law_20 rfl ?_
    refine r_bipush (q := 23) (v := nI 6) X kb_6 dL_law_21 rfl ?_
    refine r_isubR (q := 24) (v := nI n - nI 6) X rfl dL_law_23 rfl ?_
    refine r_icmp_gt (q := 27) (tgt := 922) X (by decide) dL_law_24 rfl (fun h => ?_) (fun h => ?_)
    · refine r_iconst (q := 923) (v := nI 1) X kc_1 dL_law_922 rfl ?_
      exact hend M L _
    · have hi : i + 6 ≤ n := law_le (by omega) (by omega) h
      refine r_aload_n (q := 28) (i := 0) (j := 0) (x := b) X rfl rfl dL_law_27 rfl ?_
      refine r_iload_n (q := 29) (i := 3) (j := 3) (x := nI i) X rfl rfl dL_law_28 rfl ?_
      refine r_sld (q := 30) (j := i) X hXs hbl hbb (by omega) (by omega) dL_law_29 rfl ?_
      refine r_bipush (q := 32) (v := nI 31) X kb_31 dL_law_30 rfl ?_
      refine r_iandR (q := 33) (x := xs i) (y := nI 31) (v := xs i &&& nI 31) X rfl dL_law_32 rfl ?_
      have hk : ∀ M2 L2, INV (c + 1) M2 L2 → RN K G base 4 cells slots SH M2 L2 916 [(0, .ref b), (1, .ref (base + 0)), (2, .ref (base + 44)), (3, .int (nI i))] [] := fun M2 L2 I2 => by
        refine r_iinc (q := 919) (i := 3) (x := nI i) (v := nI (i + 6)) X rfl (Nat.le_of_ble_eq_true rfl) (kinc 6 rfl) dL_law_916 rfl ?_
        refine r_goto (tgt := 18) X (by decide) dL_law_919 ?_
        refine r_pl [(0, .ref b), (1, .ref (base + 0)), (2, .ref (base + 44)), (3, .int (nI (i + 6)))] ⟨rfl, rfl, rfl, rfl, trivial⟩ ?_
        exact ih (c + 1) (i + 6) M2 L2 (by omega) (by omega) (by omega) I2
      rcases kTab 0 26 (by decide) (xs i &&& nI 31) with ⟨j, h1, h2, e⟩ | hout
      · rw [e]
        rcases (show j = 0 ∨ j = 1 ∨ j = 2 ∨ j = 3 ∨ j = 4 ∨ j = 5 ∨ j = 6 ∨ j = 7 ∨ j = 8 ∨ j = 9 ∨ j = 10 ∨ j = 11 ∨ j = 12 ∨ j = 13 ∨ j = 14 ∨ j = 15 ∨ j = 16 ∨ j = 17 ∨ j = 18 ∨ j = 19 ∨ j = 20 ∨ j = 21 ∨ j = 22 ∨ j = 23 ∨ j = 24 ∨ j = 25 ∨ j = 26 by omega) with rfl | rfl | rfl | rfl | rfl | rfl | rfl | rfl | rfl | rfl | rfl | rfl | rfl | rfl | rfl | rfl | rfl | rfl | rfl | rfl | rfl | rfl | rfl | rfl | rfl | rfl | rfl
        · exact r_tableIn (x := nI 0) (off := 123) (tgt := 156) X (by decide) (by decide) (by decide) (by decide) dL_law_33 (lc_write X hXs hbl hbb (by omega) hcs hi I (by omega) hk)
        · exact r_tableIn (x := nI 1) (off := 146) (tgt := 179) X (by decide) (by decide) (by decide) (by decide) dL_law_33 (lc_wipe X hXs hbl hbb (by omega) hcs hi I (by omega) hk)
        · exact r_tableIn (x := nI 2) (off := 159) (tgt := 192) X (by decide) (by decide) (by decide) (by decide) dL_law_33 (lc_fault X hXs hbl hbb (by omega) hcs hi I (by omega) hk)
        · exact r_tableIn (x := nI 3) (off := 172) (tgt := 205) X (by decide) (by decide) (by decide) (by decide) dL_law_33 (lc_street X hXs hbl hbb (by omega) hcs hi I (by omega) hk)
        · exact r_tableIn (x := nI 4) (off := 185) (tgt := 218) X (by decide) (by decide) (by decide) (by decide) dL_law_33 (lc_about X hXs hbl hbb (by omega) hcs hi I (by omega) hk)
        · exact r_tableIn (x := nI 5) (off := 208) (tgt := 241) X (by decide) (by decide) (by decide) (by decide) dL_law_33 (lc_house X hXs hbl hbb (by omega) hcs hi I (by omega) hk)
        · exact r_tableIn (x := nI 6) (off := 241) (tgt := 274) X (by decide) (by decide) (by decide) (by decide) dL_law_33 (lc_sight X hXs hbl hbb (by omega) hcs hi I (by omega) hk)
        · exact r_tableIn (x := nI 7) (off := 274) (tgt := 307) X (by decide) (by decide) (by decide) (by decide) dL_law_33 (lc_walk X hXs hbl hbb (by omega) hcs hi I (by omega) hk)
        · exact r_tableIn (x := nI 8) (off := 297) (tgt := 330) X (by decide) (by decide) (by decide) (by decide) dL_law_33 (lc_look X hXs hbl hbb (by omega) hcs hi I (by omega) hk)
        · exact r_tableIn (x := nI 9) (off := 310) (tgt := 343) X (by decide) (by decide) (by decide) (by decide) dL_law_33 (lc_pause X hXs hbl hbb (by omega) hcs hi I (by omega) hk)
        · exact r_tableIn (x := nI 10) (off := 323) (tgt := 356) X (by decide) (by decide) (by decide) (by decide) dL_law_33 (lc_lamp X hXs hbl hbb (by omega) hcs hi I (by omega) hk)
        · exact r_tableIn (x := nI 11) (off := 346) (tgt := 379) X (by decide) (by decide) (by decide) (by decide) dL_law_33 (lc_key X hXs hbl hbb (by omega) hcs hi I (by omega) hk)
        · exact r_tableIn (x := nI 12) (off := 369) (tgt := 402) X (by decide) (by decide) (by decide) (by decide) dL_law_33 (lc_undo X hXs hbl hbb (by omega) hcs hi I (by omega) hk)
        · exact r_tableIn (x := nI 13) (off := 382) (tgt := 415) X (by decide) (by decide) (by decide) (by decide) dL_law_33 (lc_best X hXs hbl hbb (by omega) hcs hi I (by omega) hk)
        · exact r_tableIn (x := nI 14) (off := 431) (tgt := 464) X (by decide) (by decide) (by decide) (by decide) dL_law_33 (lc_fewest X hXs hbl hbb (by omega) hcs hi I (by omega) hk)
        · exact r_tableIn (x := nI 15) (off := 454) (tgt := 487) X (by decide) (by decide) (by decide) (by decide) dL_law_33 (lc_keys X hXs hbl hbb (by omega) hcs hi I (by omega) hk)
        · exact r_tableIn (x := nI 16) (off := 487) (tgt := 520) X (by decide) (by decide) (by decide) (by decide) dL_law_33 (lc_judge X hXs hbl hbb (by omega) hcs hi I (by omega) hk)
        · exact r_tableIn (x := nI 17) (off := 520) (tgt := 553) X (by decide) (by decide) (by decide) (by decide) dL_law_33 (lc_share X hXs hbl hbb (by omega) hcs hi I (by omega) hk)
        · exact r_tableIn (x := nI 18) (off := 569) (tgt := 602) X (by decide) (by decide) (by decide) (by decide) dL_law_33 (lc_see X hXs hbl hbb (by omega) hcs hi I (by omega) hk)
        · exact r_tableIn (x := nI 19) (off := 622) (tgt := 655) X (by decide) (by decide) (by decide) (by decide) dL_law_33 (lc_unsee X hXs hbl hbb (by omega) hcs hi I (by omega) hk)
        · exact r_tableIn (x := nI 20) (off := 635) (tgt := 668) X (by decide) (by decide) (by decide) (by decide) dL_law_33 (lc_shapes X hXs hbl hbb (by omega) hcs hi I (by omega) hk)
        · exact r_tableIn (x := nI 21) (off := 658) (tgt := 691) X (by decide) (by decide) (by decide) (by decide) dL_law_33 (lc_rests X hXs hbl hbb (by omega) hcs hi I (by omega) hk)
        · exact r_tableIn (x := nI 22) (off := 681) (tgt := 714) X (by decide) (by decide) (by decide) (by decide) dL_law_33 (lc_chance X hXs hbl hbb (by omega) hcs hi I (by omega) hk)
        · exact r_tableIn (x := nI 23) (off := 760) (tgt := 793) X (by decide) (by decide) (by decide) (by decide) dL_law_33 (lc_seed X hXs hbl hbb (by omega) hcs hi I (by omega) hk)
        · exact r_tableIn (x := nI 24) (off := 814) (tgt := 847) X (by decide) (by decide) (by decide) (by decide) dL_law_33 (lc_rounds X hXs hbl hbb (by omega) hcs hi I (by omega) hk)
        · exact r_tableIn (x := nI 25) (off := 837) (tgt := 870) X (by decide) (by decide) (by decide) (by decide) dL_law_33 (lc_keep X hXs hbl hbb (by omega) hcs hi I (by omega) hk)
        · exact r_tableIn (x := nI 26) (off := 860) (tgt := 893) X (by decide) (by decide) (by decide) (by decide) dL_law_33 (lc_again X hXs hbl hbb (by omega) hcs hi I (by omega) hk)
      · exact r_tableOut (tgt := 916) X hout (by decide) dL_law_33 (hk M L (inv_id I))
