section SLD
variable {p : Program} {l : Launch} {e : Env} {R : Room} {s : State} {m : MethodId} {args : Array Value} {below : List Frame} {meth : Method} {c : Code} {G : mw_GG} {cells slots : Nat} {Q : State → Prop}
variable {cc : ByteArray} {nL : Nat} {Ts : List Cond} {own : String} {M : mw_M} {pc : Nat} {ls : List (Option Value)} {st : List Value}
theorem vv_sld (C : vv_C p s m args c G cc nL Ts own) {b L j : Nat} {xs : Nat → Int32} (hX : va_X b L xs s s.heap) (hbl : b < s.heap.size) (hbA : ¬ mw_A G b) {i : Int32} (hi : i = nI j) (hj : j < L) (hL : L ≤ 3072) (hd : decode cc pc = .ok (.iaload, 1)) (k : vv p l e R s m args below meth c G cells slots Q M (pc + 1) ls (.int (xs j) :: st)) : vv p l e R s m args below meth c G cells slots Q M pc ls (.int i :: .ref b :: st) := fun H locs la hW hS hL2 => by
  subst hi
  refine va_sld C.1.1 C.1.2.1 hX hbl hbA hS (vp_in_nI hj (by omega)) hd ?_
  rw [nI_clamp (by omega)]
  exact k H locs la hW hS hL2
theorem vv_slen (C : vv_C p s m args c G cc nL Ts own) {b L : Nat} {xs : Nat → Int32} (hX : va_X b L xs s s.heap) (hbl : b < s.heap.size) (hbA : ¬ mw_A G b) (hd : decode cc pc = .ok (.arraylength, 1)) (k : vv p l e R s m args below meth c G cells slots Q M (pc + 1) ls (.int (nI L) :: st)) : vv p l e R s m args below meth c G cells slots Q M pc ls (.ref b :: st) := fun H locs la hW hS hL2 => va_slen C.1.1 C.1.2.1 hX hbl hbA hS hd (k H locs la hW hS hL2)
end SLD
theorem lw_in6 {i L : Nat} (hi : i ≤ L) (hL : L ≤ 3072) (h : ¬ nI L - 6 < nI i) : i + 6 ≤ L := by
  rw [Int32.lt_iff_toInt_lt, show (nI L - 6).toInt = (L : Int) - 6 from pk_sub_toInt (b := 6) (by omega) (by omega), nI_toInt (by omega)] at h
  omega
set_option maxRecDepth 100000 in
set_option maxHeartbeats 4000000 in
theorem lc_columns {p : Program} {l : Launch} {e : Env} {s : State} {m : MethodId} {args : Array Value} {below : List Frame} {meth : Method} {c : Code} {G : mw_GG} {Q : State → Prop} (C : vv_C p s m args c G code 4 wsL_law RL) {b L : Nat} {xs : Nat → Int32} (hX : va_X b L xs s s.heap) (hbl : b < s.heap.size) (hbA : ¬ mw_A G b) (hL : L ≤ 3072) {i : Nat} (hi6 : i + 6 ≤ L) {M : mw_M} (hJ : lwJ M) (hk : ∀ M3, lwJ M3 → vv p l e room_1 s m args below meth c G 600000 7302250 Q M3 876 [some (.ref b), some (.ref (G.1 144)), some (.ref (G.1 145)), some (.int (nI i))] []) : vv p l e room_1 s m args below meth c G 600000 7302250 Q M 144 [some (.ref b), some (.ref (G.1 144)), some (.ref (G.1 145)), some (.int (nI i))] [] := by
  obtain ⟨V, hI⟩ := hJ
  refine vv_aload_n C 1 dL_law_144 rfl rfl ?_
  refine vv_aload_n C 0 dL_law_145 rfl rfl ?_
  refine vv_iload_n C 3 dL_law_146 rfl rfl ?_
  refine vv_iconst (v := 1) C dL_law_147 (by decide) ?_
  refine vv_iadd C dL_law_148 ?_
  refine vv_top (y := nI (i + 1)) (nI_add i 1) ?_
  refine vv_sld C hX hbl hbA (j := (i + 1)) rfl (by omega) hL dL_law_149 ?_
  refine vv_aload_n C 0 dL_law_150 rfl rfl ?_
  refine vv_iload_n C 3 dL_law_151 rfl rfl ?_
  refine vv_iconst (v := 2) C dL_law_152 (by decide) ?_
  refine vv_iadd C dL_law_153 ?_
  refine vv_top (y := nI (i + 2)) (nI_add i 2) ?_
  refine vv_sld C hX hbl hbA (j := (i + 2)) rfl (by omega) hL dL_law_154 ?_
  refine vv_callVIP C [.int (xs (i + 1)), .int (xs (i + 2))] (c_X8_columns M hI.1.1 hI.1.2.1 hI.1.2.2.1 (xs (i + 1)) (xs (i + 2))) sh_144 rfl (cwV 2 C.1.2.2.2.2 gL_law_X8_columns rfl rfl rfl (by decide +kernel) ⟨Nat.le_of_ble_eq_true rfl, Nat.le_of_ble_eq_true rfl⟩) rfl rfl rfl (Nat.le_of_ble_eq_true rfl) dL_law_155 ⟨Nat.le_refl _, Nat.le_refl _⟩ (fun x_1 M_2 h_3 => ?_)
  refine vv_aload_n C 2 dL_law_158 rfl rfl ?_
  refine vv_aload_n C 0 dL_law_159 rfl rfl ?_
  refine vv_iload_n C 3 dL_law_160 rfl rfl ?_
  refine vv_iconst (v := 1) C dL_law_161 (by decide) ?_
  refine vv_iadd C dL_law_162 ?_
  refine vv_top (y := nI (i + 1)) (nI_add i 1) ?_
  refine vv_sld C hX hbl hbA (j := (i + 1)) rfl (by omega) hL dL_law_163 ?_
  refine vv_aload_n C 0 dL_law_164 rfl rfl ?_
  refine vv_iload_n C 3 dL_law_165 rfl rfl ?_
  refine vv_iconst (v := 2) C dL_law_166 (by decide) ?_
  refine vv_iadd C dL_law_167 ?_
  refine vv_top (y := nI (i + 2)) (nI_add i 2) ?_
  refine vv_sld C hX hbl hbA (j := (i + 2)) rfl (by omega) hL dL_law_168 ?_
  refine vv_callVIP C [.int (xs (i + 1)), .int (xs (i + 2))] (c_X9_columns M_2 V (lw_mid2 hI (op_columns_ok hI.1 (xs (i + 1)) (xs (i + 2))) h_3.2) hI.2.1.1 hI.2.1.2.1 hI.2.1.2.2.1 (xs (i + 1)) (xs (i + 2))) sh_145 rfl (cwV 2 C.1.2.2.2.2 gL_law_X9_columns rfl rfl rfl (by decide +kernel) ⟨Nat.le_of_ble_eq_true rfl, Nat.le_of_ble_eq_true rfl⟩) rfl rfl rfl (Nat.le_of_ble_eq_true rfl) dL_law_169 ⟨Nat.le_refl _, Nat.le_refl _⟩ (fun x_4 M_5 h_6 => ?_)
  refine vv_icmp_eq C 876 dL_law_172 (by decide) (fun h_eq => ?_) (fun h_ne => ?_)
  · exact hk _ (lw_step2 hI (op_columns_ok hI.1 (xs (i + 1)) (xs (i + 2))) (op_columns_ok hI.2.1 (xs (i + 1)) (xs (i + 2))) (lv_columns hI.2.2.2 hI.1 hI.2.1 (xs (i + 1)) (xs (i + 2))) h_3.2 h_6.2.1 h_6.2.2)
  · refine vv_iconst (v := 0) C dL_law_175 (by decide) ?_
    exact absurd (h_3.1.trans ((lv_columns hI.2.2.2 hI.1 hI.2.1 (xs (i + 1)) (xs (i + 2))).1.symm.trans h_6.1.symm)) h_ne
set_option maxRecDepth 100000 in
set_option maxHeartbeats 4000000 in
theorem lc_card {p : Program} {l : Launch} {e : Env} {s : State} {m : MethodId} {args : Array Value} {below : List Frame} {meth : Method} {c : Code} {G : mw_GG} {Q : State → Prop} (C : vv_C p s m args c G code 4 wsL_law RL) {b L : Nat} {xs : Nat → Int32} (hX : va_X b L xs s s.heap) (hbl : b < s.heap.size) (hbA : ¬ mw_A G b) (hL : L ≤ 3072) {i : Nat} (hi6 : i + 6 ≤ L) {M : mw_M} (hJ : lwJ M) (hk : ∀ M3, lwJ M3 → vv p l e room_1 s m args below meth c G 600000 7302250 Q M3 876 [some (.ref b), some (.ref (G.1 144)), some (.ref (G.1 145)), some (.int (nI i))] []) : vv p l e room_1 s m args below meth c G 600000 7302250 Q M 177 [some (.ref b), some (.ref (G.1 144)), some (.ref (G.1 145)), some (.int (nI i))] [] := by
  obtain ⟨V, hI⟩ := hJ
  refine vv_aload_n C 1 dL_law_177 rfl rfl ?_
  refine vv_aload_n C 0 dL_law_178 rfl rfl ?_
  refine vv_iload_n C 3 dL_law_179 rfl rfl ?_
  refine vv_iconst (v := 1) C dL_law_180 (by decide) ?_
  refine vv_iadd C dL_law_181 ?_
  refine vv_top (y := nI (i + 1)) (nI_add i 1) ?_
  refine vv_sld C hX hbl hbA (j := (i + 1)) rfl (by omega) hL dL_law_182 ?_
  refine vv_aload_n C 0 dL_law_183 rfl rfl ?_
  refine vv_iload_n C 3 dL_law_184 rfl rfl ?_
  refine vv_iconst (v := 2) C dL_law_185 (by decide) ?_
  refine vv_iadd C dL_law_186 ?_
  refine vv_top (y := nI (i + 2)) (nI_add i 2) ?_
  refine vv_sld C hX hbl hbA (j := (i + 2)) rfl (by omega) hL dL_law_187 ?_
  refine vv_aload_n C 0 dL_law_188 rfl rfl ?_
  refine vv_iload_n C 3 dL_law_189 rfl rfl ?_
  refine vv_iconst (v := 3) C dL_law_190 (by decide) ?_
  refine vv_iadd C dL_law_191 ?_
  refine vv_top (y := nI (i + 3)) (nI_add i 3) ?_
  refine vv_sld C hX hbl hbA (j := (i + 3)) rfl (by omega) hL dL_law_192 ?_
  refine vv_aload_n C 0 dL_law_193 rfl rfl ?_
  refine vv_iload_n C 3 dL_law_194 rfl rfl ?_
  refine vv_iconst (v := 4) C dL_law_195 (by decide) ?_
  refine vv_iadd C dL_law_196 ?_
  refine vv_top (y := nI (i + 4)) (nI_add i 4) ?_
  refine vv_sld C hX hbl hbA (j := (i + 4)) rfl (by omega) hL dL_law_197 ?_
  refine vv_aload_n C 0 dL_law_198 rfl rfl ?_
  refine vv_iload_n C 3 dL_law_199 rfl rfl ?_
  refine vv_iconst (v := 5) C dL_law_200 (by decide) ?_
  refine vv_iadd C dL_law_201 ?_
  refine vv_top (y := nI (i + 5)) (nI_add i 5) ?_
  refine vv_sld C hX hbl hbA (j := (i + 5)) rfl (by omega) hL dL_law_202 ?_
  refine vv_callVIP C [.int (xs (i + 1)), .int (xs (i + 2)), .int (xs (i + 3)), .int (xs (i + 4)), .int (xs (i + 5))] (c_X8_card M hI.1.1 hI.1.2.1 hI.1.2.2.1 (xs (i + 1)) (xs (i + 2)) (xs (i + 3)) (xs (i + 4)) (xs (i + 5))) sh_144 rfl (cwV 5 C.1.2.2.2.2 gL_law_X8_card rfl rfl rfl (by decide +kernel) ⟨Nat.le_of_ble_eq_true rfl, Nat.le_of_ble_eq_true rfl⟩) rfl rfl rfl (Nat.le_of_ble_eq_true rfl) dL_law_203 ⟨Nat.le_refl _, Nat.le_refl _⟩ (fun x_1 M_2 h_3 => ?_)
  refine vv_aload_n C 2 dL_law_206 rfl rfl ?_
  refine vv_aload_n C 0 dL_law_207 rfl rfl ?_
  refine vv_iload_n C 3 dL_law_208 rfl rfl ?_
  refine vv_iconst (v := 1) C dL_law_209 (by decide) ?_
  refine vv_iadd C dL_law_210 ?_
  refine vv_top (y := nI (i + 1)) (nI_add i 1) ?_
  refine vv_sld C hX hbl hbA (j := (i + 1)) rfl (by omega) hL dL_law_211 ?_
  refine vv_aload_n C 0 dL_law_212 rfl rfl ?_
  refine vv_iload_n C 3 dL_law_213 rfl rfl ?_
  refine vv_iconst (v := 2) C dL_law_214 (by decide) ?_
  refine vv_iadd C dL_law_215 ?_
  refine vv_top (y := nI (i + 2)) (nI_add i 2) ?_
  refine vv_sld C hX hbl hbA (j := (i + 2)) rfl (by omega) hL dL_law_216 ?_
  refine vv_aload_n C 0 dL_law_217 rfl rfl ?_
  refine vv_iload_n C 3 dL_law_218 rfl rfl ?_
  refine vv_iconst (v := 3) C dL_law_219 (by decide) ?_
  refine vv_iadd C dL_law_220 ?_
  refine vv_top (y := nI (i + 3)) (nI_add i 3) ?_
  refine vv_sld C hX hbl hbA (j := (i + 3)) rfl (by omega) hL dL_law_221 ?_
  refine vv_aload_n C 0 dL_law_222 rfl rfl ?_
  refine vv_iload_n C 3 dL_law_223 rfl rfl ?_
  refine vv_iconst (v := 4) C dL_law_224 (by decide) ?_
  refine vv_iadd C dL_law_225 ?_
  refine vv_top (y := nI (i + 4)) (nI_add i 4) ?_
  refine vv_sld C hX hbl hbA (j := (i + 4)) rfl (by omega) hL dL_law_226 ?_
  refine vv_aload_n C 0 dL_law_227 rfl rfl ?_
  refine vv_iload_n C 3 dL_law_228 rfl rfl ?_
  refine vv_iconst (v := 5) C dL_law_229 (by decide) ?_
  refine vv_iadd C dL_law_230 ?_
  refine vv_top (y := nI (i + 5)) (nI_add i 5) ?_
  refine vv_sld C hX hbl hbA (j := (i + 5)) rfl (by omega) hL dL_law_231 ?_
  refine vv_callVIP C [.int (xs (i + 1)), .int (xs (i + 2)), .int (xs (i + 3)), .int (xs (i + 4)), .int (xs (i + 5))] (c_X9_card M_2 V (lw_mid2 hI (op_card_ok hI.1 (xs (i + 1)) (xs (i + 2)) (xs (i + 3)) (xs (i + 4)) (xs (i + 5))) h_3.2) hI.2.1.1 hI.2.1.2.1 hI.2.1.2.2.1 (xs (i + 1)) (xs (i + 2)) (xs (i + 3)) (xs (i + 4)) (xs (i + 5))) sh_145 rfl (cwV 5 C.1.2.2.2.2 gL_law_X9_card rfl rfl rfl (by decide +kernel) ⟨Nat.le_of_ble_eq_true rfl, Nat.le_of_ble_eq_true rfl⟩) rfl rfl rfl (Nat.le_of_ble_eq_true rfl) dL_law_232 ⟨Nat.le_refl _, Nat.le_refl _⟩ (fun x_4 M_5 h_6 => ?_)
  refine vv_icmp_eq C 876 dL_law_235 (by decide) (fun h_eq => ?_) (fun h_ne => ?_)
  · exact hk _ (lw_step2 hI (op_card_ok hI.1 (xs (i + 1)) (xs (i + 2)) (xs (i + 3)) (xs (i + 4)) (xs (i + 5))) (op_card_ok hI.2.1 (xs (i + 1)) (xs (i + 2)) (xs (i + 3)) (xs (i + 4)) (xs (i + 5))) (lv_card hI.2.2.2 hI.1 hI.2.1 (xs (i + 1)) (xs (i + 2)) (xs (i + 3)) (xs (i + 4)) (xs (i + 5))) h_3.2 h_6.2.1 h_6.2.2)
  · refine vv_iconst (v := 0) C dL_law_238 (by decide) ?_
    exact absurd (h_3.1.trans ((lv_card hI.2.2.2 hI.1 hI.2.1 (xs (i + 1)) (xs (i + 2)) (xs (i + 3)) (xs (i + 4)) (xs (i + 5))).1.symm.trans h_6.1.symm)) h_ne
set_option maxRecDepth 100000 in
set_option maxHeartbeats 4000000 in
theorem lc_put {p : Program} {l : Launch} {e : Env} {s : State} {m : MethodId} {args : Array Value} {below : List Frame} {meth : Method} {c : Code} {G : mw_GG} {Q : State → Prop} (C : vv_C p s m args c G code 4 wsL_law RL) {b L : Nat} {xs : Nat → Int32} (hX : va_X b L xs s s.heap) (hbl : b < s.heap.size) (hbA : ¬ mw_A G b) (hL : L ≤ 3072) {i : Nat} (hi6 : i + 6 ≤ L) {M : mw_M} (hJ : lwJ M) (hk : ∀ M3, lwJ M3 → vv p l e room_1 s m args below meth c G 600000 7302250 Q M3 876 [some (.ref b), some (.ref (G.1 144)), some (.ref (G.1 145)), some (.int (nI i))] []) : vv p l e room_1 s m args below meth c G 600000 7302250 Q M 240 [some (.ref b), some (.ref (G.1 144)), some (.ref (G.1 145)), some (.int (nI i))] [] := by
  obtain ⟨V, hI⟩ := hJ
  refine vv_aload_n C 1 dL_law_240 rfl rfl ?_
  refine vv_aload_n C 0 dL_law_241 rfl rfl ?_
  refine vv_iload_n C 3 dL_law_242 rfl rfl ?_
  refine vv_iconst (v := 1) C dL_law_243 (by decide) ?_
  refine vv_iadd C dL_law_244 ?_
  refine vv_top (y := nI (i + 1)) (nI_add i 1) ?_
  refine vv_sld C hX hbl hbA (j := (i + 1)) rfl (by omega) hL dL_law_245 ?_
  refine vv_aload_n C 0 dL_law_246 rfl rfl ?_
  refine vv_iload_n C 3 dL_law_247 rfl rfl ?_
  refine vv_iconst (v := 2) C dL_law_248 (by decide) ?_
  refine vv_iadd C dL_law_249 ?_
  refine vv_top (y := nI (i + 2)) (nI_add i 2) ?_
  refine vv_sld C hX hbl hbA (j := (i + 2)) rfl (by omega) hL dL_law_250 ?_
  refine vv_aload_n C 0 dL_law_251 rfl rfl ?_
  refine vv_iload_n C 3 dL_law_252 rfl rfl ?_
  refine vv_iconst (v := 3) C dL_law_253 (by decide) ?_
  refine vv_iadd C dL_law_254 ?_
  refine vv_top (y := nI (i + 3)) (nI_add i 3) ?_
  refine vv_sld C hX hbl hbA (j := (i + 3)) rfl (by omega) hL dL_law_255 ?_
  refine vv_aload_n C 0 dL_law_256 rfl rfl ?_
  refine vv_iload_n C 3 dL_law_257 rfl rfl ?_
  refine vv_iconst (v := 4) C dL_law_258 (by decide) ?_
  refine vv_iadd C dL_law_259 ?_
  refine vv_top (y := nI (i + 4)) (nI_add i 4) ?_
  refine vv_sld C hX hbl hbA (j := (i + 4)) rfl (by omega) hL dL_law_260 ?_
  refine vv_callVIP C [.int (xs (i + 1)), .int (xs (i + 2)), .int (xs (i + 3)), .int (xs (i + 4))] (c_X8_put M hI.1.1 hI.1.2.1 hI.1.2.2.1 (xs (i + 1)) (xs (i + 2)) (xs (i + 3)) (xs (i + 4))) sh_144 rfl (cwV 4 C.1.2.2.2.2 gL_law_X8_put rfl rfl rfl (by decide +kernel) ⟨Nat.le_of_ble_eq_true rfl, Nat.le_of_ble_eq_true rfl⟩) rfl rfl rfl (Nat.le_of_ble_eq_true rfl) dL_law_261 ⟨Nat.le_refl _, Nat.le_refl _⟩ (fun x_1 M_2 h_3 => ?_)
  refine vv_aload_n C 2 dL_law_264 rfl rfl ?_
  refine vv_aload_n C 0 dL_law_265 rfl rfl ?_
  refine vv_iload_n C 3 dL_law_266 rfl rfl ?_
  refine vv_iconst (v := 1) C dL_law_267 (by decide) ?_
  refine vv_iadd C dL_law_268 ?_
  refine vv_top (y := nI (i + 1)) (nI_add i 1) ?_
  refine vv_sld C hX hbl hbA (j := (i + 1)) rfl (by omega) hL dL_law_269 ?_
  refine vv_aload_n C 0 dL_law_270 rfl rfl ?_
  refine vv_iload_n C 3 dL_law_271 rfl rfl ?_
  refine vv_iconst (v := 2) C dL_law_272 (by decide) ?_
  refine vv_iadd C dL_law_273 ?_
  refine vv_top (y := nI (i + 2)) (nI_add i 2) ?_
  refine vv_sld C hX hbl hbA (j := (i + 2)) rfl (by omega) hL dL_law_274 ?_
  refine vv_aload_n C 0 dL_law_275 rfl rfl ?_
  refine vv_iload_n C 3 dL_law_276 rfl rfl ?_
  refine vv_iconst (v := 3) C dL_law_277 (by decide) ?_
  refine vv_iadd C dL_law_278 ?_
  refine vv_top (y := nI (i + 3)) (nI_add i 3) ?_
  refine vv_sld C hX hbl hbA (j := (i + 3)) rfl (by omega) hL dL_law_279 ?_
  refine vv_aload_n C 0 dL_law_280 rfl rfl ?_
  refine vv_iload_n C 3 dL_law_281 rfl rfl ?_
  refine vv_iconst (v := 4) C dL_law_282 (by decide) ?_
  refine vv_iadd C dL_law_283 ?_
  refine vv_top (y := nI (i + 4)) (nI_add i 4) ?_
  refine vv_sld C hX hbl hbA (j := (i + 4)) rfl (by omega) hL dL_law_284 ?_
  refine vv_callVIP C [.int (xs (i + 1)), .int (xs (i + 2)), .int (xs (i + 3)), .int (xs (i + 4))] (c_X9_put M_2 V (lw_mid2 hI (op_put_ok hI.1 (xs (i + 1)) (xs (i + 2)) (xs (i + 3)) (xs (i + 4))) h_3.2) hI.2.1.1 hI.2.1.2.1 hI.2.1.2.2.1 (xs (i + 1)) (xs (i + 2)) (xs (i + 3)) (xs (i + 4))) sh_145 rfl (cwV 4 C.1.2.2.2.2 gL_law_X9_put rfl rfl rfl (by decide +kernel) ⟨Nat.le_of_ble_eq_true rfl, Nat.le_of_ble_eq_true rfl⟩) rfl rfl rfl (Nat.le_of_ble_eq_true rfl) dL_law_285 ⟨Nat.le_refl _, Nat.le_refl _⟩ (fun x_4 M_5 h_6 => ?_)
  refine vv_icmp_eq C 876 dL_law_288 (by decide) (fun h_eq => ?_) (fun h_ne => ?_)
  · exact hk _ (lw_step2 hI (op_put_ok hI.1 (xs (i + 1)) (xs (i + 2)) (xs (i + 3)) (xs (i + 4))) (op_put_ok hI.2.1 (xs (i + 1)) (xs (i + 2)) (xs (i + 3)) (xs (i + 4))) (lv_put hI.2.2.2 hI.1 hI.2.1 (xs (i + 1)) (xs (i + 2)) (xs (i + 3)) (xs (i + 4))) h_3.2 h_6.2.1 h_6.2.2)
  · refine vv_iconst (v := 0) C dL_law_291 (by decide) ?_
    exact absurd (h_3.1.trans ((lv_put hI.2.2.2 hI.1 hI.2.1 (xs (i + 1)) (xs (i + 2)) (xs (i + 3)) (xs (i + 4))).1.symm.trans h_6.1.symm)) h_ne
set_option maxRecDepth 100000 in
set_option maxHeartbeats 4000000 in
theorem lc_drop {p : Program} {l : Launch} {e : Env} {s : State} {m : MethodId} {args : Array Value} {below : List Frame} {meth : Method} {c : Code} {G : mw_GG} {Q : State → Prop} (C : vv_C p s m args c G code 4 wsL_law RL) {b L : Nat} {xs : Nat → Int32} (hX : va_X b L xs s s.heap) (hbl : b < s.heap.size) (hbA : ¬ mw_A G b) (hL : L ≤ 3072) {i : Nat} (hi6 : i + 6 ≤ L) {M : mw_M} (hJ : lwJ M) (hk : ∀ M3, lwJ M3 → vv p l e room_1 s m args below meth c G 600000 7302250 Q M3 876 [some (.ref b), some (.ref (G.1 144)), some (.ref (G.1 145)), some (.int (nI i))] []) : vv p l e room_1 s m args below meth c G 600000 7302250 Q M 293 [some (.ref b), some (.ref (G.1 144)), some (.ref (G.1 145)), some (.int (nI i))] [] := by
  obtain ⟨V, hI⟩ := hJ
  refine vv_aload_n C 1 dL_law_293 rfl rfl ?_
  refine vv_aload_n C 0 dL_law_294 rfl rfl ?_
  refine vv_iload_n C 3 dL_law_295 rfl rfl ?_
  refine vv_iconst (v := 1) C dL_law_296 (by decide) ?_
  refine vv_iadd C dL_law_297 ?_
  refine vv_top (y := nI (i + 1)) (nI_add i 1) ?_
  refine vv_sld C hX hbl hbA (j := (i + 1)) rfl (by omega) hL dL_law_298 ?_
  refine vv_aload_n C 0 dL_law_299 rfl rfl ?_
  refine vv_iload_n C 3 dL_law_300 rfl rfl ?_
  refine vv_iconst (v := 2) C dL_law_301 (by decide) ?_
  refine vv_iadd C dL_law_302 ?_
  refine vv_top (y := nI (i + 2)) (nI_add i 2) ?_
  refine vv_sld C hX hbl hbA (j := (i + 2)) rfl (by omega) hL dL_law_303 ?_
  refine vv_callVIP C [.int (xs (i + 1)), .int (xs (i + 2))] (c_X8_drop M hI.1.1 hI.1.2.1 hI.1.2.2.1 (xs (i + 1)) (xs (i + 2))) sh_144 rfl (cwV 2 C.1.2.2.2.2 gL_law_X8_drop rfl rfl rfl (by decide +kernel) ⟨Nat.le_of_ble_eq_true rfl, Nat.le_of_ble_eq_true rfl⟩) rfl rfl rfl (Nat.le_of_ble_eq_true rfl) dL_law_304 ⟨Nat.le_refl _, Nat.le_refl _⟩ (fun x_1 M_2 h_3 => ?_)
  refine vv_aload_n C 2 dL_law_307 rfl rfl ?_
  refine vv_aload_n C 0 dL_law_308 rfl rfl ?_
  refine vv_iload_n C 3 dL_law_309 rfl rfl ?_
  refine vv_iconst (v := 1) C dL_law_310 (by decide) ?_
  refine vv_iadd C dL_law_311 ?_
  refine vv_top (y := nI (i + 1)) (nI_add i 1) ?_
  refine vv_sld C hX hbl hbA (j := (i + 1)) rfl (by omega) hL dL_law_312 ?_
  refine vv_aload_n C 0 dL_law_313 rfl rfl ?_
  refine vv_iload_n C 3 dL_law_314 rfl rfl ?_
  refine vv_iconst (v := 2) C dL_law_315 (by decide) ?_
  refine vv_iadd C dL_law_316 ?_
  refine vv_top (y := nI (i + 2)) (nI_add i 2) ?_
  refine vv_sld C hX hbl hbA (j := (i + 2)) rfl (by omega) hL dL_law_317 ?_
  refine vv_callVIP C [.int (xs (i + 1)), .int (xs (i + 2))] (c_X9_drop M_2 V (lw_mid2 hI (op_drop_ok hI.1 (xs (i + 1)) (xs (i + 2))) h_3.2) hI.2.1.1 hI.2.1.2.1 hI.2.1.2.2.1 (xs (i + 1)) (xs (i + 2))) sh_145 rfl (cwV 2 C.1.2.2.2.2 gL_law_X9_drop rfl rfl rfl (by decide +kernel) ⟨Nat.le_of_ble_eq_true rfl, Nat.le_of_ble_eq_true rfl⟩) rfl rfl rfl (Nat.le_of_ble_eq_true rfl) dL_law_318 ⟨Nat.le_refl _, Nat.le_refl _⟩ (fun x_4 M_5 h_6 => ?_)
  refine vv_icmp_eq C 876 dL_law_321 (by decide) (fun h_eq => ?_) (fun h_ne => ?_)
  · exact hk _ (lw_step2 hI (op_drop_ok hI.1 (xs (i + 1)) (xs (i + 2))) (op_drop_ok hI.2.1 (xs (i + 1)) (xs (i + 2))) (lv_drop hI.2.2.2 hI.1 hI.2.1 (xs (i + 1)) (xs (i + 2))) h_3.2 h_6.2.1 h_6.2.2)
  · refine vv_iconst (v := 0) C dL_law_324 (by decide) ?_
    exact absurd (h_3.1.trans ((lv_drop hI.2.2.2 hI.1 hI.2.1 (xs (i + 1)) (xs (i + 2))).1.symm.trans h_6.1.symm)) h_ne
set_option maxRecDepth 100000 in
set_option maxHeartbeats 4000000 in
theorem lc_valueOf {p : Program} {l : Launch} {e : Env} {s : State} {m : MethodId} {args : Array Value} {below : List Frame} {meth : Method} {c : Code} {G : mw_GG} {Q : State → Prop} (C : vv_C p s m args c G code 4 wsL_law RL) {b L : Nat} {xs : Nat → Int32} (hX : va_X b L xs s s.heap) (hbl : b < s.heap.size) (hbA : ¬ mw_A G b) (hL : L ≤ 3072) {i : Nat} (hi6 : i + 6 ≤ L) {M : mw_M} (hJ : lwJ M) (hk : ∀ M3, lwJ M3 → vv p l e room_1 s m args below meth c G 600000 7302250 Q M3 876 [some (.ref b), some (.ref (G.1 144)), some (.ref (G.1 145)), some (.int (nI i))] []) : vv p l e room_1 s m args below meth c G 600000 7302250 Q M 326 [some (.ref b), some (.ref (G.1 144)), some (.ref (G.1 145)), some (.int (nI i))] [] := by
  obtain ⟨V, hI⟩ := hJ
  refine vv_aload_n C 1 dL_law_326 rfl rfl ?_
  refine vv_aload_n C 0 dL_law_327 rfl rfl ?_
  refine vv_iload_n C 3 dL_law_328 rfl rfl ?_
  refine vv_iconst (v := 1) C dL_law_329 (by decide) ?_
  refine vv_iadd C dL_law_330 ?_
  refine vv_top (y := nI (i + 1)) (nI_add i 1) ?_
  refine vv_sld C hX hbl hbA (j := (i + 1)) rfl (by omega) hL dL_law_331 ?_
  refine vv_aload_n C 0 dL_law_332 rfl rfl ?_
  refine vv_iload_n C 3 dL_law_333 rfl rfl ?_
  refine vv_iconst (v := 2) C dL_law_334 (by decide) ?_
  refine vv_iadd C dL_law_335 ?_
  refine vv_top (y := nI (i + 2)) (nI_add i 2) ?_
  refine vv_sld C hX hbl hbA (j := (i + 2)) rfl (by omega) hL dL_law_336 ?_
  refine vv_aload_n C 0 dL_law_337 rfl rfl ?_
  refine vv_iload_n C 3 dL_law_338 rfl rfl ?_
  refine vv_iconst (v := 3) C dL_law_339 (by decide) ?_
  refine vv_iadd C dL_law_340 ?_
  refine vv_top (y := nI (i + 3)) (nI_add i 3) ?_
  refine vv_sld C hX hbl hbA (j := (i + 3)) rfl (by omega) hL dL_law_341 ?_
  refine vv_callVIP C [.int (xs (i + 1)), .int (xs (i + 2)), .int (xs (i + 3))] (c_X8_valueOf M hI.1.1 hI.1.2.1 hI.1.2.2.1 (xs (i + 1)) (xs (i + 2)) (xs (i + 3))) sh_144 rfl (cwV 3 C.1.2.2.2.2 gL_law_X8_valueOf rfl rfl rfl (by decide +kernel) ⟨Nat.le_of_ble_eq_true rfl, Nat.le_of_ble_eq_true rfl⟩) rfl rfl rfl (Nat.le_of_ble_eq_true rfl) dL_law_342 ⟨Nat.le_refl _, Nat.le_refl _⟩ (fun x_1 M_2 h_3 => ?_)
  refine vv_aload_n C 2 dL_law_345 rfl rfl ?_
  refine vv_aload_n C 0 dL_law_346 rfl rfl ?_
  refine vv_iload_n C 3 dL_law_347 rfl rfl ?_
  refine vv_iconst (v := 1) C dL_law_348 (by decide) ?_
  refine vv_iadd C dL_law_349 ?_
  refine vv_top (y := nI (i + 1)) (nI_add i 1) ?_
  refine vv_sld C hX hbl hbA (j := (i + 1)) rfl (by omega) hL dL_law_350 ?_
  refine vv_aload_n C 0 dL_law_351 rfl rfl ?_
  refine vv_iload_n C 3 dL_law_352 rfl rfl ?_
  refine vv_iconst (v := 2) C dL_law_353 (by decide) ?_
  refine vv_iadd C dL_law_354 ?_
  refine vv_top (y := nI (i + 2)) (nI_add i 2) ?_
  refine vv_sld C hX hbl hbA (j := (i + 2)) rfl (by omega) hL dL_law_355 ?_
  refine vv_aload_n C 0 dL_law_356 rfl rfl ?_
  refine vv_iload_n C 3 dL_law_357 rfl rfl ?_
  refine vv_iconst (v := 3) C dL_law_358 (by decide) ?_
  refine vv_iadd C dL_law_359 ?_
  refine vv_top (y := nI (i + 3)) (nI_add i 3) ?_
  refine vv_sld C hX hbl hbA (j := (i + 3)) rfl (by omega) hL dL_law_360 ?_
  refine vv_callVIP C [.int (xs (i + 1)), .int (xs (i + 2)), .int (xs (i + 3))] (c_X9_valueOf M_2 V (lw_mid2 hI (op_valueOf_ok hI.1 (xs (i + 1)) (xs (i + 2)) (xs (i + 3))) h_3.2) hI.2.1.1 hI.2.1.2.1 hI.2.1.2.2.1 (xs (i + 1)) (xs (i + 2)) (xs (i + 3))) sh_145 rfl (cwV 3 C.1.2.2.2.2 gL_law_X9_valueOf rfl rfl rfl (by decide +kernel) ⟨Nat.le_of_ble_eq_true rfl, Nat.le_of_ble_eq_true rfl⟩) rfl rfl rfl (Nat.le_of_ble_eq_true rfl) dL_law_361 ⟨Nat.le_refl _, Nat.le_refl _⟩ (fun x_4 M_5 h_6 => ?_)
  refine vv_icmp_eq C 876 dL_law_364 (by decide) (fun h_eq => ?_) (fun h_ne => ?_)
  · exact hk _ (lw_step2 hI (op_valueOf_ok hI.1 (xs (i + 1)) (xs (i + 2)) (xs (i + 3))) (op_valueOf_ok hI.2.1 (xs (i + 1)) (xs (i + 2)) (xs (i + 3))) (lv_valueOf hI.2.2.2 hI.1 hI.2.1 (xs (i + 1)) (xs (i + 2)) (xs (i + 3))) h_3.2 h_6.2.1 h_6.2.2)
  · refine vv_iconst (v := 0) C dL_law_367 (by decide) ?_
    exact absurd (h_3.1.trans ((lv_valueOf hI.2.2.2 hI.1 hI.2.1 (xs (i + 1)) (xs (i + 2)) (xs (i + 3))).1.symm.trans h_6.1.symm)) h_ne
set_option maxRecDepth 100000 in
set_option maxHeartbeats 4000000 in
theorem lc_cell {p : Program} {l : Launch} {e : Env} {s : State} {m : MethodId} {args : Array Value} {below : List Frame} {meth : Method} {c : Code} {G : mw_GG} {Q : State → Prop} (C : vv_C p s m args c G code 4 wsL_law RL) {b L : Nat} {xs : Nat → Int32} (hX : va_X b L xs s s.heap) (hbl : b < s.heap.size) (hbA : ¬ mw_A G b) (hL : L ≤ 3072) {i : Nat} (hi6 : i + 6 ≤ L) {M : mw_M} (hJ : lwJ M) (hk : ∀ M3, lwJ M3 → vv p l e room_1 s m args below meth c G 600000 7302250 Q M3 876 [some (.ref b), some (.ref (G.1 144)), some (.ref (G.1 145)), some (.int (nI i))] []) : vv p l e room_1 s m args below meth c G 600000 7302250 Q M 369 [some (.ref b), some (.ref (G.1 144)), some (.ref (G.1 145)), some (.int (nI i))] [] := by
  obtain ⟨V, hI⟩ := hJ
  refine vv_aload_n C 1 dL_law_369 rfl rfl ?_
  refine vv_aload_n C 0 dL_law_370 rfl rfl ?_
  refine vv_iload_n C 3 dL_law_371 rfl rfl ?_
  refine vv_iconst (v := 1) C dL_law_372 (by decide) ?_
  refine vv_iadd C dL_law_373 ?_
  refine vv_top (y := nI (i + 1)) (nI_add i 1) ?_
  refine vv_sld C hX hbl hbA (j := (i + 1)) rfl (by omega) hL dL_law_374 ?_
  refine vv_aload_n C 0 dL_law_375 rfl rfl ?_
  refine vv_iload_n C 3 dL_law_376 rfl rfl ?_
  refine vv_iconst (v := 2) C dL_law_377 (by decide) ?_
  refine vv_iadd C dL_law_378 ?_
  refine vv_top (y := nI (i + 2)) (nI_add i 2) ?_
  refine vv_sld C hX hbl hbA (j := (i + 2)) rfl (by omega) hL dL_law_379 ?_
  refine vv_aload_n C 0 dL_law_380 rfl rfl ?_
  refine vv_iload_n C 3 dL_law_381 rfl rfl ?_
  refine vv_iconst (v := 3) C dL_law_382 (by decide) ?_
  refine vv_iadd C dL_law_383 ?_
  refine vv_top (y := nI (i + 3)) (nI_add i 3) ?_
  refine vv_sld C hX hbl hbA (j := (i + 3)) rfl (by omega) hL dL_law_384 ?_
  refine vv_aload_n C 0 dL_law_385 rfl rfl ?_
  refine vv_iload_n C 3 dL_law_386 rfl rfl ?_
  refine vv_iconst (v := 4) C dL_law_387 (by decide) ?_
  refine vv_iadd C dL_law_388 ?_
  refine vv_top (y := nI (i + 4)) (nI_add i 4) ?_
  refine vv_sld C hX hbl hbA (j := (i + 4)) rfl (by omega) hL dL_law_389 ?_
  refine vv_aload_n C 0 dL_law_390 rfl rfl ?_
  refine vv_iload_n C 3 dL_law_391 rfl rfl ?_
  refine vv_iconst (v := 5) C dL_law_392 (by decide) ?_
  refine vv_iadd C dL_law_393 ?_
  refine vv_top (y := nI (i + 5)) (nI_add i 5) ?_
  refine vv_sld C hX hbl hbA (j := (i + 5)) rfl (by omega) hL dL_law_394 ?_
  refine vv_callVIP C [.int (xs (i + 1)), .int (xs (i + 2)), .int (xs (i + 3)), .int (xs (i + 4)), .int (xs (i + 5))] (c_X8_cell M hI.1.1 hI.1.2.1 hI.1.2.2.1 (xs (i + 1)) (xs (i + 2)) (xs (i + 3)) (xs (i + 4)) (xs (i + 5))) sh_144 rfl (cwV 5 C.1.2.2.2.2 gL_law_X8_cell rfl rfl rfl (by decide +kernel) ⟨Nat.le_of_ble_eq_true rfl, Nat.le_of_ble_eq_true rfl⟩) rfl rfl rfl (Nat.le_of_ble_eq_true rfl) dL_law_395 ⟨Nat.le_refl _, Nat.le_refl _⟩ (fun x_1 M_2 h_3 => ?_)
  refine vv_aload_n C 2 dL_law_398 rfl rfl ?_
  refine vv_aload_n C 0 dL_law_399 rfl rfl ?_
  refine vv_iload_n C 3 dL_law_400 rfl rfl ?_
  refine vv_iconst (v := 1) C dL_law_401 (by decide) ?_
  refine vv_iadd C dL_law_402 ?_
  refine vv_top (y := nI (i + 1)) (nI_add i 1) ?_
  refine vv_sld C hX hbl hbA (j := (i + 1)) rfl (by omega) hL dL_law_403 ?_
  refine vv_aload_n C 0 dL_law_404 rfl rfl ?_
  refine vv_iload_n C 3 dL_law_405 rfl rfl ?_
  refine vv_iconst (v := 2) C dL_law_406 (by decide) ?_
  refine vv_iadd C dL_law_407 ?_
  refine vv_top (y := nI (i + 2)) (nI_add i 2) ?_
  refine vv_sld C hX hbl hbA (j := (i + 2)) rfl (by omega) hL dL_law_408 ?_
  refine vv_aload_n C 0 dL_law_409 rfl rfl ?_
  refine vv_iload_n C 3 dL_law_410 rfl rfl ?_
  refine vv_iconst (v := 3) C dL_law_411 (by decide) ?_
  refine vv_iadd C dL_law_412 ?_
  refine vv_top (y := nI (i + 3)) (nI_add i 3) ?_
  refine vv_sld C hX hbl hbA (j := (i + 3)) rfl (by omega) hL dL_law_413 ?_
  refine vv_aload_n C 0 dL_law_414 rfl rfl ?_
  refine vv_iload_n C 3 dL_law_415 rfl rfl ?_
  refine vv_iconst (v := 4) C dL_law_416 (by decide) ?_
  refine vv_iadd C dL_law_417 ?_
  refine vv_top (y := nI (i + 4)) (nI_add i 4) ?_
  refine vv_sld C hX hbl hbA (j := (i + 4)) rfl (by omega) hL dL_law_418 ?_
  refine vv_aload_n C 0 dL_law_419 rfl rfl ?_
  refine vv_iload_n C 3 dL_law_420 rfl rfl ?_
  refine vv_iconst (v := 5) C dL_law_421 (by decide) ?_
  refine vv_iadd C dL_law_422 ?_
  refine vv_top (y := nI (i + 5)) (nI_add i 5) ?_
  refine vv_sld C hX hbl hbA (j := (i + 5)) rfl (by omega) hL dL_law_423 ?_
  refine vv_callVIP C [.int (xs (i + 1)), .int (xs (i + 2)), .int (xs (i + 3)), .int (xs (i + 4)), .int (xs (i + 5))] (c_X9_cell M_2 V (lw_mid2 hI (op_cell_ok hI.1 (xs (i + 1)) (xs (i + 2)) (xs (i + 3)) (xs (i + 4)) (xs (i + 5))) h_3.2) hI.2.1.1 hI.2.1.2.1 hI.2.1.2.2.1 (xs (i + 1)) (xs (i + 2)) (xs (i + 3)) (xs (i + 4)) (xs (i + 5))) sh_145 rfl (cwV 5 C.1.2.2.2.2 gL_law_X9_cell rfl rfl rfl (by decide +kernel) ⟨Nat.le_of_ble_eq_true rfl, Nat.le_of_ble_eq_true rfl⟩) rfl rfl rfl (Nat.le_of_ble_eq_true rfl) dL_law_424 ⟨Nat.le_refl _, Nat.le_refl _⟩ (fun x_4 M_5 h_6 => ?_)
  refine vv_icmp_eq C 876 dL_law_427 (by decide) (fun h_eq => ?_) (fun h_ne => ?_)
  · exact hk _ (lw_step2 hI (op_cell_ok hI.1 (xs (i + 1)) (xs (i + 2)) (xs (i + 3)) (xs (i + 4)) (xs (i + 5))) (op_cell_ok hI.2.1 (xs (i + 1)) (xs (i + 2)) (xs (i + 3)) (xs (i + 4)) (xs (i + 5))) (lv_cell hI.2.2.2 hI.1 hI.2.1 (xs (i + 1)) (xs (i + 2)) (xs (i + 3)) (xs (i + 4)) (xs (i + 5))) h_3.2 h_6.2.1 h_6.2.2)
  · refine vv_iconst (v := 0) C dL_law_430 (by decide) ?_
    exact absurd (h_3.1.trans ((lv_cell hI.2.2.2 hI.1 hI.2.1 (xs (i + 1)) (xs (i + 2)) (xs (i + 3)) (xs (i + 4)) (xs (i + 5))).1.symm.trans h_6.1.symm)) h_ne
set_option maxRecDepth 100000 in
set_option maxHeartbeats 4000000 in
theorem lc_clear {p : Program} {l : Launch} {e : Env} {s : State} {m : MethodId} {args : Array Value} {below : List Frame} {meth : Method} {c : Code} {G : mw_GG} {Q : State → Prop} (C : vv_C p s m args c G code 4 wsL_law RL) {b L : Nat} {xs : Nat → Int32} (hX : va_X b L xs s s.heap) (hbl : b < s.heap.size) (hbA : ¬ mw_A G b) (hL : L ≤ 3072) {i : Nat} (hi6 : i + 6 ≤ L) {M : mw_M} (hJ : lwJ M) (hk : ∀ M3, lwJ M3 → vv p l e room_1 s m args below meth c G 600000 7302250 Q M3 876 [some (.ref b), some (.ref (G.1 144)), some (.ref (G.1 145)), some (.int (nI i))] []) : vv p l e room_1 s m args below meth c G 600000 7302250 Q M 432 [some (.ref b), some (.ref (G.1 144)), some (.ref (G.1 145)), some (.int (nI i))] [] := by
  obtain ⟨V, hI⟩ := hJ
  refine vv_aload_n C 1 dL_law_432 rfl rfl ?_
  refine vv_aload_n C 0 dL_law_433 rfl rfl ?_
  refine vv_iload_n C 3 dL_law_434 rfl rfl ?_
  refine vv_iconst (v := 1) C dL_law_435 (by decide) ?_
  refine vv_iadd C dL_law_436 ?_
  refine vv_top (y := nI (i + 1)) (nI_add i 1) ?_
  refine vv_sld C hX hbl hbA (j := (i + 1)) rfl (by omega) hL dL_law_437 ?_
  refine vv_callVIP C [.int (xs (i + 1))] (c_X8_clear M hI.1.1 hI.1.2.1 hI.1.2.2.1 (xs (i + 1))) sh_144 rfl (cwV 1 C.1.2.2.2.2 gL_law_X8_clear rfl rfl rfl (by decide +kernel) ⟨Nat.le_of_ble_eq_true rfl, Nat.le_of_ble_eq_true rfl⟩) rfl rfl rfl (Nat.le_of_ble_eq_true rfl) dL_law_438 ⟨Nat.le_refl _, Nat.le_refl _⟩ (fun x_1 M_2 h_3 => ?_)
  refine vv_aload_n C 2 dL_law_441 rfl rfl ?_
  refine vv_aload_n C 0 dL_law_442 rfl rfl ?_
  refine vv_iload_n C 3 dL_law_443 rfl rfl ?_
  refine vv_iconst (v := 1) C dL_law_444 (by decide) ?_
  refine vv_iadd C dL_law_445 ?_
  refine vv_top (y := nI (i + 1)) (nI_add i 1) ?_
  refine vv_sld C hX hbl hbA (j := (i + 1)) rfl (by omega) hL dL_law_446 ?_
  refine vv_callVIP C [.int (xs (i + 1))] (c_X9_clear M_2 V (lw_mid2 hI (op_clear_ok hI.1 (xs (i + 1))) h_3.2) hI.2.1.1 hI.2.1.2.1 hI.2.1.2.2.1 (xs (i + 1))) sh_145 rfl (cwV 1 C.1.2.2.2.2 gL_law_X9_clear rfl rfl rfl (by decide +kernel) ⟨Nat.le_of_ble_eq_true rfl, Nat.le_of_ble_eq_true rfl⟩) rfl rfl rfl (Nat.le_of_ble_eq_true rfl) dL_law_447 ⟨Nat.le_refl _, Nat.le_refl _⟩ (fun x_4 M_5 h_6 => ?_)
  refine vv_icmp_eq C 876 dL_law_450 (by decide) (fun h_eq => ?_) (fun h_ne => ?_)
  · exact hk _ (lw_step2 hI (op_clear_ok hI.1 (xs (i + 1))) (op_clear_ok hI.2.1 (xs (i + 1))) (lv_clear hI.2.2.2 hI.1 hI.2.1 (xs (i + 1))) h_3.2 h_6.2.1 h_6.2.2)
  · refine vv_iconst (v := 0) C dL_law_453 (by decide) ?_
    exact absurd (h_3.1.trans ((lv_clear hI.2.2.2 hI.1 hI.2.1 (xs (i + 1))).1.symm.trans h_6.1.symm)) h_ne
set_option maxRecDepth 100000 in
set_option maxHeartbeats 4000000 in
theorem lc_both {p : Program} {l : Launch} {e : Env} {s : State} {m : MethodId} {args : Array Value} {below : List Frame} {meth : Method} {c : Code} {G : mw_GG} {Q : State → Prop} (C : vv_C p s m args c G code 4 wsL_law RL) {b L : Nat} {xs : Nat → Int32} (hX : va_X b L xs s s.heap) (hbl : b < s.heap.size) (hbA : ¬ mw_A G b) (hL : L ≤ 3072) {i : Nat} (hi6 : i + 6 ≤ L) {M : mw_M} (hJ : lwJ M) (hk : ∀ M3, lwJ M3 → vv p l e room_1 s m args below meth c G 600000 7302250 Q M3 876 [some (.ref b), some (.ref (G.1 144)), some (.ref (G.1 145)), some (.int (nI i))] []) : vv p l e room_1 s m args below meth c G 600000 7302250 Q M 455 [some (.ref b), some (.ref (G.1 144)), some (.ref (G.1 145)), some (.int (nI i))] [] := by
  obtain ⟨V, hI⟩ := hJ
  refine vv_aload_n C 1 dL_law_455 rfl rfl ?_
  refine vv_aload_n C 0 dL_law_456 rfl rfl ?_
  refine vv_iload_n C 3 dL_law_457 rfl rfl ?_
  refine vv_iconst (v := 1) C dL_law_458 (by decide) ?_
  refine vv_iadd C dL_law_459 ?_
  refine vv_top (y := nI (i + 1)) (nI_add i 1) ?_
  refine vv_sld C hX hbl hbA (j := (i + 1)) rfl (by omega) hL dL_law_460 ?_
  refine vv_callVIP C [.int (xs (i + 1))] (c_X8_both M hI.1.1 hI.1.2.1 hI.1.2.2.1 (xs (i + 1))) sh_144 rfl (cwV 1 C.1.2.2.2.2 gL_law_X8_both rfl rfl rfl (by decide +kernel) ⟨Nat.le_of_ble_eq_true rfl, Nat.le_of_ble_eq_true rfl⟩) rfl rfl rfl (Nat.le_of_ble_eq_true rfl) dL_law_461 ⟨Nat.le_refl _, Nat.le_refl _⟩ (fun x_1 M_2 h_3 => ?_)
  refine vv_aload_n C 2 dL_law_464 rfl rfl ?_
  refine vv_aload_n C 0 dL_law_465 rfl rfl ?_
  refine vv_iload_n C 3 dL_law_466 rfl rfl ?_
  refine vv_iconst (v := 1) C dL_law_467 (by decide) ?_
  refine vv_iadd C dL_law_468 ?_
  refine vv_top (y := nI (i + 1)) (nI_add i 1) ?_
  refine vv_sld C hX hbl hbA (j := (i + 1)) rfl (by omega) hL dL_law_469 ?_
  refine vv_callVIP C [.int (xs (i + 1))] (c_X9_both M_2 V (lw_mid2 hI (op_both_ok hI.1 (xs (i + 1))) h_3.2) hI.2.1.1 hI.2.1.2.1 hI.2.1.2.2.1 (xs (i + 1))) sh_145 rfl (cwV 1 C.1.2.2.2.2 gL_law_X9_both rfl rfl rfl (by decide +kernel) ⟨Nat.le_of_ble_eq_true rfl, Nat.le_of_ble_eq_true rfl⟩) rfl rfl rfl (Nat.le_of_ble_eq_true rfl) dL_law_470 ⟨Nat.le_refl _, Nat.le_refl _⟩ (fun x_4 M_5 h_6 => ?_)
  refine vv_icmp_eq C 876 dL_law_473 (by decide) (fun h_eq => ?_) (fun h_ne => ?_)
  · exact hk _ (lw_step2 hI (op_both_ok hI.1 (xs (i + 1))) (op_both_ok hI.2.1 (xs (i + 1))) (lv_both hI.2.2.2 hI.1 hI.2.1 (xs (i + 1))) h_3.2 h_6.2.1 h_6.2.2)
  · refine vv_iconst (v := 0) C dL_law_476 (by decide) ?_
    exact absurd (h_3.1.trans ((lv_both hI.2.2.2 hI.1 hI.2.1 (xs (i + 1))).1.symm.trans h_6.1.symm)) h_ne
set_option maxRecDepth 100000 in
set_option maxHeartbeats 4000000 in
theorem lc_order {p : Program} {l : Launch} {e : Env} {s : State} {m : MethodId} {args : Array Value} {below : List Frame} {meth : Method} {c : Code} {G : mw_GG} {Q : State → Prop} (C : vv_C p s m args c G code 4 wsL_law RL) {b L : Nat} {xs : Nat → Int32} (hX : va_X b L xs s s.heap) (hbl : b < s.heap.size) (hbA : ¬ mw_A G b) (hL : L ≤ 3072) {i : Nat} (hi6 : i + 6 ≤ L) {M : mw_M} (hJ : lwJ M) (hk : ∀ M3, lwJ M3 → vv p l e room_1 s m args below meth c G 600000 7302250 Q M3 876 [some (.ref b), some (.ref (G.1 144)), some (.ref (G.1 145)), some (.int (nI i))] []) : vv p l e room_1 s m args below meth c G 600000 7302250 Q M 478 [some (.ref b), some (.ref (G.1 144)), some (.ref (G.1 145)), some (.int (nI i))] [] := by
  obtain ⟨V, hI⟩ := hJ
  refine vv_aload_n C 1 dL_law_478 rfl rfl ?_
  refine vv_aload_n C 0 dL_law_479 rfl rfl ?_
  refine vv_iload_n C 3 dL_law_480 rfl rfl ?_
  refine vv_iconst (v := 1) C dL_law_481 (by decide) ?_
  refine vv_iadd C dL_law_482 ?_
  refine vv_top (y := nI (i + 1)) (nI_add i 1) ?_
  refine vv_sld C hX hbl hbA (j := (i + 1)) rfl (by omega) hL dL_law_483 ?_
  refine vv_aload_n C 0 dL_law_484 rfl rfl ?_
  refine vv_iload_n C 3 dL_law_485 rfl rfl ?_
  refine vv_iconst (v := 2) C dL_law_486 (by decide) ?_
  refine vv_iadd C dL_law_487 ?_
  refine vv_top (y := nI (i + 2)) (nI_add i 2) ?_
  refine vv_sld C hX hbl hbA (j := (i + 2)) rfl (by omega) hL dL_law_488 ?_
  refine vv_aload_n C 0 dL_law_489 rfl rfl ?_
  refine vv_iload_n C 3 dL_law_490 rfl rfl ?_
  refine vv_iconst (v := 3) C dL_law_491 (by decide) ?_
  refine vv_iadd C dL_law_492 ?_
  refine vv_top (y := nI (i + 3)) (nI_add i 3) ?_
  refine vv_sld C hX hbl hbA (j := (i + 3)) rfl (by omega) hL dL_law_493 ?_
  refine vv_callVIP C [.int (xs (i + 1)), .int (xs (i + 2)), .int (xs (i + 3))] (c_X8_order M hI.1.1 hI.1.2.1 hI.1.2.2.1 (xs (i + 1)) (xs (i + 2)) (xs (i + 3))) sh_144 rfl (cwV 3 C.1.2.2.2.2 gL_law_X8_order rfl rfl rfl (by decide +kernel) ⟨Nat.le_of_ble_eq_true rfl, Nat.le_of_ble_eq_true rfl⟩) rfl rfl rfl (Nat.le_of_ble_eq_true rfl) dL_law_494 ⟨Nat.le_refl _, Nat.le_refl _⟩ (fun x_1 M_2 h_3 => ?_)
  refine vv_aload_n C 2 dL_law_497 rfl rfl ?_
  refine vv_aload_n C 0 dL_law_498 rfl rfl ?_
  refine vv_iload_n C 3 dL_law_499 rfl rfl ?_
  refine vv_iconst (v := 1) C dL_law_500 (by decide) ?_
  refine vv_iadd C dL_law_501 ?_
  refine vv_top (y := nI (i + 1)) (nI_add i 1) ?_
  refine vv_sld C hX hbl hbA (j := (i + 1)) rfl (by omega) hL dL_law_502 ?_
  refine vv_aload_n C 0 dL_law_503 rfl rfl ?_
  refine vv_iload_n C 3 dL_law_504 rfl rfl ?_
  refine vv_iconst (v := 2) C dL_law_505 (by decide) ?_
  refine vv_iadd C dL_law_506 ?_
  refine vv_top (y := nI (i + 2)) (nI_add i 2) ?_
  refine vv_sld C hX hbl hbA (j := (i + 2)) rfl (by omega) hL dL_law_507 ?_
  refine vv_aload_n C 0 dL_law_508 rfl rfl ?_
  refine vv_iload_n C 3 dL_law_509 rfl rfl ?_
  refine vv_iconst (v := 3) C dL_law_510 (by decide) ?_
  refine vv_iadd C dL_law_511 ?_
  refine vv_top (y := nI (i + 3)) (nI_add i 3) ?_
  refine vv_sld C hX hbl hbA (j := (i + 3)) rfl (by omega) hL dL_law_512 ?_
  refine vv_callVIP C [.int (xs (i + 1)), .int (xs (i + 2)), .int (xs (i + 3))] (c_X9_order M_2 V (lw_mid2 hI (op_order_ok hI.1 (xs (i + 1)) (xs (i + 2)) (xs (i + 3))) h_3.2) hI.2.1.1 hI.2.1.2.1 hI.2.1.2.2.1 (xs (i + 1)) (xs (i + 2)) (xs (i + 3))) sh_145 rfl (cwV 3 C.1.2.2.2.2 gL_law_X9_order rfl rfl rfl (by decide +kernel) ⟨Nat.le_of_ble_eq_true rfl, Nat.le_of_ble_eq_true rfl⟩) rfl rfl rfl (Nat.le_of_ble_eq_true rfl) dL_law_513 ⟨Nat.le_refl _, Nat.le_refl _⟩ (fun x_4 M_5 h_6 => ?_)
  refine vv_icmp_eq C 876 dL_law_516 (by decide) (fun h_eq => ?_) (fun h_ne => ?_)
  · exact hk _ (lw_step2 hI (op_order_ok hI.1 (xs (i + 1)) (xs (i + 2)) (xs (i + 3))) (op_order_ok hI.2.1 (xs (i + 1)) (xs (i + 2)) (xs (i + 3))) (lv_order hI.2.2.2 hI.1 hI.2.1 (xs (i + 1)) (xs (i + 2)) (xs (i + 3))) h_3.2 h_6.2.1 h_6.2.2)
  · refine vv_iconst (v := 0) C dL_law_519 (by decide) ?_
    exact absurd (h_3.1.trans ((lv_order hI.2.2.2 hI.1 hI.2.1 (xs (i + 1)) (xs (i + 2)) (xs (i + 3))).1.symm.trans h_6.1.symm)) h_ne
set_option maxRecDepth 100000 in
set_option maxHeartbeats 4000000 in
theorem lc_show {p : Program} {l : Launch} {e : Env} {s : State} {m : MethodId} {args : Array Value} {below : List Frame} {meth : Method} {c : Code} {G : mw_GG} {Q : State → Prop} (C : vv_C p s m args c G code 4 wsL_law RL) {b L : Nat} {xs : Nat → Int32} (hX : va_X b L xs s s.heap) (hbl : b < s.heap.size) (hbA : ¬ mw_A G b) (hL : L ≤ 3072) {i : Nat} (hi6 : i + 6 ≤ L) {M : mw_M} (hJ : lwJ M) (hk : ∀ M3, lwJ M3 → vv p l e room_1 s m args below meth c G 600000 7302250 Q M3 876 [some (.ref b), some (.ref (G.1 144)), some (.ref (G.1 145)), some (.int (nI i))] []) : vv p l e room_1 s m args below meth c G 600000 7302250 Q M 521 [some (.ref b), some (.ref (G.1 144)), some (.ref (G.1 145)), some (.int (nI i))] [] := by
  obtain ⟨V, hI⟩ := hJ
  refine vv_aload_n C 1 dL_law_521 rfl rfl ?_
  refine vv_aload_n C 0 dL_law_522 rfl rfl ?_
  refine vv_iload_n C 3 dL_law_523 rfl rfl ?_
  refine vv_iconst (v := 1) C dL_law_524 (by decide) ?_
  refine vv_iadd C dL_law_525 ?_
  refine vv_top (y := nI (i + 1)) (nI_add i 1) ?_
  refine vv_sld C hX hbl hbA (j := (i + 1)) rfl (by omega) hL dL_law_526 ?_
  refine vv_callVIP C [.int (xs (i + 1))] (c_X8_show M hI.1.1 hI.1.2.1 hI.1.2.2.1 (xs (i + 1))) sh_144 rfl (cwV 1 C.1.2.2.2.2 gL_law_X8_show rfl rfl rfl (by decide +kernel) ⟨Nat.le_of_ble_eq_true rfl, Nat.le_of_ble_eq_true rfl⟩) rfl rfl rfl (Nat.le_of_ble_eq_true rfl) dL_law_527 ⟨Nat.le_refl _, Nat.le_refl _⟩ (fun x_1 M_2 h_3 => ?_)
  refine vv_aload_n C 2 dL_law_530 rfl rfl ?_
  refine vv_aload_n C 0 dL_law_531 rfl rfl ?_
  refine vv_iload_n C 3 dL_law_532 rfl rfl ?_
  refine vv_iconst (v := 1) C dL_law_533 (by decide) ?_
  refine vv_iadd C dL_law_534 ?_
  refine vv_top (y := nI (i + 1)) (nI_add i 1) ?_
  refine vv_sld C hX hbl hbA (j := (i + 1)) rfl (by omega) hL dL_law_535 ?_
  refine vv_callVIP C [.int (xs (i + 1))] (c_X9_show M_2 V (lw_mid2 hI (op_show_ok hI.1 (xs (i + 1))) h_3.2) hI.2.1.1 hI.2.1.2.1 hI.2.1.2.2.1 (xs (i + 1))) sh_145 rfl (cwV 1 C.1.2.2.2.2 gL_law_X9_show rfl rfl rfl (by decide +kernel) ⟨Nat.le_of_ble_eq_true rfl, Nat.le_of_ble_eq_true rfl⟩) rfl rfl rfl (Nat.le_of_ble_eq_true rfl) dL_law_536 ⟨Nat.le_refl _, Nat.le_refl _⟩ (fun x_4 M_5 h_6 => ?_)
  refine vv_icmp_eq C 876 dL_law_539 (by decide) (fun h_eq => ?_) (fun h_ne => ?_)
  · exact hk _ (lw_step2 hI (op_show_ok hI.1 (xs (i + 1))) (op_show_ok hI.2.1 (xs (i + 1))) (lv_show hI.2.2.2 hI.1 hI.2.1 (xs (i + 1))) h_3.2 h_6.2.1 h_6.2.2)
  · refine vv_iconst (v := 0) C dL_law_542 (by decide) ?_
    exact absurd (h_3.1.trans ((lv_show hI.2.2.2 hI.1 hI.2.1 (xs (i + 1))).1.symm.trans h_6.1.symm)) h_ne
set_option maxRecDepth 100000 in
set_option maxHeartbeats 4000000 in
theorem lc_cellOf {p : Program} {l : Launch} {e : Env} {s : State} {m : MethodId} {args : Array Value} {below : List Frame} {meth : Method} {c : Code} {G : mw_GG} {Q : State → Prop} (C : vv_C p s m args c G code 4 wsL_law RL) {b L : Nat} {xs : Nat → Int32} (hX : va_X b L xs s s.heap) (hbl : b < s.heap.size) (hbA : ¬ mw_A G b) (hL : L ≤ 3072) {i : Nat} (hi6 : i + 6 ≤ L) {M : mw_M} (hJ : lwJ M) (hk : ∀ M3, lwJ M3 → vv p l e room_1 s m args below meth c G 600000 7302250 Q M3 876 [some (.ref b), some (.ref (G.1 144)), some (.ref (G.1 145)), some (.int (nI i))] []) : vv p l e room_1 s m args below meth c G 600000 7302250 Q M 544 [some (.ref b), some (.ref (G.1 144)), some (.ref (G.1 145)), some (.int (nI i))] [] := by
  obtain ⟨V, hI⟩ := hJ
  refine vv_aload_n C 1 dL_law_544 rfl rfl ?_
  refine vv_aload_n C 0 dL_law_545 rfl rfl ?_
  refine vv_iload_n C 3 dL_law_546 rfl rfl ?_
  refine vv_iconst (v := 1) C dL_law_547 (by decide) ?_
  refine vv_iadd C dL_law_548 ?_
  refine vv_top (y := nI (i + 1)) (nI_add i 1) ?_
  refine vv_sld C hX hbl hbA (j := (i + 1)) rfl (by omega) hL dL_law_549 ?_
  refine vv_aload_n C 0 dL_law_550 rfl rfl ?_
  refine vv_iload_n C 3 dL_law_551 rfl rfl ?_
  refine vv_iconst (v := 2) C dL_law_552 (by decide) ?_
  refine vv_iadd C dL_law_553 ?_
  refine vv_top (y := nI (i + 2)) (nI_add i 2) ?_
  refine vv_sld C hX hbl hbA (j := (i + 2)) rfl (by omega) hL dL_law_554 ?_
  refine vv_aload_n C 0 dL_law_555 rfl rfl ?_
  refine vv_iload_n C 3 dL_law_556 rfl rfl ?_
  refine vv_iconst (v := 3) C dL_law_557 (by decide) ?_
  refine vv_iadd C dL_law_558 ?_
  refine vv_top (y := nI (i + 3)) (nI_add i 3) ?_
  refine vv_sld C hX hbl hbA (j := (i + 3)) rfl (by omega) hL dL_law_559 ?_
  refine vv_callVIP C [.int (xs (i + 1)), .int (xs (i + 2)), .int (xs (i + 3))] (c_X8_cellOf M hI.1.1 hI.1.2.1 hI.1.2.2.1 (xs (i + 1)) (xs (i + 2)) (xs (i + 3))) sh_144 rfl (cwV 3 C.1.2.2.2.2 gL_law_X8_cellOf rfl rfl rfl (by decide +kernel) ⟨Nat.le_of_ble_eq_true rfl, Nat.le_of_ble_eq_true rfl⟩) rfl rfl rfl (Nat.le_of_ble_eq_true rfl) dL_law_560 ⟨Nat.le_refl _, Nat.le_refl _⟩ (fun x_1 M_2 h_3 => ?_)
  refine vv_aload_n C 2 dL_law_563 rfl rfl ?_
  refine vv_aload_n C 0 dL_law_564 rfl rfl ?_
  refine vv_iload_n C 3 dL_law_565 rfl rfl ?_
  refine vv_iconst (v := 1) C dL_law_566 (by decide) ?_
  refine vv_iadd C dL_law_567 ?_
  refine vv_top (y := nI (i + 1)) (nI_add i 1) ?_
  refine vv_sld C hX hbl hbA (j := (i + 1)) rfl (by omega) hL dL_law_568 ?_
  refine vv_aload_n C 0 dL_law_569 rfl rfl ?_
  refine vv_iload_n C 3 dL_law_570 rfl rfl ?_
  refine vv_iconst (v := 2) C dL_law_571 (by decide) ?_
  refine vv_iadd C dL_law_572 ?_
  refine vv_top (y := nI (i + 2)) (nI_add i 2) ?_
  refine vv_sld C hX hbl hbA (j := (i + 2)) rfl (by omega) hL dL_law_573 ?_
  refine vv_aload_n C 0 dL_law_574 rfl rfl ?_
  refine vv_iload_n C 3 dL_law_575 rfl rfl ?_
  refine vv_iconst (v := 3) C dL_law_576 (by decide) ?_
  refine vv_iadd C dL_law_577 ?_
  refine vv_top (y := nI (i + 3)) (nI_add i 3) ?_
  refine vv_sld C hX hbl hbA (j := (i + 3)) rfl (by omega) hL dL_law_578 ?_
  refine vv_callVIP C [.int (xs (i + 1)), .int (xs (i + 2)), .int (xs (i + 3))] (c_X9_cellOf M_2 V (lw_mid2 hI (op_cellOf_ok hI.1 (xs (i + 1)) (xs (i + 2)) (xs (i + 3))) h_3.2) hI.2.1.1 hI.2.1.2.1 hI.2.1.2.2.1 (xs (i + 1)) (xs (i + 2)) (xs (i + 3))) sh_145 rfl (cwV 3 C.1.2.2.2.2 gL_law_X9_cellOf rfl rfl rfl (by decide +kernel) ⟨Nat.le_of_ble_eq_true rfl, Nat.le_of_ble_eq_true rfl⟩) rfl rfl rfl (Nat.le_of_ble_eq_true rfl) dL_law_579 ⟨Nat.le_refl _, Nat.le_refl _⟩ (fun x_4 M_5 h_6 => ?_)
  refine vv_icmp_eq C 876 dL_law_582 (by decide) (fun h_eq => ?_) (fun h_ne => ?_)
  · exact hk _ (lw_step2 hI (op_cellOf_ok hI.1 (xs (i + 1)) (xs (i + 2)) (xs (i + 3))) (op_cellOf_ok hI.2.1 (xs (i + 1)) (xs (i + 2)) (xs (i + 3))) (lv_cellOf hI.2.2.2 hI.1 hI.2.1 (xs (i + 1)) (xs (i + 2)) (xs (i + 3))) h_3.2 h_6.2.1 h_6.2.2)
  · refine vv_iconst (v := 0) C dL_law_585 (by decide) ?_
    exact absurd (h_3.1.trans ((lv_cellOf hI.2.2.2 hI.1 hI.2.1 (xs (i + 1)) (xs (i + 2)) (xs (i + 3))).1.symm.trans h_6.1.symm)) h_ne
set_option maxRecDepth 100000 in
set_option maxHeartbeats 4000000 in
theorem lc_many {p : Program} {l : Launch} {e : Env} {s : State} {m : MethodId} {args : Array Value} {below : List Frame} {meth : Method} {c : Code} {G : mw_GG} {Q : State → Prop} (C : vv_C p s m args c G code 4 wsL_law RL) {b L : Nat} {xs : Nat → Int32} (hX : va_X b L xs s s.heap) (hbl : b < s.heap.size) (hbA : ¬ mw_A G b) (hL : L ≤ 3072) {i : Nat} (hi6 : i + 6 ≤ L) {M : mw_M} (hJ : lwJ M) (hk : ∀ M3, lwJ M3 → vv p l e room_1 s m args below meth c G 600000 7302250 Q M3 876 [some (.ref b), some (.ref (G.1 144)), some (.ref (G.1 145)), some (.int (nI i))] []) : vv p l e room_1 s m args below meth c G 600000 7302250 Q M 587 [some (.ref b), some (.ref (G.1 144)), some (.ref (G.1 145)), some (.int (nI i))] [] := by
  obtain ⟨V, hI⟩ := hJ
  refine vv_aload_n C 1 dL_law_587 rfl rfl ?_
  refine vv_callVIP C [] (c_X8_many M hI.1.1 hI.1.2.1 hI.1.2.2.1 ) sh_144 rfl (cwV 0 C.1.2.2.2.2 gL_law_X8_many rfl rfl rfl (by decide +kernel) ⟨Nat.le_of_ble_eq_true rfl, Nat.le_of_ble_eq_true rfl⟩) rfl rfl rfl (Nat.le_of_ble_eq_true rfl) dL_law_588 ⟨Nat.le_refl _, Nat.le_refl _⟩ (fun x_1 M_2 h_3 => ?_)
  refine vv_aload_n C 2 dL_law_591 rfl rfl ?_
  refine vv_callVIP C [] (c_X9_many M_2 V (lw_mid2 hI (op_many_ok hI.1 ) h_3.2) hI.2.1.1 hI.2.1.2.1 hI.2.1.2.2.1 ) sh_145 rfl (cwV 0 C.1.2.2.2.2 gL_law_X9_many rfl rfl rfl (by decide +kernel) ⟨Nat.le_of_ble_eq_true rfl, Nat.le_of_ble_eq_true rfl⟩) rfl rfl rfl (Nat.le_of_ble_eq_true rfl) dL_law_592 ⟨Nat.le_refl _, Nat.le_refl _⟩ (fun x_4 M_5 h_6 => ?_)
  refine vv_icmp_eq C 876 dL_law_595 (by decide) (fun h_eq => ?_) (fun h_ne => ?_)
  · exact hk _ (lw_step2 hI (op_many_ok hI.1 ) (op_many_ok hI.2.1 ) (lv_many hI.2.2.2 hI.1 hI.2.1 ) h_3.2 h_6.2.1 h_6.2.2)
  · refine vv_iconst (v := 0) C dL_law_598 (by decide) ?_
    exact absurd (h_3.1.trans ((lv_many hI.2.2.2 hI.1 hI.2.1 ).1.symm.trans h_6.1.symm)) h_ne
set_option maxRecDepth 100000 in
set_option maxHeartbeats 4000000 in
theorem lc_row {p : Program} {l : Launch} {e : Env} {s : State} {m : MethodId} {args : Array Value} {below : List Frame} {meth : Method} {c : Code} {G : mw_GG} {Q : State → Prop} (C : vv_C p s m args c G code 4 wsL_law RL) {b L : Nat} {xs : Nat → Int32} (hX : va_X b L xs s s.heap) (hbl : b < s.heap.size) (hbA : ¬ mw_A G b) (hL : L ≤ 3072) {i : Nat} (hi6 : i + 6 ≤ L) {M : mw_M} (hJ : lwJ M) (hk : ∀ M3, lwJ M3 → vv p l e room_1 s m args below meth c G 600000 7302250 Q M3 876 [some (.ref b), some (.ref (G.1 144)), some (.ref (G.1 145)), some (.int (nI i))] []) : vv p l e room_1 s m args below meth c G 600000 7302250 Q M 600 [some (.ref b), some (.ref (G.1 144)), some (.ref (G.1 145)), some (.int (nI i))] [] := by
  obtain ⟨V, hI⟩ := hJ
  refine vv_aload_n C 1 dL_law_600 rfl rfl ?_
  refine vv_aload_n C 0 dL_law_601 rfl rfl ?_
  refine vv_iload_n C 3 dL_law_602 rfl rfl ?_
  refine vv_iconst (v := 1) C dL_law_603 (by decide) ?_
  refine vv_iadd C dL_law_604 ?_
  refine vv_top (y := nI (i + 1)) (nI_add i 1) ?_
  refine vv_sld C hX hbl hbA (j := (i + 1)) rfl (by omega) hL dL_law_605 ?_
  refine vv_aload_n C 0 dL_law_606 rfl rfl ?_
  refine vv_iload_n C 3 dL_law_607 rfl rfl ?_
  refine vv_iconst (v := 2) C dL_law_608 (by decide) ?_
  refine vv_iadd C dL_law_609 ?_
  refine vv_top (y := nI (i + 2)) (nI_add i 2) ?_
  refine vv_sld C hX hbl hbA (j := (i + 2)) rfl (by omega) hL dL_law_610 ?_
  refine vv_callVIP C [.int (xs (i + 1)), .int (xs (i + 2))] (c_X8_row M hI.1.1 hI.1.2.1 hI.1.2.2.1 (xs (i + 1)) (xs (i + 2))) sh_144 rfl (cwV 2 C.1.2.2.2.2 gL_law_X8_row rfl rfl rfl (by decide +kernel) ⟨Nat.le_of_ble_eq_true rfl, Nat.le_of_ble_eq_true rfl⟩) rfl rfl rfl (Nat.le_of_ble_eq_true rfl) dL_law_611 ⟨Nat.le_refl _, Nat.le_refl _⟩ (fun x_1 M_2 h_3 => ?_)
  refine vv_aload_n C 2 dL_law_614 rfl rfl ?_
  refine vv_aload_n C 0 dL_law_615 rfl rfl ?_
  refine vv_iload_n C 3 dL_law_616 rfl rfl ?_
  refine vv_iconst (v := 1) C dL_law_617 (by decide) ?_
  refine vv_iadd C dL_law_618 ?_
  refine vv_top (y := nI (i + 1)) (nI_add i 1) ?_
  refine vv_sld C hX hbl hbA (j := (i + 1)) rfl (by omega) hL dL_law_619 ?_
  refine vv_aload_n C 0 dL_law_620 rfl rfl ?_
  refine vv_iload_n C 3 dL_law_621 rfl rfl ?_
  refine vv_iconst (v := 2) C dL_law_622 (by decide) ?_
  refine vv_iadd C dL_law_623 ?_
  refine vv_top (y := nI (i + 2)) (nI_add i 2) ?_
  refine vv_sld C hX hbl hbA (j := (i + 2)) rfl (by omega) hL dL_law_624 ?_
  refine vv_callVIP C [.int (xs (i + 1)), .int (xs (i + 2))] (c_X9_row M_2 V (lw_mid2 hI (op_row_ok2 hI.1 (xs (i + 1)) (xs (i + 2))) h_3.2) hI.2.1.1 hI.2.1.2.1 hI.2.1.2.2.1 (xs (i + 1)) (xs (i + 2))) sh_145 rfl (cwV 2 C.1.2.2.2.2 gL_law_X9_row rfl rfl rfl (by decide +kernel) ⟨Nat.le_of_ble_eq_true rfl, Nat.le_of_ble_eq_true rfl⟩) rfl rfl rfl (Nat.le_of_ble_eq_true rfl) dL_law_625 ⟨Nat.le_refl _, Nat.le_refl _⟩ (fun x_4 M_5 h_6 => ?_)
  refine vv_icmp_eq C 876 dL_law_628 (by decide) (fun h_eq => ?_) (fun h_ne => ?_)
  · exact hk _ (lw_step2 hI (op_row_ok2 hI.1 (xs (i + 1)) (xs (i + 2))) (op_row_ok2 hI.2.1 (xs (i + 1)) (xs (i + 2))) (lv_row hI.2.2.2 hI.1 hI.2.1 (xs (i + 1)) (xs (i + 2))) h_3.2 h_6.2.1 h_6.2.2)
  · refine vv_iconst (v := 0) C dL_law_631 (by decide) ?_
    exact absurd (h_3.1.trans ((lv_row hI.2.2.2 hI.1 hI.2.1 (xs (i + 1)) (xs (i + 2))).1.symm.trans h_6.1.symm)) h_ne
set_option maxRecDepth 100000 in
set_option maxHeartbeats 4000000 in
theorem lc_total {p : Program} {l : Launch} {e : Env} {s : State} {m : MethodId} {args : Array Value} {below : List Frame} {meth : Method} {c : Code} {G : mw_GG} {Q : State → Prop} (C : vv_C p s m args c G code 4 wsL_law RL) {b L : Nat} {xs : Nat → Int32} (hX : va_X b L xs s s.heap) (hbl : b < s.heap.size) (hbA : ¬ mw_A G b) (hL : L ≤ 3072) {i : Nat} (hi6 : i + 6 ≤ L) {M : mw_M} (hJ : lwJ M) (hk : ∀ M3, lwJ M3 → vv p l e room_1 s m args below meth c G 600000 7302250 Q M3 876 [some (.ref b), some (.ref (G.1 144)), some (.ref (G.1 145)), some (.int (nI i))] []) : vv p l e room_1 s m args below meth c G 600000 7302250 Q M 633 [some (.ref b), some (.ref (G.1 144)), some (.ref (G.1 145)), some (.int (nI i))] [] := by
  obtain ⟨V, hI⟩ := hJ
  refine vv_aload_n C 1 dL_law_633 rfl rfl ?_
  refine vv_aload_n C 0 dL_law_634 rfl rfl ?_
  refine vv_iload_n C 3 dL_law_635 rfl rfl ?_
  refine vv_iconst (v := 1) C dL_law_636 (by decide) ?_
  refine vv_iadd C dL_law_637 ?_
  refine vv_top (y := nI (i + 1)) (nI_add i 1) ?_
  refine vv_sld C hX hbl hbA (j := (i + 1)) rfl (by omega) hL dL_law_638 ?_
  refine vv_aload_n C 0 dL_law_639 rfl rfl ?_
  refine vv_iload_n C 3 dL_law_640 rfl rfl ?_
  refine vv_iconst (v := 2) C dL_law_641 (by decide) ?_
  refine vv_iadd C dL_law_642 ?_
  refine vv_top (y := nI (i + 2)) (nI_add i 2) ?_
  refine vv_sld C hX hbl hbA (j := (i + 2)) rfl (by omega) hL dL_law_643 ?_
  refine vv_callVIP C [.int (xs (i + 1)), .int (xs (i + 2))] (c_X8_total M hI.1.1 hI.1.2.1 hI.1.2.2.1 (xs (i + 1)) (xs (i + 2))) sh_144 rfl (cwV 2 C.1.2.2.2.2 gL_law_X8_total rfl rfl rfl (by decide +kernel) ⟨Nat.le_of_ble_eq_true rfl, Nat.le_of_ble_eq_true rfl⟩) rfl rfl rfl (Nat.le_of_ble_eq_true rfl) dL_law_644 ⟨Nat.le_refl _, Nat.le_refl _⟩ (fun x_1 M_2 h_3 => ?_)
  refine vv_aload_n C 2 dL_law_647 rfl rfl ?_
  refine vv_aload_n C 0 dL_law_648 rfl rfl ?_
  refine vv_iload_n C 3 dL_law_649 rfl rfl ?_
  refine vv_iconst (v := 1) C dL_law_650 (by decide) ?_
  refine vv_iadd C dL_law_651 ?_
  refine vv_top (y := nI (i + 1)) (nI_add i 1) ?_
  refine vv_sld C hX hbl hbA (j := (i + 1)) rfl (by omega) hL dL_law_652 ?_
  refine vv_aload_n C 0 dL_law_653 rfl rfl ?_
  refine vv_iload_n C 3 dL_law_654 rfl rfl ?_
  refine vv_iconst (v := 2) C dL_law_655 (by decide) ?_
  refine vv_iadd C dL_law_656 ?_
  refine vv_top (y := nI (i + 2)) (nI_add i 2) ?_
  refine vv_sld C hX hbl hbA (j := (i + 2)) rfl (by omega) hL dL_law_657 ?_
  refine vv_callVIP C [.int (xs (i + 1)), .int (xs (i + 2))] (c_X9_total M_2 V (lw_mid2 hI (op_total_ok hI.1 (xs (i + 1)) (xs (i + 2))) h_3.2) hI.2.1.1 hI.2.1.2.1 hI.2.1.2.2.1 (xs (i + 1)) (xs (i + 2))) sh_145 rfl (cwV 2 C.1.2.2.2.2 gL_law_X9_total rfl rfl rfl (by decide +kernel) ⟨Nat.le_of_ble_eq_true rfl, Nat.le_of_ble_eq_true rfl⟩) rfl rfl rfl (Nat.le_of_ble_eq_true rfl) dL_law_658 ⟨Nat.le_refl _, Nat.le_refl _⟩ (fun x_4 M_5 h_6 => ?_)
  refine vv_icmp_eq C 876 dL_law_661 (by decide) (fun h_eq => ?_) (fun h_ne => ?_)
  · exact hk _ (lw_step2 hI (op_total_ok hI.1 (xs (i + 1)) (xs (i + 2))) (op_total_ok hI.2.1 (xs (i + 1)) (xs (i + 2))) (lv_total hI.2.2.2 hI.1 hI.2.1 (xs (i + 1)) (xs (i + 2))) h_3.2 h_6.2.1 h_6.2.2)
  · refine vv_iconst (v := 0) C dL_law_664 (by decide) ?_
    exact absurd (h_3.1.trans ((lv_total hI.2.2.2 hI.1 hI.2.1 (xs (i + 1)) (xs (i + 2))).1.symm.trans h_6.1.symm)) h_ne
set_option maxRecDepth 100000 in
set_option maxHeartbeats 4000000 in
theorem lc_unlike {p : Program} {l : Launch} {e : Env} {s : State} {m : MethodId} {args : Array Value} {below : List Frame} {meth : Method} {c : Code} {G : mw_GG} {Q : State → Prop} (C : vv_C p s m args c G code 4 wsL_law RL) {b L : Nat} {xs : Nat → Int32} (hX : va_X b L xs s s.heap) (hbl : b < s.heap.size) (hbA : ¬ mw_A G b) (hL : L ≤ 3072) {i : Nat} (hi6 : i + 6 ≤ L) {M : mw_M} (hJ : lwJ M) (hk : ∀ M3, lwJ M3 → vv p l e room_1 s m args below meth c G 600000 7302250 Q M3 876 [some (.ref b), some (.ref (G.1 144)), some (.ref (G.1 145)), some (.int (nI i))] []) : vv p l e room_1 s m args below meth c G 600000 7302250 Q M 666 [some (.ref b), some (.ref (G.1 144)), some (.ref (G.1 145)), some (.int (nI i))] [] := by
  obtain ⟨V, hI⟩ := hJ
  refine vv_aload_n C 1 dL_law_666 rfl rfl ?_
  refine vv_callVIP C [] (c_X8_unlike M hI.1.1 hI.1.2.1 hI.1.2.2.1 ) sh_144 rfl (cwV 0 C.1.2.2.2.2 gL_law_X8_unlike rfl rfl rfl (by decide +kernel) ⟨Nat.le_of_ble_eq_true rfl, Nat.le_of_ble_eq_true rfl⟩) rfl rfl rfl (Nat.le_of_ble_eq_true rfl) dL_law_667 ⟨Nat.le_refl _, Nat.le_refl _⟩ (fun x_1 M_2 h_3 => ?_)
  refine vv_aload_n C 2 dL_law_670 rfl rfl ?_
  refine vv_callVIP C [] (c_X9_unlike M_2 V (lw_mid2 hI (op_unlike_ok hI.1 ) h_3.2) hI.2.1.1 hI.2.1.2.1 hI.2.1.2.2.1 ) sh_145 rfl (cwV 0 C.1.2.2.2.2 gL_law_X9_unlike rfl rfl rfl (by decide +kernel) ⟨Nat.le_of_ble_eq_true rfl, Nat.le_of_ble_eq_true rfl⟩) rfl rfl rfl (Nat.le_of_ble_eq_true rfl) dL_law_671 ⟨Nat.le_refl _, Nat.le_refl _⟩ (fun x_4 M_5 h_6 => ?_)
  refine vv_icmp_eq C 876 dL_law_674 (by decide) (fun h_eq => ?_) (fun h_ne => ?_)
  · exact hk _ (lw_step2 hI (op_unlike_ok hI.1 ) (op_unlike_ok hI.2.1 ) (lv_unlike hI.2.2.2 hI.1 hI.2.1 ) h_3.2 h_6.2.1 h_6.2.2)
  · refine vv_iconst (v := 0) C dL_law_677 (by decide) ?_
    exact absurd (h_3.1.trans ((lv_unlike hI.2.2.2 hI.1 hI.2.1 ).1.symm.trans h_6.1.symm)) h_ne
set_option maxRecDepth 100000 in
set_option maxHeartbeats 4000000 in
theorem lc_cards {p : Program} {l : Launch} {e : Env} {s : State} {m : MethodId} {args : Array Value} {below : List Frame} {meth : Method} {c : Code} {G : mw_GG} {Q : State → Prop} (C : vv_C p s m args c G code 4 wsL_law RL) {b L : Nat} {xs : Nat → Int32} (hX : va_X b L xs s s.heap) (hbl : b < s.heap.size) (hbA : ¬ mw_A G b) (hL : L ≤ 3072) {i : Nat} (hi6 : i + 6 ≤ L) {M : mw_M} (hJ : lwJ M) (hk : ∀ M3, lwJ M3 → vv p l e room_1 s m args below meth c G 600000 7302250 Q M3 876 [some (.ref b), some (.ref (G.1 144)), some (.ref (G.1 145)), some (.int (nI i))] []) : vv p l e room_1 s m args below meth c G 600000 7302250 Q M 679 [some (.ref b), some (.ref (G.1 144)), some (.ref (G.1 145)), some (.int (nI i))] [] := by
  obtain ⟨V, hI⟩ := hJ
  refine vv_aload_n C 1 dL_law_679 rfl rfl ?_
  refine vv_aload_n C 0 dL_law_680 rfl rfl ?_
  refine vv_iload_n C 3 dL_law_681 rfl rfl ?_
  refine vv_iconst (v := 1) C dL_law_682 (by decide) ?_
  refine vv_iadd C dL_law_683 ?_
  refine vv_top (y := nI (i + 1)) (nI_add i 1) ?_
  refine vv_sld C hX hbl hbA (j := (i + 1)) rfl (by omega) hL dL_law_684 ?_
  refine vv_callVIP C [.int (xs (i + 1))] (c_X8_cards M hI.1.1 hI.1.2.1 hI.1.2.2.1 (xs (i + 1))) sh_144 rfl (cwV 1 C.1.2.2.2.2 gL_law_X8_cards rfl rfl rfl (by decide +kernel) ⟨Nat.le_of_ble_eq_true rfl, Nat.le_of_ble_eq_true rfl⟩) rfl rfl rfl (Nat.le_of_ble_eq_true rfl) dL_law_685 ⟨Nat.le_refl _, Nat.le_refl _⟩ (fun x_1 M_2 h_3 => ?_)
  refine vv_aload_n C 2 dL_law_688 rfl rfl ?_
  refine vv_aload_n C 0 dL_law_689 rfl rfl ?_
  refine vv_iload_n C 3 dL_law_690 rfl rfl ?_
  refine vv_iconst (v := 1) C dL_law_691 (by decide) ?_
  refine vv_iadd C dL_law_692 ?_
  refine vv_top (y := nI (i + 1)) (nI_add i 1) ?_
  refine vv_sld C hX hbl hbA (j := (i + 1)) rfl (by omega) hL dL_law_693 ?_
  refine vv_callVIP C [.int (xs (i + 1))] (c_X9_cards M_2 V (lw_mid2 hI (op_cards_ok hI.1 (xs (i + 1))) h_3.2) hI.2.1.1 hI.2.1.2.1 hI.2.1.2.2.1 (xs (i + 1))) sh_145 rfl (cwV 1 C.1.2.2.2.2 gL_law_X9_cards rfl rfl rfl (by decide +kernel) ⟨Nat.le_of_ble_eq_true rfl, Nat.le_of_ble_eq_true rfl⟩) rfl rfl rfl (Nat.le_of_ble_eq_true rfl) dL_law_694 ⟨Nat.le_refl _, Nat.le_refl _⟩ (fun x_4 M_5 h_6 => ?_)
  refine vv_icmp_eq C 876 dL_law_697 (by decide) (fun h_eq => ?_) (fun h_ne => ?_)
  · exact hk _ (lw_step2 hI (op_cards_ok hI.1 (xs (i + 1))) (op_cards_ok hI.2.1 (xs (i + 1))) (lv_cards hI.2.2.2 hI.1 hI.2.1 (xs (i + 1))) h_3.2 h_6.2.1 h_6.2.2)
  · refine vv_iconst (v := 0) C dL_law_700 (by decide) ?_
    exact absurd (h_3.1.trans ((lv_cards hI.2.2.2 hI.1 hI.2.1 (xs (i + 1))).1.symm.trans h_6.1.symm)) h_ne
set_option maxRecDepth 100000 in
set_option maxHeartbeats 4000000 in
theorem lc_why {p : Program} {l : Launch} {e : Env} {s : State} {m : MethodId} {args : Array Value} {below : List Frame} {meth : Method} {c : Code} {G : mw_GG} {Q : State → Prop} (C : vv_C p s m args c G code 4 wsL_law RL) {b L : Nat} {xs : Nat → Int32} (hX : va_X b L xs s s.heap) (hbl : b < s.heap.size) (hbA : ¬ mw_A G b) (hL : L ≤ 3072) {i : Nat} (hi6 : i + 6 ≤ L) {M : mw_M} (hJ : lwJ M) (hk : ∀ M3, lwJ M3 → vv p l e room_1 s m args below meth c G 600000 7302250 Q M3 876 [some (.ref b), some (.ref (G.1 144)), some (.ref (G.1 145)), some (.int (nI i))] []) : vv p l e room_1 s m args below meth c G 600000 7302250 Q M 702 [some (.ref b), some (.ref (G.1 144)), some (.ref (G.1 145)), some (.int (nI i))] [] := by
  obtain ⟨V, hI⟩ := hJ
  refine vv_aload_n C 1 dL_law_702 rfl rfl ?_
  refine vv_aload_n C 0 dL_law_703 rfl rfl ?_
  refine vv_iload_n C 3 dL_law_704 rfl rfl ?_
  refine vv_iconst (v := 1) C dL_law_705 (by decide) ?_
  refine vv_iadd C dL_law_706 ?_
  refine vv_top (y := nI (i + 1)) (nI_add i 1) ?_
  refine vv_sld C hX hbl hbA (j := (i + 1)) rfl (by omega) hL dL_law_707 ?_
  refine vv_aload_n C 0 dL_law_708 rfl rfl ?_
  refine vv_iload_n C 3 dL_law_709 rfl rfl ?_
  refine vv_iconst (v := 2) C dL_law_710 (by decide) ?_
  refine vv_iadd C dL_law_711 ?_
  refine vv_top (y := nI (i + 2)) (nI_add i 2) ?_
  refine vv_sld C hX hbl hbA (j := (i + 2)) rfl (by omega) hL dL_law_712 ?_
  refine vv_callVIP C [.int (xs (i + 1)), .int (xs (i + 2))] (c_X8_why M hI.1.1 hI.1.2.1 hI.1.2.2.1 (xs (i + 1)) (xs (i + 2))) sh_144 rfl (cwV 2 C.1.2.2.2.2 gL_law_X8_why rfl rfl rfl (by decide +kernel) ⟨Nat.le_of_ble_eq_true rfl, Nat.le_of_ble_eq_true rfl⟩) rfl rfl rfl (Nat.le_of_ble_eq_true rfl) dL_law_713 ⟨Nat.le_refl _, Nat.le_refl _⟩ (fun x_1 M_2 h_3 => ?_)
  refine vv_aload_n C 2 dL_law_716 rfl rfl ?_
  refine vv_aload_n C 0 dL_law_717 rfl rfl ?_
  refine vv_iload_n C 3 dL_law_718 rfl rfl ?_
  refine vv_iconst (v := 1) C dL_law_719 (by decide) ?_
  refine vv_iadd C dL_law_720 ?_
  refine vv_top (y := nI (i + 1)) (nI_add i 1) ?_
  refine vv_sld C hX hbl hbA (j := (i + 1)) rfl (by omega) hL dL_law_721 ?_
  refine vv_aload_n C 0 dL_law_722 rfl rfl ?_
  refine vv_iload_n C 3 dL_law_723 rfl rfl ?_
  refine vv_iconst (v := 2) C dL_law_724 (by decide) ?_
  refine vv_iadd C dL_law_725 ?_
  refine vv_top (y := nI (i + 2)) (nI_add i 2) ?_
  refine vv_sld C hX hbl hbA (j := (i + 2)) rfl (by omega) hL dL_law_726 ?_
  refine vv_callVIP C [.int (xs (i + 1)), .int (xs (i + 2))] (c_X9_why M_2 V (lw_mid2 hI (op_why_ok hI.1 (xs (i + 1)) (xs (i + 2))) h_3.2) hI.2.1.1 hI.2.1.2.1 hI.2.1.2.2.1 (xs (i + 1)) (xs (i + 2))) sh_145 rfl (cwV 2 C.1.2.2.2.2 gL_law_X9_why rfl rfl rfl (by decide +kernel) ⟨Nat.le_of_ble_eq_true rfl, Nat.le_of_ble_eq_true rfl⟩) rfl rfl rfl (Nat.le_of_ble_eq_true rfl) dL_law_727 ⟨Nat.le_refl _, Nat.le_refl _⟩ (fun x_4 M_5 h_6 => ?_)
  refine vv_icmp_eq C 876 dL_law_730 (by decide) (fun h_eq => ?_) (fun h_ne => ?_)
  · exact hk _ (lw_step2 hI (op_why_ok hI.1 (xs (i + 1)) (xs (i + 2))) (op_why_ok hI.2.1 (xs (i + 1)) (xs (i + 2))) (lv_why hI.2.2.2 hI.1 hI.2.1 (xs (i + 1)) (xs (i + 2))) h_3.2 h_6.2.1 h_6.2.2)
  · refine vv_iconst (v := 0) C dL_law_733 (by decide) ?_
    exact absurd (h_3.1.trans ((lv_why hI.2.2.2 hI.1 hI.2.1 (xs (i + 1)) (xs (i + 2))).1.symm.trans h_6.1.symm)) h_ne
set_option maxRecDepth 100000 in
set_option maxHeartbeats 4000000 in
theorem lc_tightest {p : Program} {l : Launch} {e : Env} {s : State} {m : MethodId} {args : Array Value} {below : List Frame} {meth : Method} {c : Code} {G : mw_GG} {Q : State → Prop} (C : vv_C p s m args c G code 4 wsL_law RL) {b L : Nat} {xs : Nat → Int32} (hX : va_X b L xs s s.heap) (hbl : b < s.heap.size) (hbA : ¬ mw_A G b) (hL : L ≤ 3072) {i : Nat} (hi6 : i + 6 ≤ L) {M : mw_M} (hJ : lwJ M) (hk : ∀ M3, lwJ M3 → vv p l e room_1 s m args below meth c G 600000 7302250 Q M3 876 [some (.ref b), some (.ref (G.1 144)), some (.ref (G.1 145)), some (.int (nI i))] []) : vv p l e room_1 s m args below meth c G 600000 7302250 Q M 735 [some (.ref b), some (.ref (G.1 144)), some (.ref (G.1 145)), some (.int (nI i))] [] := by
  obtain ⟨V, hI⟩ := hJ
  refine vv_aload_n C 1 dL_law_735 rfl rfl ?_
  refine vv_aload_n C 0 dL_law_736 rfl rfl ?_
  refine vv_iload_n C 3 dL_law_737 rfl rfl ?_
  refine vv_iconst (v := 1) C dL_law_738 (by decide) ?_
  refine vv_iadd C dL_law_739 ?_
  refine vv_top (y := nI (i + 1)) (nI_add i 1) ?_
  refine vv_sld C hX hbl hbA (j := (i + 1)) rfl (by omega) hL dL_law_740 ?_
  refine vv_callVIP C [.int (xs (i + 1))] (c_X8_tightest M hI.1.1 hI.1.2.1 hI.1.2.2.1 (xs (i + 1))) sh_144 rfl (cwV 1 C.1.2.2.2.2 gL_law_X8_tightest rfl rfl rfl (by decide +kernel) ⟨Nat.le_of_ble_eq_true rfl, Nat.le_of_ble_eq_true rfl⟩) rfl rfl rfl (Nat.le_of_ble_eq_true rfl) dL_law_741 ⟨Nat.le_refl _, Nat.le_refl _⟩ (fun x_1 M_2 h_3 => ?_)
  refine vv_aload_n C 2 dL_law_744 rfl rfl ?_
  refine vv_aload_n C 0 dL_law_745 rfl rfl ?_
  refine vv_iload_n C 3 dL_law_746 rfl rfl ?_
  refine vv_iconst (v := 1) C dL_law_747 (by decide) ?_
  refine vv_iadd C dL_law_748 ?_
  refine vv_top (y := nI (i + 1)) (nI_add i 1) ?_
  refine vv_sld C hX hbl hbA (j := (i + 1)) rfl (by omega) hL dL_law_749 ?_
  refine vv_callVIP C [.int (xs (i + 1))] (c_X9_tightest M_2 V (lw_mid2 hI (op_tightest_ok hI.1 (xs (i + 1))) h_3.2) hI.2.1.1 hI.2.1.2.1 hI.2.1.2.2.1 (xs (i + 1))) sh_145 rfl (cwV 1 C.1.2.2.2.2 gL_law_X9_tightest rfl rfl rfl (by decide +kernel) ⟨Nat.le_of_ble_eq_true rfl, Nat.le_of_ble_eq_true rfl⟩) rfl rfl rfl (Nat.le_of_ble_eq_true rfl) dL_law_750 ⟨Nat.le_refl _, Nat.le_refl _⟩ (fun x_4 M_5 h_6 => ?_)
  refine vv_icmp_eq C 876 dL_law_753 (by decide) (fun h_eq => ?_) (fun h_ne => ?_)
  · exact hk _ (lw_step2 hI (op_tightest_ok hI.1 (xs (i + 1))) (op_tightest_ok hI.2.1 (xs (i + 1))) (lv_tightest hI.2.2.2 hI.1 hI.2.1 (xs (i + 1))) h_3.2 h_6.2.1 h_6.2.2)
  · refine vv_iconst (v := 0) C dL_law_756 (by decide) ?_
    exact absurd (h_3.1.trans ((lv_tightest hI.2.2.2 hI.1 hI.2.1 (xs (i + 1))).1.symm.trans h_6.1.symm)) h_ne
set_option maxRecDepth 100000 in
set_option maxHeartbeats 4000000 in
theorem lc_count {p : Program} {l : Launch} {e : Env} {s : State} {m : MethodId} {args : Array Value} {below : List Frame} {meth : Method} {c : Code} {G : mw_GG} {Q : State → Prop} (C : vv_C p s m args c G code 4 wsL_law RL) {b L : Nat} {xs : Nat → Int32} (hX : va_X b L xs s s.heap) (hbl : b < s.heap.size) (hbA : ¬ mw_A G b) (hL : L ≤ 3072) {i : Nat} (hi6 : i + 6 ≤ L) {M : mw_M} (hJ : lwJ M) (hk : ∀ M3, lwJ M3 → vv p l e room_1 s m args below meth c G 600000 7302250 Q M3 876 [some (.ref b), some (.ref (G.1 144)), some (.ref (G.1 145)), some (.int (nI i))] []) : vv p l e room_1 s m args below meth c G 600000 7302250 Q M 758 [some (.ref b), some (.ref (G.1 144)), some (.ref (G.1 145)), some (.int (nI i))] [] := by
  obtain ⟨V, hI⟩ := hJ
  refine vv_aload_n C 1 dL_law_758 rfl rfl ?_
  refine vv_aload_n C 0 dL_law_759 rfl rfl ?_
  refine vv_iload_n C 3 dL_law_760 rfl rfl ?_
  refine vv_iconst (v := 1) C dL_law_761 (by decide) ?_
  refine vv_iadd C dL_law_762 ?_
  refine vv_top (y := nI (i + 1)) (nI_add i 1) ?_
  refine vv_sld C hX hbl hbA (j := (i + 1)) rfl (by omega) hL dL_law_763 ?_
  refine vv_callVIP C [.int (xs (i + 1))] (c_X8_count M hI.1.1 hI.1.2.1 hI.1.2.2.1 (xs (i + 1))) sh_144 rfl (cwV 1 C.1.2.2.2.2 gL_law_X8_count rfl rfl rfl (by decide +kernel) ⟨Nat.le_of_ble_eq_true rfl, Nat.le_of_ble_eq_true rfl⟩) rfl rfl rfl (Nat.le_of_ble_eq_true rfl) dL_law_764 ⟨Nat.le_refl _, Nat.le_refl _⟩ (fun x_1 M_2 h_3 => ?_)
  refine vv_aload_n C 2 dL_law_767 rfl rfl ?_
  refine vv_aload_n C 0 dL_law_768 rfl rfl ?_
  refine vv_iload_n C 3 dL_law_769 rfl rfl ?_
  refine vv_iconst (v := 1) C dL_law_770 (by decide) ?_
  refine vv_iadd C dL_law_771 ?_
  refine vv_top (y := nI (i + 1)) (nI_add i 1) ?_
  refine vv_sld C hX hbl hbA (j := (i + 1)) rfl (by omega) hL dL_law_772 ?_
  refine vv_callVIP C [.int (xs (i + 1))] (c_X9_count M_2 V (lw_mid2 hI (op_count_ok hI.1 (xs (i + 1))) h_3.2) hI.2.1.1 hI.2.1.2.1 hI.2.1.2.2.1 (xs (i + 1))) sh_145 rfl (cwV 1 C.1.2.2.2.2 gL_law_X9_count rfl rfl rfl (by decide +kernel) ⟨Nat.le_of_ble_eq_true rfl, Nat.le_of_ble_eq_true rfl⟩) rfl rfl rfl (Nat.le_of_ble_eq_true rfl) dL_law_773 ⟨Nat.le_refl _, Nat.le_refl _⟩ (fun x_4 M_5 h_6 => ?_)
  refine vv_icmp_eq C 876 dL_law_776 (by decide) (fun h_eq => ?_) (fun h_ne => ?_)
  · exact hk _ (lw_step2 hI (op_count_ok hI.1 (xs (i + 1))) (op_count_ok hI.2.1 (xs (i + 1))) (lv_count hI.2.2.2 hI.1 hI.2.1 (xs (i + 1))) h_3.2 h_6.2.1 h_6.2.2)
  · refine vv_iconst (v := 0) C dL_law_779 (by decide) ?_
    exact absurd (h_3.1.trans ((lv_count hI.2.2.2 hI.1 hI.2.1 (xs (i + 1))).1.symm.trans h_6.1.symm)) h_ne
set_option maxRecDepth 100000 in
set_option maxHeartbeats 4000000 in
theorem lc_undo {p : Program} {l : Launch} {e : Env} {s : State} {m : MethodId} {args : Array Value} {below : List Frame} {meth : Method} {c : Code} {G : mw_GG} {Q : State → Prop} (C : vv_C p s m args c G code 4 wsL_law RL) {b L : Nat} {xs : Nat → Int32} (hX : va_X b L xs s s.heap) (hbl : b < s.heap.size) (hbA : ¬ mw_A G b) (hL : L ≤ 3072) {i : Nat} (hi6 : i + 6 ≤ L) {M : mw_M} (hJ : lwJ M) (hk : ∀ M3, lwJ M3 → vv p l e room_1 s m args below meth c G 600000 7302250 Q M3 876 [some (.ref b), some (.ref (G.1 144)), some (.ref (G.1 145)), some (.int (nI i))] []) : vv p l e room_1 s m args below meth c G 600000 7302250 Q M 781 [some (.ref b), some (.ref (G.1 144)), some (.ref (G.1 145)), some (.int (nI i))] [] := by
  obtain ⟨V, hI⟩ := hJ
  refine vv_aload_n C 1 dL_law_781 rfl rfl ?_
  refine vv_callVIP C [] (c_X8_undo M hI.1.1 hI.1.2.1 hI.1.2.2.1 ) sh_144 rfl (cwV 0 C.1.2.2.2.2 gL_law_X8_undo rfl rfl rfl (by decide +kernel) ⟨Nat.le_of_ble_eq_true rfl, Nat.le_of_ble_eq_true rfl⟩) rfl rfl rfl (Nat.le_of_ble_eq_true rfl) dL_law_782 ⟨Nat.le_refl _, Nat.le_refl _⟩ (fun x_1 M_2 h_3 => ?_)
  refine vv_aload_n C 2 dL_law_785 rfl rfl ?_
  refine vv_callVIP C [] (c_X9_undo M_2 V (lw_mid2 hI (op_undo_ok hI.1 ) h_3.2) hI.2.1.1 hI.2.1.2.1 hI.2.1.2.2.1 ) sh_145 rfl (cwV 0 C.1.2.2.2.2 gL_law_X9_undo rfl rfl rfl (by decide +kernel) ⟨Nat.le_of_ble_eq_true rfl, Nat.le_of_ble_eq_true rfl⟩) rfl rfl rfl (Nat.le_of_ble_eq_true rfl) dL_law_786 ⟨Nat.le_refl _, Nat.le_refl _⟩ (fun x_4 M_5 h_6 => ?_)
  refine vv_icmp_eq C 876 dL_law_789 (by decide) (fun h_eq => ?_) (fun h_ne => ?_)
  · exact hk _ (lw_step2 hI (op_undo_ok hI.1 ) (op_undo_ok hI.2.1 ) (lv_undo hI.2.2.2 hI.1 hI.2.1 ) h_3.2 h_6.2.1 h_6.2.2)
  · refine vv_iconst (v := 0) C dL_law_792 (by decide) ?_
    exact absurd (h_3.1.trans ((lv_undo hI.2.2.2 hI.1 hI.2.1 ).1.symm.trans h_6.1.symm)) h_ne
set_option maxRecDepth 100000 in
set_option maxHeartbeats 4000000 in
theorem lc_type {p : Program} {l : Launch} {e : Env} {s : State} {m : MethodId} {args : Array Value} {below : List Frame} {meth : Method} {c : Code} {G : mw_GG} {Q : State → Prop} (C : vv_C p s m args c G code 4 wsL_law RL) {b L : Nat} {xs : Nat → Int32} (hX : va_X b L xs s s.heap) (hbl : b < s.heap.size) (hbA : ¬ mw_A G b) (hL : L ≤ 3072) {i : Nat} (hi6 : i + 6 ≤ L) {M : mw_M} (hJ : lwJ M) (hk : ∀ M3, lwJ M3 → vv p l e room_1 s m args below meth c G 600000 7302250 Q M3 876 [some (.ref b), some (.ref (G.1 144)), some (.ref (G.1 145)), some (.int (nI i))] []) : vv p l e room_1 s m args below meth c G 600000 7302250 Q M 794 [some (.ref b), some (.ref (G.1 144)), some (.ref (G.1 145)), some (.int (nI i))] [] := by
  obtain ⟨V, hI⟩ := hJ
  refine vv_aload_n C 1 dL_law_794 rfl rfl ?_
  refine vv_aload_n C 0 dL_law_795 rfl rfl ?_
  refine vv_iload_n C 3 dL_law_796 rfl rfl ?_
  refine vv_iconst (v := 1) C dL_law_797 (by decide) ?_
  refine vv_iadd C dL_law_798 ?_
  refine vv_top (y := nI (i + 1)) (nI_add i 1) ?_
  refine vv_sld C hX hbl hbA (j := (i + 1)) rfl (by omega) hL dL_law_799 ?_
  refine vv_callVIP C [.int (xs (i + 1))] (c_X8_type M hI.1.1 hI.1.2.1 hI.1.2.2.1 (xs (i + 1))) sh_144 rfl (cwV 1 C.1.2.2.2.2 gL_law_X8_type rfl rfl rfl (by decide +kernel) ⟨Nat.le_of_ble_eq_true rfl, Nat.le_of_ble_eq_true rfl⟩) rfl rfl rfl (Nat.le_of_ble_eq_true rfl) dL_law_800 ⟨Nat.le_refl _, Nat.le_refl _⟩ (fun x_1 M_2 h_3 => ?_)
  refine vv_aload_n C 2 dL_law_803 rfl rfl ?_
  refine vv_aload_n C 0 dL_law_804 rfl rfl ?_
  refine vv_iload_n C 3 dL_law_805 rfl rfl ?_
  refine vv_iconst (v := 1) C dL_law_806 (by decide) ?_
  refine vv_iadd C dL_law_807 ?_
  refine vv_top (y := nI (i + 1)) (nI_add i 1) ?_
  refine vv_sld C hX hbl hbA (j := (i + 1)) rfl (by omega) hL dL_law_808 ?_
  refine vv_callVIP C [.int (xs (i + 1))] (c_X9_type M_2 V (lw_mid2 hI (op_type_ok hI.1 (xs (i + 1))) h_3.2) hI.2.1.1 hI.2.1.2.1 hI.2.1.2.2.1 (xs (i + 1))) sh_145 rfl (cwV 1 C.1.2.2.2.2 gL_law_X9_type rfl rfl rfl (by decide +kernel) ⟨Nat.le_of_ble_eq_true rfl, Nat.le_of_ble_eq_true rfl⟩) rfl rfl rfl (Nat.le_of_ble_eq_true rfl) dL_law_809 ⟨Nat.le_refl _, Nat.le_refl _⟩ (fun x_4 M_5 h_6 => ?_)
  refine vv_icmp_eq C 876 dL_law_812 (by decide) (fun h_eq => ?_) (fun h_ne => ?_)
  · exact hk _ (lw_step2 hI (op_type_ok hI.1 (xs (i + 1))) (op_type_ok hI.2.1 (xs (i + 1))) (lv_type hI.2.2.2 hI.1 hI.2.1 (xs (i + 1))) h_3.2 h_6.2.1 h_6.2.2)
  · refine vv_iconst (v := 0) C dL_law_815 (by decide) ?_
    exact absurd (h_3.1.trans ((lv_type hI.2.2.2 hI.1 hI.2.1 (xs (i + 1))).1.symm.trans h_6.1.symm)) h_ne
set_option maxRecDepth 100000 in
set_option maxHeartbeats 4000000 in
theorem lc_clearText {p : Program} {l : Launch} {e : Env} {s : State} {m : MethodId} {args : Array Value} {below : List Frame} {meth : Method} {c : Code} {G : mw_GG} {Q : State → Prop} (C : vv_C p s m args c G code 4 wsL_law RL) {b L : Nat} {xs : Nat → Int32} (hX : va_X b L xs s s.heap) (hbl : b < s.heap.size) (hbA : ¬ mw_A G b) (hL : L ≤ 3072) {i : Nat} (hi6 : i + 6 ≤ L) {M : mw_M} (hJ : lwJ M) (hk : ∀ M3, lwJ M3 → vv p l e room_1 s m args below meth c G 600000 7302250 Q M3 876 [some (.ref b), some (.ref (G.1 144)), some (.ref (G.1 145)), some (.int (nI i))] []) : vv p l e room_1 s m args below meth c G 600000 7302250 Q M 817 [some (.ref b), some (.ref (G.1 144)), some (.ref (G.1 145)), some (.int (nI i))] [] := by
  obtain ⟨V, hI⟩ := hJ
  refine vv_aload_n C 1 dL_law_817 rfl rfl ?_
  refine vv_callVIP C [] (c_X8_clearText M hI.1.1 hI.1.2.1 hI.1.2.2.1 ) sh_144 rfl (cwV 0 C.1.2.2.2.2 gL_law_X8_clearText rfl rfl rfl (by decide +kernel) ⟨Nat.le_of_ble_eq_true rfl, Nat.le_of_ble_eq_true rfl⟩) rfl rfl rfl (Nat.le_of_ble_eq_true rfl) dL_law_818 ⟨Nat.le_refl _, Nat.le_refl _⟩ (fun x_1 M_2 h_3 => ?_)
  refine vv_aload_n C 2 dL_law_821 rfl rfl ?_
  refine vv_callVIP C [] (c_X9_clearText M_2 V (lw_mid2 hI (op_clearText_ok hI.1 ) h_3.2) hI.2.1.1 hI.2.1.2.1 hI.2.1.2.2.1 ) sh_145 rfl (cwV 0 C.1.2.2.2.2 gL_law_X9_clearText rfl rfl rfl (by decide +kernel) ⟨Nat.le_of_ble_eq_true rfl, Nat.le_of_ble_eq_true rfl⟩) rfl rfl rfl (Nat.le_of_ble_eq_true rfl) dL_law_822 ⟨Nat.le_refl _, Nat.le_refl _⟩ (fun x_4 M_5 h_6 => ?_)
  refine vv_icmp_eq C 876 dL_law_825 (by decide) (fun h_eq => ?_) (fun h_ne => ?_)
  · exact hk _ (lw_step2 hI (op_clearText_ok hI.1 ) (op_clearText_ok hI.2.1 ) (lv_clearText hI.2.2.2 hI.1 hI.2.1 ) h_3.2 h_6.2.1 h_6.2.2)
  · refine vv_iconst (v := 0) C dL_law_828 (by decide) ?_
    exact absurd (h_3.1.trans ((lv_clearText hI.2.2.2 hI.1 hI.2.1 ).1.symm.trans h_6.1.symm)) h_ne
set_option maxRecDepth 100000 in
set_option maxHeartbeats 4000000 in
theorem lc_fault {p : Program} {l : Launch} {e : Env} {s : State} {m : MethodId} {args : Array Value} {below : List Frame} {meth : Method} {c : Code} {G : mw_GG} {Q : State → Prop} (C : vv_C p s m args c G code 4 wsL_law RL) {b L : Nat} {xs : Nat → Int32} (hX : va_X b L xs s s.heap) (hbl : b < s.heap.size) (hbA : ¬ mw_A G b) (hL : L ≤ 3072) {i : Nat} (hi6 : i + 6 ≤ L) {M : mw_M} (hJ : lwJ M) (hk : ∀ M3, lwJ M3 → vv p l e room_1 s m args below meth c G 600000 7302250 Q M3 876 [some (.ref b), some (.ref (G.1 144)), some (.ref (G.1 145)), some (.int (nI i))] []) : vv p l e room_1 s m args below meth c G 600000 7302250 Q M 830 [some (.ref b), some (.ref (G.1 144)), some (.ref (G.1 145)), some (.int (nI i))] [] := by
  obtain ⟨V, hI⟩ := hJ
  refine vv_aload_n C 1 dL_law_830 rfl rfl ?_
  refine vv_aload_n C 0 dL_law_831 rfl rfl ?_
  refine vv_iload_n C 3 dL_law_832 rfl rfl ?_
  refine vv_iconst (v := 1) C dL_law_833 (by decide) ?_
  refine vv_iadd C dL_law_834 ?_
  refine vv_top (y := nI (i + 1)) (nI_add i 1) ?_
  refine vv_sld C hX hbl hbA (j := (i + 1)) rfl (by omega) hL dL_law_835 ?_
  refine vv_callVIP C [.int (xs (i + 1))] (c_X8_fault M hI.1.1 hI.1.2.1 hI.1.2.2.1 (xs (i + 1))) sh_144 rfl (cwV 1 C.1.2.2.2.2 gL_law_X8_fault rfl rfl rfl (by decide +kernel) ⟨Nat.le_of_ble_eq_true rfl, Nat.le_of_ble_eq_true rfl⟩) rfl rfl rfl (Nat.le_of_ble_eq_true rfl) dL_law_836 ⟨Nat.le_refl _, Nat.le_refl _⟩ (fun x_1 M_2 h_3 => ?_)
  refine vv_aload_n C 2 dL_law_839 rfl rfl ?_
  refine vv_aload_n C 0 dL_law_840 rfl rfl ?_
  refine vv_iload_n C 3 dL_law_841 rfl rfl ?_
  refine vv_iconst (v := 1) C dL_law_842 (by decide) ?_
  refine vv_iadd C dL_law_843 ?_
  refine vv_top (y := nI (i + 1)) (nI_add i 1) ?_
  refine vv_sld C hX hbl hbA (j := (i + 1)) rfl (by omega) hL dL_law_844 ?_
  refine vv_callVIP C [.int (xs (i + 1))] (c_X9_fault M_2 V (lw_mid2 hI (op_fault_ok hI.1 (xs (i + 1))) h_3.2) hI.2.1.1 hI.2.1.2.1 hI.2.1.2.2.1 (xs (i + 1))) sh_145 rfl (cwV 1 C.1.2.2.2.2 gL_law_X9_fault rfl rfl rfl (by decide +kernel) ⟨Nat.le_of_ble_eq_true rfl, Nat.le_of_ble_eq_true rfl⟩) rfl rfl rfl (Nat.le_of_ble_eq_true rfl) dL_law_845 ⟨Nat.le_refl _, Nat.le_refl _⟩ (fun x_4 M_5 h_6 => ?_)
  refine vv_icmp_eq C 876 dL_law_848 (by decide) (fun h_eq => ?_) (fun h_ne => ?_)
  · exact hk _ (lw_step2 hI (op_fault_ok hI.1 (xs (i + 1))) (op_fault_ok hI.2.1 (xs (i + 1))) (lv_fault hI.2.2.2 hI.1 hI.2.1 (xs (i + 1))) h_3.2 h_6.2.1 h_6.2.2)
  · refine vv_iconst (v := 0) C dL_law_851 (by decide) ?_
    exact absurd (h_3.1.trans ((lv_fault hI.2.2.2 hI.1 hI.2.1 (xs (i + 1))).1.symm.trans h_6.1.symm)) h_ne
set_option maxRecDepth 100000 in
set_option maxHeartbeats 4000000 in
theorem lc_read {p : Program} {l : Launch} {e : Env} {s : State} {m : MethodId} {args : Array Value} {below : List Frame} {meth : Method} {c : Code} {G : mw_GG} {Q : State → Prop} (C : vv_C p s m args c G code 4 wsL_law RL) {b L : Nat} {xs : Nat → Int32} (hX : va_X b L xs s s.heap) (hbl : b < s.heap.size) (hbA : ¬ mw_A G b) (hL : L ≤ 3072) {i : Nat} (hi6 : i + 6 ≤ L) {M : mw_M} (hJ : lwJ M) (hk : ∀ M3, lwJ M3 → vv p l e room_1 s m args below meth c G 600000 7302250 Q M3 876 [some (.ref b), some (.ref (G.1 144)), some (.ref (G.1 145)), some (.int (nI i))] []) : vv p l e room_1 s m args below meth c G 600000 7302250 Q M 853 [some (.ref b), some (.ref (G.1 144)), some (.ref (G.1 145)), some (.int (nI i))] [] := by
  obtain ⟨V, hI⟩ := hJ
  refine vv_aload_n C 1 dL_law_853 rfl rfl ?_
  refine vv_aload_n C 0 dL_law_854 rfl rfl ?_
  refine vv_iload_n C 3 dL_law_855 rfl rfl ?_
  refine vv_iconst (v := 1) C dL_law_856 (by decide) ?_
  refine vv_iadd C dL_law_857 ?_
  refine vv_top (y := nI (i + 1)) (nI_add i 1) ?_
  refine vv_sld C hX hbl hbA (j := (i + 1)) rfl (by omega) hL dL_law_858 ?_
  refine vv_callVIP C [.int (xs (i + 1))] (c_X8_read M hI.1.1 hI.1.2.1 hI.1.2.2.1 (xs (i + 1))) sh_144 rfl (cwV 1 C.1.2.2.2.2 gL_law_X8_read rfl rfl rfl (by decide +kernel) ⟨Nat.le_of_ble_eq_true rfl, Nat.le_of_ble_eq_true rfl⟩) rfl rfl rfl (Nat.le_of_ble_eq_true rfl) dL_law_859 ⟨Nat.le_refl _, Nat.le_refl _⟩ (fun x_1 M_2 h_3 => ?_)
  refine vv_aload_n C 2 dL_law_862 rfl rfl ?_
  refine vv_aload_n C 0 dL_law_863 rfl rfl ?_
  refine vv_iload_n C 3 dL_law_864 rfl rfl ?_
  refine vv_iconst (v := 1) C dL_law_865 (by decide) ?_
  refine vv_iadd C dL_law_866 ?_
  refine vv_top (y := nI (i + 1)) (nI_add i 1) ?_
  refine vv_sld C hX hbl hbA (j := (i + 1)) rfl (by omega) hL dL_law_867 ?_
  refine vv_callVIP C [.int (xs (i + 1))] (c_X9_read M_2 V (lw_mid2 hI (op_read_ok hI.1 (xs (i + 1))) h_3.2) hI.2.1.1 hI.2.1.2.1 hI.2.1.2.2.1 (xs (i + 1))) sh_145 rfl (cwV 1 C.1.2.2.2.2 gL_law_X9_read rfl rfl rfl (by decide +kernel) ⟨Nat.le_of_ble_eq_true rfl, Nat.le_of_ble_eq_true rfl⟩) rfl rfl rfl (Nat.le_of_ble_eq_true rfl) dL_law_868 ⟨Nat.le_refl _, Nat.le_refl _⟩ (fun x_4 M_5 h_6 => ?_)
  refine vv_icmp_eq C 876 dL_law_871 (by decide) (fun h_eq => ?_) (fun h_ne => ?_)
  · exact hk _ (lw_step2 hI (op_read_ok hI.1 (xs (i + 1))) (op_read_ok hI.2.1 (xs (i + 1))) (lv_read hI.2.2.2 hI.1 hI.2.1 (xs (i + 1))) h_3.2 h_6.2.1 h_6.2.2)
  · refine vv_iconst (v := 0) C dL_law_874 (by decide) ?_
    exact absurd (h_3.1.trans ((lv_read hI.2.2.2 hI.1 hI.2.1 (xs (i + 1))).1.symm.trans h_6.1.symm)) h_ne
set_option maxRecDepth 100000 in
set_option maxHeartbeats 4000000 in
theorem law_body {p : Program} {l : Launch} {e : Env} {s : State} {m : MethodId} {args : Array Value} {below : List Frame} {meth : Method} {c : Code} {G : mw_GG} {Q : State → Prop} (C : vv_C p s m args c G code 4 wsL_law RL) {b L : Nat} {xs : Nat → Int32} (hX : va_X b L xs s s.heap) (hbl : b < s.heap.size) (hbA : ¬ mw_A G b) (hL : L ≤ 3072) {i : Nat} (hi6 : i + 6 ≤ L) {M : mw_M} (hJ : lwJ M) (hk : ∀ M3, lwJ M3 → vv p l e room_1 s m args below meth c G 600000 7302250 Q M3 876 [some (.ref b), some (.ref (G.1 144)), some (.ref (G.1 145)), some (.int (nI i))] []) : vv p l e room_1 s m args below meth c G 600000 7302250 Q M 27 [some (.ref b), some (.ref (G.1 144)), some (.ref (G.1 145)), some (.int (nI i))] [] := by
  refine vv_aload_n C 0 dL_law_27 rfl rfl ?_
  refine vv_iload_n C 3 dL_law_28 rfl rfl ?_
  refine vv_sld C hX hbl hbA (j := i) rfl (by omega) hL dL_law_29 ?_
  refine vv_bipush (v := 31) C dL_law_30 (by decide) ?_
  refine vv_iand C dL_law_32 ?_
  rcases Classical.em ((xs i) &&& 31 = 0) with h_1 | h_2
  · refine vv_tsIn C 0 144 dL_law_33 h_1 (by decide) (by decide) rfl (by decide) ?_
    exact lc_columns C hX hbl hbA hL hi6 hJ hk
  rcases Classical.em ((xs i) &&& 31 = 1) with h_3 | h_4
  · refine vv_tsIn C 1 177 dL_law_33 h_3 (by decide) (by decide) rfl (by decide) ?_
    exact lc_card C hX hbl hbA hL hi6 hJ hk
  rcases Classical.em ((xs i) &&& 31 = 2) with h_5 | h_6
  · refine vv_tsIn C 2 240 dL_law_33 h_5 (by decide) (by decide) rfl (by decide) ?_
    exact lc_put C hX hbl hbA hL hi6 hJ hk
  rcases Classical.em ((xs i) &&& 31 = 3) with h_7 | h_8
  · refine vv_tsIn C 3 293 dL_law_33 h_7 (by decide) (by decide) rfl (by decide) ?_
    exact lc_drop C hX hbl hbA hL hi6 hJ hk
  rcases Classical.em ((xs i) &&& 31 = 4) with h_9 | h_10
  · refine vv_tsIn C 4 326 dL_law_33 h_9 (by decide) (by decide) rfl (by decide) ?_
    exact lc_valueOf C hX hbl hbA hL hi6 hJ hk
  rcases Classical.em ((xs i) &&& 31 = 5) with h_11 | h_12
  · refine vv_tsIn C 5 369 dL_law_33 h_11 (by decide) (by decide) rfl (by decide) ?_
    exact lc_cell C hX hbl hbA hL hi6 hJ hk
  rcases Classical.em ((xs i) &&& 31 = 6) with h_13 | h_14
  · refine vv_tsIn C 6 432 dL_law_33 h_13 (by decide) (by decide) rfl (by decide) ?_
    exact lc_clear C hX hbl hbA hL hi6 hJ hk
  rcases Classical.em ((xs i) &&& 31 = 7) with h_15 | h_16
  · refine vv_tsIn C 7 455 dL_law_33 h_15 (by decide) (by decide) rfl (by decide) ?_
    exact lc_both C hX hbl hbA hL hi6 hJ hk
  rcases Classical.em ((xs i) &&& 31 = 8) with h_17 | h_18
  · refine vv_tsIn C 8 478 dL_law_33 h_17 (by decide) (by decide) rfl (by decide) ?_
    exact lc_order C hX hbl hbA hL hi6 hJ hk
  rcases Classical.em ((xs i) &&& 31 = 9) with h_19 | h_20
  · refine vv_tsIn C 9 521 dL_law_33 h_19 (by decide) (by decide) rfl (by decide) ?_
    exact lc_show C hX hbl hbA hL hi6 hJ hk
  rcases Classical.em ((xs i) &&& 31 = 10) with h_21 | h_22
  · refine vv_tsIn C 10 544 dL_law_33 h_21 (by decide) (by decide) rfl (by decide) ?_
    exact lc_cellOf C hX hbl hbA hL hi6 hJ hk
  rcases Classical.em ((xs i) &&& 31 = 11) with h_23 | h_24
  · refine vv_tsIn C 11 587 dL_law_33 h_23 (by decide) (by decide) rfl (by decide) ?_
    exact lc_many C hX hbl hbA hL hi6 hJ hk
  rcases Classical.em ((xs i) &&& 31 = 12) with h_25 | h_26
  · refine vv_tsIn C 12 600 dL_law_33 h_25 (by decide) (by decide) rfl (by decide) ?_
    exact lc_row C hX hbl hbA hL hi6 hJ hk
  rcases Classical.em ((xs i) &&& 31 = 13) with h_27 | h_28
  · refine vv_tsIn C 13 633 dL_law_33 h_27 (by decide) (by decide) rfl (by decide) ?_
    exact lc_total C hX hbl hbA hL hi6 hJ hk
  rcases Classical.em ((xs i) &&& 31 = 14) with h_29 | h_30
  · refine vv_tsIn C 14 666 dL_law_33 h_29 (by decide) (by decide) rfl (by decide) ?_
    exact lc_unlike C hX hbl hbA hL hi6 hJ hk
  rcases Classical.em ((xs i) &&& 31 = 15) with h_31 | h_32
  · refine vv_tsIn C 15 679 dL_law_33 h_31 (by decide) (by decide) rfl (by decide) ?_
    exact lc_cards C hX hbl hbA hL hi6 hJ hk
  rcases Classical.em ((xs i) &&& 31 = 16) with h_33 | h_34
  · refine vv_tsIn C 16 702 dL_law_33 h_33 (by decide) (by decide) rfl (by decide) ?_
    exact lc_why C hX hbl hbA hL hi6 hJ hk
  rcases Classical.em ((xs i) &&& 31 = 17) with h_35 | h_36
  · refine vv_tsIn C 17 735 dL_law_33 h_35 (by decide) (by decide) rfl (by decide) ?_
    exact lc_tightest C hX hbl hbA hL hi6 hJ hk
  rcases Classical.em ((xs i) &&& 31 = 18) with h_37 | h_38
  · refine vv_tsIn C 18 758 dL_law_33 h_37 (by decide) (by decide) rfl (by decide) ?_
    exact lc_count C hX hbl hbA hL hi6 hJ hk
  rcases Classical.em ((xs i) &&& 31 = 19) with h_39 | h_40
  · refine vv_tsIn C 19 781 dL_law_33 h_39 (by decide) (by decide) rfl (by decide) ?_
    exact lc_undo C hX hbl hbA hL hi6 hJ hk
  rcases Classical.em ((xs i) &&& 31 = 20) with h_41 | h_42
  · refine vv_tsIn C 20 794 dL_law_33 h_41 (by decide) (by decide) rfl (by decide) ?_
    exact lc_type C hX hbl hbA hL hi6 hJ hk
  rcases Classical.em ((xs i) &&& 31 = 21) with h_43 | h_44
  · refine vv_tsIn C 21 817 dL_law_33 h_43 (by decide) (by decide) rfl (by decide) ?_
    exact lc_clearText C hX hbl hbA hL hi6 hJ hk
  rcases Classical.em ((xs i) &&& 31 = 22) with h_45 | h_46
  · refine vv_tsIn C 22 830 dL_law_33 h_45 (by decide) (by decide) rfl (by decide) ?_
    exact lc_fault C hX hbl hbA hL hi6 hJ hk
  rcases Classical.em ((xs i) &&& 31 = 23) with h_47 | h_48
  · refine vv_tsIn C 23 853 dL_law_33 h_47 (by decide) (by decide) rfl (by decide) ?_
    exact lc_read C hX hbl hbA hL hi6 hJ hk
  refine vv_tsOut C 876 dL_law_33 (by have t0 := lv_neT (a := 0) h_2 (by decide); have t1 := lv_neT (a := 1) h_4 (by decide); have t2 := lv_neT (a := 2) h_6 (by decide); have t3 := lv_neT (a := 3) h_8 (by decide); have t4 := lv_neT (a := 4) h_10 (by decide); have t5 := lv_neT (a := 5) h_12 (by decide); have t6 := lv_neT (a := 6) h_14 (by decide); have t7 := lv_neT (a := 7) h_16 (by decide); have t8 := lv_neT (a := 8) h_18 (by decide); have t9 := lv_neT (a := 9) h_20 (by decide); have t10 := lv_neT (a := 10) h_22 (by decide); have t11 := lv_neT (a := 11) h_24 (by decide); have t12 := lv_neT (a := 12) h_26 (by decide); have t13 := lv_neT (a := 13) h_28 (by decide); have t14 := lv_neT (a := 14) h_30 (by decide); have t15 := lv_neT (a := 15) h_32 (by decide); have t16 := lv_neT (a := 16) h_34 (by decide); have t17 := lv_neT (a := 17) h_36 (by decide); have t18 := lv_neT (a := 18) h_38 (by decide); have t19 := lv_neT (a := 19) h_40 (by decide); have t20 := lv_neT (a := 20) h_42 (by decide); have t21 := lv_neT (a := 21) h_44 (by decide); have t22 := lv_neT (a := 22) h_46 (by decide); have t23 := lv_neT (a := 23) h_48 (by decide); omega) (by decide) ?_
  exact hk M hJ
set_option maxRecDepth 100000 in
set_option maxHeartbeats 4000000 in
theorem law_loop {p : Program} {l : Launch} {e : Env} {s : State} {m : MethodId} {args : Array Value} {below : List Frame} {meth : Method} {c : Code} {G : mw_GG} {Q : State → Prop} (C : vv_C p s m args c G code 4 wsL_law RL) {b L : Nat} {xs : Nat → Int32} (hX : va_X b L xs s s.heap) (hbl : b < s.heap.size) (hbA : ¬ mw_A G b) (hL : L ≤ 3072) (hke : ∀ M, lwJ M → vv p l e room_1 s m args below meth c G 600000 7302250 Q M 882 [some (.ref b), some (.ref (G.1 144)), some (.ref (G.1 145)), none] []) : ∀ (k i : Nat) (M : mw_M), L + 1 ≤ i + k → i ≤ L → lwJ M → vv p l e room_1 s m args below meth c G 600000 7302250 Q M 18 [some (.ref b), some (.ref (G.1 144)), some (.ref (G.1 145)), some (.int (nI i))] [] := by
  intro k
  induction k with
  | zero => intro i M h1 hi _; omega
  | succ k ih =>
    intro i M h1 hi hJ
    refine vv_iload_n C 3 dL_law_18 rfl rfl ?_
    refine vv_aload_n C 0 dL_law_19 rfl rfl ?_
    refine vv_slen C hX hbl hbA dL_law_20 ?_
    refine vv_bipush (v := 6) C dL_law_21 (by decide) ?_
    refine vv_isub C dL_law_23 ?_
    refine vv_icmp_gt C 882 dL_law_24 (by decide) (fun h_gt => ?_) (fun h_ngt => ?_)
    · refine vv_keep (ls2 := [some (.ref b), some (.ref (G.1 144)), some (.ref (G.1 145)), none]) ⟨rfl, rfl, rfl, trivial⟩ ?_
      exact hke M hJ
    · have hi6 := lw_in6 hi hL h_ngt
      refine law_body C hX hbl hbA hL hi6 hJ (fun M3 hJ3 => ?_)
      refine vv_iinc (v := nI (i + 6)) (ls2 := [some (.ref b), some (.ref (G.1 144)), some (.ref (G.1 145)), some (.int (nI (i + 6)))]) C 3 dL_law_876 rfl (nI_add i 6) rfl ?_
      refine vv_goto C 18 dL_law_879 (by decide) ?_
      exact ih (i + 6) M3 (by omega) (by omega) hJ3
