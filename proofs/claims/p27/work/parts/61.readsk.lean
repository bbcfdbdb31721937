/-! what is typed, and the cells laid by it -/
def rdQ (M Mi S : mw_M) (Cs : List ceT) : Prop := invV Mi ∧ txP Mi (txC Cs) ∧ (∀ z, z ∈ Cs → okC z) ∧ (∀ q, q < 651 → Mi q = M q) ∧ lrel Mi S
theorem okC_app {Cs : List ceT} {z : ceT} (h : ∀ y, y ∈ Cs → okC y) (hz : okC z) : ∀ y, y ∈ Cs ++ [z] → okC y := fun y hy => by
  rcases List.mem_append.mp hy with h1 | h1
  · exact h y h1
  · rw [List.mem_singleton.mp h1]
    exact hz
theorem stP.lr {M M2 S : mw_M} (h : stP M M2) (hr : lrel M S) : lrel M2 S := hr.cong (fun q hq => h q (Or.inr hq)) (fun _ _ => rfl)
theorem rdQ.add0 {M Mi M2 : mw_M} {Cs : List ceT} {z : ceT} (h : rdQ M Mi M Cs) (hz : okC z) (hi : invV M2) (ht : txP M2 (txC (Cs ++ [z]))) (hs : stP Mi M2) : rdQ M M2 M (Cs ++ [z]) :=
  ⟨hi, ht, okC_app h.2.2.1 hz, fun q hq => (hs q (Or.inl hq)).trans (h.2.2.2.1 q hq), hs.lr h.2.2.2.2⟩
theorem up3_lo {M : mw_M} {a b c q : Nat} {x y z : Int32} (h : q < 1100) (ha : 1100 ≤ a) (hb : 1100 ≤ b) (hc : 1100 ≤ c) : upd (upd (upd M a x) b y) c z q = M q := by
  rw [upd_o (by omega), upd_o (by omega), upd_o (by omega)]
theorem rdQ.up {M Mi S S2 : mw_M} {Cs : List ceT} {a b c : Nat} {x y z : Int32} (h : rdQ M Mi S Cs) (ha : 1100 ≤ a) (hb : 1100 ≤ b) (hc : 1100 ≤ c) (hr : lrel (upd (upd (upd Mi a x) b y) c z) S2) : rdQ M (upd (upd (upd Mi a x) b y) c z) S2 Cs :=
  ⟨inv_cl h.1 (fun q hq _ => up3_lo hq ha hb hc), h.2.1.eq (fun q hq => up3_lo (by omega) ha hb hc), h.2.2.1, fun q hq => (up3_lo (by omega) ha hb hc).trans (h.2.2.2.1 q hq), hr⟩
theorem rdQ.add1 {M Mi M2 : mw_M} {Cs : List ceT} {z : ceT} {d i : Nat} (hd : d < 2) (hi4 : i < 4) (hn : Cs.length = i) (h : rdQ M Mi (setC M d (ceF Cs) i) Cs) (hz : okC z) (hi : invV M2) (ht : txP M2 (txC (Cs ++ [z]))) (hs : stP Mi M2) :
    rdQ M (upd (upd (upd M2 (1300 + (4 * d + i)) (nI z.1)) (1310 + (4 * d + i)) (nI z.2.1)) (1320 + (4 * d + i)) (nI z.2.2)) (setC M d (ceF (Cs ++ [z])) (i + 1)) (Cs ++ [z]) := by
  have e : setC M d (ceF Cs) i = setC M d (ceF (Cs ++ [z])) i := setC_c (fun j hj => (ceF_lo (by omega)).symm)
  have hr : lrel M2 (setC M d (ceF (Cs ++ [z])) i) := e ▸ hs.lr h.2.2.2.2
  have h1 : rdQ M M2 (setC M d (ceF (Cs ++ [z])) i) (Cs ++ [z]) := ⟨hi, ht, okC_app h.2.2.1 hz, fun q hq => (hs q (Or.inl hq)).trans (h.2.2.2.1 q hq), hr⟩
  exact h1.up (by omega) (by omega) (by omega) (lc_step hd hi4 hr (by subst hn; exact ceF_at))
theorem rdQ.zero {M Mi : mw_M} {Cs : List ceT} {d j : Nat} (hd : d < 2) (hj : j < 4) (hn : Cs.length ≤ j) (h : rdQ M Mi (setC M d (ceF Cs) j) Cs) :
    rdQ M (upd (upd (upd Mi (1300 + (4 * d + j)) 0) (1310 + (4 * d + j)) 0) (1320 + (4 * d + j)) 0) (setC M d (ceF Cs) (j + 1)) Cs :=
  h.up (by omega) (by omega) (by omega) (lc_step hd hj h.2.2.2.2 (ceF_out hn))
theorem rdQ.cl {M Mi M2 S : mw_M} {Cs : List ceT} (h : rdQ M Mi S Cs) (cl : clO M2 Mi) : rdQ M M2 S Cs :=
  ⟨inv_cl h.1 (fun q _ hq => cl q hq), h.2.1.eq (fun q hq => cl q (by unfold clS; omega)), h.2.2.1, fun q hq => (cl.q hq).trans (h.2.2.2.1 q hq), lsameR h.2.2.2.2 cl⟩
theorem rdQ.prs {M Mi S : mw_M} {Cs : List ceT} (h : rdQ M Mi S Cs) (h1 : 1 ≤ Cs.length) (h4 : Cs.length ≤ 4) : prsV Mi = (0, 0, Cs.map ceI) := h.2.1.prs (fun z => by rw [z] at h1; exact absurd h1 (by decide)) h4 h.2.2.1
theorem txC_pos : ∀ (L : List ceT), (∀ z, z ∈ L → okC z) → 1 ≤ L.length → 1 ≤ (txC L).length
  | [], _, h => h
  | [y], h, _ => (celW_len (h y List.mem_cons_self)).1
  | y :: x :: L, h, _ => by
    have := (celW_len (h y List.mem_cons_self)).1
    show 1 ≤ (celW y ++ 44 :: txC (x :: L)).length
    rw [List.length_append]
    omega
theorem rdQ.lin {M Mi : mw_M} {Cs : List ceT} (h : rdQ M Mi M Cs) (hl : linv M) : lin0 Mi :=
  ⟨h.1, h.2.2.2.2.cong (fun _ _ => rfl) (fun q hq => h.2.2.2.1 q (by omega)), hl.1.2.2.congr (fun q hq => h.2.2.2.1 q (by omega))⟩
theorem lin_ct {M M2 : mw_M} {x : Int32} (h : lin0 M) (hq : x = (op_clearText M).1 ∧ clO M2 (op_clearText M).2) : x = M 653 ∧ linv M2 := by
  obtain ⟨e, hi, ht, hs⟩ := ct_step h.1 hq
  exact ⟨e, ⟨hi, h.2.1.cong (fun q hq => hs q (Or.inr hq)) (fun q hq => hs q (Or.inl (by omega))), h.2.2.congr (fun q hq => hs q (Or.inl (by omega)))⟩, ht.1⟩
theorem rdQ.start {M M2 : mw_M} (h : linv M) (hi : invV M2) (ht : txP M2 []) (hs : stP M M2) : rdQ M M2 M [] :=
  ⟨hi, ht, fun z hz => absurd hz List.not_mem_nil, fun q hq => hs q (Or.inl hq), hs.lr h.1.2.1⟩
theorem numW1 {n : Nat} (h : n < 10) : numW n = [48 + n] := if_pos h
theorem numW2 {n : Nat} (h : 10 ≤ n) : numW n = [48 + n / 10, 48 + n % 10] := if_neg (by omega)
theorem div_lt {y k : Nat} (h : y < 10000000) : y / k < 10000000 := Nat.lt_of_le_of_lt (Nat.div_le_self _ _) h

set_option maxRecDepth 100000 in
set_option maxHeartbeats 4000000 in
theorem lp_reads_k0 {p : Program} {l : Launch} {e : Env} {s : State} {m : MethodId} {args : Array Value} {below : List Frame} {meth : Method} {c : Code} {G : mw_GG} {A : Nat → Prop} {Q : State → Prop} (C : vx_C p s m args c G A cL_reads 15 wsL_reads RL) {X : va_W} {y d cl cn i : Nat} {Mi : mw_M} (hi : invV Mi) {T : List Nat} (ht : txP Mi T) {n : Nat} (hn : T.length = n) (hl : n ≤ 25) {one two : Nat} (hA : okA 0 one) (hB : okB 0 one two) (hk : ∀ M2, invV M2 → txP M2 (T ++ celW (0, one, two)) → stP Mi M2 → vx p l e ({ frames := 7, cells := 2, slots := 7, locals := 161 } : Room) s m args below meth c G A 0 0 Q M2 X 416 [some (.ref (G.1 144)), some (.ref (G.1 145)), some (.ref (G.1 146)), some (.ref (G.1 147)), some (.ref (G.1 148)), some (.ref (G.1 149)), some (.int (nI y)), some (.int (nI d)), some (.int (nI cl)), some (.int 1), some (.int (nI cn)), some (.int (nI i)), some (.int 0), some (.int (nI one)), some (.int (nI two))] []) : vx p l e ({ frames := 7, cells := 2, slots := 7, locals := 161 } : Room) s m args below meth c G A 0 0 Q Mi X 186 [some (.ref (G.1 144)), some (.ref (G.1 145)), some (.ref (G.1 146)), some (.ref (G.1 147)), some (.ref (G.1 148)), some (.ref (G.1 149)), some (.int (nI y)), some (.int (nI d)), some (.int (nI cl)), some (.int 1), some (.int (nI cn)), some (.int (nI i)), some (.int 0), some (.int (nI one)), some (.int (nI two))] [] := by
  obtain ⟨hA0, hA1, hA2, hA3⟩ := hA
  obtain ⟨hB1, hB2⟩ := hB
  refine vx_iload C 12 dL_reads_186 rfl ?_
  refine vx_iconst (v := 2) C dL_reads_188 (by decide) ?_
  refine vx_ncmp_gt C 0 2 222 dL_reads_189 (by decide) (by decide) (by decide) (fun h_1 => absurd h_1 (by decide)) (fun h_2 => ?_)
  refine vx_aload_n C 0 dL_reads_192 rfl rfl ?_
  refine vx_iload C 12 dL_reads_193 rfl ?_
  refine vx_nif_ne C 0 203 dL_reads_195 (by decide) (by decide) (fun h_3 => absurd h_3 (by decide)) (fun h_4 => ?_)
  refine vx_bipush (v := 42) C dL_reads_198 (by decide) ?_
  refine vx_goto C 216 dL_reads_200 (by decide) ?_
  refine vx_callVIP C [.int 42] (c_X8_type Mi hi.1 hi.2.1 hi.2.2.1 42) sh_144 rfl (cwV 1 C.1.2.2.2.2 gL_reads_X8_type rfl rfl rfl (by decide +kernel) ⟨Nat.le_of_ble_eq_true rfl, Nat.le_of_ble_eq_true rfl⟩) rfl rfl rfl (Nat.le_of_ble_eq_true rfl) dL_reads_216 ⟨Nat.le_of_ble_eq_true rfl, Nat.le_of_ble_eq_true rfl⟩ (fun x_5 M_6 h_7 => ?_)
  obtain ⟨e_1, hi_1, ht_1, hn_1, hs_1⟩ := ty_step (c := 42) hi ht hn (by omega) (by omega) (by omega) h_7
  refine vx_top (y := nI (n + 1)) e_1 ?_
  refine vx_nif_le C (n + 1) 305 dL_reads_219 (by decide) (by omega) (fun h_8 => absurd h_8 (by omega)) (fun h_9 => ?_)
  refine vx_iload C 12 dL_reads_222 rfl ?_
  refine vx_iconst (v := 4) C dL_reads_224 (by decide) ?_
  refine vx_ncmp_ne C 0 4 237 dL_reads_225 (by decide) (by decide) (by decide) (fun h_11 => ?_) (fun h_10 => absurd h_10 (by decide))
  refine vx_iload C 12 dL_reads_237 rfl ?_
  refine vx_iconst (v := 5) C dL_reads_239 (by decide) ?_
  refine vx_ncmp_eq C 0 5 250 dL_reads_240 (by decide) (by decide) (by decide) (fun h_12 => absurd h_12 (by decide)) (fun h_13 => ?_)
  refine vx_iload C 12 dL_reads_243 rfl ?_
  refine vx_bipush (v := 9) C dL_reads_245 (by decide) ?_
  refine vx_ncmp_ne C 0 9 259 dL_reads_247 (by decide) (by decide) (by decide) (fun h_15 => ?_) (fun h_14 => absurd h_14 (by decide))
  refine vx_iload C 12 dL_reads_259 rfl ?_
  refine vx_bipush (v := 6) C dL_reads_261 (by decide) ?_
  refine vx_ncmp_eq C 0 6 273 dL_reads_263 (by decide) (by decide) (by decide) (fun h_16 => absurd h_16 (by decide)) (fun h_17 => ?_)
  refine vx_iload C 12 dL_reads_266 rfl ?_
  refine vx_bipush (v := 10) C dL_reads_268 (by decide) ?_
  refine vx_ncmp_ne C 0 10 282 dL_reads_270 (by decide) (by decide) (by decide) (fun h_19 => ?_) (fun h_18 => absurd h_18 (by decide))
  refine vx_iload C 12 dL_reads_282 rfl ?_
  refine vx_bipush (v := 8) C dL_reads_284 (by decide) ?_
  refine vx_ncmp_lt C 0 8 301 dL_reads_286 (by decide) (by decide) (by decide) (fun h_21 => ?_) (fun h_20 => absurd h_20 (by decide))
  refine vx_iconst (v := 1) C dL_reads_301 (by decide) ?_
  refine vx_goto C 306 dL_reads_302 (by decide) ?_
  refine vx_istore (ls2 := [some (.ref (G.1 144)), some (.ref (G.1 145)), some (.ref (G.1 146)), some (.ref (G.1 147)), some (.ref (G.1 148)), some (.ref (G.1 149)), some (.int (nI y)), some (.int (nI d)), some (.int (nI cl)), some (.int 1), some (.int (nI cn)), some (.int (nI i)), some (.int 0), some (.int (nI one)), some (.int (nI two))]) C 9 dL_reads_306 (Nat.le_of_ble_eq_true rfl) rfl ?_
  refine vx_iload C 9 dL_reads_308 rfl ?_
  refine vx_nif_eq C 1 413 dL_reads_310 (by decide) (by decide) (fun h_22 => absurd h_22 (by decide)) (fun h_23 => ?_)
  refine vx_iload C 12 dL_reads_313 rfl ?_
  refine vx_iconst (v := 3) C dL_reads_315 (by decide) ?_
  refine vx_ncmp_lt C 0 3 363 dL_reads_316 (by decide) (by decide) (by decide) (fun h_25 => ?_) (fun h_24 => absurd h_24 (by decide))
  refine vx_iload C 12 dL_reads_363 rfl ?_
  refine vx_bipush (v := 7) C dL_reads_365 (by decide) ?_
  refine vx_ncmp_ne C 0 7 409 dL_reads_367 (by decide) (by decide) (by decide) (fun h_27 => ?_) (fun h_26 => absurd h_26 (by decide))
  refine vx_iconst (v := 1) C dL_reads_409 (by decide) ?_
  refine vx_goto C 414 dL_reads_410 (by decide) ?_
  refine vx_istore (ls2 := [some (.ref (G.1 144)), some (.ref (G.1 145)), some (.ref (G.1 146)), some (.ref (G.1 147)), some (.ref (G.1 148)), some (.ref (G.1 149)), some (.int (nI y)), some (.int (nI d)), some (.int (nI cl)), some (.int 1), some (.int (nI cn)), some (.int (nI i)), some (.int 0), some (.int (nI one)), some (.int (nI two))]) C 9 dL_reads_414 (Nat.le_of_ble_eq_true rfl) rfl ?_
  refine vx_keep (ls2 := [some (.ref (G.1 144)), some (.ref (G.1 145)), some (.ref (G.1 146)), some (.ref (G.1 147)), some (.ref (G.1 148)), some (.ref (G.1 149)), some (.int (nI y)), some (.int (nI d)), some (.int (nI cl)), some (.int 1), some (.int (nI cn)), some (.int (nI i)), some (.int 0), some (.int (nI one)), some (.int (nI two))]) ⟨rfl, rfl, rfl, rfl, rfl, rfl, rfl, rfl, rfl, rfl, rfl, rfl, rfl, rfl, rfl, trivial⟩ ?_
  have e : T ++ celW (0, one, two) = T ++ [42] := rfl
  exact hk _ hi_1 (by rw [e]; exact ht_1) hs_1
set_option maxRecDepth 100000 in
set_option maxHeartbeats 4000000 in
theorem lp_reads_k1 {p : Program} {l : Launch} {e : Env} {s : State} {m : MethodId} {args : Array Value} {below : List Frame} {meth : Method} {c : Code} {G : mw_GG} {A : Nat → Prop} {Q : State → Prop} (C : vx_C p s m args c G A cL_reads 15 wsL_reads RL) {X : va_W} {y d cl cn i : Nat} {Mi : mw_M} (hi : invV Mi) {T : List Nat} (ht : txP Mi T) {n : Nat} (hn : T.length = n) (hl : n ≤ 25) {one two : Nat} (hA : okA 1 one) (hB : okB 1 one two) (hk : ∀ M2, invV M2 → txP M2 (T ++ celW (1, one, two)) → stP Mi M2 → vx p l e ({ frames := 7, cells := 2, slots := 7, locals := 161 } : Room) s m args below meth c G A 0 0 Q M2 X 416 [some (.ref (G.1 144)), some (.ref (G.1 145)), some (.ref (G.1 146)), some (.ref (G.1 147)), some (.ref (G.1 148)), some (.ref (G.1 149)), some (.int (nI y)), some (.int (nI d)), some (.int (nI cl)), some (.int 1), some (.int (nI cn)), some (.int (nI i)), some (.int 1), some (.int (nI one)), some (.int (nI two))] []) : vx p l e ({ frames := 7, cells := 2, slots := 7, locals := 161 } : Room) s m args below meth c G A 0 0 Q Mi X 186 [some (.ref (G.1 144)), some (.ref (G.1 145)), some (.ref (G.1 146)), some (.ref (G.1 147)), some (.ref (G.1 148)), some (.ref (G.1 149)), some (.int (nI y)), some (.int (nI d)), some (.int (nI cl)), some (.int 1), some (.int (nI cn)), some (.int (nI i)), some (.int 1), some (.int (nI one)), some (.int (nI two))] [] := by
  obtain ⟨hA0, hA1, hA2, hA3⟩ := hA
  obtain ⟨hB1, hB2⟩ := hB
  refine vx_iload C 12 dL_reads_186 rfl ?_
  refine vx_iconst (v := 2) C dL_reads_188 (by decide) ?_
  refine vx_ncmp_gt C 1 2 222 dL_reads_189 (by decide) (by decide) (by decide) (fun h_1 => absurd h_1 (by decide)) (fun h_2 => ?_)
  refine vx_aload_n C 0 dL_reads_192 rfl rfl ?_
  refine vx_iload C 12 dL_reads_193 rfl ?_
  refine vx_nif_ne C 1 203 dL_reads_195 (by decide) (by decide) (fun h_4 => ?_) (fun h_3 => absurd h_3 (by decide))
  refine vx_iload C 12 dL_reads_203 rfl ?_
  refine vx_iconst (v := 1) C dL_reads_205 (by decide) ?_
  refine vx_ncmp_ne C 1 1 214 dL_reads_206 (by decide) (by decide) (by decide) (fun h_5 => absurd h_5 (by decide)) (fun h_6 => ?_)
  refine vx_bipush (v := 95) C dL_reads_209 (by decide) ?_
  refine vx_goto C 216 dL_reads_211 (by decide) ?_
  refine vx_callVIP C [.int 95] (c_X8_type Mi hi.1 hi.2.1 hi.2.2.1 95) sh_144 rfl (cwV 1 C.1.2.2.2.2 gL_reads_X8_type rfl rfl rfl (by decide +kernel) ⟨Nat.le_of_ble_eq_true rfl, Nat.le_of_ble_eq_true rfl⟩) rfl rfl rfl (Nat.le_of_ble_eq_true rfl) dL_reads_216 ⟨Nat.le_of_ble_eq_true rfl, Nat.le_of_ble_eq_true rfl⟩ (fun x_7 M_8 h_9 => ?_)
  obtain ⟨e_2, hi_2, ht_2, hn_2, hs_2⟩ := ty_step (c := 95) hi ht hn (by omega) (by omega) (by omega) h_9
  refine vx_top (y := nI (n + 1)) e_2 ?_
  refine vx_nif_le C (n + 1) 305 dL_reads_219 (by decide) (by omega) (fun h_10 => absurd h_10 (by omega)) (fun h_11 => ?_)
  refine vx_iload C 12 dL_reads_222 rfl ?_
  refine vx_iconst (v := 4) C dL_reads_224 (by decide) ?_
  refine vx_ncmp_ne C 1 4 237 dL_reads_225 (by decide) (by decide) (by decide) (fun h_13 => ?_) (fun h_12 => absurd h_12 (by decide))
  refine vx_iload C 12 dL_reads_237 rfl ?_
  refine vx_iconst (v := 5) C dL_reads_239 (by decide) ?_
  refine vx_ncmp_eq C 1 5 250 dL_reads_240 (by decide) (by decide) (by decide) (fun h_14 => absurd h_14 (by decide)) (fun h_15 => ?_)
  refine vx_iload C 12 dL_reads_243 rfl ?_
  refine vx_bipush (v := 9) C dL_reads_245 (by decide) ?_
  refine vx_ncmp_ne C 1 9 259 dL_reads_247 (by decide) (by decide) (by decide) (fun h_17 => ?_) (fun h_16 => absurd h_16 (by decide))
  refine vx_iload C 12 dL_reads_259 rfl ?_
  refine vx_bipush (v := 6) C dL_reads_261 (by decide) ?_
  refine vx_ncmp_eq C 1 6 273 dL_reads_263 (by decide) (by decide) (by decide) (fun h_18 => absurd h_18 (by decide)) (fun h_19 => ?_)
  refine vx_iload C 12 dL_reads_266 rfl ?_
  refine vx_bipush (v := 10) C dL_reads_268 (by decide) ?_
  refine vx_ncmp_ne C 1 10 282 dL_reads_270 (by decide) (by decide) (by decide) (fun h_21 => ?_) (fun h_20 => absurd h_20 (by decide))
  refine vx_iload C 12 dL_reads_282 rfl ?_
  refine vx_bipush (v := 8) C dL_reads_284 (by decide) ?_
  refine vx_ncmp_lt C 1 8 301 dL_reads_286 (by decide) (by decide) (by decide) (fun h_23 => ?_) (fun h_22 => absurd h_22 (by decide))
  refine vx_iconst (v := 1) C dL_reads_301 (by decide) ?_
  refine vx_goto C 306 dL_reads_302 (by decide) ?_
  refine vx_istore (ls2 := [some (.ref (G.1 144)), some (.ref (G.1 145)), some (.ref (G.1 146)), some (.ref (G.1 147)), some (.ref (G.1 148)), some (.ref (G.1 149)), some (.int (nI y)), some (.int (nI d)), some (.int (nI cl)), some (.int 1), some (.int (nI cn)), some (.int (nI i)), some (.int 1), some (.int (nI one)), some (.int (nI two))]) C 9 dL_reads_306 (Nat.le_of_ble_eq_true rfl) rfl ?_
  refine vx_iload C 9 dL_reads_308 rfl ?_
  refine vx_nif_eq C 1 413 dL_reads_310 (by decide) (by decide) (fun h_24 => absurd h_24 (by decide)) (fun h_25 => ?_)
  refine vx_iload C 12 dL_reads_313 rfl ?_
  refine vx_iconst (v := 3) C dL_reads_315 (by decide) ?_
  refine vx_ncmp_lt C 1 3 363 dL_reads_316 (by decide) (by decide) (by decide) (fun h_27 => ?_) (fun h_26 => absurd h_26 (by decide))
  refine vx_iload C 12 dL_reads_363 rfl ?_
  refine vx_bipush (v := 7) C dL_reads_365 (by decide) ?_
  refine vx_ncmp_ne C 1 7 409 dL_reads_367 (by decide) (by decide) (by decide) (fun h_29 => ?_) (fun h_28 => absurd h_28 (by decide))
  refine vx_iconst (v := 1) C dL_reads_409 (by decide) ?_
  refine vx_goto C 414 dL_reads_410 (by decide) ?_
  refine vx_istore (ls2 := [some (.ref (G.1 144)), some (.ref (G.1 145)), some (.ref (G.1 146)), some (.ref (G.1 147)), some (.ref (G.1 148)), some (.ref (G.1 149)), some (.int (nI y)), some (.int (nI d)), some (.int (nI cl)), some (.int 1), some (.int (nI cn)), some (.int (nI i)), some (.int 1), some (.int (nI one)), some (.int (nI two))]) C 9 dL_reads_414 (Nat.le_of_ble_eq_true rfl) rfl ?_
  refine vx_keep (ls2 := [some (.ref (G.1 144)), some (.ref (G.1 145)), some (.ref (G.1 146)), some (.ref (G.1 147)), some (.ref (G.1 148)), some (.ref (G.1 149)), some (.int (nI y)), some (.int (nI d)), some (.int (nI cl)), some (.int 1), some (.int (nI cn)), some (.int (nI i)), some (.int 1), some (.int (nI one)), some (.int (nI two))]) ⟨rfl, rfl, rfl, rfl, rfl, rfl, rfl, rfl, rfl, rfl, rfl, rfl, rfl, rfl, rfl, trivial⟩ ?_
  have e : T ++ celW (1, one, two) = T ++ [95] := rfl
  exact hk _ hi_2 (by rw [e]; exact ht_2) hs_2
set_option maxRecDepth 100000 in
set_option maxHeartbeats 4000000 in
theorem lp_reads_k2 {p : Program} {l : Launch} {e : Env} {s : State} {m : MethodId} {args : Array Value} {below : List Frame} {meth : Method} {c : Code} {G : mw_GG} {A : Nat → Prop} {Q : State → Prop} (C : vx_C p s m args c G A cL_reads 15 wsL_reads RL) {X : va_W} {y d cl cn i : Nat} {Mi : mw_M} (hi : invV Mi) {T : List Nat} (ht : txP Mi T) {n : Nat} (hn : T.length = n) (hl : n ≤ 25) {one two : Nat} (hA : okA 2 one) (hB : okB 2 one two) (hk : ∀ M2, invV M2 → txP M2 (T ++ celW (2, one, two)) → stP Mi M2 → vx p l e ({ frames := 7, cells := 2, slots := 7, locals := 161 } : Room) s m args below meth c G A 0 0 Q M2 X 416 [some (.ref (G.1 144)), some (.ref (G.1 145)), some (.ref (G.1 146)), some (.ref (G.1 147)), some (.ref (G.1 148)), some (.ref (G.1 149)), some (.int (nI y)), some (.int (nI d)), some (.int (nI cl)), some (.int 1), some (.int (nI cn)), some (.int (nI i)), some (.int 2), some (.int (nI one)), some (.int (nI two))] []) : vx p l e ({ frames := 7, cells := 2, slots := 7, locals := 161 } : Room) s m args below meth c G A 0 0 Q Mi X 186 [some (.ref (G.1 144)), some (.ref (G.1 145)), some (.ref (G.1 146)), some (.ref (G.1 147)), some (.ref (G.1 148)), some (.ref (G.1 149)), some (.int (nI y)), some (.int (nI d)), some (.int (nI cl)), some (.int 1), some (.int (nI cn)), some (.int (nI i)), some (.int 2), some (.int (nI one)), some (.int (nI two))] [] := by
  obtain ⟨hA0, hA1, hA2, hA3⟩ := hA
  obtain ⟨hB1, hB2⟩ := hB
  refine vx_iload C 12 dL_reads_186 rfl ?_
  refine vx_iconst (v := 2) C dL_reads_188 (by decide) ?_
  refine vx_ncmp_gt C 2 2 222 dL_reads_189 (by decide) (by decide) (by decide) (fun h_1 => absurd h_1 (by decide)) (fun h_2 => ?_)
  refine vx_aload_n C 0 dL_reads_192 rfl rfl ?_
  refine vx_iload C 12 dL_reads_193 rfl ?_
  refine vx_nif_ne C 2 203 dL_reads_195 (by decide) (by decide) (fun h_4 => ?_) (fun h_3 => absurd h_3 (by decide))
  refine vx_iload C 12 dL_reads_203 rfl ?_
  refine vx_iconst (v := 1) C dL_reads_205 (by decide) ?_
  refine vx_ncmp_ne C 2 1 214 dL_reads_206 (by decide) (by decide) (by decide) (fun h_6 => ?_) (fun h_5 => absurd h_5 (by decide))
  refine vx_bipush (v := 33) C dL_reads_214 (by decide) ?_
  refine vx_callVIP C [.int 33] (c_X8_type Mi hi.1 hi.2.1 hi.2.2.1 33) sh_144 rfl (cwV 1 C.1.2.2.2.2 gL_reads_X8_type rfl rfl rfl (by decide +kernel) ⟨Nat.le_of_ble_eq_true rfl, Nat.le_of_ble_eq_true rfl⟩) rfl rfl rfl (Nat.le_of_ble_eq_true rfl) dL_reads_216 ⟨Nat.le_of_ble_eq_true rfl, Nat.le_of_ble_eq_true rfl⟩ (fun x_7 M_8 h_9 => ?_)
  obtain ⟨e_3, hi_3, ht_3, hn_3, hs_3⟩ := ty_step (c := 33) hi ht hn (by omega) (by omega) (by omega) h_9
  refine vx_top (y := nI (n + 1)) e_3 ?_
  refine vx_nif_le C (n + 1) 305 dL_reads_219 (by decide) (by omega) (fun h_10 => absurd h_10 (by omega)) (fun h_11 => ?_)
  refine vx_iload C 12 dL_reads_222 rfl ?_
  refine vx_iconst (v := 4) C dL_reads_224 (by decide) ?_
  refine vx_ncmp_ne C 2 4 237 dL_reads_225 (by decide) (by decide) (by decide) (fun h_13 => ?_) (fun h_12 => absurd h_12 (by decide))
  refine vx_iload C 12 dL_reads_237 rfl ?_
  refine vx_iconst (v := 5) C dL_reads_239 (by decide) ?_
  refine vx_ncmp_eq C 2 5 250 dL_reads_240 (by decide) (by decide) (by decide) (fun h_14 => absurd h_14 (by decide)) (fun h_15 => ?_)
  refine vx_iload C 12 dL_reads_243 rfl ?_
  refine vx_bipush (v := 9) C dL_reads_245 (by decide) ?_
  refine vx_ncmp_ne C 2 9 259 dL_reads_247 (by decide) (by decide) (by decide) (fun h_17 => ?_) (fun h_16 => absurd h_16 (by decide))
  refine vx_iload C 12 dL_reads_259 rfl ?_
  refine vx_bipush (v := 6) C dL_reads_261 (by decide) ?_
  refine vx_ncmp_eq C 2 6 273 dL_reads_263 (by decide) (by decide) (by decide) (fun h_18 => absurd h_18 (by decide)) (fun h_19 => ?_)
  refine vx_iload C 12 dL_reads_266 rfl ?_
  refine vx_bipush (v := 10) C dL_reads_268 (by decide) ?_
  refine vx_ncmp_ne C 2 10 282 dL_reads_270 (by decide) (by decide) (by decide) (fun h_21 => ?_) (fun h_20 => absurd h_20 (by decide))
  refine vx_iload C 12 dL_reads_282 rfl ?_
  refine vx_bipush (v := 8) C dL_reads_284 (by decide) ?_
  refine vx_ncmp_lt C 2 8 301 dL_reads_286 (by decide) (by decide) (by decide) (fun h_23 => ?_) (fun h_22 => absurd h_22 (by decide))
  refine vx_iconst (v := 1) C dL_reads_301 (by decide) ?_
  refine vx_goto C 306 dL_reads_302 (by decide) ?_
  refine vx_istore (ls2 := [some (.ref (G.1 144)), some (.ref (G.1 145)), some (.ref (G.1 146)), some (.ref (G.1 147)), some (.ref (G.1 148)), some (.ref (G.1 149)), some (.int (nI y)), some (.int (nI d)), some (.int (nI cl)), some (.int 1), some (.int (nI cn)), some (.int (nI i)), some (.int 2), some (.int (nI one)), some (.int (nI two))]) C 9 dL_reads_306 (Nat.le_of_ble_eq_true rfl) rfl ?_
  refine vx_iload C 9 dL_reads_308 rfl ?_
  refine vx_nif_eq C 1 413 dL_reads_310 (by decide) (by decide) (fun h_24 => absurd h_24 (by decide)) (fun h_25 => ?_)
  refine vx_iload C 12 dL_reads_313 rfl ?_
  refine vx_iconst (v := 3) C dL_reads_315 (by decide) ?_
  refine vx_ncmp_lt C 2 3 363 dL_reads_316 (by decide) (by decide) (by decide) (fun h_27 => ?_) (fun h_26 => absurd h_26 (by decide))
  refine vx_iload C 12 dL_reads_363 rfl ?_
  refine vx_bipush (v := 7) C dL_reads_365 (by decide) ?_
  refine vx_ncmp_ne C 2 7 409 dL_reads_367 (by decide) (by decide) (by decide) (fun h_29 => ?_) (fun h_28 => absurd h_28 (by decide))
  refine vx_iconst (v := 1) C dL_reads_409 (by decide) ?_
  refine vx_goto C 414 dL_reads_410 (by decide) ?_
  refine vx_istore (ls2 := [some (.ref (G.1 144)), some (.ref (G.1 145)), some (.ref (G.1 146)), some (.ref (G.1 147)), some (.ref (G.1 148)), some (.ref (G.1 149)), some (.int (nI y)), some (.int (nI d)), some (.int (nI cl)), some (.int 1), some (.int (nI cn)), some (.int (nI i)), some (.int 2), some (.int (nI one)), some (.int (nI two))]) C 9 dL_reads_414 (Nat.le_of_ble_eq_true rfl) rfl ?_
  refine vx_keep (ls2 := [some (.ref (G.1 144)), some (.ref (G.1 145)), some (.ref (G.1 146)), some (.ref (G.1 147)), some (.ref (G.1 148)), some (.ref (G.1 149)), some (.int (nI y)), some (.int (nI d)), some (.int (nI cl)), some (.int 1), some (.int (nI cn)), some (.int (nI i)), some (.int 2), some (.int (nI one)), some (.int (nI two))]) ⟨rfl, rfl, rfl, rfl, rfl, rfl, rfl, rfl, rfl, rfl, rfl, rfl, rfl, rfl, rfl, trivial⟩ ?_
  have e : T ++ celW (2, one, two) = T ++ [33] := rfl
  exact hk _ hi_3 (by rw [e]; exact ht_3) hs_3
set_option maxRecDepth 100000 in
set_option maxHeartbeats 4000000 in
theorem lp_reads_k3 {p : Program} {l : Launch} {e : Env} {s : State} {m : MethodId} {args : Array Value} {below : List Frame} {meth : Method} {c : Code} {G : mw_GG} {A : Nat → Prop} {Q : State → Prop} (C : vx_C p s m args c G A cL_reads 15 wsL_reads RL) {X : va_W} {y d cl cn i : Nat} {Mi : mw_M} (hi : invV Mi) {T : List Nat} (ht : txP Mi T) {n : Nat} (hn : T.length = n) (hl : n ≤ 25) {one two : Nat} (hA : okA 3 one) (hB : okB 3 one two) (hk : ∀ M2, invV M2 → txP M2 (T ++ celW (3, one, two)) → stP Mi M2 → vx p l e ({ frames := 7, cells := 2, slots := 7, locals := 161 } : Room) s m args below meth c G A 0 0 Q M2 X 416 [some (.ref (G.1 144)), some (.ref (G.1 145)), some (.ref (G.1 146)), some (.ref (G.1 147)), some (.ref (G.1 148)), some (.ref (G.1 149)), some (.int (nI y)), some (.int (nI d)), some (.int (nI cl)), some (.int 1), some (.int (nI cn)), some (.int (nI i)), some (.int 3), some (.int (nI one)), some (.int (nI two))] []) : vx p l e ({ frames := 7, cells := 2, slots := 7, locals := 161 } : Room) s m args below meth c G A 0 0 Q Mi X 186 [some (.ref (G.1 144)), some (.ref (G.1 145)), some (.ref (G.1 146)), some (.ref (G.1 147)), some (.ref (G.1 148)), some (.ref (G.1 149)), some (.int (nI y)), some (.int (nI d)), some (.int (nI cl)), some (.int 1), some (.int (nI cn)), some (.int (nI i)), some (.int 3), some (.int (nI one)), some (.int (nI two))] [] := by
  obtain ⟨hA0, hA1, hA2, hA3⟩ := hA
  obtain ⟨hB1, hB2⟩ := hB
  refine vx_iload C 12 dL_reads_186 rfl ?_
  refine vx_iconst (v := 2) C dL_reads_188 (by decide) ?_
  refine vx_ncmp_gt C 3 2 222 dL_reads_189 (by decide) (by decide) (by decide) (fun h_2 => ?_) (fun h_1 => absurd h_1 (by decide))
  refine vx_iload C 12 dL_reads_222 rfl ?_
  refine vx_iconst (v := 4) C dL_reads_224 (by decide) ?_
  refine vx_ncmp_ne C 3 4 237 dL_reads_225 (by decide) (by decide) (by decide) (fun h_4 => ?_) (fun h_3 => absurd h_3 (by decide))
  refine vx_iload C 12 dL_reads_237 rfl ?_
  refine vx_iconst (v := 5) C dL_reads_239 (by decide) ?_
  refine vx_ncmp_eq C 3 5 250 dL_reads_240 (by decide) (by decide) (by decide) (fun h_5 => absurd h_5 (by decide)) (fun h_6 => ?_)
  refine vx_iload C 12 dL_reads_243 rfl ?_
  refine vx_bipush (v := 9) C dL_reads_245 (by decide) ?_
  refine vx_ncmp_ne C 3 9 259 dL_reads_247 (by decide) (by decide) (by decide) (fun h_8 => ?_) (fun h_7 => absurd h_7 (by decide))
  refine vx_iload C 12 dL_reads_259 rfl ?_
  refine vx_bipush (v := 6) C dL_reads_261 (by decide) ?_
  refine vx_ncmp_eq C 3 6 273 dL_reads_263 (by decide) (by decide) (by decide) (fun h_9 => absurd h_9 (by decide)) (fun h_10 => ?_)
  refine vx_iload C 12 dL_reads_266 rfl ?_
  refine vx_bipush (v := 10) C dL_reads_268 (by decide) ?_
  refine vx_ncmp_ne C 3 10 282 dL_reads_270 (by decide) (by decide) (by decide) (fun h_12 => ?_) (fun h_11 => absurd h_11 (by decide))
  refine vx_iload C 12 dL_reads_282 rfl ?_
  refine vx_bipush (v := 8) C dL_reads_284 (by decide) ?_
  refine vx_ncmp_lt C 3 8 301 dL_reads_286 (by decide) (by decide) (by decide) (fun h_14 => ?_) (fun h_13 => absurd h_13 (by decide))
  refine vx_iconst (v := 1) C dL_reads_301 (by decide) ?_
  refine vx_goto C 306 dL_reads_302 (by decide) ?_
  refine vx_istore (ls2 := [some (.ref (G.1 144)), some (.ref (G.1 145)), some (.ref (G.1 146)), some (.ref (G.1 147)), some (.ref (G.1 148)), some (.ref (G.1 149)), some (.int (nI y)), some (.int (nI d)), some (.int (nI cl)), some (.int 1), some (.int (nI cn)), some (.int (nI i)), some (.int 3), some (.int (nI one)), some (.int (nI two))]) C 9 dL_reads_306 (Nat.le_of_ble_eq_true rfl) rfl ?_
  refine vx_iload C 9 dL_reads_308 rfl ?_
  refine vx_nif_eq C 1 413 dL_reads_310 (by decide) (by decide) (fun h_15 => absurd h_15 (by decide)) (fun h_16 => ?_)
  refine vx_iload C 12 dL_reads_313 rfl ?_
  refine vx_iconst (v := 3) C dL_reads_315 (by decide) ?_
  refine vx_ncmp_lt C 3 3 363 dL_reads_316 (by decide) (by decide) (by decide) (fun h_17 => absurd h_17 (by decide)) (fun h_18 => ?_)
  refine vx_iload C 12 dL_reads_319 rfl ?_
  refine vx_bipush (v := 7) C dL_reads_321 (by decide) ?_
  refine vx_ncmp_gt C 3 7 363 dL_reads_323 (by decide) (by decide) (by decide) (fun h_19 => absurd h_19 (by decide)) (fun h_20 => ?_)
  refine vx_iload C 13 dL_reads_326 rfl ?_
  refine vx_bipush (v := 10) C dL_reads_328 (by decide) ?_
  refine vx_ncmp_lt C one 10 348 dL_reads_330 (by decide) (by omega) (by decide) (fun h_lt10 => ?_) (fun h_ge10 => ?_)
  · refine vx_aload_n C 0 dL_reads_348 rfl rfl ?_
    refine vx_bipush (v := 48) C dL_reads_349 (by decide) ?_
    refine vx_iload C 13 dL_reads_351 rfl ?_
    refine vx_bipush (v := 10) C dL_reads_353 (by decide) ?_
    refine vx_irem C dL_reads_355 (by decide) ?_
    refine vx_top (y := nI one) ((pk_rem (a := one) (d := 10) (by omega) (by omega) (by omega)).trans (congrArg nI (Nat.mod_eq_of_lt h_lt10))) ?_
    refine vx_iadd C dL_reads_356 ?_
    refine vx_top (y := nI (48 + one)) (nI_add 48 one) ?_
    refine vx_callVIP C [.int (nI (48 + one))] (c_X8_type Mi hi.1 hi.2.1 hi.2.2.1 (nI (48 + one))) sh_144 rfl (cwV 1 C.1.2.2.2.2 gL_reads_X8_type rfl rfl rfl (by decide +kernel) ⟨Nat.le_of_ble_eq_true rfl, Nat.le_of_ble_eq_true rfl⟩) rfl rfl rfl (Nat.le_of_ble_eq_true rfl) dL_reads_357 ⟨Nat.le_of_ble_eq_true rfl, Nat.le_of_ble_eq_true rfl⟩ (fun x_23 M_24 h_25 => ?_)
    obtain ⟨e_4, hi_4, ht_4, hn_4, hs_4⟩ := ty_step (c := 48 + one) hi ht hn (by omega) (by omega) (by omega) h_25
    refine vx_top (y := nI (n + 1)) e_4 ?_
    refine vx_nif_le C (n + 1) 413 dL_reads_360 (by decide) (by omega) (fun h_26 => absurd h_26 (by omega)) (fun h_27 => ?_)
    refine vx_iload C 12 dL_reads_363 rfl ?_
    refine vx_bipush (v := 7) C dL_reads_365 (by decide) ?_
    refine vx_ncmp_ne C 3 7 409 dL_reads_367 (by decide) (by decide) (by decide) (fun h_29 => ?_) (fun h_28 => absurd h_28 (by decide))
    refine vx_iconst (v := 1) C dL_reads_409 (by decide) ?_
    refine vx_goto C 414 dL_reads_410 (by decide) ?_
    refine vx_istore (ls2 := [some (.ref (G.1 144)), some (.ref (G.1 145)), some (.ref (G.1 146)), some (.ref (G.1 147)), some (.ref (G.1 148)), some (.ref (G.1 149)), some (.int (nI y)), some (.int (nI d)), some (.int (nI cl)), some (.int 1), some (.int (nI cn)), some (.int (nI i)), some (.int 3), some (.int (nI one)), some (.int (nI two))]) C 9 dL_reads_414 (Nat.le_of_ble_eq_true rfl) rfl ?_
    refine vx_keep (ls2 := [some (.ref (G.1 144)), some (.ref (G.1 145)), some (.ref (G.1 146)), some (.ref (G.1 147)), some (.ref (G.1 148)), some (.ref (G.1 149)), some (.int (nI y)), some (.int (nI d)), some (.int (nI cl)), some (.int 1), some (.int (nI cn)), some (.int (nI i)), some (.int 3), some (.int (nI one)), some (.int (nI two))]) ⟨rfl, rfl, rfl, rfl, rfl, rfl, rfl, rfl, rfl, rfl, rfl, rfl, rfl, rfl, rfl, trivial⟩ ?_
    have e : T ++ celW (3, one, two) = T ++ [48 + one] := by show T ++ (numW one) = _; simp only [numW1 h_lt10, List.append_assoc, List.cons_append, List.nil_append]
    exact hk _ hi_4 (by rw [e]; exact ht_4) hs_4
  · refine vx_aload_n C 0 dL_reads_333 rfl rfl ?_
    refine vx_bipush (v := 48) C dL_reads_334 (by decide) ?_
    refine vx_iload C 13 dL_reads_336 rfl ?_
    refine vx_bipush (v := 10) C dL_reads_338 (by decide) ?_
    refine vx_idiv C dL_reads_340 (by decide) ?_
    refine vx_top (y := nI (one / 10)) (pk_div (a := one) (d := 10) (by omega) (by omega) (by omega)) ?_
    refine vx_iadd C dL_reads_341 ?_
    refine vx_top (y := nI (48 + (one / 10))) (nI_add 48 (one / 10)) ?_
    refine vx_callVIP C [.int (nI (48 + (one / 10)))] (c_X8_type Mi hi.1 hi.2.1 hi.2.2.1 (nI (48 + (one / 10)))) sh_144 rfl (cwV 1 C.1.2.2.2.2 gL_reads_X8_type rfl rfl rfl (by decide +kernel) ⟨Nat.le_of_ble_eq_true rfl, Nat.le_of_ble_eq_true rfl⟩) rfl rfl rfl (Nat.le_of_ble_eq_true rfl) dL_reads_342 ⟨Nat.le_of_ble_eq_true rfl, Nat.le_of_ble_eq_true rfl⟩ (fun x_30 M_31 h_32 => ?_)
    obtain ⟨e_5, hi_5, ht_5, hn_5, hs_5⟩ := ty_step (c := 48 + one / 10) hi ht hn (by omega) (by omega) (by omega) h_32
    refine vx_top (y := nI (n + 1)) e_5 ?_
    refine vx_nif_le C (n + 1) 413 dL_reads_345 (by decide) (by omega) (fun h_33 => absurd h_33 (by omega)) (fun h_34 => ?_)
    refine vx_aload_n C 0 dL_reads_348 rfl rfl ?_
    refine vx_bipush (v := 48) C dL_reads_349 (by decide) ?_
    refine vx_iload C 13 dL_reads_351 rfl ?_
    refine vx_bipush (v := 10) C dL_reads_353 (by decide) ?_
    refine vx_irem C dL_reads_355 (by decide) ?_
    refine vx_top (y := nI (one % 10)) (pk_rem (a := one) (d := 10) (by omega) (by omega) (by omega)) ?_
    refine vx_iadd C dL_reads_356 ?_
    refine vx_top (y := nI (48 + (one % 10))) (nI_add 48 (one % 10)) ?_
    refine vx_callVIP C [.int (nI (48 + (one % 10)))] (c_X8_type M_31 hi_5.1 hi_5.2.1 hi_5.2.2.1 (nI (48 + (one % 10)))) sh_144 rfl (cwV 1 C.1.2.2.2.2 gL_reads_X8_type rfl rfl rfl (by decide +kernel) ⟨Nat.le_of_ble_eq_true rfl, Nat.le_of_ble_eq_true rfl⟩) rfl rfl rfl (Nat.le_of_ble_eq_true rfl) dL_reads_357 ⟨Nat.le_of_ble_eq_true rfl, Nat.le_of_ble_eq_true rfl⟩ (fun x_35 M_36 h_37 => ?_)
    obtain ⟨e_6, hi_6, ht_6, hn_6, hs_6⟩ := ty_step (c := 48 + one % 10) hi_5 ht_5 hn_5 (by omega) (by omega) (by omega) h_37
    refine vx_top (y := nI (n + 1 + 1)) e_6 ?_
    refine vx_nif_le C (n + 1 + 1) 413 dL_reads_360 (by decide) (by omega) (fun h_38 => absurd h_38 (by omega)) (fun h_39 => ?_)
    refine vx_iload C 12 dL_reads_363 rfl ?_
    refine vx_bipush (v := 7) C dL_reads_365 (by decide) ?_
    refine vx_ncmp_ne C 3 7 409 dL_reads_367 (by decide) (by decide) (by decide) (fun h_41 => ?_) (fun h_40 => absurd h_40 (by decide))
    refine vx_iconst (v := 1) C dL_reads_409 (by decide) ?_
    refine vx_goto C 414 dL_reads_410 (by decide) ?_
    refine vx_istore (ls2 := [some (.ref (G.1 144)), some (.ref (G.1 145)), some (.ref (G.1 146)), some (.ref (G.1 147)), some (.ref (G.1 148)), some (.ref (G.1 149)), some (.int (nI y)), some (.int (nI d)), some (.int (nI cl)), some (.int 1), some (.int (nI cn)), some (.int (nI i)), some (.int 3), some (.int (nI one)), some (.int (nI two))]) C 9 dL_reads_414 (Nat.le_of_ble_eq_true rfl) rfl ?_
    refine vx_keep (ls2 := [some (.ref (G.1 144)), some (.ref (G.1 145)), some (.ref (G.1 146)), some (.ref (G.1 147)), some (.ref (G.1 148)), some (.ref (G.1 149)), some (.int (nI y)), some (.int (nI d)), some (.int (nI cl)), some (.int 1), some (.int (nI cn)), some (.int (nI i)), some (.int 3), some (.int (nI one)), some (.int (nI two))]) ⟨rfl, rfl, rfl, rfl, rfl, rfl, rfl, rfl, rfl, rfl, rfl, rfl, rfl, rfl, rfl, trivial⟩ ?_
    have e : T ++ celW (3, one, two) = (T ++ [48 + one / 10]) ++ [48 + one % 10] := by show T ++ (numW one) = _; simp only [numW2 h_ge10, List.append_assoc, List.cons_append, List.nil_append]
    exact hk _ hi_6 (by rw [e]; exact ht_6) (hs_5.tr hs_6)
set_option maxRecDepth 100000 in
set_option maxHeartbeats 4000000 in
theorem lp_reads_k4 {p : Program} {l : Launch} {e : Env} {s : State} {m : MethodId} {args : Array Value} {below : List Frame} {meth : Method} {c : Code} {G : mw_GG} {A : Nat → Prop} {Q : State → Prop} (C : vx_C p s m args c G A cL_reads 15 wsL_reads RL) {X : va_W} {y d cl cn i : Nat} {Mi : mw_M} (hi : invV Mi) {T : List Nat} (ht : txP Mi T) {n : Nat} (hn : T.length = n) (hl : n ≤ 25) {one two : Nat} (hA : okA 4 one) (hB : okB 4 one two) (hk : ∀ M2, invV M2 → txP M2 (T ++ celW (4, one, two)) → stP Mi M2 → vx p l e ({ frames := 7, cells := 2, slots := 7, locals := 161 } : Room) s m args below meth c G A 0 0 Q M2 X 416 [some (.ref (G.1 144)), some (.ref (G.1 145)), some (.ref (G.1 146)), some (.ref (G.1 147)), some (.ref (G.1 148)), some (.ref (G.1 149)), some (.int (nI y)), some (.int (nI d)), some (.int (nI cl)), some (.int 1), some (.int (nI cn)), some (.int (nI i)), some (.int 4), some (.int (nI one)), some (.int (nI two))] []) : vx p l e ({ frames := 7, cells := 2, slots := 7, locals := 161 } : Room) s m args below meth c G A 0 0 Q Mi X 186 [some (.ref (G.1 144)), some (.ref (G.1 145)), some (.ref (G.1 146)), some (.ref (G.1 147)), some (.ref (G.1 148)), some (.ref (G.1 149)), some (.int (nI y)), some (.int (nI d)), some (.int (nI cl)), some (.int 1), some (.int (nI cn)), some (.int (nI i)), some (.int 4), some (.int (nI one)), some (.int (nI two))] [] := by
  obtain ⟨hA0, hA1, hA2, hA3⟩ := hA
  obtain ⟨hB1, hB2⟩ := hB
  refine vx_iload C 12 dL_reads_186 rfl ?_
  refine vx_iconst (v := 2) C dL_reads_188 (by decide) ?_
  refine vx_ncmp_gt C 4 2 222 dL_reads_189 (by decide) (by decide) (by decide) (fun h_2 => ?_) (fun h_1 => absurd h_1 (by decide))
  refine vx_iload C 12 dL_reads_222 rfl ?_
  refine vx_iconst (v := 4) C dL_reads_224 (by decide) ?_
  refine vx_ncmp_ne C 4 4 237 dL_reads_225 (by decide) (by decide) (by decide) (fun h_3 => absurd h_3 (by decide)) (fun h_4 => ?_)
  refine vx_aload_n C 0 dL_reads_228 rfl rfl ?_
  refine vx_bipush (v := 35) C dL_reads_229 (by decide) ?_
  refine vx_callVIP C [.int 35] (c_X8_type Mi hi.1 hi.2.1 hi.2.2.1 35) sh_144 rfl (cwV 1 C.1.2.2.2.2 gL_reads_X8_type rfl rfl rfl (by decide +kernel) ⟨Nat.le_of_ble_eq_true rfl, Nat.le_of_ble_eq_true rfl⟩) rfl rfl rfl (Nat.le_of_ble_eq_true rfl) dL_reads_231 ⟨Nat.le_of_ble_eq_true rfl, Nat.le_of_ble_eq_true rfl⟩ (fun x_5 M_6 h_7 => ?_)
  obtain ⟨e_7, hi_7, ht_7, hn_7, hs_7⟩ := ty_step (c := 35) hi ht hn (by omega) (by omega) (by omega) h_7
  refine vx_top (y := nI (n + 1)) e_7 ?_
  refine vx_nif_le C (n + 1) 305 dL_reads_234 (by decide) (by omega) (fun h_8 => absurd h_8 (by omega)) (fun h_9 => ?_)
  refine vx_iload C 12 dL_reads_237 rfl ?_
  refine vx_iconst (v := 5) C dL_reads_239 (by decide) ?_
  refine vx_ncmp_eq C 4 5 250 dL_reads_240 (by decide) (by decide) (by decide) (fun h_10 => absurd h_10 (by decide)) (fun h_11 => ?_)
  refine vx_iload C 12 dL_reads_243 rfl ?_
  refine vx_bipush (v := 9) C dL_reads_245 (by decide) ?_
  refine vx_ncmp_ne C 4 9 259 dL_reads_247 (by decide) (by decide) (by decide) (fun h_13 => ?_) (fun h_12 => absurd h_12 (by decide))
  refine vx_iload C 12 dL_reads_259 rfl ?_
  refine vx_bipush (v := 6) C dL_reads_261 (by decide) ?_
  refine vx_ncmp_eq C 4 6 273 dL_reads_263 (by decide) (by decide) (by decide) (fun h_14 => absurd h_14 (by decide)) (fun h_15 => ?_)
  refine vx_iload C 12 dL_reads_266 rfl ?_
  refine vx_bipush (v := 10) C dL_reads_268 (by decide) ?_
  refine vx_ncmp_ne C 4 10 282 dL_reads_270 (by decide) (by decide) (by decide) (fun h_17 => ?_) (fun h_16 => absurd h_16 (by decide))
  refine vx_iload C 12 dL_reads_282 rfl ?_
  refine vx_bipush (v := 8) C dL_reads_284 (by decide) ?_
  refine vx_ncmp_lt C 4 8 301 dL_reads_286 (by decide) (by decide) (by decide) (fun h_19 => ?_) (fun h_18 => absurd h_18 (by decide))
  refine vx_iconst (v := 1) C dL_reads_301 (by decide) ?_
  refine vx_goto C 306 dL_reads_302 (by decide) ?_
  refine vx_istore (ls2 := [some (.ref (G.1 144)), some (.ref (G.1 145)), some (.ref (G.1 146)), some (.ref (G.1 147)), some (.ref (G.1 148)), some (.ref (G.1 149)), some (.int (nI y)), some (.int (nI d)), some (.int (nI cl)), some (.int 1), some (.int (nI cn)), some (.int (nI i)), some (.int 4), some (.int (nI one)), some (.int (nI two))]) C 9 dL_reads_306 (Nat.le_of_ble_eq_true rfl) rfl ?_
  refine vx_iload C 9 dL_reads_308 rfl ?_
  refine vx_nif_eq C 1 413 dL_reads_310 (by decide) (by decide) (fun h_20 => absurd h_20 (by decide)) (fun h_21 => ?_)
  refine vx_iload C 12 dL_reads_313 rfl ?_
  refine vx_iconst (v := 3) C dL_reads_315 (by decide) ?_
  refine vx_ncmp_lt C 4 3 363 dL_reads_316 (by decide) (by decide) (by decide) (fun h_22 => absurd h_22 (by decide)) (fun h_23 => ?_)
  refine vx_iload C 12 dL_reads_319 rfl ?_
  refine vx_bipush (v := 7) C dL_reads_321 (by decide) ?_
  refine vx_ncmp_gt C 4 7 363 dL_reads_323 (by decide) (by decide) (by decide) (fun h_24 => absurd h_24 (by decide)) (fun h_25 => ?_)
  refine vx_iload C 13 dL_reads_326 rfl ?_
  refine vx_bipush (v := 10) C dL_reads_328 (by decide) ?_
  refine vx_ncmp_lt C one 10 348 dL_reads_330 (by decide) (by omega) (by decide) (fun h_lt10 => ?_) (fun h_ge10 => ?_)
  · refine vx_aload_n C 0 dL_reads_348 rfl rfl ?_
    refine vx_bipush (v := 48) C dL_reads_349 (by decide) ?_
    refine vx_iload C 13 dL_reads_351 rfl ?_
    refine vx_bipush (v := 10) C dL_reads_353 (by decide) ?_
    refine vx_irem C dL_reads_355 (by decide) ?_
    refine vx_top (y := nI one) ((pk_rem (a := one) (d := 10) (by omega) (by omega) (by omega)).trans (congrArg nI (Nat.mod_eq_of_lt h_lt10))) ?_
    refine vx_iadd C dL_reads_356 ?_
    refine vx_top (y := nI (48 + one)) (nI_add 48 one) ?_
    refine vx_callVIP C [.int (nI (48 + one))] (c_X8_type M_6 hi_7.1 hi_7.2.1 hi_7.2.2.1 (nI (48 + one))) sh_144 rfl (cwV 1 C.1.2.2.2.2 gL_reads_X8_type rfl rfl rfl (by decide +kernel) ⟨Nat.le_of_ble_eq_true rfl, Nat.le_of_ble_eq_true rfl⟩) rfl rfl rfl (Nat.le_of_ble_eq_true rfl) dL_reads_357 ⟨Nat.le_of_ble_eq_true rfl, Nat.le_of_ble_eq_true rfl⟩ (fun x_28 M_29 h_30 => ?_)
    obtain ⟨e_8, hi_8, ht_8, hn_8, hs_8⟩ := ty_step (c := 48 + one) hi_7 ht_7 hn_7 (by omega) (by omega) (by omega) h_30
    refine vx_top (y := nI (n + 1 + 1)) e_8 ?_
    refine vx_nif_le C (n + 1 + 1) 413 dL_reads_360 (by decide) (by omega) (fun h_31 => absurd h_31 (by omega)) (fun h_32 => ?_)
    refine vx_iload C 12 dL_reads_363 rfl ?_
    refine vx_bipush (v := 7) C dL_reads_365 (by decide) ?_
    refine vx_ncmp_ne C 4 7 409 dL_reads_367 (by decide) (by decide) (by decide) (fun h_34 => ?_) (fun h_33 => absurd h_33 (by decide))
    refine vx_iconst (v := 1) C dL_reads_409 (by decide) ?_
    refine vx_goto C 414 dL_reads_410 (by decide) ?_
    refine vx_istore (ls2 := [some (.ref (G.1 144)), some (.ref (G.1 145)), some (.ref (G.1 146)), some (.ref (G.1 147)), some (.ref (G.1 148)), some (.ref (G.1 149)), some (.int (nI y)), some (.int (nI d)), some (.int (nI cl)), some (.int 1), some (.int (nI cn)), some (.int (nI i)), some (.int 4), some (.int (nI one)), some (.int (nI two))]) C 9 dL_reads_414 (Nat.le_of_ble_eq_true rfl) rfl ?_
    refine vx_keep (ls2 := [some (.ref (G.1 144)), some (.ref (G.1 145)), some (.ref (G.1 146)), some (.ref (G.1 147)), some (.ref (G.1 148)), some (.ref (G.1 149)), some (.int (nI y)), some (.int (nI d)), some (.int (nI cl)), some (.int 1), some (.int (nI cn)), some (.int (nI i)), some (.int 4), some (.int (nI one)), some (.int (nI two))]) ⟨rfl, rfl, rfl, rfl, rfl, rfl, rfl, rfl, rfl, rfl, rfl, rfl, rfl, rfl, rfl, trivial⟩ ?_
    have e : T ++ celW (4, one, two) = (T ++ [35]) ++ [48 + one] := by show T ++ (35 :: numW one) = _; simp only [numW1 h_lt10, List.append_assoc, List.cons_append, List.nil_append]
    exact hk _ hi_8 (by rw [e]; exact ht_8) (hs_7.tr hs_8)
  · refine vx_aload_n C 0 dL_reads_333 rfl rfl ?_
    refine vx_bipush (v := 48) C dL_reads_334 (by decide) ?_
    refine vx_iload C 13 dL_reads_336 rfl ?_
    refine vx_bipush (v := 10) C dL_reads_338 (by decide) ?_
    refine vx_idiv C dL_reads_340 (by decide) ?_
    refine vx_top (y := nI (one / 10)) (pk_div (a := one) (d := 10) (by omega) (by omega) (by omega)) ?_
    refine vx_iadd C dL_reads_341 ?_
    refine vx_top (y := nI (48 + (one / 10))) (nI_add 48 (one / 10)) ?_
    refine vx_callVIP C [.int (nI (48 + (one / 10)))] (c_X8_type M_6 hi_7.1 hi_7.2.1 hi_7.2.2.1 (nI (48 + (one / 10)))) sh_144 rfl (cwV 1 C.1.2.2.2.2 gL_reads_X8_type rfl rfl rfl (by decide +kernel) ⟨Nat.le_of_ble_eq_true rfl, Nat.le_of_ble_eq_true rfl⟩) rfl rfl rfl (Nat.le_of_ble_eq_true rfl) dL_reads_342 ⟨Nat.le_of_ble_eq_true rfl, Nat.le_of_ble_eq_true rfl⟩ (fun x_35 M_36 h_37 => ?_)
    obtain ⟨e_9, hi_9, ht_9, hn_9, hs_9⟩ := ty_step (c := 48 + one / 10) hi_7 ht_7 hn_7 (by omega) (by omega) (by omega) h_37
    refine vx_top (y := nI (n + 1 + 1)) e_9 ?_
    refine vx_nif_le C (n + 1 + 1) 413 dL_reads_345 (by decide) (by omega) (fun h_38 => absurd h_38 (by omega)) (fun h_39 => ?_)
    refine vx_aload_n C 0 dL_reads_348 rfl rfl ?_
    refine vx_bipush (v := 48) C dL_reads_349 (by decide) ?_
    refine vx_iload C 13 dL_reads_351 rfl ?_
    refine vx_bipush (v := 10) C dL_reads_353 (by decide) ?_
    refine vx_irem C dL_reads_355 (by decide) ?_
    refine vx_top (y := nI (one % 10)) (pk_rem (a := one) (d := 10) (by omega) (by omega) (by omega)) ?_
    refine vx_iadd C dL_reads_356 ?_
    refine vx_top (y := nI (48 + (one % 10))) (nI_add 48 (one % 10)) ?_
    refine vx_callVIP C [.int (nI (48 + (one % 10)))] (c_X8_type M_36 hi_9.1 hi_9.2.1 hi_9.2.2.1 (nI (48 + (one % 10)))) sh_144 rfl (cwV 1 C.1.2.2.2.2 gL_reads_X8_type rfl rfl rfl (by decide +kernel) ⟨Nat.le_of_ble_eq_true rfl, Nat.le_of_ble_eq_true rfl⟩) rfl rfl rfl (Nat.le_of_ble_eq_true rfl) dL_reads_357 ⟨Nat.le_of_ble_eq_true rfl, Nat.le_of_ble_eq_true rfl⟩ (fun x_40 M_41 h_42 => ?_)
    obtain ⟨e_10, hi_10, ht_10, hn_10, hs_10⟩ := ty_step (c := 48 + one % 10) hi_9 ht_9 hn_9 (by omega) (by omega) (by omega) h_42
    refine vx_top (y := nI (n + 1 + 1 + 1)) e_10 ?_
    refine vx_nif_le C (n + 1 + 1 + 1) 413 dL_reads_360 (by decide) (by omega) (fun h_43 => absurd h_43 (by omega)) (fun h_44 => ?_)
    refine vx_iload C 12 dL_reads_363 rfl ?_
    refine vx_bipush (v := 7) C dL_reads_365 (by decide) ?_
    refine vx_ncmp_ne C 4 7 409 dL_reads_367 (by decide) (by decide) (by decide) (fun h_46 => ?_) (fun h_45 => absurd h_45 (by decide))
    refine vx_iconst (v := 1) C dL_reads_409 (by decide) ?_
    refine vx_goto C 414 dL_reads_410 (by decide) ?_
    refine vx_istore (ls2 := [some (.ref (G.1 144)), some (.ref (G.1 145)), some (.ref (G.1 146)), some (.ref (G.1 147)), some (.ref (G.1 148)), some (.ref (G.1 149)), some (.int (nI y)), some (.int (nI d)), some (.int (nI cl)), some (.int 1), some (.int (nI cn)), some (.int (nI i)), some (.int 4), some (.int (nI one)), some (.int (nI two))]) C 9 dL_reads_414 (Nat.le_of_ble_eq_true rfl) rfl ?_
    refine vx_keep (ls2 := [some (.ref (G.1 144)), some (.ref (G.1 145)), some (.ref (G.1 146)), some (.ref (G.1 147)), some (.ref (G.1 148)), some (.ref (G.1 149)), some (.int (nI y)), some (.int (nI d)), some (.int (nI cl)), some (.int 1), some (.int (nI cn)), some (.int (nI i)), some (.int 4), some (.int (nI one)), some (.int (nI two))]) ⟨rfl, rfl, rfl, rfl, rfl, rfl, rfl, rfl, rfl, rfl, rfl, rfl, rfl, rfl, rfl, trivial⟩ ?_
    have e : T ++ celW (4, one, two) = ((T ++ [35]) ++ [48 + one / 10]) ++ [48 + one % 10] := by show T ++ (35 :: numW one) = _; simp only [numW2 h_ge10, List.append_assoc, List.cons_append, List.nil_append]
    exact hk _ hi_10 (by rw [e]; exact ht_10) ((hs_7.tr hs_9).tr hs_10)
set_option maxRecDepth 100000 in
set_option maxHeartbeats 4000000 in
theorem lp_reads_k5 {p : Program} {l : Launch} {e : Env} {s : State} {m : MethodId} {args : Array Value} {below : List Frame} {meth : Method} {c : Code} {G : mw_GG} {A : Nat → Prop} {Q : State → Prop} (C : vx_C p s m args c G A cL_reads 15 wsL_reads RL) {X : va_W} {y d cl cn i : Nat} {Mi : mw_M} (hi : invV Mi) {T : List Nat} (ht : txP Mi T) {n : Nat} (hn : T.length = n) (hl : n ≤ 25) {one two : Nat} (hA : okA 5 one) (hB : okB 5 one two) (hk : ∀ M2, invV M2 → txP M2 (T ++ celW (5, one, two)) → stP Mi M2 → vx p l e ({ frames := 7, cells := 2, slots := 7, locals := 161 } : Room) s m args below meth c G A 0 0 Q M2 X 416 [some (.ref (G.1 144)), some (.ref (G.1 145)), some (.ref (G.1 146)), some (.ref (G.1 147)), some (.ref (G.1 148)), some (.ref (G.1 149)), some (.int (nI y)), some (.int (nI d)), some (.int (nI cl)), some (.int 1), some (.int (nI cn)), some (.int (nI i)), some (.int 5), some (.int (nI one)), some (.int (nI two))] []) : vx p l e ({ frames := 7, cells := 2, slots := 7, locals := 161 } : Room) s m args below meth c G A 0 0 Q Mi X 186 [some (.ref (G.1 144)), some (.ref (G.1 145)), some (.ref (G.1 146)), some (.ref (G.1 147)), some (.ref (G.1 148)), some (.ref (G.1 149)), some (.int (nI y)), some (.int (nI d)), some (.int (nI cl)), some (.int 1), some (.int (nI cn)), some (.int (nI i)), some (.int 5), some (.int (nI one)), some (.int (nI two))] [] := by
  obtain ⟨hA0, hA1, hA2, hA3⟩ := hA
  obtain ⟨hB1, hB2⟩ := hB
  refine vx_iload C 12 dL_reads_186 rfl ?_
  refine vx_iconst (v := 2) C dL_reads_188 (by decide) ?_
  refine vx_ncmp_gt C 5 2 222 dL_reads_189 (by decide) (by decide) (by decide) (fun h_2 => ?_) (fun h_1 => absurd h_1 (by decide))
  refine vx_iload C 12 dL_reads_222 rfl ?_
  refine vx_iconst (v := 4) C dL_reads_224 (by decide) ?_
  refine vx_ncmp_ne C 5 4 237 dL_reads_225 (by decide) (by decide) (by decide) (fun h_4 => ?_) (fun h_3 => absurd h_3 (by decide))
  refine vx_iload C 12 dL_reads_237 rfl ?_
  refine vx_iconst (v := 5) C dL_reads_239 (by decide) ?_
  refine vx_ncmp_eq C 5 5 250 dL_reads_240 (by decide) (by decide) (by decide) (fun h_6 => ?_) (fun h_5 => absurd h_5 (by decide))
  refine vx_aload_n C 0 dL_reads_250 rfl rfl ?_
  refine vx_bipush (v := 60) C dL_reads_251 (by decide) ?_
  refine vx_callVIP C [.int 60] (c_X8_type Mi hi.1 hi.2.1 hi.2.2.1 60) sh_144 rfl (cwV 1 C.1.2.2.2.2 gL_reads_X8_type rfl rfl rfl (by decide +kernel) ⟨Nat.le_of_ble_eq_true rfl, Nat.le_of_ble_eq_true rfl⟩) rfl rfl rfl (Nat.le_of_ble_eq_true rfl) dL_reads_253 ⟨Nat.le_of_ble_eq_true rfl, Nat.le_of_ble_eq_true rfl⟩ (fun x_7 M_8 h_9 => ?_)
  obtain ⟨e_11, hi_11, ht_11, hn_11, hs_11⟩ := ty_step (c := 60) hi ht hn (by omega) (by omega) (by omega) h_9
  refine vx_top (y := nI (n + 1)) e_11 ?_
  refine vx_nif_le C (n + 1) 305 dL_reads_256 (by decide) (by omega) (fun h_10 => absurd h_10 (by omega)) (fun h_11 => ?_)
  refine vx_iload C 12 dL_reads_259 rfl ?_
  refine vx_bipush (v := 6) C dL_reads_261 (by decide) ?_
  refine vx_ncmp_eq C 5 6 273 dL_reads_263 (by decide) (by decide) (by decide) (fun h_12 => absurd h_12 (by decide)) (fun h_13 => ?_)
  refine vx_iload C 12 dL_reads_266 rfl ?_
  refine vx_bipush (v := 10) C dL_reads_268 (by decide) ?_
  refine vx_ncmp_ne C 5 10 282 dL_reads_270 (by decide) (by decide) (by decide) (fun h_15 => ?_) (fun h_14 => absurd h_14 (by decide))
  refine vx_iload C 12 dL_reads_282 rfl ?_
  refine vx_bipush (v := 8) C dL_reads_284 (by decide) ?_
  refine vx_ncmp_lt C 5 8 301 dL_reads_286 (by decide) (by decide) (by decide) (fun h_17 => ?_) (fun h_16 => absurd h_16 (by decide))
  refine vx_iconst (v := 1) C dL_reads_301 (by decide) ?_
  refine vx_goto C 306 dL_reads_302 (by decide) ?_
  refine vx_istore (ls2 := [some (.ref (G.1 144)), some (.ref (G.1 145)), some (.ref (G.1 146)), some (.ref (G.1 147)), some (.ref (G.1 148)), some (.ref (G.1 149)), some (.int (nI y)), some (.int (nI d)), some (.int (nI cl)), some (.int 1), some (.int (nI cn)), some (.int (nI i)), some (.int 5), some (.int (nI one)), some (.int (nI two))]) C 9 dL_reads_306 (Nat.le_of_ble_eq_true rfl) rfl ?_
  refine vx_iload C 9 dL_reads_308 rfl ?_
  refine vx_nif_eq C 1 413 dL_reads_310 (by decide) (by decide) (fun h_18 => absurd h_18 (by decide)) (fun h_19 => ?_)
  refine vx_iload C 12 dL_reads_313 rfl ?_
  refine vx_iconst (v := 3) C dL_reads_315 (by decide) ?_
  refine vx_ncmp_lt C 5 3 363 dL_reads_316 (by decide) (by decide) (by decide) (fun h_20 => absurd h_20 (by decide)) (fun h_21 => ?_)
  refine vx_iload C 12 dL_reads_319 rfl ?_
  refine vx_bipush (v := 7) C dL_reads_321 (by decide) ?_
  refine vx_ncmp_gt C 5 7 363 dL_reads_323 (by decide) (by decide) (by decide) (fun h_22 => absurd h_22 (by decide)) (fun h_23 => ?_)
  refine vx_iload C 13 dL_reads_326 rfl ?_
  refine vx_bipush (v := 10) C dL_reads_328 (by decide) ?_
  refine vx_ncmp_lt C one 10 348 dL_reads_330 (by decide) (by omega) (by decide) (fun h_lt10 => ?_) (fun h_ge10 => ?_)
  · refine vx_aload_n C 0 dL_reads_348 rfl rfl ?_
    refine vx_bipush (v := 48) C dL_reads_349 (by decide) ?_
    refine vx_iload C 13 dL_reads_351 rfl ?_
    refine vx_bipush (v := 10) C dL_reads_353 (by decide) ?_
    refine vx_irem C dL_reads_355 (by decide) ?_
    refine vx_top (y := nI one) ((pk_rem (a := one) (d := 10) (by omega) (by omega) (by omega)).trans (congrArg nI (Nat.mod_eq_of_lt h_lt10))) ?_
    refine vx_iadd C dL_reads_356 ?_
    refine vx_top (y := nI (48 + one)) (nI_add 48 one) ?_
    refine vx_callVIP C [.int (nI (48 + one))] (c_X8_type M_8 hi_11.1 hi_11.2.1 hi_11.2.2.1 (nI (48 + one))) sh_144 rfl (cwV 1 C.1.2.2.2.2 gL_reads_X8_type rfl rfl rfl (by decide +kernel) ⟨Nat.le_of_ble_eq_true rfl, Nat.le_of_ble_eq_true rfl⟩) rfl rfl rfl (Nat.le_of_ble_eq_true rfl) dL_reads_357 ⟨Nat.le_of_ble_eq_true rfl, Nat.le_of_ble_eq_true rfl⟩ (fun x_26 M_27 h_28 => ?_)
    obtain ⟨e_12, hi_12, ht_12, hn_12, hs_12⟩ := ty_step (c := 48 + one) hi_11 ht_11 hn_11 (by omega) (by omega) (by omega) h_28
    refine vx_top (y := nI (n + 1 + 1)) e_12 ?_
    refine vx_nif_le C (n + 1 + 1) 413 dL_reads_360 (by decide) (by omega) (fun h_29 => absurd h_29 (by omega)) (fun h_30 => ?_)
    refine vx_iload C 12 dL_reads_363 rfl ?_
    refine vx_bipush (v := 7) C dL_reads_365 (by decide) ?_
    refine vx_ncmp_ne C 5 7 409 dL_reads_367 (by decide) (by decide) (by decide) (fun h_32 => ?_) (fun h_31 => absurd h_31 (by decide))
    refine vx_iconst (v := 1) C dL_reads_409 (by decide) ?_
    refine vx_goto C 414 dL_reads_410 (by decide) ?_
    refine vx_istore (ls2 := [some (.ref (G.1 144)), some (.ref (G.1 145)), some (.ref (G.1 146)), some (.ref (G.1 147)), some (.ref (G.1 148)), some (.ref (G.1 149)), some (.int (nI y)), some (.int (nI d)), some (.int (nI cl)), some (.int 1), some (.int (nI cn)), some (.int (nI i)), some (.int 5), some (.int (nI one)), some (.int (nI two))]) C 9 dL_reads_414 (Nat.le_of_ble_eq_true rfl) rfl ?_
    refine vx_keep (ls2 := [some (.ref (G.1 144)), some (.ref (G.1 145)), some (.ref (G.1 146)), some (.ref (G.1 147)), some (.ref (G.1 148)), some (.ref (G.1 149)), some (.int (nI y)), some (.int (nI d)), some (.int (nI cl)), some (.int 1), some (.int (nI cn)), some (.int (nI i)), some (.int 5), some (.int (nI one)), some (.int (nI two))]) ⟨rfl, rfl, rfl, rfl, rfl, rfl, rfl, rfl, rfl, rfl, rfl, rfl, rfl, rfl, rfl, trivial⟩ ?_
    have e : T ++ celW (5, one, two) = (T ++ [60]) ++ [48 + one] := by show T ++ (60 :: numW one) = _; simp only [numW1 h_lt10, List.append_assoc, List.cons_append, List.nil_append]
    exact hk _ hi_12 (by rw [e]; exact ht_12) (hs_11.tr hs_12)
  · refine vx_aload_n C 0 dL_reads_333 rfl rfl ?_
    refine vx_bipush (v := 48) C dL_reads_334 (by decide) ?_
    refine vx_iload C 13 dL_reads_336 rfl ?_
    refine vx_bipush (v := 10) C dL_reads_338 (by decide) ?_
    refine vx_idiv C dL_reads_340 (by decide) ?_
    refine vx_top (y := nI (one / 10)) (pk_div (a := one) (d := 10) (by omega) (by omega) (by omega)) ?_
    refine vx_iadd C dL_reads_341 ?_
    refine vx_top (y := nI (48 + (one / 10))) (nI_add 48 (one / 10)) ?_
    refine vx_callVIP C [.int (nI (48 + (one / 10)))] (c_X8_type M_8 hi_11.1 hi_11.2.1 hi_11.2.2.1 (nI (48 + (one / 10)))) sh_144 rfl (cwV 1 C.1.2.2.2.2 gL_reads_X8_type rfl rfl rfl (by decide +kernel) ⟨Nat.le_of_ble_eq_true rfl, Nat.le_of_ble_eq_true rfl⟩) rfl rfl rfl (Nat.le_of_ble_eq_true rfl) dL_reads_342 ⟨Nat.le_of_ble_eq_true rfl, Nat.le_of_ble_eq_true rfl⟩ (fun x_33 M_34 h_35 => ?_)
    obtain ⟨e_13, hi_13, ht_13, hn_13, hs_13⟩ := ty_step (c := 48 + one / 10) hi_11 ht_11 hn_11 (by omega) (by omega) (by omega) h_35
    refine vx_top (y := nI (n + 1 + 1)) e_13 ?_
    refine vx_nif_le C (n + 1 + 1) 413 dL_reads_345 (by decide) (by omega) (fun h_36 => absurd h_36 (by omega)) (fun h_37 => ?_)
    refine vx_aload_n C 0 dL_reads_348 rfl rfl ?_
    refine vx_bipush (v := 48) C dL_reads_349 (by decide) ?_
    refine vx_iload C 13 dL_reads_351 rfl ?_
    refine vx_bipush (v := 10) C dL_reads_353 (by decide) ?_
    refine vx_irem C dL_reads_355 (by decide) ?_
    refine vx_top (y := nI (one % 10)) (pk_rem (a := one) (d := 10) (by omega) (by omega) (by omega)) ?_
    refine vx_iadd C dL_reads_356 ?_
    refine vx_top (y := nI (48 + (one % 10))) (nI_add 48 (one % 10)) ?_
    refine vx_callVIP C [.int (nI (48 + (one % 10)))] (c_X8_type M_34 hi_13.1 hi_13.2.1 hi_13.2.2.1 (nI (48 + (one % 10)))) sh_144 rfl (cwV 1 C.1.2.2.2.2 gL_reads_X8_type rfl rfl rfl (by decide +kernel) ⟨Nat.le_of_ble_eq_true rfl, Nat.le_of_ble_eq_true rfl⟩) rfl rfl rfl (Nat.le_of_ble_eq_true rfl) dL_reads_357 ⟨Nat.le_of_ble_eq_true rfl, Nat.le_of_ble_eq_true rfl⟩ (fun x_38 M_39 h_40 => ?_)
    obtain ⟨e_14, hi_14, ht_14, hn_14, hs_14⟩ := ty_step (c := 48 + one % 10) hi_13 ht_13 hn_13 (by omega) (by omega) (by omega) h_40
    refine vx_top (y := nI (n + 1 + 1 + 1)) e_14 ?_
    refine vx_nif_le C (n + 1 + 1 + 1) 413 dL_reads_360 (by decide) (by omega) (fun h_41 => absurd h_41 (by omega)) (fun h_42 => ?_)
    refine vx_iload C 12 dL_reads_363 rfl ?_
    refine vx_bipush (v := 7) C dL_reads_365 (by decide) ?_
    refine vx_ncmp_ne C 5 7 409 dL_reads_367 (by decide) (by decide) (by decide) (fun h_44 => ?_) (fun h_43 => absurd h_43 (by decide))
    refine vx_iconst (v := 1) C dL_reads_409 (by decide) ?_
    refine vx_goto C 414 dL_reads_410 (by decide) ?_
    refine vx_istore (ls2 := [some (.ref (G.1 144)), some (.ref (G.1 145)), some (.ref (G.1 146)), some (.ref (G.1 147)), some (.ref (G.1 148)), some (.ref (G.1 149)), some (.int (nI y)), some (.int (nI d)), some (.int (nI cl)), some (.int 1), some (.int (nI cn)), some (.int (nI i)), some (.int 5), some (.int (nI one)), some (.int (nI two))]) C 9 dL_reads_414 (Nat.le_of_ble_eq_true rfl) rfl ?_
    refine vx_keep (ls2 := [some (.ref (G.1 144)), some (.ref (G.1 145)), some (.ref (G.1 146)), some (.ref (G.1 147)), some (.ref (G.1 148)), some (.ref (G.1 149)), some (.int (nI y)), some (.int (nI d)), some (.int (nI cl)), some (.int 1), some (.int (nI cn)), some (.int (nI i)), some (.int 5), some (.int (nI one)), some (.int (nI two))]) ⟨rfl, rfl, rfl, rfl, rfl, rfl, rfl, rfl, rfl, rfl, rfl, rfl, rfl, rfl, rfl, trivial⟩ ?_
    have e : T ++ celW (5, one, two) = ((T ++ [60]) ++ [48 + one / 10]) ++ [48 + one % 10] := by show T ++ (60 :: numW one) = _; simp only [numW2 h_ge10, List.append_assoc, List.cons_append, List.nil_append]
    exact hk _ hi_14 (by rw [e]; exact ht_14) ((hs_11.tr hs_13).tr hs_14)
set_option maxRecDepth 100000 in
set_option maxHeartbeats 4000000 in
theorem lp_reads_k6 {p : Program} {l : Launch} {e : Env} {s : State} {m : MethodId} {args : Array Value} {below : List Frame} {meth : Method} {c : Code} {G : mw_GG} {A : Nat → Prop} {Q : State → Prop} (C : vx_C p s m args c G A cL_reads 15 wsL_reads RL) {X : va_W} {y d cl cn i : Nat} {Mi : mw_M} (hi : invV Mi) {T : List Nat} (ht : txP Mi T) {n : Nat} (hn : T.length = n) (hl : n ≤ 25) {one two : Nat} (hA : okA 6 one) (hB : okB 6 one two) (hk : ∀ M2, invV M2 → txP M2 (T ++ celW (6, one, two)) → stP Mi M2 → vx p l e ({ frames := 7, cells := 2, slots := 7, locals := 161 } : Room) s m args below meth c G A 0 0 Q M2 X 416 [some (.ref (G.1 144)), some (.ref (G.1 145)), some (.ref (G.1 146)), some (.ref (G.1 147)), some (.ref (G.1 148)), some (.ref (G.1 149)), some (.int (nI y)), some (.int (nI d)), some (.int (nI cl)), some (.int 1), some (.int (nI cn)), some (.int (nI i)), some (.int 6), some (.int (nI one)), some (.int (nI two))] []) : vx p l e ({ frames := 7, cells := 2, slots := 7, locals := 161 } : Room) s m args below meth c G A 0 0 Q Mi X 186 [some (.ref (G.1 144)), some (.ref (G.1 145)), some (.ref (G.1 146)), some (.ref (G.1 147)), some (.ref (G.1 148)), some (.ref (G.1 149)), some (.int (nI y)), some (.int (nI d)), some (.int (nI cl)), some (.int 1), some (.int (nI cn)), some (.int (nI i)), some (.int 6), some (.int (nI one)), some (.int (nI two))] [] := by
  obtain ⟨hA0, hA1, hA2, hA3⟩ := hA
  obtain ⟨hB1, hB2⟩ := hB
  refine vx_iload C 12 dL_reads_186 rfl ?_
  refine vx_iconst (v := 2) C dL_reads_188 (by decide) ?_
  refine vx_ncmp_gt C 6 2 222 dL_reads_189 (by decide) (by decide) (by decide) (fun h_2 => ?_) (fun h_1 => absurd h_1 (by decide))
  refine vx_iload C 12 dL_reads_222 rfl ?_
  refine vx_iconst (v := 4) C dL_reads_224 (by decide) ?_
  refine vx_ncmp_ne C 6 4 237 dL_reads_225 (by decide) (by decide) (by decide) (fun h_4 => ?_) (fun h_3 => absurd h_3 (by decide))
  refine vx_iload C 12 dL_reads_237 rfl ?_
  refine vx_iconst (v := 5) C dL_reads_239 (by decide) ?_
  refine vx_ncmp_eq C 6 5 250 dL_reads_240 (by decide) (by decide) (by decide) (fun h_5 => absurd h_5 (by decide)) (fun h_6 => ?_)
  refine vx_iload C 12 dL_reads_243 rfl ?_
  refine vx_bipush (v := 9) C dL_reads_245 (by decide) ?_
  refine vx_ncmp_ne C 6 9 259 dL_reads_247 (by decide) (by decide) (by decide) (fun h_8 => ?_) (fun h_7 => absurd h_7 (by decide))
  refine vx_iload C 12 dL_reads_259 rfl ?_
  refine vx_bipush (v := 6) C dL_reads_261 (by decide) ?_
  refine vx_ncmp_eq C 6 6 273 dL_reads_263 (by decide) (by decide) (by decide) (fun h_10 => ?_) (fun h_9 => absurd h_9 (by decide))
  refine vx_aload_n C 0 dL_reads_273 rfl rfl ?_
  refine vx_bipush (v := 62) C dL_reads_274 (by decide) ?_
  refine vx_callVIP C [.int 62] (c_X8_type Mi hi.1 hi.2.1 hi.2.2.1 62) sh_144 rfl (cwV 1 C.1.2.2.2.2 gL_reads_X8_type rfl rfl rfl (by decide +kernel) ⟨Nat.le_of_ble_eq_true rfl, Nat.le_of_ble_eq_true rfl⟩) rfl rfl rfl (Nat.le_of_ble_eq_true rfl) dL_reads_276 ⟨Nat.le_of_ble_eq_true rfl, Nat.le_of_ble_eq_true rfl⟩ (fun x_11 M_12 h_13 => ?_)
  obtain ⟨e_15, hi_15, ht_15, hn_15, hs_15⟩ := ty_step (c := 62) hi ht hn (by omega) (by omega) (by omega) h_13
  refine vx_top (y := nI (n + 1)) e_15 ?_
  refine vx_nif_le C (n + 1) 305 dL_reads_279 (by decide) (by omega) (fun h_14 => absurd h_14 (by omega)) (fun h_15 => ?_)
  refine vx_iload C 12 dL_reads_282 rfl ?_
  refine vx_bipush (v := 8) C dL_reads_284 (by decide) ?_
  refine vx_ncmp_lt C 6 8 301 dL_reads_286 (by decide) (by decide) (by decide) (fun h_17 => ?_) (fun h_16 => absurd h_16 (by decide))
  refine vx_iconst (v := 1) C dL_reads_301 (by decide) ?_
  refine vx_goto C 306 dL_reads_302 (by decide) ?_
  refine vx_istore (ls2 := [some (.ref (G.1 144)), some (.ref (G.1 145)), some (.ref (G.1 146)), some (.ref (G.1 147)), some (.ref (G.1 148)), some (.ref (G.1 149)), some (.int (nI y)), some (.int (nI d)), some (.int (nI cl)), some (.int 1), some (.int (nI cn)), some (.int (nI i)), some (.int 6), some (.int (nI one)), some (.int (nI two))]) C 9 dL_reads_306 (Nat.le_of_ble_eq_true rfl) rfl ?_
  refine vx_iload C 9 dL_reads_308 rfl ?_
  refine vx_nif_eq C 1 413 dL_reads_310 (by decide) (by decide) (fun h_18 => absurd h_18 (by decide)) (fun h_19 => ?_)
  refine vx_iload C 12 dL_reads_313 rfl ?_
  refine vx_iconst (v := 3) C dL_reads_315 (by decide) ?_
  refine vx_ncmp_lt C 6 3 363 dL_reads_316 (by decide) (by decide) (by decide) (fun h_20 => absurd h_20 (by decide)) (fun h_21 => ?_)
  refine vx_iload C 12 dL_reads_319 rfl ?_
  refine vx_bipush (v := 7) C dL_reads_321 (by decide) ?_
  refine vx_ncmp_gt C 6 7 363 dL_reads_323 (by decide) (by decide) (by decide) (fun h_22 => absurd h_22 (by decide)) (fun h_23 => ?_)
  refine vx_iload C 13 dL_reads_326 rfl ?_
  refine vx_bipush (v := 10) C dL_reads_328 (by decide) ?_
  refine vx_ncmp_lt C one 10 348 dL_reads_330 (by decide) (by omega) (by decide) (fun h_lt10 => ?_) (fun h_ge10 => ?_)
  · refine vx_aload_n C 0 dL_reads_348 rfl rfl ?_
    refine vx_bipush (v := 48) C dL_reads_349 (by decide) ?_
    refine vx_iload C 13 dL_reads_351 rfl ?_
    refine vx_bipush (v := 10) C dL_reads_353 (by decide) ?_
    refine vx_irem C dL_reads_355 (by decide) ?_
    refine vx_top (y := nI one) ((pk_rem (a := one) (d := 10) (by omega) (by omega) (by omega)).trans (congrArg nI (Nat.mod_eq_of_lt h_lt10))) ?_
    refine vx_iadd C dL_reads_356 ?_
    refine vx_top (y := nI (48 + one)) (nI_add 48 one) ?_
    refine vx_callVIP C [.int (nI (48 + one))] (c_X8_type M_12 hi_15.1 hi_15.2.1 hi_15.2.2.1 (nI (48 + one))) sh_144 rfl (cwV 1 C.1.2.2.2.2 gL_reads_X8_type rfl rfl rfl (by decide +kernel) ⟨Nat.le_of_ble_eq_true rfl, Nat.le_of_ble_eq_true rfl⟩) rfl rfl rfl (Nat.le_of_ble_eq_true rfl) dL_reads_357 ⟨Nat.le_of_ble_eq_true rfl, Nat.le_of_ble_eq_true rfl⟩ (fun x_26 M_27 h_28 => ?_)
    obtain ⟨e_16, hi_16, ht_16, hn_16, hs_16⟩ := ty_step (c := 48 + one) hi_15 ht_15 hn_15 (by omega) (by omega) (by omega) h_28
    refine vx_top (y := nI (n + 1 + 1)) e_16 ?_
    refine vx_nif_le C (n + 1 + 1) 413 dL_reads_360 (by decide) (by omega) (fun h_29 => absurd h_29 (by omega)) (fun h_30 => ?_)
    refine vx_iload C 12 dL_reads_363 rfl ?_
    refine vx_bipush (v := 7) C dL_reads_365 (by decide) ?_
    refine vx_ncmp_ne C 6 7 409 dL_reads_367 (by decide) (by decide) (by decide) (fun h_32 => ?_) (fun h_31 => absurd h_31 (by decide))
    refine vx_iconst (v := 1) C dL_reads_409 (by decide) ?_
    refine vx_goto C 414 dL_reads_410 (by decide) ?_
    refine vx_istore (ls2 := [some (.ref (G.1 144)), some (.ref (G.1 145)), some (.ref (G.1 146)), some (.ref (G.1 147)), some (.ref (G.1 148)), some (.ref (G.1 149)), some (.int (nI y)), some (.int (nI d)), some (.int (nI cl)), some (.int 1), some (.int (nI cn)), some (.int (nI i)), some (.int 6), some (.int (nI one)), some (.int (nI two))]) C 9 dL_reads_414 (Nat.le_of_ble_eq_true rfl) rfl ?_
    refine vx_keep (ls2 := [some (.ref (G.1 144)), some (.ref (G.1 145)), some (.ref (G.1 146)), some (.ref (G.1 147)), some (.ref (G.1 148)), some (.ref (G.1 149)), some (.int (nI y)), some (.int (nI d)), some (.int (nI cl)), some (.int 1), some (.int (nI cn)), some (.int (nI i)), some (.int 6), some (.int (nI one)), some (.int (nI two))]) ⟨rfl, rfl, rfl, rfl, rfl, rfl, rfl, rfl, rfl, rfl, rfl, rfl, rfl, rfl, rfl, trivial⟩ ?_
    have e : T ++ celW (6, one, two) = (T ++ [62]) ++ [48 + one] := by show T ++ (62 :: numW one) = _; simp only [numW1 h_lt10, List.append_assoc, List.cons_append, List.nil_append]
    exact hk _ hi_16 (by rw [e]; exact ht_16) (hs_15.tr hs_16)
  · refine vx_aload_n C 0 dL_reads_333 rfl rfl ?_
    refine vx_bipush (v := 48) C dL_reads_334 (by decide) ?_
    refine vx_iload C 13 dL_reads_336 rfl ?_
    refine vx_bipush (v := 10) C dL_reads_338 (by decide) ?_
    refine vx_idiv C dL_reads_340 (by decide) ?_
    refine vx_top (y := nI (one / 10)) (pk_div (a := one) (d := 10) (by omega) (by omega) (by omega)) ?_
    refine vx_iadd C dL_reads_341 ?_
    refine vx_top (y := nI (48 + (one / 10))) (nI_add 48 (one / 10)) ?_
    refine vx_callVIP C [.int (nI (48 + (one / 10)))] (c_X8_type M_12 hi_15.1 hi_15.2.1 hi_15.2.2.1 (nI (48 + (one / 10)))) sh_144 rfl (cwV 1 C.1.2.2.2.2 gL_reads_X8_type rfl rfl rfl (by decide +kernel) ⟨Nat.le_of_ble_eq_true rfl, Nat.le_of_ble_eq_true rfl⟩) rfl rfl rfl (Nat.le_of_ble_eq_true rfl) dL_reads_342 ⟨Nat.le_of_ble_eq_true rfl, Nat.le_of_ble_eq_true rfl⟩ (fun x_33 M_34 h_35 => ?_)
    obtain ⟨e_17, hi_17, ht_17, hn_17, hs_17⟩ := ty_step (c := 48 + one / 10) hi_15 ht_15 hn_15 (by omega) (by omega) (by omega) h_35
    refine vx_top (y := nI (n + 1 + 1)) e_17 ?_
    refine vx_nif_le C (n + 1 + 1) 413 dL_reads_345 (by decide) (by omega) (fun h_36 => absurd h_36 (by omega)) (fun h_37 => ?_)
    refine vx_aload_n C 0 dL_reads_348 rfl rfl ?_
    refine vx_bipush (v := 48) C dL_reads_349 (by decide) ?_
    refine vx_iload C 13 dL_reads_351 rfl ?_
    refine vx_bipush (v := 10) C dL_reads_353 (by decide) ?_
    refine vx_irem C dL_reads_355 (by decide) ?_
    refine vx_top (y := nI (one % 10)) (pk_rem (a := one) (d := 10) (by omega) (by omega) (by omega)) ?_
    refine vx_iadd C dL_reads_356 ?_
    refine vx_top (y := nI (48 + (one % 10))) (nI_add 48 (one % 10)) ?_
    refine vx_callVIP C [.int (nI (48 + (one % 10)))] (c_X8_type M_34 hi_17.1 hi_17.2.1 hi_17.2.2.1 (nI (48 + (one % 10)))) sh_144 rfl (cwV 1 C.1.2.2.2.2 gL_reads_X8_type rfl rfl rfl (by decide +kernel) ⟨Nat.le_of_ble_eq_true rfl, Nat.le_of_ble_eq_true rfl⟩) rfl rfl rfl (Nat.le_of_ble_eq_true rfl) dL_reads_357 ⟨Nat.le_of_ble_eq_true rfl, Nat.le_of_ble_eq_true rfl⟩ (fun x_38 M_39 h_40 => ?_)
    obtain ⟨e_18, hi_18, ht_18, hn_18, hs_18⟩ := ty_step (c := 48 + one % 10) hi_17 ht_17 hn_17 (by omega) (by omega) (by omega) h_40
    refine vx_top (y := nI (n + 1 + 1 + 1)) e_18 ?_
    refine vx_nif_le C (n + 1 + 1 + 1) 413 dL_reads_360 (by decide) (by omega) (fun h_41 => absurd h_41 (by omega)) (fun h_42 => ?_)
    refine vx_iload C 12 dL_reads_363 rfl ?_
    refine vx_bipush (v := 7) C dL_reads_365 (by decide) ?_
    refine vx_ncmp_ne C 6 7 409 dL_reads_367 (by decide) (by decide) (by decide) (fun h_44 => ?_) (fun h_43 => absurd h_43 (by decide))
    refine vx_iconst (v := 1) C dL_reads_409 (by decide) ?_
    refine vx_goto C 414 dL_reads_410 (by decide) ?_
    refine vx_istore (ls2 := [some (.ref (G.1 144)), some (.ref (G.1 145)), some (.ref (G.1 146)), some (.ref (G.1 147)), some (.ref (G.1 148)), some (.ref (G.1 149)), some (.int (nI y)), some (.int (nI d)), some (.int (nI cl)), some (.int 1), some (.int (nI cn)), some (.int (nI i)), some (.int 6), some (.int (nI one)), some (.int (nI two))]) C 9 dL_reads_414 (Nat.le_of_ble_eq_true rfl) rfl ?_
    refine vx_keep (ls2 := [some (.ref (G.1 144)), some (.ref (G.1 145)), some (.ref (G.1 146)), some (.ref (G.1 147)), some (.ref (G.1 148)), some (.ref (G.1 149)), some (.int (nI y)), some (.int (nI d)), some (.int (nI cl)), some (.int 1), some (.int (nI cn)), some (.int (nI i)), some (.int 6), some (.int (nI one)), some (.int (nI two))]) ⟨rfl, rfl, rfl, rfl, rfl, rfl, rfl, rfl, rfl, rfl, rfl, rfl, rfl, rfl, rfl, trivial⟩ ?_
    have e : T ++ celW (6, one, two) = ((T ++ [62]) ++ [48 + one / 10]) ++ [48 + one % 10] := by show T ++ (62 :: numW one) = _; simp only [numW2 h_ge10, List.append_assoc, List.cons_append, List.nil_append]
    exact hk _ hi_18 (by rw [e]; exact ht_18) ((hs_15.tr hs_17).tr hs_18)
set_option maxRecDepth 100000 in
set_option maxHeartbeats 4000000 in
theorem lp_reads_k7 {p : Program} {l : Launch} {e : Env} {s : State} {m : MethodId} {args : Array Value} {below : List Frame} {meth : Method} {c : Code} {G : mw_GG} {A : Nat → Prop} {Q : State → Prop} (C : vx_C p s m args c G A cL_reads 15 wsL_reads RL) {X : va_W} {y d cl cn i : Nat} {Mi : mw_M} (hi : invV Mi) {T : List Nat} (ht : txP Mi T) {n : Nat} (hn : T.length = n) (hl : n ≤ 25) {one two : Nat} (hA : okA 7 one) (hB : okB 7 one two) (hk : ∀ M2, invV M2 → txP M2 (T ++ celW (7, one, two)) → stP Mi M2 → vx p l e ({ frames := 7, cells := 2, slots := 7, locals := 161 } : Room) s m args below meth c G A 0 0 Q M2 X 416 [some (.ref (G.1 144)), some (.ref (G.1 145)), some (.ref (G.1 146)), some (.ref (G.1 147)), some (.ref (G.1 148)), some (.ref (G.1 149)), some (.int (nI y)), some (.int (nI d)), some (.int (nI cl)), some (.int 1), some (.int (nI cn)), some (.int (nI i)), some (.int 7), some (.int (nI one)), some (.int (nI two))] []) : vx p l e ({ frames := 7, cells := 2, slots := 7, locals := 161 } : Room) s m args below meth c G A 0 0 Q Mi X 186 [some (.ref (G.1 144)), some (.ref (G.1 145)), some (.ref (G.1 146)), some (.ref (G.1 147)), some (.ref (G.1 148)), some (.ref (G.1 149)), some (.int (nI y)), some (.int (nI d)), some (.int (nI cl)), some (.int 1), some (.int (nI cn)), some (.int (nI i)), some (.int 7), some (.int (nI one)), some (.int (nI two))] [] := by
  obtain ⟨hA0, hA1, hA2, hA3⟩ := hA
  obtain ⟨hB1, hB2⟩ := hB
  refine vx_iload C 12 dL_reads_186 rfl ?_
  refine vx_iconst (v := 2) C dL_reads_188 (by decide) ?_
  refine vx_ncmp_gt C 7 2 222 dL_reads_189 (by decide) (by decide) (by decide) (fun h_2 => ?_) (fun h_1 => absurd h_1 (by decide))
  refine vx_iload C 12 dL_reads_222 rfl ?_
  refine vx_iconst (v := 4) C dL_reads_224 (by decide) ?_
  refine vx_ncmp_ne C 7 4 237 dL_reads_225 (by decide) (by decide) (by decide) (fun h_4 => ?_) (fun h_3 => absurd h_3 (by decide))
  refine vx_iload C 12 dL_reads_237 rfl ?_
  refine vx_iconst (v := 5) C dL_reads_239 (by decide) ?_
  refine vx_ncmp_eq C 7 5 250 dL_reads_240 (by decide) (by decide) (by decide) (fun h_5 => absurd h_5 (by decide)) (fun h_6 => ?_)
  refine vx_iload C 12 dL_reads_243 rfl ?_
  refine vx_bipush (v := 9) C dL_reads_245 (by decide) ?_
  refine vx_ncmp_ne C 7 9 259 dL_reads_247 (by decide) (by decide) (by decide) (fun h_8 => ?_) (fun h_7 => absurd h_7 (by decide))
  refine vx_iload C 12 dL_reads_259 rfl ?_
  refine vx_bipush (v := 6) C dL_reads_261 (by decide) ?_
  refine vx_ncmp_eq C 7 6 273 dL_reads_263 (by decide) (by decide) (by decide) (fun h_9 => absurd h_9 (by decide)) (fun h_10 => ?_)
  refine vx_iload C 12 dL_reads_266 rfl ?_
  refine vx_bipush (v := 10) C dL_reads_268 (by decide) ?_
  refine vx_ncmp_ne C 7 10 282 dL_reads_270 (by decide) (by decide) (by decide) (fun h_12 => ?_) (fun h_11 => absurd h_11 (by decide))
  refine vx_iload C 12 dL_reads_282 rfl ?_
  refine vx_bipush (v := 8) C dL_reads_284 (by decide) ?_
  refine vx_ncmp_lt C 7 8 301 dL_reads_286 (by decide) (by decide) (by decide) (fun h_14 => ?_) (fun h_13 => absurd h_13 (by decide))
  refine vx_iconst (v := 1) C dL_reads_301 (by decide) ?_
  refine vx_goto C 306 dL_reads_302 (by decide) ?_
  refine vx_istore (ls2 := [some (.ref (G.1 144)), some (.ref (G.1 145)), some (.ref (G.1 146)), some (.ref (G.1 147)), some (.ref (G.1 148)), some (.ref (G.1 149)), some (.int (nI y)), some (.int (nI d)), some (.int (nI cl)), some (.int 1), some (.int (nI cn)), some (.int (nI i)), some (.int 7), some (.int (nI one)), some (.int (nI two))]) C 9 dL_reads_306 (Nat.le_of_ble_eq_true rfl) rfl ?_
  refine vx_iload C 9 dL_reads_308 rfl ?_
  refine vx_nif_eq C 1 413 dL_reads_310 (by decide) (by decide) (fun h_15 => absurd h_15 (by decide)) (fun h_16 => ?_)
  refine vx_iload C 12 dL_reads_313 rfl ?_
  refine vx_iconst (v := 3) C dL_reads_315 (by decide) ?_
  refine vx_ncmp_lt C 7 3 363 dL_reads_316 (by decide) (by decide) (by decide) (fun h_17 => absurd h_17 (by decide)) (fun h_18 => ?_)
  refine vx_iload C 12 dL_reads_319 rfl ?_
  refine vx_bipush (v := 7) C dL_reads_321 (by decide) ?_
  refine vx_ncmp_gt C 7 7 363 dL_reads_323 (by decide) (by decide) (by decide) (fun h_19 => absurd h_19 (by decide)) (fun h_20 => ?_)
  refine vx_iload C 13 dL_reads_326 rfl ?_
  refine vx_bipush (v := 10) C dL_reads_328 (by decide) ?_
  refine vx_ncmp_lt C one 10 348 dL_reads_330 (by decide) (by omega) (by decide) (fun h_lt10 => ?_) (fun h_ge10 => ?_)
  · refine vx_aload_n C 0 dL_reads_348 rfl rfl ?_
    refine vx_bipush (v := 48) C dL_reads_349 (by decide) ?_
    refine vx_iload C 13 dL_reads_351 rfl ?_
    refine vx_bipush (v := 10) C dL_reads_353 (by decide) ?_
    refine vx_irem C dL_reads_355 (by decide) ?_
    refine vx_top (y := nI one) ((pk_rem (a := one) (d := 10) (by omega) (by omega) (by omega)).trans (congrArg nI (Nat.mod_eq_of_lt h_lt10))) ?_
    refine vx_iadd C dL_reads_356 ?_
    refine vx_top (y := nI (48 + one)) (nI_add 48 one) ?_
    refine vx_callVIP C [.int (nI (48 + one))] (c_X8_type Mi hi.1 hi.2.1 hi.2.2.1 (nI (48 + one))) sh_144 rfl (cwV 1 C.1.2.2.2.2 gL_reads_X8_type rfl rfl rfl (by decide +kernel) ⟨Nat.le_of_ble_eq_true rfl, Nat.le_of_ble_eq_true rfl⟩) rfl rfl rfl (Nat.le_of_ble_eq_true rfl) dL_reads_357 ⟨Nat.le_of_ble_eq_true rfl, Nat.le_of_ble_eq_true rfl⟩ (fun x_23 M_24 h_25 => ?_)
    obtain ⟨e_19, hi_19, ht_19, hn_19, hs_19⟩ := ty_step (c := 48 + one) hi ht hn (by omega) (by omega) (by omega) h_25
    refine vx_top (y := nI (n + 1)) e_19 ?_
    refine vx_nif_le C (n + 1) 413 dL_reads_360 (by decide) (by omega) (fun h_26 => absurd h_26 (by omega)) (fun h_27 => ?_)
    refine vx_iload C 12 dL_reads_363 rfl ?_
    refine vx_bipush (v := 7) C dL_reads_365 (by decide) ?_
    refine vx_ncmp_ne C 7 7 409 dL_reads_367 (by decide) (by decide) (by decide) (fun h_28 => absurd h_28 (by decide)) (fun h_29 => ?_)
    refine vx_aload_n C 0 dL_reads_370 rfl rfl ?_
    refine vx_bipush (v := 45) C dL_reads_371 (by decide) ?_
    refine vx_callVIP C [.int 45] (c_X8_type M_24 hi_19.1 hi_19.2.1 hi_19.2.2.1 45) sh_144 rfl (cwV 1 C.1.2.2.2.2 gL_reads_X8_type rfl rfl rfl (by decide +kernel) ⟨Nat.le_of_ble_eq_true rfl, Nat.le_of_ble_eq_true rfl⟩) rfl rfl rfl (Nat.le_of_ble_eq_true rfl) dL_reads_373 ⟨Nat.le_of_ble_eq_true rfl, Nat.le_of_ble_eq_true rfl⟩ (fun x_30 M_31 h_32 => ?_)
    obtain ⟨e_20, hi_20, ht_20, hn_20, hs_20⟩ := ty_step (c := 45) hi_19 ht_19 hn_19 (by omega) (by omega) (by omega) h_32
    refine vx_top (y := nI (n + 1 + 1)) e_20 ?_
    refine vx_nif_le C (n + 1 + 1) 413 dL_reads_376 (by decide) (by omega) (fun h_33 => absurd h_33 (by omega)) (fun h_34 => ?_)
    refine vx_aload_n C 0 dL_reads_379 rfl rfl ?_
    refine vx_bipush (v := 48) C dL_reads_380 (by decide) ?_
    refine vx_iload C 14 dL_reads_382 rfl ?_
    refine vx_bipush (v := 10) C dL_reads_384 (by decide) ?_
    refine vx_idiv C dL_reads_386 (by decide) ?_
    refine vx_top (y := nI (two / 10)) (pk_div (a := two) (d := 10) (by omega) (by omega) (by omega)) ?_
    refine vx_iadd C dL_reads_387 ?_
    refine vx_top (y := nI (48 + (two / 10))) (nI_add 48 (two / 10)) ?_
    refine vx_callVIP C [.int (nI (48 + (two / 10)))] (c_X8_type M_31 hi_20.1 hi_20.2.1 hi_20.2.2.1 (nI (48 + (two / 10)))) sh_144 rfl (cwV 1 C.1.2.2.2.2 gL_reads_X8_type rfl rfl rfl (by decide +kernel) ⟨Nat.le_of_ble_eq_true rfl, Nat.le_of_ble_eq_true rfl⟩) rfl rfl rfl (Nat.le_of_ble_eq_true rfl) dL_reads_388 ⟨Nat.le_of_ble_eq_true rfl, Nat.le_of_ble_eq_true rfl⟩ (fun x_35 M_36 h_37 => ?_)
    obtain ⟨e_21, hi_21, ht_21, hn_21, hs_21⟩ := ty_step (c := 48 + two / 10) hi_20 ht_20 hn_20 (by omega) (by omega) (by omega) h_37
    refine vx_top (y := nI (n + 1 + 1 + 1)) e_21 ?_
    refine vx_nif_le C (n + 1 + 1 + 1) 413 dL_reads_391 (by decide) (by omega) (fun h_38 => absurd h_38 (by omega)) (fun h_39 => ?_)
    refine vx_aload_n C 0 dL_reads_394 rfl rfl ?_
    refine vx_bipush (v := 48) C dL_reads_395 (by decide) ?_
    refine vx_iload C 14 dL_reads_397 rfl ?_
    refine vx_bipush (v := 10) C dL_reads_399 (by decide) ?_
    refine vx_irem C dL_reads_401 (by decide) ?_
    refine vx_top (y := nI (two % 10)) (pk_rem (a := two) (d := 10) (by omega) (by omega) (by omega)) ?_
    refine vx_iadd C dL_reads_402 ?_
    refine vx_top (y := nI (48 + (two % 10))) (nI_add 48 (two % 10)) ?_
    refine vx_callVIP C [.int (nI (48 + (two % 10)))] (c_X8_type M_36 hi_21.1 hi_21.2.1 hi_21.2.2.1 (nI (48 + (two % 10)))) sh_144 rfl (cwV 1 C.1.2.2.2.2 gL_reads_X8_type rfl rfl rfl (by decide +kernel) ⟨Nat.le_of_ble_eq_true rfl, Nat.le_of_ble_eq_true rfl⟩) rfl rfl rfl (Nat.le_of_ble_eq_true rfl) dL_reads_403 ⟨Nat.le_of_ble_eq_true rfl, Nat.le_of_ble_eq_true rfl⟩ (fun x_40 M_41 h_42 => ?_)
    obtain ⟨e_22, hi_22, ht_22, hn_22, hs_22⟩ := ty_step (c := 48 + two % 10) hi_21 ht_21 hn_21 (by omega) (by omega) (by omega) h_42
    refine vx_top (y := nI (n + 1 + 1 + 1 + 1)) e_22 ?_
    refine vx_nif_le C (n + 1 + 1 + 1 + 1) 413 dL_reads_406 (by decide) (by omega) (fun h_43 => absurd h_43 (by omega)) (fun h_44 => ?_)
    refine vx_iconst (v := 1) C dL_reads_409 (by decide) ?_
    refine vx_goto C 414 dL_reads_410 (by decide) ?_
    refine vx_istore (ls2 := [some (.ref (G.1 144)), some (.ref (G.1 145)), some (.ref (G.1 146)), some (.ref (G.1 147)), some (.ref (G.1 148)), some (.ref (G.1 149)), some (.int (nI y)), some (.int (nI d)), some (.int (nI cl)), some (.int 1), some (.int (nI cn)), some (.int (nI i)), some (.int 7), some (.int (nI one)), some (.int (nI two))]) C 9 dL_reads_414 (Nat.le_of_ble_eq_true rfl) rfl ?_
    refine vx_keep (ls2 := [some (.ref (G.1 144)), some (.ref (G.1 145)), some (.ref (G.1 146)), some (.ref (G.1 147)), some (.ref (G.1 148)), some (.ref (G.1 149)), some (.int (nI y)), some (.int (nI d)), some (.int (nI cl)), some (.int 1), some (.int (nI cn)), some (.int (nI i)), some (.int 7), some (.int (nI one)), some (.int (nI two))]) ⟨rfl, rfl, rfl, rfl, rfl, rfl, rfl, rfl, rfl, rfl, rfl, rfl, rfl, rfl, rfl, trivial⟩ ?_
    have e : T ++ celW (7, one, two) = (((T ++ [48 + one]) ++ [45]) ++ [48 + two / 10]) ++ [48 + two % 10] := by show T ++ (numW one ++ [45, 48 + two / 10, 48 + two % 10]) = _; simp only [numW1 h_lt10, List.append_assoc, List.cons_append, List.nil_append]
    exact hk _ hi_22 (by rw [e]; exact ht_22) (((hs_19.tr hs_20).tr hs_21).tr hs_22)
  · refine vx_aload_n C 0 dL_reads_333 rfl rfl ?_
    refine vx_bipush (v := 48) C dL_reads_334 (by decide) ?_
    refine vx_iload C 13 dL_reads_336 rfl ?_
    refine vx_bipush (v := 10) C dL_reads_338 (by decide) ?_
    refine vx_idiv C dL_reads_340 (by decide) ?_
    refine vx_top (y := nI (one / 10)) (pk_div (a := one) (d := 10) (by omega) (by omega) (by omega)) ?_
    refine vx_iadd C dL_reads_341 ?_
    refine vx_top (y := nI (48 + (one / 10))) (nI_add 48 (one / 10)) ?_
    refine vx_callVIP C [.int (nI (48 + (one / 10)))] (c_X8_type Mi hi.1 hi.2.1 hi.2.2.1 (nI (48 + (one / 10)))) sh_144 rfl (cwV 1 C.1.2.2.2.2 gL_reads_X8_type rfl rfl rfl (by decide +kernel) ⟨Nat.le_of_ble_eq_true rfl, Nat.le_of_ble_eq_true rfl⟩) rfl rfl rfl (Nat.le_of_ble_eq_true rfl) dL_reads_342 ⟨Nat.le_of_ble_eq_true rfl, Nat.le_of_ble_eq_true rfl⟩ (fun x_45 M_46 h_47 => ?_)
    obtain ⟨e_23, hi_23, ht_23, hn_23, hs_23⟩ := ty_step (c := 48 + one / 10) hi ht hn (by omega) (by omega) (by omega) h_47
    refine vx_top (y := nI (n + 1)) e_23 ?_
    refine vx_nif_le C (n + 1) 413 dL_reads_345 (by decide) (by omega) (fun h_48 => absurd h_48 (by omega)) (fun h_49 => ?_)
    refine vx_aload_n C 0 dL_reads_348 rfl rfl ?_
    refine vx_bipush (v := 48) C dL_reads_349 (by decide) ?_
    refine vx_iload C 13 dL_reads_351 rfl ?_
    refine vx_bipush (v := 10) C dL_reads_353 (by decide) ?_
    refine vx_irem C dL_reads_355 (by decide) ?_
    refine vx_top (y := nI (one % 10)) (pk_rem (a := one) (d := 10) (by omega) (by omega) (by omega)) ?_
    refine vx_iadd C dL_reads_356 ?_
    refine vx_top (y := nI (48 + (one % 10))) (nI_add 48 (one % 10)) ?_
    refine vx_callVIP C [.int (nI (48 + (one % 10)))] (c_X8_type M_46 hi_23.1 hi_23.2.1 hi_23.2.2.1 (nI (48 + (one % 10)))) sh_144 rfl (cwV 1 C.1.2.2.2.2 gL_reads_X8_type rfl rfl rfl (by decide +kernel) ⟨Nat.le_of_ble_eq_true rfl, Nat.le_of_ble_eq_true rfl⟩) rfl rfl rfl (Nat.le_of_ble_eq_true rfl) dL_reads_357 ⟨Nat.le_of_ble_eq_true rfl, Nat.le_of_ble_eq_true rfl⟩ (fun x_50 M_51 h_52 => ?_)
    obtain ⟨e_24, hi_24, ht_24, hn_24, hs_24⟩ := ty_step (c := 48 + one % 10) hi_23 ht_23 hn_23 (by omega) (by omega) (by omega) h_52
    refine vx_top (y := nI (n + 1 + 1)) e_24 ?_
    refine vx_nif_le C (n + 1 + 1) 413 dL_reads_360 (by decide) (by omega) (fun h_53 => absurd h_53 (by omega)) (fun h_54 => ?_)
    refine vx_iload C 12 dL_reads_363 rfl ?_
    refine vx_bipush (v := 7) C dL_reads_365 (by decide) ?_
    refine vx_ncmp_ne C 7 7 409 dL_reads_367 (by decide) (by decide) (by decide) (fun h_55 => absurd h_55 (by decide)) (fun h_56 => ?_)
    refine vx_aload_n C 0 dL_reads_370 rfl rfl ?_
    refine vx_bipush (v := 45) C dL_reads_371 (by decide) ?_
    refine vx_callVIP C [.int 45] (c_X8_type M_51 hi_24.1 hi_24.2.1 hi_24.2.2.1 45) sh_144 rfl (cwV 1 C.1.2.2.2.2 gL_reads_X8_type rfl rfl rfl (by decide +kernel) ⟨Nat.le_of_ble_eq_true rfl, Nat.le_of_ble_eq_true rfl⟩) rfl rfl rfl (Nat.le_of_ble_eq_true rfl) dL_reads_373 ⟨Nat.le_of_ble_eq_true rfl, Nat.le_of_ble_eq_true rfl⟩ (fun x_57 M_58 h_59 => ?_)
    obtain ⟨e_25, hi_25, ht_25, hn_25, hs_25⟩ := ty_step (c := 45) hi_24 ht_24 hn_24 (by omega) (by omega) (by omega) h_59
    refine vx_top (y := nI (n + 1 + 1 + 1)) e_25 ?_
    refine vx_nif_le C (n + 1 + 1 + 1) 413 dL_reads_376 (by decide) (by omega) (fun h_60 => absurd h_60 (by omega)) (fun h_61 => ?_)
    refine vx_aload_n C 0 dL_reads_379 rfl rfl ?_
    refine vx_bipush (v := 48) C dL_reads_380 (by decide) ?_
    refine vx_iload C 14 dL_reads_382 rfl ?_
    refine vx_bipush (v := 10) C dL_reads_384 (by decide) ?_
    refine vx_idiv C dL_reads_386 (by decide) ?_
    refine vx_top (y := nI (two / 10)) (pk_div (a := two) (d := 10) (by omega) (by omega) (by omega)) ?_
    refine vx_iadd C dL_reads_387 ?_
    refine vx_top (y := nI (48 + (two / 10))) (nI_add 48 (two / 10)) ?_
    refine vx_callVIP C [.int (nI (48 + (two / 10)))] (c_X8_type M_58 hi_25.1 hi_25.2.1 hi_25.2.2.1 (nI (48 + (two / 10)))) sh_144 rfl (cwV 1 C.1.2.2.2.2 gL_reads_X8_type rfl rfl rfl (by decide +kernel) ⟨Nat.le_of_ble_eq_true rfl, Nat.le_of_ble_eq_true rfl⟩) rfl rfl rfl (Nat.le_of_ble_eq_true rfl) dL_reads_388 ⟨Nat.le_of_ble_eq_true rfl, Nat.le_of_ble_eq_true rfl⟩ (fun x_62 M_63 h_64 => ?_)
    obtain ⟨e_26, hi_26, ht_26, hn_26, hs_26⟩ := ty_step (c := 48 + two / 10) hi_25 ht_25 hn_25 (by omega) (by omega) (by omega) h_64
    refine vx_top (y := nI (n + 1 + 1 + 1 + 1)) e_26 ?_
    refine vx_nif_le C (n + 1 + 1 + 1 + 1) 413 dL_reads_391 (by decide) (by omega) (fun h_65 => absurd h_65 (by omega)) (fun h_66 => ?_)
    refine vx_aload_n C 0 dL_reads_394 rfl rfl ?_
    refine vx_bipush (v := 48) C dL_reads_395 (by decide) ?_
    refine vx_iload C 14 dL_reads_397 rfl ?_
    refine vx_bipush (v := 10) C dL_reads_399 (by decide) ?_
    refine vx_irem C dL_reads_401 (by decide) ?_
    refine vx_top (y := nI (two % 10)) (pk_rem (a := two) (d := 10) (by omega) (by omega) (by omega)) ?_
    refine vx_iadd C dL_reads_402 ?_
    refine vx_top (y := nI (48 + (two % 10))) (nI_add 48 (two % 10)) ?_
    refine vx_callVIP C [.int (nI (48 + (two % 10)))] (c_X8_type M_63 hi_26.1 hi_26.2.1 hi_26.2.2.1 (nI (48 + (two % 10)))) sh_144 rfl (cwV 1 C.1.2.2.2.2 gL_reads_X8_type rfl rfl rfl (by decide +kernel) ⟨Nat.le_of_ble_eq_true rfl, Nat.le_of_ble_eq_true rfl⟩) rfl rfl rfl (Nat.le_of_ble_eq_true rfl) dL_reads_403 ⟨Nat.le_of_ble_eq_true rfl, Nat.le_of_ble_eq_true rfl⟩ (fun x_67 M_68 h_69 => ?_)
    obtain ⟨e_27, hi_27, ht_27, hn_27, hs_27⟩ := ty_step (c := 48 + two % 10) hi_26 ht_26 hn_26 (by omega) (by omega) (by omega) h_69
    refine vx_top (y := nI (n + 1 + 1 + 1 + 1 + 1)) e_27 ?_
    refine vx_nif_le C (n + 1 + 1 + 1 + 1 + 1) 413 dL_reads_406 (by decide) (by omega) (fun h_70 => absurd h_70 (by omega)) (fun h_71 => ?_)
    refine vx_iconst (v := 1) C dL_reads_409 (by decide) ?_
    refine vx_goto C 414 dL_reads_410 (by decide) ?_
    refine vx_istore (ls2 := [some (.ref (G.1 144)), some (.ref (G.1 145)), some (.ref (G.1 146)), some (.ref (G.1 147)), some (.ref (G.1 148)), some (.ref (G.1 149)), some (.int (nI y)), some (.int (nI d)), some (.int (nI cl)), some (.int 1), some (.int (nI cn)), some (.int (nI i)), some (.int 7), some (.int (nI one)), some (.int (nI two))]) C 9 dL_reads_414 (Nat.le_of_ble_eq_true rfl) rfl ?_
    refine vx_keep (ls2 := [some (.ref (G.1 144)), some (.ref (G.1 145)), some (.ref (G.1 146)), some (.ref (G.1 147)), some (.ref (G.1 148)), some (.ref (G.1 149)), some (.int (nI y)), some (.int (nI d)), some (.int (nI cl)), some (.int 1), some (.int (nI cn)), some (.int (nI i)), some (.int 7), some (.int (nI one)), some (.int (nI two))]) ⟨rfl, rfl, rfl, rfl, rfl, rfl, rfl, rfl, rfl, rfl, rfl, rfl, rfl, rfl, rfl, trivial⟩ ?_
    have e : T ++ celW (7, one, two) = ((((T ++ [48 + one / 10]) ++ [48 + one % 10]) ++ [45]) ++ [48 + two / 10]) ++ [48 + two % 10] := by show T ++ (numW one ++ [45, 48 + two / 10, 48 + two % 10]) = _; simp only [numW2 h_ge10, List.append_assoc, List.cons_append, List.nil_append]
    exact hk _ hi_27 (by rw [e]; exact ht_27) ((((hs_23.tr hs_24).tr hs_25).tr hs_26).tr hs_27)
set_option maxRecDepth 100000 in
set_option maxHeartbeats 4000000 in
theorem lp_reads_k8 {p : Program} {l : Launch} {e : Env} {s : State} {m : MethodId} {args : Array Value} {below : List Frame} {meth : Method} {c : Code} {G : mw_GG} {A : Nat → Prop} {Q : State → Prop} (C : vx_C p s m args c G A cL_reads 15 wsL_reads RL) {X : va_W} {y d cl cn i : Nat} {Mi : mw_M} (hi : invV Mi) {T : List Nat} (ht : txP Mi T) {n : Nat} (hn : T.length = n) (hl : n ≤ 25) {one two : Nat} (hA : okA 8 one) (hB : okB 8 one two) (hk : ∀ M2, invV M2 → txP M2 (T ++ celW (8, one, two)) → stP Mi M2 → vx p l e ({ frames := 7, cells := 2, slots := 7, locals := 161 } : Room) s m args below meth c G A 0 0 Q M2 X 416 [some (.ref (G.1 144)), some (.ref (G.1 145)), some (.ref (G.1 146)), some (.ref (G.1 147)), some (.ref (G.1 148)), some (.ref (G.1 149)), some (.int (nI y)), some (.int (nI d)), some (.int (nI cl)), some (.int 1), some (.int (nI cn)), some (.int (nI i)), some (.int 8), some (.int (nI one)), some (.int (nI two))] []) : vx p l e ({ frames := 7, cells := 2, slots := 7, locals := 161 } : Room) s m args below meth c G A 0 0 Q Mi X 186 [some (.ref (G.1 144)), some (.ref (G.1 145)), some (.ref (G.1 146)), some (.ref (G.1 147)), some (.ref (G.1 148)), some (.ref (G.1 149)), some (.int (nI y)), some (.int (nI d)), some (.int (nI cl)), some (.int 1), some (.int (nI cn)), some (.int (nI i)), some (.int 8), some (.int (nI one)), some (.int (nI two))] [] := by
  obtain ⟨hA0, hA1, hA2, hA3⟩ := hA
  obtain ⟨hB1, hB2⟩ := hB
  refine vx_iload C 12 dL_reads_186 rfl ?_
  refine vx_iconst (v := 2) C dL_reads_188 (by decide) ?_
  refine vx_ncmp_gt C 8 2 222 dL_reads_189 (by decide) (by decide) (by decide) (fun h_2 => ?_) (fun h_1 => absurd h_1 (by decide))
  refine vx_iload C 12 dL_reads_222 rfl ?_
  refine vx_iconst (v := 4) C dL_reads_224 (by decide) ?_
  refine vx_ncmp_ne C 8 4 237 dL_reads_225 (by decide) (by decide) (by decide) (fun h_4 => ?_) (fun h_3 => absurd h_3 (by decide))
  refine vx_iload C 12 dL_reads_237 rfl ?_
  refine vx_iconst (v := 5) C dL_reads_239 (by decide) ?_
  refine vx_ncmp_eq C 8 5 250 dL_reads_240 (by decide) (by decide) (by decide) (fun h_5 => absurd h_5 (by decide)) (fun h_6 => ?_)
  refine vx_iload C 12 dL_reads_243 rfl ?_
  refine vx_bipush (v := 9) C dL_reads_245 (by decide) ?_
  refine vx_ncmp_ne C 8 9 259 dL_reads_247 (by decide) (by decide) (by decide) (fun h_8 => ?_) (fun h_7 => absurd h_7 (by decide))
  refine vx_iload C 12 dL_reads_259 rfl ?_
  refine vx_bipush (v := 6) C dL_reads_261 (by decide) ?_
  refine vx_ncmp_eq C 8 6 273 dL_reads_263 (by decide) (by decide) (by decide) (fun h_9 => absurd h_9 (by decide)) (fun h_10 => ?_)
  refine vx_iload C 12 dL_reads_266 rfl ?_
  refine vx_bipush (v := 10) C dL_reads_268 (by decide) ?_
  refine vx_ncmp_ne C 8 10 282 dL_reads_270 (by decide) (by decide) (by decide) (fun h_12 => ?_) (fun h_11 => absurd h_11 (by decide))
  refine vx_iload C 12 dL_reads_282 rfl ?_
  refine vx_bipush (v := 8) C dL_reads_284 (by decide) ?_
  refine vx_ncmp_lt C 8 8 301 dL_reads_286 (by decide) (by decide) (by decide) (fun h_13 => absurd h_13 (by decide)) (fun h_14 => ?_)
  refine vx_aload_n C 0 dL_reads_289 rfl rfl ?_
  refine vx_bipush (v := 119) C dL_reads_290 (by decide) ?_
  refine vx_iload C 13 dL_reads_292 rfl ?_
  refine vx_iadd C dL_reads_294 ?_
  refine vx_top (y := nI (119 + one)) (nI_add 119 one) ?_
  refine vx_callVIP C [.int (nI (119 + one))] (c_X8_type Mi hi.1 hi.2.1 hi.2.2.1 (nI (119 + one))) sh_144 rfl (cwV 1 C.1.2.2.2.2 gL_reads_X8_type rfl rfl rfl (by decide +kernel) ⟨Nat.le_of_ble_eq_true rfl, Nat.le_of_ble_eq_true rfl⟩) rfl rfl rfl (Nat.le_of_ble_eq_true rfl) dL_reads_295 ⟨Nat.le_of_ble_eq_true rfl, Nat.le_of_ble_eq_true rfl⟩ (fun x_15 M_16 h_17 => ?_)
  obtain ⟨e_28, hi_28, ht_28, hn_28, hs_28⟩ := ty_step (c := 119 + one) hi ht hn (by omega) (by omega) (by omega) h_17
  refine vx_top (y := nI (n + 1)) e_28 ?_
  refine vx_nif_le C (n + 1) 305 dL_reads_298 (by decide) (by omega) (fun h_18 => absurd h_18 (by omega)) (fun h_19 => ?_)
  refine vx_iconst (v := 1) C dL_reads_301 (by decide) ?_
  refine vx_goto C 306 dL_reads_302 (by decide) ?_
  refine vx_istore (ls2 := [some (.ref (G.1 144)), some (.ref (G.1 145)), some (.ref (G.1 146)), some (.ref (G.1 147)), some (.ref (G.1 148)), some (.ref (G.1 149)), some (.int (nI y)), some (.int (nI d)), some (.int (nI cl)), some (.int 1), some (.int (nI cn)), some (.int (nI i)), some (.int 8), some (.int (nI one)), some (.int (nI two))]) C 9 dL_reads_306 (Nat.le_of_ble_eq_true rfl) rfl ?_
  refine vx_iload C 9 dL_reads_308 rfl ?_
  refine vx_nif_eq C 1 413 dL_reads_310 (by decide) (by decide) (fun h_20 => absurd h_20 (by decide)) (fun h_21 => ?_)
  refine vx_iload C 12 dL_reads_313 rfl ?_
  refine vx_iconst (v := 3) C dL_reads_315 (by decide) ?_
  refine vx_ncmp_lt C 8 3 363 dL_reads_316 (by decide) (by decide) (by decide) (fun h_22 => absurd h_22 (by decide)) (fun h_23 => ?_)
  refine vx_iload C 12 dL_reads_319 rfl ?_
  refine vx_bipush (v := 7) C dL_reads_321 (by decide) ?_
  refine vx_ncmp_gt C 8 7 363 dL_reads_323 (by decide) (by decide) (by decide) (fun h_25 => ?_) (fun h_24 => absurd h_24 (by decide))
  refine vx_iload C 12 dL_reads_363 rfl ?_
  refine vx_bipush (v := 7) C dL_reads_365 (by decide) ?_
  refine vx_ncmp_ne C 8 7 409 dL_reads_367 (by decide) (by decide) (by decide) (fun h_27 => ?_) (fun h_26 => absurd h_26 (by decide))
  refine vx_iconst (v := 1) C dL_reads_409 (by decide) ?_
  refine vx_goto C 414 dL_reads_410 (by decide) ?_
  refine vx_istore (ls2 := [some (.ref (G.1 144)), some (.ref (G.1 145)), some (.ref (G.1 146)), some (.ref (G.1 147)), some (.ref (G.1 148)), some (.ref (G.1 149)), some (.int (nI y)), some (.int (nI d)), some (.int (nI cl)), some (.int 1), some (.int (nI cn)), some (.int (nI i)), some (.int 8), some (.int (nI one)), some (.int (nI two))]) C 9 dL_reads_414 (Nat.le_of_ble_eq_true rfl) rfl ?_
  refine vx_keep (ls2 := [some (.ref (G.1 144)), some (.ref (G.1 145)), some (.ref (G.1 146)), some (.ref (G.1 147)), some (.ref (G.1 148)), some (.ref (G.1 149)), some (.int (nI y)), some (.int (nI d)), some (.int (nI cl)), some (.int 1), some (.int (nI cn)), some (.int (nI i)), some (.int 8), some (.int (nI one)), some (.int (nI two))]) ⟨rfl, rfl, rfl, rfl, rfl, rfl, rfl, rfl, rfl, rfl, rfl, rfl, rfl, rfl, rfl, trivial⟩ ?_
  have e : T ++ celW (8, one, two) = T ++ [119 + one] := rfl
  exact hk _ hi_28 (by rw [e]; exact ht_28) hs_28
set_option maxRecDepth 100000 in
set_option maxHeartbeats 4000000 in
theorem lp_reads_k9 {p : Program} {l : Launch} {e : Env} {s : State} {m : MethodId} {args : Array Value} {below : List Frame} {meth : Method} {c : Code} {G : mw_GG} {A : Nat → Prop} {Q : State → Prop} (C : vx_C p s m args c G A cL_reads 15 wsL_reads RL) {X : va_W} {y d cl cn i : Nat} {Mi : mw_M} (hi : invV Mi) {T : List Nat} (ht : txP Mi T) {n : Nat} (hn : T.length = n) (hl : n ≤ 25) {one two : Nat} (hA : okA 9 one) (hB : okB 9 one two) (hk : ∀ M2, invV M2 → txP M2 (T ++ celW (9, one, two)) → stP Mi M2 → vx p l e ({ frames := 7, cells := 2, slots := 7, locals := 161 } : Room) s m args below meth c G A 0 0 Q M2 X 416 [some (.ref (G.1 144)), some (.ref (G.1 145)), some (.ref (G.1 146)), some (.ref (G.1 147)), some (.ref (G.1 148)), some (.ref (G.1 149)), some (.int (nI y)), some (.int (nI d)), some (.int (nI cl)), some (.int 1), some (.int (nI cn)), some (.int (nI i)), some (.int 9), some (.int (nI one)), some (.int (nI two))] []) : vx p l e ({ frames := 7, cells := 2, slots := 7, locals := 161 } : Room) s m args below meth c G A 0 0 Q Mi X 186 [some (.ref (G.1 144)), some (.ref (G.1 145)), some (.ref (G.1 146)), some (.ref (G.1 147)), some (.ref (G.1 148)), some (.ref (G.1 149)), some (.int (nI y)), some (.int (nI d)), some (.int (nI cl)), some (.int 1), some (.int (nI cn)), some (.int (nI i)), some (.int 9), some (.int (nI one)), some (.int (nI two))] [] := by
  obtain ⟨hA0, hA1, hA2, hA3⟩ := hA
  obtain ⟨hB1, hB2⟩ := hB
  refine vx_iload C 12 dL_reads_186 rfl ?_
  refine vx_iconst (v := 2) C dL_reads_188 (by decide) ?_
  refine vx_ncmp_gt C 9 2 222 dL_reads_189 (by decide) (by decide) (by decide) (fun h_2 => ?_) (fun h_1 => absurd h_1 (by decide))
  refine vx_iload C 12 dL_reads_222 rfl ?_
  refine vx_iconst (v := 4) C dL_reads_224 (by decide) ?_
  refine vx_ncmp_ne C 9 4 237 dL_reads_225 (by decide) (by decide) (by decide) (fun h_4 => ?_) (fun h_3 => absurd h_3 (by decide))
  refine vx_iload C 12 dL_reads_237 rfl ?_
  refine vx_iconst (v := 5) C dL_reads_239 (by decide) ?_
  refine vx_ncmp_eq C 9 5 250 dL_reads_240 (by decide) (by decide) (by decide) (fun h_5 => absurd h_5 (by decide)) (fun h_6 => ?_)
  refine vx_iload C 12 dL_reads_243 rfl ?_
  refine vx_bipush (v := 9) C dL_reads_245 (by decide) ?_
  refine vx_ncmp_ne C 9 9 259 dL_reads_247 (by decide) (by decide) (by decide) (fun h_7 => absurd h_7 (by decide)) (fun h_8 => ?_)
  refine vx_aload_n C 0 dL_reads_250 rfl rfl ?_
  refine vx_bipush (v := 60) C dL_reads_251 (by decide) ?_
  refine vx_callVIP C [.int 60] (c_X8_type Mi hi.1 hi.2.1 hi.2.2.1 60) sh_144 rfl (cwV 1 C.1.2.2.2.2 gL_reads_X8_type rfl rfl rfl (by decide +kernel) ⟨Nat.le_of_ble_eq_true rfl, Nat.le_of_ble_eq_true rfl⟩) rfl rfl rfl (Nat.le_of_ble_eq_true rfl) dL_reads_253 ⟨Nat.le_of_ble_eq_true rfl, Nat.le_of_ble_eq_true rfl⟩ (fun x_9 M_10 h_11 => ?_)
  obtain ⟨e_29, hi_29, ht_29, hn_29, hs_29⟩ := ty_step (c := 60) hi ht hn (by omega) (by omega) (by omega) h_11
  refine vx_top (y := nI (n + 1)) e_29 ?_
  refine vx_nif_le C (n + 1) 305 dL_reads_256 (by decide) (by omega) (fun h_12 => absurd h_12 (by omega)) (fun h_13 => ?_)
  refine vx_iload C 12 dL_reads_259 rfl ?_
  refine vx_bipush (v := 6) C dL_reads_261 (by decide) ?_
  refine vx_ncmp_eq C 9 6 273 dL_reads_263 (by decide) (by decide) (by decide) (fun h_14 => absurd h_14 (by decide)) (fun h_15 => ?_)
  refine vx_iload C 12 dL_reads_266 rfl ?_
  refine vx_bipush (v := 10) C dL_reads_268 (by decide) ?_
  refine vx_ncmp_ne C 9 10 282 dL_reads_270 (by decide) (by decide) (by decide) (fun h_17 => ?_) (fun h_16 => absurd h_16 (by decide))
  refine vx_iload C 12 dL_reads_282 rfl ?_
  refine vx_bipush (v := 8) C dL_reads_284 (by decide) ?_
  refine vx_ncmp_lt C 9 8 301 dL_reads_286 (by decide) (by decide) (by decide) (fun h_18 => absurd h_18 (by decide)) (fun h_19 => ?_)
  refine vx_aload_n C 0 dL_reads_289 rfl rfl ?_
  refine vx_bipush (v := 119) C dL_reads_290 (by decide) ?_
  refine vx_iload C 13 dL_reads_292 rfl ?_
  refine vx_iadd C dL_reads_294 ?_
  refine vx_top (y := nI (119 + one)) (nI_add 119 one) ?_
  refine vx_callVIP C [.int (nI (119 + one))] (c_X8_type M_10 hi_29.1 hi_29.2.1 hi_29.2.2.1 (nI (119 + one))) sh_144 rfl (cwV 1 C.1.2.2.2.2 gL_reads_X8_type rfl rfl rfl (by decide +kernel) ⟨Nat.le_of_ble_eq_true rfl, Nat.le_of_ble_eq_true rfl⟩) rfl rfl rfl (Nat.le_of_ble_eq_true rfl) dL_reads_295 ⟨Nat.le_of_ble_eq_true rfl, Nat.le_of_ble_eq_true rfl⟩ (fun x_20 M_21 h_22 => ?_)
  obtain ⟨e_30, hi_30, ht_30, hn_30, hs_30⟩ := ty_step (c := 119 + one) hi_29 ht_29 hn_29 (by omega) (by omega) (by omega) h_22
  refine vx_top (y := nI (n + 1 + 1)) e_30 ?_
  refine vx_nif_le C (n + 1 + 1) 305 dL_reads_298 (by decide) (by omega) (fun h_23 => absurd h_23 (by omega)) (fun h_24 => ?_)
  refine vx_iconst (v := 1) C dL_reads_301 (by decide) ?_
  refine vx_goto C 306 dL_reads_302 (by decide) ?_
  refine vx_istore (ls2 := [some (.ref (G.1 144)), some (.ref (G.1 145)), some (.ref (G.1 146)), some (.ref (G.1 147)), some (.ref (G.1 148)), some (.ref (G.1 149)), some (.int (nI y)), some (.int (nI d)), some (.int (nI cl)), some (.int 1), some (.int (nI cn)), some (.int (nI i)), some (.int 9), some (.int (nI one)), some (.int (nI two))]) C 9 dL_reads_306 (Nat.le_of_ble_eq_true rfl) rfl ?_
  refine vx_iload C 9 dL_reads_308 rfl ?_
  refine vx_nif_eq C 1 413 dL_reads_310 (by decide) (by decide) (fun h_25 => absurd h_25 (by decide)) (fun h_26 => ?_)
  refine vx_iload C 12 dL_reads_313 rfl ?_
  refine vx_iconst (v := 3) C dL_reads_315 (by decide) ?_
  refine vx_ncmp_lt C 9 3 363 dL_reads_316 (by decide) (by decide) (by decide) (fun h_27 => absurd h_27 (by decide)) (fun h_28 => ?_)
  refine vx_iload C 12 dL_reads_319 rfl ?_
  refine vx_bipush (v := 7) C dL_reads_321 (by decide) ?_
  refine vx_ncmp_gt C 9 7 363 dL_reads_323 (by decide) (by decide) (by decide) (fun h_30 => ?_) (fun h_29 => absurd h_29 (by decide))
  refine vx_iload C 12 dL_reads_363 rfl ?_
  refine vx_bipush (v := 7) C dL_reads_365 (by decide) ?_
  refine vx_ncmp_ne C 9 7 409 dL_reads_367 (by decide) (by decide) (by decide) (fun h_32 => ?_) (fun h_31 => absurd h_31 (by decide))
  refine vx_iconst (v := 1) C dL_reads_409 (by decide) ?_
  refine vx_goto C 414 dL_reads_410 (by decide) ?_
  refine vx_istore (ls2 := [some (.ref (G.1 144)), some (.ref (G.1 145)), some (.ref (G.1 146)), some (.ref (G.1 147)), some (.ref (G.1 148)), some (.ref (G.1 149)), some (.int (nI y)), some (.int (nI d)), some (.int (nI cl)), some (.int 1), some (.int (nI cn)), some (.int (nI i)), some (.int 9), some (.int (nI one)), some (.int (nI two))]) C 9 dL_reads_414 (Nat.le_of_ble_eq_true rfl) rfl ?_
  refine vx_keep (ls2 := [some (.ref (G.1 144)), some (.ref (G.1 145)), some (.ref (G.1 146)), some (.ref (G.1 147)), some (.ref (G.1 148)), some (.ref (G.1 149)), some (.int (nI y)), some (.int (nI d)), some (.int (nI cl)), some (.int 1), some (.int (nI cn)), some (.int (nI i)), some (.int 9), some (.int (nI one)), some (.int (nI two))]) ⟨rfl, rfl, rfl, rfl, rfl, rfl, rfl, rfl, rfl, rfl, rfl, rfl, rfl, rfl, rfl, trivial⟩ ?_
  have e : T ++ celW (9, one, two) = (T ++ [60]) ++ [119 + one] := by show T ++ ([60, 119 + one]) = _; simp only [List.append_assoc, List.cons_append, List.nil_append]
  exact hk _ hi_30 (by rw [e]; exact ht_30) (hs_29.tr hs_30)
set_option maxRecDepth 100000 in
set_option maxHeartbeats 4000000 in
theorem lp_reads_k10 {p : Program} {l : Launch} {e : Env} {s : State} {m : MethodId} {args : Array Value} {below : List Frame} {meth : Method} {c : Code} {G : mw_GG} {A : Nat → Prop} {Q : State → Prop} (C : vx_C p s m args c G A cL_reads 15 wsL_reads RL) {X : va_W} {y d cl cn i : Nat} {Mi : mw_M} (hi : invV Mi) {T : List Nat} (ht : txP Mi T) {n : Nat} (hn : T.length = n) (hl : n ≤ 25) {one two : Nat} (hA : okA 10 one) (hB : okB 10 one two) (hk : ∀ M2, invV M2 → txP M2 (T ++ celW (10, one, two)) → stP Mi M2 → vx p l e ({ frames := 7, cells := 2, slots := 7, locals := 161 } : Room) s m args below meth c G A 0 0 Q M2 X 416 [some (.ref (G.1 144)), some (.ref (G.1 145)), some (.ref (G.1 146)), some (.ref (G.1 147)), some (.ref (G.1 148)), some (.ref (G.1 149)), some (.int (nI y)), some (.int (nI d)), some (.int (nI cl)), some (.int 1), some (.int (nI cn)), some (.int (nI i)), some (.int 10), some (.int (nI one)), some (.int (nI two))] []) : vx p l e ({ frames := 7, cells := 2, slots := 7, locals := 161 } : Room) s m args below meth c G A 0 0 Q Mi X 186 [some (.ref (G.1 144)), some (.ref (G.1 145)), some (.ref (G.1 146)), some (.ref (G.1 147)), some (.ref (G.1 148)), some (.ref (G.1 149)), some (.int (nI y)), some (.int (nI d)), some (.int (nI cl)), some (.int 1), some (.int (nI cn)), some (.int (nI i)), some (.int 10), some (.int (nI one)), some (.int (nI two))] [] := by
  obtain ⟨hA0, hA1, hA2, hA3⟩ := hA
  obtain ⟨hB1, hB2⟩ := hB
  refine vx_iload C 12 dL_reads_186 rfl ?_
  refine vx_iconst (v := 2) C dL_reads_188 (by decide) ?_
  refine vx_ncmp_gt C 10 2 222 dL_reads_189 (by decide) (by decide) (by decide) (fun h_2 => ?_) (fun h_1 => absurd h_1 (by decide))
  refine vx_iload C 12 dL_reads_222 rfl ?_
  refine vx_iconst (v := 4) C dL_reads_224 (by decide) ?_
  refine vx_ncmp_ne C 10 4 237 dL_reads_225 (by decide) (by decide) (by decide) (fun h_4 => ?_) (fun h_3 => absurd h_3 (by decide))
  refine vx_iload C 12 dL_reads_237 rfl ?_
  refine vx_iconst (v := 5) C dL_reads_239 (by decide) ?_
  refine vx_ncmp_eq C 10 5 250 dL_reads_240 (by decide) (by decide) (by decide) (fun h_5 => absurd h_5 (by decide)) (fun h_6 => ?_)
  refine vx_iload C 12 dL_reads_243 rfl ?_
  refine vx_bipush (v := 9) C dL_reads_245 (by decide) ?_
  refine vx_ncmp_ne C 10 9 259 dL_reads_247 (by decide) (by decide) (by decide) (fun h_8 => ?_) (fun h_7 => absurd h_7 (by decide))
  refine vx_iload C 12 dL_reads_259 rfl ?_
  refine vx_bipush (v := 6) C dL_reads_261 (by decide) ?_
  refine vx_ncmp_eq C 10 6 273 dL_reads_263 (by decide) (by decide) (by decide) (fun h_9 => absurd h_9 (by decide)) (fun h_10 => ?_)
  refine vx_iload C 12 dL_reads_266 rfl ?_
  refine vx_bipush (v := 10) C dL_reads_268 (by decide) ?_
  refine vx_ncmp_ne C 10 10 282 dL_reads_270 (by decide) (by decide) (by decide) (fun h_11 => absurd h_11 (by decide)) (fun h_12 => ?_)
  refine vx_aload_n C 0 dL_reads_273 rfl rfl ?_
  refine vx_bipush (v := 62) C dL_reads_274 (by decide) ?_
  refine vx_callVIP C [.int 62] (c_X8_type Mi hi.1 hi.2.1 hi.2.2.1 62) sh_144 rfl (cwV 1 C.1.2.2.2.2 gL_reads_X8_type rfl rfl rfl (by decide +kernel) ⟨Nat.le_of_ble_eq_true rfl, Nat.le_of_ble_eq_true rfl⟩) rfl rfl rfl (Nat.le_of_ble_eq_true rfl) dL_reads_276 ⟨Nat.le_of_ble_eq_true rfl, Nat.le_of_ble_eq_true rfl⟩ (fun x_13 M_14 h_15 => ?_)
  obtain ⟨e_31, hi_31, ht_31, hn_31, hs_31⟩ := ty_step (c := 62) hi ht hn (by omega) (by omega) (by omega) h_15
  refine vx_top (y := nI (n + 1)) e_31 ?_
  refine vx_nif_le C (n + 1) 305 dL_reads_279 (by decide) (by omega) (fun h_16 => absurd h_16 (by omega)) (fun h_17 => ?_)
  refine vx_iload C 12 dL_reads_282 rfl ?_
  refine vx_bipush (v := 8) C dL_reads_284 (by decide) ?_
  refine vx_ncmp_lt C 10 8 301 dL_reads_286 (by decide) (by decide) (by decide) (fun h_18 => absurd h_18 (by decide)) (fun h_19 => ?_)
  refine vx_aload_n C 0 dL_reads_289 rfl rfl ?_
  refine vx_bipush (v := 119) C dL_reads_290 (by decide) ?_
  refine vx_iload C 13 dL_reads_292 rfl ?_
  refine vx_iadd C dL_reads_294 ?_
  refine vx_top (y := nI (119 + one)) (nI_add 119 one) ?_
  refine vx_callVIP C [.int (nI (119 + one))] (c_X8_type M_14 hi_31.1 hi_31.2.1 hi_31.2.2.1 (nI (119 + one))) sh_144 rfl (cwV 1 C.1.2.2.2.2 gL_reads_X8_type rfl rfl rfl (by decide +kernel) ⟨Nat.le_of_ble_eq_true rfl, Nat.le_of_ble_eq_true rfl⟩) rfl rfl rfl (Nat.le_of_ble_eq_true rfl) dL_reads_295 ⟨Nat.le_of_ble_eq_true rfl, Nat.le_of_ble_eq_true rfl⟩ (fun x_20 M_21 h_22 => ?_)
  obtain ⟨e_32, hi_32, ht_32, hn_32, hs_32⟩ := ty_step (c := 119 + one) hi_31 ht_31 hn_31 (by omega) (by omega) (by omega) h_22
  refine vx_top (y := nI (n + 1 + 1)) e_32 ?_
  refine vx_nif_le C (n + 1 + 1) 305 dL_reads_298 (by decide) (by omega) (fun h_23 => absurd h_23 (by omega)) (fun h_24 => ?_)
  refine vx_iconst (v := 1) C dL_reads_301 (by decide) ?_
  refine vx_goto C 306 dL_reads_302 (by decide) ?_
  refine vx_istore (ls2 := [some (.ref (G.1 144)), some (.ref (G.1 145)), some (.ref (G.1 146)), some (.ref (G.1 147)), some (.ref (G.1 148)), some (.ref (G.1 149)), some (.int (nI y)), some (.int (nI d)), some (.int (nI cl)), some (.int 1), some (.int (nI cn)), some (.int (nI i)), some (.int 10), some (.int (nI one)), some (.int (nI two))]) C 9 dL_reads_306 (Nat.le_of_ble_eq_true rfl) rfl ?_
  refine vx_iload C 9 dL_reads_308 rfl ?_
  refine vx_nif_eq C 1 413 dL_reads_310 (by decide) (by decide) (fun h_25 => absurd h_25 (by decide)) (fun h_26 => ?_)
  refine vx_iload C 12 dL_reads_313 rfl ?_
  refine vx_iconst (v := 3) C dL_reads_315 (by decide) ?_
  refine vx_ncmp_lt C 10 3 363 dL_reads_316 (by decide) (by decide) (by decide) (fun h_27 => absurd h_27 (by decide)) (fun h_28 => ?_)
  refine vx_iload C 12 dL_reads_319 rfl ?_
  refine vx_bipush (v := 7) C dL_reads_321 (by decide) ?_
  refine vx_ncmp_gt C 10 7 363 dL_reads_323 (by decide) (by decide) (by decide) (fun h_30 => ?_) (fun h_29 => absurd h_29 (by decide))
  refine vx_iload C 12 dL_reads_363 rfl ?_
  refine vx_bipush (v := 7) C dL_reads_365 (by decide) ?_
  refine vx_ncmp_ne C 10 7 409 dL_reads_367 (by decide) (by decide) (by decide) (fun h_32 => ?_) (fun h_31 => absurd h_31 (by decide))
  refine vx_iconst (v := 1) C dL_reads_409 (by decide) ?_
  refine vx_goto C 414 dL_reads_410 (by decide) ?_
  refine vx_istore (ls2 := [some (.ref (G.1 144)), some (.ref (G.1 145)), some (.ref (G.1 146)), some (.ref (G.1 147)), some (.ref (G.1 148)), some (.ref (G.1 149)), some (.int (nI y)), some (.int (nI d)), some (.int (nI cl)), some (.int 1), some (.int (nI cn)), some (.int (nI i)), some (.int 10), some (.int (nI one)), some (.int (nI two))]) C 9 dL_reads_414 (Nat.le_of_ble_eq_true rfl) rfl ?_
  refine vx_keep (ls2 := [some (.ref (G.1 144)), some (.ref (G.1 145)), some (.ref (G.1 146)), some (.ref (G.1 147)), some (.ref (G.1 148)), some (.ref (G.1 149)), some (.int (nI y)), some (.int (nI d)), some (.int (nI cl)), some (.int 1), some (.int (nI cn)), some (.int (nI i)), some (.int 10), some (.int (nI one)), some (.int (nI two))]) ⟨rfl, rfl, rfl, rfl, rfl, rfl, rfl, rfl, rfl, rfl, rfl, rfl, rfl, rfl, rfl, trivial⟩ ?_
  have e : T ++ celW (10, one, two) = (T ++ [62]) ++ [119 + one] := by show T ++ ([62, 119 + one]) = _; simp only [List.append_assoc, List.cons_append, List.nil_append]
  exact hk _ hi_32 (by rw [e]; exact ht_32) (hs_31.tr hs_32)
