/-! the rows in their order, as the class tells them -/
def rwN (S : mw_M) (k : Nat) : Nat := (srtS S (lstS S 8)).getD k 0
/-- the row told last, ahead of the k-th -/
def ltI (S : mw_M) (k : Nat) : Int32 := if k = 0 then -1 else nI (rwN S (k - 1))
theorem ltI_neg {S : mw_M} (hw : wfR S) {k : Nat} (hk : k ≤ (lstS S 8).length) (h : ¬ ltI S k < 0) : 0 < k ∧ ltI S k = nI (rwN S (k - 1)) := by
  unfold ltI at h ⊢
  by_cases e : k = 0
  · rw [if_pos e] at h
    exact absurd (by decide) h
  · rw [if_neg e]
    exact ⟨by omega, rfl⟩
theorem rw_mem {S : mw_M} {k : Nat} (hk : k < (lstS S 8).length) : rwN S k ∈ lstS S 8 := srt_perm.mem_iff.mp (getD_mem (by rw [srt_len]; exact hk))
theorem rw_ok {S : mw_M} (hw : wfR S) {k : Nat} (hk : k < (lstS S 8).length) : rwN S k < 144 ∧ valP S (rwN S k / 12) (rwN S k % 12) ∧ misS S 8 (rwN S k / 12) (rwN S k % 12) = 8 ∧ rwN S k / 12 < nN S 0 ∧ rwN S k % 12 < n1 S := by
  have hm := rw_mem hk
  obtain ⟨h1, h2⟩ := valP_row hw hm
  refine ⟨h1, h2, ?_⟩
  obtain ⟨i, j, hi, hj, hf, e⟩ := lstF_mem.mp hm
  have hm12 := n1_le hw.2.1
  have e1 : rwN S k / 12 = i := by omega
  have e2 : rwN S k % 12 = j := by omega
  rw [e1, e2]
  exact ⟨hf, hi, hj⟩
theorem rw_one {S : mw_M} (hw : wfR S) {k : Nat} (hk : k < (lstS S 8).length) (h : ¬ S 124 = 1) : rwN S k % 12 = 0 := by
  have h1 := (rw_ok hw hk).2.2.2.2
  rw [n1_one h] at h1
  omega
theorem row_go {S Mi : mw_M} (cl : clO Mi S) (hw : wfR S) {k : Nat} (hk : k < (lstS S 8).length) {w : Int32} (hab : abrB w = true) : (op_row Mi (nI k) w).1 = rowI Mi (rwN S k) w := by
  have h144 := lstS_len (lo := 8) hw
  have hm : manyI Mi = manyI S := cl.eq.many hw
  rw [op_row_ok (ix := k) (nI_pos (by omega)) hab (by rw [hm]; exact nI_lt hk (by omega)) (nI_clamp (by omega))]
  show rowI Mi ((srtS Mi (lstS Mi 8)).getD k 0) w = _
  rw [cl.eq.lst hw, cl.eq.srts hw]
  rfl
theorem rw_0 {S Mi : mw_M} (cl : clO Mi S) (hw : wfR S) {k : Nat} (hk : k < (lstS S 8).length) : (op_row Mi (nI k) 0).1 = nI (rwN S k / 12) := by
  rw [row_go cl hw hk (by decide)]
  exact if_pos rfl
theorem rw_1 {S Mi : mw_M} (cl : clO Mi S) (hw : wfR S) {k : Nat} (hk : k < (lstS S 8).length) : (op_row Mi (nI k) 1).1 = if S 124 = 1 then nI (rwN S k % 12) else -14 := by
  rw [row_go cl hw hk (by decide)]
  unfold rowI
  rw [if_neg (by decide), if_pos rfl, cl.q (by omega)]
theorem rw_c {S Mi : mw_M} (cl : clO Mi S) (hw : wfR S) {k i : Nat} (hk : k < (lstS S 8).length) (hi : i < 8) : (op_row Mi (nI k) (nI (10 + i))).1 = if askP S (nI i) then vS S i (rwN S k / 12) (rwN S k % 12) else -14 := by
  have hv := (rw_ok hw hk).2.1
  have e : (nI (10 + i)) - 10 = nI i := (pk_sub (a := 10 + i) (b := 10) (by omega)).trans (congrArg nI (by omega))
  have hab : abrB (nI (10 + i)) = true := by rcases c8 hi with rfl | rfl | rfl | rfl | rfl | rfl | rfl | rfl <;> decide
  rw [row_go cl hw hk hab]
  have n0 : ¬ nI (10 + i) = 0 := fun z => absurd ((nI_eq (b := 0) (by omega) (by omega)).mp z) (by omega)
  have n1 : ¬ nI (10 + i) = 1 := fun z => absurd ((nI_eq (b := 1) (by omega) (by omega)).mp z) (by omega)
  have n20 : nI (10 + i) < 20 := (nI_ltI (b := 20) (by omega) (by omega)).mpr (by omega)
  unfold rowI colI
  rw [if_neg n0, if_neg n1, if_pos n20, e]
  by_cases ha : askP S (nI i)
  · rw [if_pos ha, if_pos (cl.eq.ask.mpr ha), nI_clamp (by omega), cl.eq.col hi hv.1 hv.2.1]
  · rw [if_neg ha, if_neg (fun z => ha (cl.eq.ask.mp z))]
theorem tel_a {S : mw_M} {lo a c : Nat} (h : telP S lo a c = true) : askP S (nI c) := by
  unfold telP at h
  rw [Bool.and_eq_true] at h
  exact of_decide_eq_true h.1
theorem rw_t {S Mi : mw_M} (cl : clO Mi S) (hw : wfR S) {k x : Nat} (hk : k < (lstS S 8).length) (hx : x < 4) : (op_row Mi (nI k) (nI (20 + x))).1 = tlV S x (rwN S k / 12) (rwN S k % 12) := by
  have hv := (rw_ok hw hk).2.1
  have e : (nI (20 + x)) - 20 = nI x := (pk_sub (a := 20 + x) (b := 20) (by omega)).trans (congrArg nI (by omega))
  have hab : abrB (nI (20 + x)) = true := by rcases c4 hx with rfl | rfl | rfl | rfl <;> decide
  rw [row_go cl hw hk hab]
  have n0 : ¬ nI (20 + x) = 0 := fun z => absurd ((nI_eq (b := 0) (by omega) (by omega)).mp z) (by omega)
  have n1 : ¬ nI (20 + x) = 1 := fun z => absurd ((nI_eq (b := 1) (by omega) (by omega)).mp z) (by omega)
  have n20 : ¬ nI (20 + x) < 20 := fun z => absurd ((nI_ltI (b := 20) (by omega) (by omega)).mp z) (by omega)
  unfold rowI colI tlV tlC
  rw [if_neg n0, if_neg n1, if_neg n20, e, nI_clamp (by omega), cl.eq.tels]
  show (if askP Mi (tcI (tlD (telP S 8 x) 8)) then vS Mi (tcI (tlD (telP S 8 x) 8)).toNatClampNeg (rwN S k / 12) (rwN S k % 12) else -14) = _
  by_cases h8 : tlD (telP S 8 x) 8 < 8
  · have hp := tlD_p 8 (by omega) h8
    have ha := tel_a hp
    have et : tcI (tlD (telP S 8 x) 8) = nI (tlD (telP S 8 x) 8) := if_pos h8
    rw [et, if_pos h8, if_pos (cl.eq.ask.mpr ha), nI_clamp (by omega), cl.eq.col h8 hv.1 hv.2.1]
  · have et : tcI (tlD (telP S 8 x) 8) = -1 := if_neg h8
    rw [et, if_neg h8, if_neg (ask_neg (by decide))]
theorem rw_end {S Mi : mw_M} (cl : clO Mi S) (hw : wfR S) {n : Nat} (hn : (lstS S 8).length = n) : (op_row Mi (nI n) 0).1 = -14 := by
  have h144 := lstS_len (lo := 8) hw
  have hm : manyI Mi = nI n := (cl.eq.many hw).trans (congrArg nI hn)
  unfold op_row
  rw [if_pos ⟨nI_pos (by omega), by decide⟩, hm, if_neg (fun z => absurd ((nI_ltI (by omega) (by omega)).mp z) (Nat.lt_irrefl _))]
theorem rw_bad1 {V : mw_M} : (op_row V (-1) 0).1 = -11 := by
  unfold op_row
  rw [if_neg (fun z => z.1 (by decide))]
theorem rw_bad {V : mw_M} {w : Int32} (h : abrB w = false) : (op_row V 0 w).1 = -11 := by
  unfold op_row
  rw [if_neg (fun z => by rw [h] at z; exact absurd z.2 (by decide))]
theorem wy_fit {S Mi : mw_M} (cl : clO Mi S) (hw : wfR S) {k : Nat} (hk : k < (lstS S 8).length) : (op_why Mi (nI (rwN S k / 12)) (nI (rwN S k % 12))).1 = -14 := by
  obtain ⟨h1, h2, h3, h4, h5⟩ := rw_ok hw hk
  have hs : secP Mi (nI (rwN S k % 12)) := by
    by_cases hb : S 124 = 1
    · exact Or.inl ⟨by rw [cl.q (by omega)]; exact hb, nI_pos (by omega), by rw [cl.q (by omega)]; exact h2.2.2.2 hb⟩
    · exact Or.inr ⟨by rw [cl.q (by omega)]; exact hb, by rw [rw_one hw hk hb]; rfl⟩
  have hf : hkP Mi 0 (nI (rwN S k / 12)) := ⟨nI_pos (by omega), by rw [cl.q (by omega)]; exact h2.2.2.1⟩
  unfold op_why
  rw [if_pos ⟨hf, hs⟩, nI_clamp (by omega), nI_clamp (by omega), cl.eq.mis h2.1 h2.2.1, h3]
  rfl

set_option maxRecDepth 100000 in
set_option maxHeartbeats 4000000 in
theorem lp_rows_c {p : Program} {l : Launch} {e : Env} {s : State} {m : MethodId} {args : Array Value} {below : List Frame} {meth : Method} {c : Code} {G : mw_GG} {A : Nat → Prop} {Q : State → Prop} (C : vx_C p s m args c G A cL_areRows 16 wsL_areRows RL) {M : mw_M} (h : linv M) {nn : Nat} (hnn : (lstS M 8).length = nn) {X : va_W} {wq tq : Nat} {W : Nat → Int64} (hW : wbL W (lstS M 8)) {k : Nat} (hk : k < nn) {tf : Nat → Int32} (hT : ∀ x, x < 4 → tf x = tlV M x (rwN M k / 12) (rwN M k % 12)) (hc : ∀ Mi, clO Mi M → vx p l e ({ frames := 8, cells := 3, slots := 11, locals := 185 } : Room) s m args below meth c G A 3 11 Q Mi (X ++ [xL G wq 3 W] ++ [xI G tq 4 tf]) 328 [some (.ref (G.1 144)), some (.ref (G.1 145)), some (.ref (G.1 146)), some (.ref (G.1 147)), some (.ref (G.1 148)), some (.ref (G.1 149)), some (.ref wq), some (.ref tq), some (.int (nI nn)), some (.int (ltI M k)), some (.int 1), some (.int (nI k)), some (.int (nI (rwN M k / 12))), some (.int (nI (rwN M k % 12))), some (.int (nI (rwN M k))), none] []) : ∀ (n i : Nat) (Mi : mw_M), 9 ≤ i + n → i ≤ 8 → clO Mi M → vx p l e ({ frames := 8, cells := 3, slots := 11, locals := 185 } : Room) s m args below meth c G A 3 11 Q Mi (X ++ [xL G wq 3 W] ++ [xI G tq 4 tf]) 240 [some (.ref (G.1 144)), some (.ref (G.1 145)), some (.ref (G.1 146)), some (.ref (G.1 147)), some (.ref (G.1 148)), some (.ref (G.1 149)), some (.ref wq), some (.ref tq), some (.int (nI nn)), some (.int (ltI M k)), some (.int 1), some (.int (nI k)), some (.int (nI (rwN M k / 12))), some (.int (nI (rwN M k % 12))), some (.int (nI (rwN M k))), some (.int (nI i))] [] := by
  have hkl : k < (lstS M 8).length := by omega
  have hw := h.1.1.1.wfR
  obtain ⟨hr144, hv, hmis, hrn, hrm⟩ := rw_ok hw hkl
  have hv1 := hv.1
  have hv2 := hv.2.1
  have hn12 := hw.1.n.2
  intro n
  induction n with
  | zero => intro i Mi h1 h2 _; omega
  | succ n ih =>
    intro i Mi h1 h2 cl
    refine vx_iload C 15 dL_areRows_240 rfl ?_
    refine vx_bipush (v := 8) C dL_areRows_242 (by decide) ?_
    refine vx_ncmp_ge C i 8 328 dL_areRows_244 (by decide) (by omega) (by decide) (fun h_ge => ?_) (fun h_lt => ?_)
    · refine vx_keep (ls2 := [some (.ref (G.1 144)), some (.ref (G.1 145)), some (.ref (G.1 146)), some (.ref (G.1 147)), some (.ref (G.1 148)), some (.ref (G.1 149)), some (.ref wq), some (.ref tq), some (.int (nI nn)), some (.int (ltI M k)), some (.int 1), some (.int (nI k)), some (.int (nI (rwN M k / 12))), some (.int (nI (rwN M k % 12))), some (.int (nI (rwN M k))), none]) ⟨rfl, rfl, rfl, rfl, rfl, rfl, rfl, rfl, rfl, rfl, rfl, rfl, rfl, rfl, rfl, trivial⟩ ?_
      exact hc _ cl
    · refine vx_iload C 10 dL_areRows_247 rfl ?_
      refine vx_nif_eq C 1 328 dL_areRows_249 (by decide) (by decide) (fun h_3 => absurd h_3 (by decide)) (fun h_4 => ?_)
      refine vx_aload_n C 0 dL_areRows_252 rfl rfl ?_
      refine vx_iload C 11 dL_areRows_253 rfl ?_
      refine vx_bipush (v := 10) C dL_areRows_255 (by decide) ?_
      refine vx_iload C 15 dL_areRows_257 rfl ?_
      refine vx_iadd C dL_areRows_259 ?_
      refine vx_top (y := nI (10 + i)) (nI_add 10 i) ?_
      refine vx_callVIP C [.int (nI k), .int (nI (10 + i))] (c_X8_row Mi (lsame1 h cl).1.1.1 (lsame1 h cl).1.1.2.1 (lsame1 h cl).1.1.2.2.1 (nI k) (nI (10 + i))) sh_144 rfl (cwV 2 C.1.2.2.2.2 gL_areRows_X8_row rfl rfl rfl (by decide +kernel) ⟨Nat.le_of_ble_eq_true rfl, Nat.le_of_ble_eq_true rfl⟩) rfl rfl rfl (Nat.le_of_ble_eq_true rfl) dL_areRows_260 ⟨Nat.le_of_ble_eq_true rfl, Nat.le_of_ble_eq_true rfl⟩ (fun x_5 M_6 h_7 => ?_)
      have cl_1 := cl_rd cl rd_row h_7.2
      have hx_c := h_7.1.trans ((rw_c cl hw hkl (by omega)))
      refine vx_aload_n C 1 dL_areRows_263 rfl rfl ?_
      refine vx_iload C 15 dL_areRows_264 rfl ?_
      refine vx_callSI C [.ref (G.1 145), .int (nI i)] (c_L_asked M_6 M (lsameR h.1.2.1 cl_1) (i := i) (by omega)) (cwS 2 C.1.2.2.2.2 gL_areRows_L_asked rfl rfl rfl (by decide +kernel) ⟨Nat.le_of_ble_eq_true rfl, Nat.le_of_ble_eq_true rfl⟩) rfl rfl rfl (Nat.le_of_ble_eq_true rfl) dL_areRows_266 ⟨Nat.le_of_ble_eq_true rfl, Nat.le_of_ble_eq_true rfl⟩ ?_
      refine vx_bif_eq C 285 dL_areRows_269 (by decide) (fun h_na => ?_) (fun h_a => ?_)
      · refine vx_bipush (v := (-14)) C dL_areRows_285 (by decide) ?_
        refine vx_icmp_ne C 319 dL_areRows_287 (by decide) (fun h_10 => absurd (hx_c.trans (if_neg h_na)) h_10) (fun h_11 => ?_)
        refine vx_iload C 15 dL_areRows_290 rfl ?_
        refine vx_iconst (v := 3) C dL_areRows_292 (by decide) ?_
        refine vx_ncmp_gt C i 3 315 dL_areRows_293 (by decide) (by omega) (by decide) (fun h_3 => ?_) (fun h_n3 => ?_)
        · refine vx_iconst (v := 1) C dL_areRows_315 (by decide) ?_
          refine vx_goto C 320 dL_areRows_316 (by decide) ?_
          refine vx_istore (ls2 := [some (.ref (G.1 144)), some (.ref (G.1 145)), some (.ref (G.1 146)), some (.ref (G.1 147)), some (.ref (G.1 148)), some (.ref (G.1 149)), some (.ref wq), some (.ref tq), some (.int (nI nn)), some (.int (ltI M k)), some (.int 1), some (.int (nI k)), some (.int (nI (rwN M k / 12))), some (.int (nI (rwN M k % 12))), some (.int (nI (rwN M k))), some (.int (nI i))]) C 10 dL_areRows_320 (Nat.le_of_ble_eq_true rfl) rfl ?_
          refine vx_iinc (v := nI (i + 1)) (ls2 := [some (.ref (G.1 144)), some (.ref (G.1 145)), some (.ref (G.1 146)), some (.ref (G.1 147)), some (.ref (G.1 148)), some (.ref (G.1 149)), some (.ref wq), some (.ref tq), some (.int (nI nn)), some (.int (ltI M k)), some (.int 1), some (.int (nI k)), some (.int (nI (rwN M k / 12))), some (.int (nI (rwN M k % 12))), some (.int (nI (rwN M k))), some (.int (nI (i + 1)))]) C 15 dL_areRows_322 rfl (nI_add i 1) rfl ?_
          refine vx_goto C 240 dL_areRows_325 (by decide) ?_
          refine vx_keep (ls2 := [some (.ref (G.1 144)), some (.ref (G.1 145)), some (.ref (G.1 146)), some (.ref (G.1 147)), some (.ref (G.1 148)), some (.ref (G.1 149)), some (.ref wq), some (.ref tq), some (.int (nI nn)), some (.int (ltI M k)), some (.int 1), some (.int (nI k)), some (.int (nI (rwN M k / 12))), some (.int (nI (rwN M k % 12))), some (.int (nI (rwN M k))), some (.int (nI (i + 1)))]) ⟨rfl, rfl, rfl, rfl, rfl, rfl, rfl, rfl, rfl, rfl, rfl, rfl, rfl, rfl, rfl, rfl, trivial⟩ ?_
          exact ih (i + 1) _ (by omega) (by omega) cl_1
        · refine vx_aload_n C 0 dL_areRows_296 rfl rfl ?_
          refine vx_iload C 11 dL_areRows_297 rfl ?_
          refine vx_bipush (v := 20) C dL_areRows_299 (by decide) ?_
          refine vx_iload C 15 dL_areRows_301 rfl ?_
          refine vx_iadd C dL_areRows_303 ?_
          refine vx_top (y := nI (20 + i)) (nI_add 20 i) ?_
          refine vx_callVIP C [.int (nI k), .int (nI (20 + i))] (c_X8_row M_6 (lsame1 h cl_1).1.1.1 (lsame1 h cl_1).1.1.2.1 (lsame1 h cl_1).1.1.2.2.1 (nI k) (nI (20 + i))) sh_144 rfl (cwV 2 C.1.2.2.2.2 gL_areRows_X8_row rfl rfl rfl (by decide +kernel) ⟨Nat.le_of_ble_eq_true rfl, Nat.le_of_ble_eq_true rfl⟩) rfl rfl rfl (Nat.le_of_ble_eq_true rfl) dL_areRows_304 ⟨Nat.le_of_ble_eq_true rfl, Nat.le_of_ble_eq_true rfl⟩ (fun x_14 M_15 h_16 => ?_)
          have cl_2 := cl_rd cl_1 rd_row h_16.2
          have hx_t := h_16.1.trans ((rw_t cl_1 hw hkl (by omega)))
          refine vx_aload C 7 dL_areRows_307 rfl ?_
          refine vx_iload C 15 dL_areRows_309 rfl ?_
          refine vx_xald (j := i) C xa_at (by decide) rfl (by omega) dL_areRows_311 ?_
          refine vx_top (y := tlV M i (rwN M k / 12) (rwN M k % 12)) ((hT i (by omega))) ?_
          refine vx_icmp_ne C 319 dL_areRows_312 (by decide) (fun h_17 => absurd hx_t h_17) (fun h_18 => ?_)
          refine vx_iconst (v := 1) C dL_areRows_315 (by decide) ?_
          refine vx_goto C 320 dL_areRows_316 (by decide) ?_
          refine vx_istore (ls2 := [some (.ref (G.1 144)), some (.ref (G.1 145)), some (.ref (G.1 146)), some (.ref (G.1 147)), some (.ref (G.1 148)), some (.ref (G.1 149)), some (.ref wq), some (.ref tq), some (.int (nI nn)), some (.int (ltI M k)), some (.int 1), some (.int (nI k)), some (.int (nI (rwN M k / 12))), some (.int (nI (rwN M k % 12))), some (.int (nI (rwN M k))), some (.int (nI i))]) C 10 dL_areRows_320 (Nat.le_of_ble_eq_true rfl) rfl ?_
          refine vx_iinc (v := nI (i + 1)) (ls2 := [some (.ref (G.1 144)), some (.ref (G.1 145)), some (.ref (G.1 146)), some (.ref (G.1 147)), some (.ref (G.1 148)), some (.ref (G.1 149)), some (.ref wq), some (.ref tq), some (.int (nI nn)), some (.int (ltI M k)), some (.int 1), some (.int (nI k)), some (.int (nI (rwN M k / 12))), some (.int (nI (rwN M k % 12))), some (.int (nI (rwN M k))), some (.int (nI (i + 1)))]) C 15 dL_areRows_322 rfl (nI_add i 1) rfl ?_
          refine vx_goto C 240 dL_areRows_325 (by decide) ?_
          refine vx_keep (ls2 := [some (.ref (G.1 144)), some (.ref (G.1 145)), some (.ref (G.1 146)), some (.ref (G.1 147)), some (.ref (G.1 148)), some (.ref (G.1 149)), some (.ref wq), some (.ref tq), some (.int (nI nn)), some (.int (ltI M k)), some (.int 1), some (.int (nI k)), some (.int (nI (rwN M k / 12))), some (.int (nI (rwN M k % 12))), some (.int (nI (rwN M k))), some (.int (nI (i + 1)))]) ⟨rfl, rfl, rfl, rfl, rfl, rfl, rfl, rfl, rfl, rfl, rfl, rfl, rfl, rfl, rfl, rfl, trivial⟩ ?_
          exact ih (i + 1) _ (by omega) (by omega) cl_2
      · refine vx_aload_n C 2 dL_areRows_272 rfl rfl ?_
        refine vx_iload C 12 dL_areRows_273 rfl ?_
        refine vx_iload C 13 dL_areRows_275 rfl ?_
        refine vx_iload C 15 dL_areRows_277 rfl ?_
        refine vx_callSI C [.ref (G.1 146), .int (nI (rwN M k / 12)), .int (nI (rwN M k % 12)), .int (nI i)] (c_L_of M_6 M (lsameR h.1.2.1 cl_1) (i := i) (f := rwN M k / 12) (g := rwN M k % 12) (by omega) (hv.cd h_a (by omega))) (cwS 4 C.1.2.2.2.2 gL_areRows_L_of rfl rfl rfl (by decide +kernel) ⟨Nat.le_of_ble_eq_true rfl, Nat.le_of_ble_eq_true rfl⟩) rfl rfl rfl (Nat.le_of_ble_eq_true rfl) dL_areRows_279 ⟨Nat.le_of_ble_eq_true rfl, Nat.le_of_ble_eq_true rfl⟩ ?_
        refine vx_goto C 287 dL_areRows_282 (by decide) ?_
        refine vx_icmp_ne C 319 dL_areRows_287 (by decide) (fun h_19 => absurd (hx_c.trans (if_pos h_a)) h_19) (fun h_20 => ?_)
        refine vx_iload C 15 dL_areRows_290 rfl ?_
        refine vx_iconst (v := 3) C dL_areRows_292 (by decide) ?_
        refine vx_ncmp_gt C i 3 315 dL_areRows_293 (by decide) (by omega) (by decide) (fun h_3 => ?_) (fun h_n3 => ?_)
        · refine vx_iconst (v := 1) C dL_areRows_315 (by decide) ?_
          refine vx_goto C 320 dL_areRows_316 (by decide) ?_
          refine vx_istore (ls2 := [some (.ref (G.1 144)), some (.ref (G.1 145)), some (.ref (G.1 146)), some (.ref (G.1 147)), some (.ref (G.1 148)), some (.ref (G.1 149)), some (.ref wq), some (.ref tq), some (.int (nI nn)), some (.int (ltI M k)), some (.int 1), some (.int (nI k)), some (.int (nI (rwN M k / 12))), some (.int (nI (rwN M k % 12))), some (.int (nI (rwN M k))), some (.int (nI i))]) C 10 dL_areRows_320 (Nat.le_of_ble_eq_true rfl) rfl ?_
          refine vx_iinc (v := nI (i + 1)) (ls2 := [some (.ref (G.1 144)), some (.ref (G.1 145)), some (.ref (G.1 146)), some (.ref (G.1 147)), some (.ref (G.1 148)), some (.ref (G.1 149)), some (.ref wq), some (.ref tq), some (.int (nI nn)), some (.int (ltI M k)), some (.int 1), some (.int (nI k)), some (.int (nI (rwN M k / 12))), some (.int (nI (rwN M k % 12))), some (.int (nI (rwN M k))), some (.int (nI (i + 1)))]) C 15 dL_areRows_322 rfl (nI_add i 1) rfl ?_
          refine vx_goto C 240 dL_areRows_325 (by decide) ?_
          refine vx_keep (ls2 := [some (.ref (G.1 144)), some (.ref (G.1 145)), some (.ref (G.1 146)), some (.ref (G.1 147)), some (.ref (G.1 148)), some (.ref (G.1 149)), some (.ref wq), some (.ref tq), some (.int (nI nn)), some (.int (ltI M k)), some (.int 1), some (.int (nI k)), some (.int (nI (rwN M k / 12))), some (.int (nI (rwN M k % 12))), some (.int (nI (rwN M k))), some (.int (nI (i + 1)))]) ⟨rfl, rfl, rfl, rfl, rfl, rfl, rfl, rfl, rfl, rfl, rfl, rfl, rfl, rfl, rfl, rfl, trivial⟩ ?_
          exact ih (i + 1) _ (by omega) (by omega) cl_1
        · refine vx_aload_n C 0 dL_areRows_296 rfl rfl ?_
          refine vx_iload C 11 dL_areRows_297 rfl ?_
          refine vx_bipush (v := 20) C dL_areRows_299 (by decide) ?_
          refine vx_iload C 15 dL_areRows_301 rfl ?_
          refine vx_iadd C dL_areRows_303 ?_
          refine vx_top (y := nI (20 + i)) (nI_add 20 i) ?_
          refine vx_callVIP C [.int (nI k), .int (nI (20 + i))] (c_X8_row M_6 (lsame1 h cl_1).1.1.1 (lsame1 h cl_1).1.1.2.1 (lsame1 h cl_1).1.1.2.2.1 (nI k) (nI (20 + i))) sh_144 rfl (cwV 2 C.1.2.2.2.2 gL_areRows_X8_row rfl rfl rfl (by decide +kernel) ⟨Nat.le_of_ble_eq_true rfl, Nat.le_of_ble_eq_true rfl⟩) rfl rfl rfl (Nat.le_of_ble_eq_true rfl) dL_areRows_304 ⟨Nat.le_of_ble_eq_true rfl, Nat.le_of_ble_eq_true rfl⟩ (fun x_23 M_24 h_25 => ?_)
          have cl_3 := cl_rd cl_1 rd_row h_25.2
          have hx_t := h_25.1.trans ((rw_t cl_1 hw hkl (by omega)))
          refine vx_aload C 7 dL_areRows_307 rfl ?_
          refine vx_iload C 15 dL_areRows_309 rfl ?_
          refine vx_xald (j := i) C xa_at (by decide) rfl (by omega) dL_areRows_311 ?_
          refine vx_top (y := tlV M i (rwN M k / 12) (rwN M k % 12)) ((hT i (by omega))) ?_
          refine vx_icmp_ne C 319 dL_areRows_312 (by decide) (fun h_26 => absurd hx_t h_26) (fun h_27 => ?_)
          refine vx_iconst (v := 1) C dL_areRows_315 (by decide) ?_
          refine vx_goto C 320 dL_areRows_316 (by decide) ?_
          refine vx_istore (ls2 := [some (.ref (G.1 144)), some (.ref (G.1 145)), some (.ref (G.1 146)), some (.ref (G.1 147)), some (.ref (G.1 148)), some (.ref (G.1 149)), some (.ref wq), some (.ref tq), some (.int (nI nn)), some (.int (ltI M k)), some (.int 1), some (.int (nI k)), some (.int (nI (rwN M k / 12))), some (.int (nI (rwN M k % 12))), some (.int (nI (rwN M k))), some (.int (nI i))]) C 10 dL_areRows_320 (Nat.le_of_ble_eq_true rfl) rfl ?_
          refine vx_iinc (v := nI (i + 1)) (ls2 := [some (.ref (G.1 144)), some (.ref (G.1 145)), some (.ref (G.1 146)), some (.ref (G.1 147)), some (.ref (G.1 148)), some (.ref (G.1 149)), some (.ref wq), some (.ref tq), some (.int (nI nn)), some (.int (ltI M k)), some (.int 1), some (.int (nI k)), some (.int (nI (rwN M k / 12))), some (.int (nI (rwN M k % 12))), some (.int (nI (rwN M k))), some (.int (nI (i + 1)))]) C 15 dL_areRows_322 rfl (nI_add i 1) rfl ?_
          refine vx_goto C 240 dL_areRows_325 (by decide) ?_
          refine vx_keep (ls2 := [some (.ref (G.1 144)), some (.ref (G.1 145)), some (.ref (G.1 146)), some (.ref (G.1 147)), some (.ref (G.1 148)), some (.ref (G.1 149)), some (.ref wq), some (.ref tq), some (.int (nI nn)), some (.int (ltI M k)), some (.int 1), some (.int (nI k)), some (.int (nI (rwN M k / 12))), some (.int (nI (rwN M k % 12))), some (.int (nI (rwN M k))), some (.int (nI (i + 1)))]) ⟨rfl, rfl, rfl, rfl, rfl, rfl, rfl, rfl, rfl, rfl, rfl, rfl, rfl, rfl, rfl, rfl, trivial⟩ ?_
          exact ih (i + 1) _ (by omega) (by omega) cl_3
set_option maxRecDepth 100000 in
set_option maxHeartbeats 4000000 in
theorem lp_rows_d {p : Program} {l : Launch} {e : Env} {s : State} {m : MethodId} {args : Array Value} {below : List Frame} {meth : Method} {c : Code} {G : mw_GG} {A : Nat → Prop} {Q : State → Prop} (C : vx_C p s m args c G A cL_areRows 16 wsL_areRows RL) {M : mw_M} (h : linv M) {nn : Nat} (hnn : (lstS M 8).length = nn) {X : va_W} {wq tq : Nat} {W : Nat → Int64} (hW : wbL W (lstS M 8)) {Mi : mw_M} (cl : clO Mi M) {k : Nat} (hk : k < nn) {tf : Nat → Int32} (hc : ∀ Mi t1, clO Mi M → vx p l e ({ frames := 8, cells := 3, slots := 11, locals := 185 } : Room) s m args below meth c G A 3 11 Q Mi (X ++ [xL G wq 3 W] ++ [xI G tq 4 t1]) 328 [some (.ref (G.1 144)), some (.ref (G.1 145)), some (.ref (G.1 146)), some (.ref (G.1 147)), some (.ref (G.1 148)), some (.ref (G.1 149)), some (.ref wq), some (.ref tq), some (.int (nI nn)), some (.int (ltI M k)), some (.int 1), some (.int (nI k)), some (.int (nI (rwN M k / 12))), some (.int (nI (rwN M k % 12))), some (.int (nI (rwN M k))), none] []) : vx p l e ({ frames := 8, cells := 3, slots := 11, locals := 185 } : Room) s m args below meth c G A 3 11 Q Mi (X ++ [xL G wq 3 W] ++ [xI G tq 4 tf]) 191 [some (.ref (G.1 144)), some (.ref (G.1 145)), some (.ref (G.1 146)), some (.ref (G.1 147)), some (.ref (G.1 148)), some (.ref (G.1 149)), some (.ref wq), some (.ref tq), some (.int (nI nn)), some (.int (ltI M k)), some (.int 1), some (.int (nI k)), some (.int (nI (rwN M k / 12))), some (.int (nI (rwN M k % 12))), some (.int (nI (rwN M k))), none] [] := by
  have hkl : k < (lstS M 8).length := by omega
  have hw := h.1.1.1.wfR
  obtain ⟨hr144, hv, hmis, hrn, hrm⟩ := rw_ok hw hkl
  have hv1 := hv.1
  have hv2 := hv.2.1
  have hn12 := hw.1.n.2
  refine vx_iload C 10 dL_areRows_191 rfl ?_
  refine vx_nif_eq C 1 234 dL_areRows_193 (by decide) (by decide) (fun h_1 => absurd h_1 (by decide)) (fun h_2 => ?_)
  refine vx_aload_n C 1 dL_areRows_196 rfl rfl ?_
  refine vx_aload_n C 2 dL_areRows_197 rfl rfl ?_
  refine vx_aload_n C 3 dL_areRows_198 rfl rfl ?_
  refine vx_aload C 4 dL_areRows_199 rfl ?_
  refine vx_aload C 5 dL_areRows_201 rfl ?_
  refine vx_iload C 12 dL_areRows_203 rfl ?_
  refine vx_iload C 13 dL_areRows_205 rfl ?_
  refine vx_aload C 7 dL_areRows_207 rfl ?_
  refine vx_callXIP C [.ref (G.1 145), .ref (G.1 146), .ref (G.1 147), .ref (G.1 148), .ref (G.1 149), .int (nI (rwN M k / 12)), .int (nI (rwN M k % 12)), .ref tq] (c_L_unfit Mi M (lsameR h.1.2.1 cl) h.1.1.1 (f := rwN M k / 12) (g := rwN M k % 12) hv (X := X ++ [xL G wq 3 W] ++ [xI G tq 4 tf]) xa_at) (cwS 8 C.1.2.2.2.2 gL_areRows_L_unfit rfl rfl rfl (by decide +kernel) ⟨Nat.le_of_ble_eq_true rfl, Nat.le_of_ble_eq_true rfl⟩) rfl rfl rfl (Nat.le_of_ble_eq_true rfl) dL_areRows_209 ⟨Nat.le_of_ble_eq_true rfl, Nat.le_of_ble_eq_true rfl⟩ (fun x_3 M_4 X_5 h_6 => ?_)
  obtain ⟨e_r, e_M, t1, ht1, e_X⟩ := h_6
  refine vx_top (y := rtI (misS M 8 (rwN M k / 12) (rwN M k % 12))) e_r ?_
  refine vx_mem (M2 := Mi) e_M ?_
  refine vx_X (X2 := X ++ [xL G wq 3 W] ++ [xI G tq 4 t1]) (e_X.trans xa_set) ?_
  refine vx_bipush (v := (-14)) C dL_areRows_212 (by decide) ?_
  refine vx_icmp_ne C 234 dL_areRows_214 (by decide) (fun h_7 => absurd (by rw [hmis]; rfl) h_7) (fun h_8 => ?_)
  refine vx_aload_n C 0 dL_areRows_217 rfl rfl ?_
  refine vx_iload C 12 dL_areRows_218 rfl ?_
  refine vx_iload C 13 dL_areRows_220 rfl ?_
  refine vx_callVIP C [.int (nI (rwN M k / 12)), .int (nI (rwN M k % 12))] (c_X8_why Mi (lsame1 h cl).1.1.1 (lsame1 h cl).1.1.2.1 (lsame1 h cl).1.1.2.2.1 (nI (rwN M k / 12)) (nI (rwN M k % 12))) sh_144 rfl (cwV 2 C.1.2.2.2.2 gL_areRows_X8_why rfl rfl rfl (by decide +kernel) ⟨Nat.le_of_ble_eq_true rfl, Nat.le_of_ble_eq_true rfl⟩) rfl rfl rfl (Nat.le_of_ble_eq_true rfl) dL_areRows_222 ⟨Nat.le_of_ble_eq_true rfl, Nat.le_of_ble_eq_true rfl⟩ (fun x_9 M_10 h_11 => ?_)
  have cl_4 := cl_rd cl rd_why h_11.2
  have hx_w := h_11.1.trans ((wy_fit cl hw hkl))
  refine vx_bipush (v := (-14)) C dL_areRows_225 (by decide) ?_
  refine vx_icmp_ne C 234 dL_areRows_227 (by decide) (fun h_12 => absurd hx_w h_12) (fun h_13 => ?_)
  refine vx_iconst (v := 1) C dL_areRows_230 (by decide) ?_
  refine vx_goto C 235 dL_areRows_231 (by decide) ?_
  refine vx_istore (ls2 := [some (.ref (G.1 144)), some (.ref (G.1 145)), some (.ref (G.1 146)), some (.ref (G.1 147)), some (.ref (G.1 148)), some (.ref (G.1 149)), some (.ref wq), some (.ref tq), some (.int (nI nn)), some (.int (ltI M k)), some (.int 1), some (.int (nI k)), some (.int (nI (rwN M k / 12))), some (.int (nI (rwN M k % 12))), some (.int (nI (rwN M k))), none]) C 10 dL_areRows_235 (Nat.le_of_ble_eq_true rfl) rfl ?_
  refine vx_iconst (v := 0) C dL_areRows_237 (by decide) ?_
  refine vx_istore (ls2 := [some (.ref (G.1 144)), some (.ref (G.1 145)), some (.ref (G.1 146)), some (.ref (G.1 147)), some (.ref (G.1 148)), some (.ref (G.1 149)), some (.ref wq), some (.ref tq), some (.int (nI nn)), some (.int (ltI M k)), some (.int 1), some (.int (nI k)), some (.int (nI (rwN M k / 12))), some (.int (nI (rwN M k % 12))), some (.int (nI (rwN M k))), some (.int 0)]) C 15 dL_areRows_238 (Nat.le_of_ble_eq_true rfl) rfl ?_
  refine vx_loc (ls2 := [some (.ref (G.1 144)), some (.ref (G.1 145)), some (.ref (G.1 146)), some (.ref (G.1 147)), some (.ref (G.1 148)), some (.ref (G.1 149)), some (.ref wq), some (.ref tq), some (.int (nI nn)), some (.int (ltI M k)), some (.int 1), some (.int (nI k)), some (.int (nI (rwN M k / 12))), some (.int (nI (rwN M k % 12))), some (.int (nI (rwN M k))), some (.int 0)]) rfl ?_
  exact lp_rows_c C h hnn hW hk ht1 (fun M5 cl5 => hc M5 t1 cl5) 9 0 _ (by omega) (by omega) cl_4
set_option maxRecDepth 100000 in
set_option maxHeartbeats 4000000 in
theorem lp_rows_e {p : Program} {l : Launch} {e : Env} {s : State} {m : MethodId} {args : Array Value} {below : List Frame} {meth : Method} {c : Code} {G : mw_GG} {A : Nat → Prop} {Q : State → Prop} (C : vx_C p s m args c G A cL_areRows 16 wsL_areRows RL) {M : mw_M} (h : linv M) {nn : Nat} (hnn : (lstS M 8).length = nn) {X : va_W} {wq tq : Nat} {W : Nat → Int64} (hW : wbL W (lstS M 8)) {Mi : mw_M} (cl : clO Mi M) {k : Nat} (hk : k < nn) {tf : Nat → Int32} (hc : ∀ Mi t1, clO Mi M → vx p l e ({ frames := 8, cells := 3, slots := 11, locals := 185 } : Room) s m args below meth c G A 3 11 Q Mi (X ++ [xL G wq 3 W] ++ [xI G tq 4 t1]) 328 [some (.ref (G.1 144)), some (.ref (G.1 145)), some (.ref (G.1 146)), some (.ref (G.1 147)), some (.ref (G.1 148)), some (.ref (G.1 149)), some (.ref wq), some (.ref tq), some (.int (nI nn)), some (.int (ltI M k)), some (.int 1), some (.int (nI k)), some (.int (nI (rwN M k / 12))), some (.int (nI (rwN M k % 12))), some (.int (nI (rwN M k))), none] []) : vx p l e ({ frames := 8, cells := 3, slots := 11, locals := 185 } : Room) s m args below meth c G A 3 11 Q Mi (X ++ [xL G wq 3 W] ++ [xI G tq 4 tf]) 160 [some (.ref (G.1 144)), some (.ref (G.1 145)), some (.ref (G.1 146)), some (.ref (G.1 147)), some (.ref (G.1 148)), some (.ref (G.1 149)), some (.ref wq), some (.ref tq), some (.int (nI nn)), some (.int (ltI M k)), none, some (.int (nI k)), some (.int (nI (rwN M k / 12))), some (.int (nI (rwN M k % 12))), some (.int (nI (rwN M k))), none] [] := by
  have hkl : k < (lstS M 8).length := by omega
  have hw := h.1.1.1.wfR
  obtain ⟨hr144, hv, hmis, hrn, hrm⟩ := rw_ok hw hkl
  have hv1 := hv.1
  have hv2 := hv.2.1
  have hn12 := hw.1.n.2
  refine vx_aload_n C 0 dL_areRows_160 rfl rfl ?_
  refine vx_iload C 11 dL_areRows_161 rfl ?_
  refine vx_iconst (v := 1) C dL_areRows_163 (by decide) ?_
  refine vx_callVIP C [.int (nI k), .int 1] (c_X8_row Mi (lsame1 h cl).1.1.1 (lsame1 h cl).1.1.2.1 (lsame1 h cl).1.1.2.2.1 (nI k) 1) sh_144 rfl (cwV 2 C.1.2.2.2.2 gL_areRows_X8_row rfl rfl rfl (by decide +kernel) ⟨Nat.le_of_ble_eq_true rfl, Nat.le_of_ble_eq_true rfl⟩) rfl rfl rfl (Nat.le_of_ble_eq_true rfl) dL_areRows_164 ⟨Nat.le_of_ble_eq_true rfl, Nat.le_of_ble_eq_true rfl⟩ (fun x_1 M_2 h_3 => ?_)
  have cl_5 := cl_rd cl rd_row h_3.2
  have hx_1 := h_3.1.trans ((rw_1 cl hw hkl))
  refine vx_aload_n C 1 dL_areRows_167 rfl rfl ?_
  refine vx_iconst (v := 4) C dL_areRows_168 (by decide) ?_
  refine vx_ald (j := 4) (q := 1104) C sh_145 rfl (by decide) rfl dL_areRows_169 ?_
  refine vx_top (y := M 124) ((lsameR h.1.2.1 cl_5).g4) ?_
  refine vx_iconst (v := 1) C dL_areRows_170 (by decide) ?_
  refine vx_icmp_ne C 179 dL_areRows_171 (by decide) (fun h_nb => ?_) (fun h_b => ?_)
  · refine vx_bipush (v := (-14)) C dL_areRows_179 (by decide) ?_
    refine vx_icmp_ne C 188 dL_areRows_181 (by decide) (fun h_6 => absurd (hx_1.trans (if_neg h_nb)) h_6) (fun h_7 => ?_)
    refine vx_iconst (v := 1) C dL_areRows_184 (by decide) ?_
    refine vx_goto C 189 dL_areRows_185 (by decide) ?_
    refine vx_istore (ls2 := [some (.ref (G.1 144)), some (.ref (G.1 145)), some (.ref (G.1 146)), some (.ref (G.1 147)), some (.ref (G.1 148)), some (.ref (G.1 149)), some (.ref wq), some (.ref tq), some (.int (nI nn)), some (.int (ltI M k)), some (.int 1), some (.int (nI k)), some (.int (nI (rwN M k / 12))), some (.int (nI (rwN M k % 12))), some (.int (nI (rwN M k))), none]) C 10 dL_areRows_189 (Nat.le_of_ble_eq_true rfl) rfl ?_
    exact lp_rows_d C h hnn hW cl_5 hk hc
  · refine vx_iload C 13 dL_areRows_174 rfl ?_
    refine vx_goto C 181 dL_areRows_176 (by decide) ?_
    refine vx_icmp_ne C 188 dL_areRows_181 (by decide) (fun h_8 => absurd (hx_1.trans (if_pos h_b)) h_8) (fun h_9 => ?_)
    refine vx_iconst (v := 1) C dL_areRows_184 (by decide) ?_
    refine vx_goto C 189 dL_areRows_185 (by decide) ?_
    refine vx_istore (ls2 := [some (.ref (G.1 144)), some (.ref (G.1 145)), some (.ref (G.1 146)), some (.ref (G.1 147)), some (.ref (G.1 148)), some (.ref (G.1 149)), some (.ref wq), some (.ref tq), some (.int (nI nn)), some (.int (ltI M k)), some (.int 1), some (.int (nI k)), some (.int (nI (rwN M k / 12))), some (.int (nI (rwN M k % 12))), some (.int (nI (rwN M k))), none]) C 10 dL_areRows_189 (Nat.le_of_ble_eq_true rfl) rfl ?_
    exact lp_rows_d C h hnn hW cl_5 hk hc
set_option maxRecDepth 100000 in
set_option maxHeartbeats 4000000 in
theorem lp_rows_f {p : Program} {l : Launch} {e : Env} {s : State} {m : MethodId} {args : Array Value} {below : List Frame} {meth : Method} {c : Code} {G : mw_GG} {A : Nat → Prop} {Q : State → Prop} (C : vx_C p s m args c G A cL_areRows 16 wsL_areRows RL) {M : mw_M} (h : linv M) {nn : Nat} (hnn : (lstS M 8).length = nn) {X : va_W} {wq tq : Nat} {W : Nat → Int64} (hW : wbL W (lstS M 8)) {Mi : mw_M} (cl : clO Mi M) {k : Nat} (hk : k < nn) {tf : Nat → Int32} (hc : ∀ Mi t1, clO Mi M → vx p l e ({ frames := 8, cells := 3, slots := 11, locals := 185 } : Room) s m args below meth c G A 3 11 Q Mi (X ++ [xL G wq 3 W] ++ [xI G tq 4 t1]) 328 [some (.ref (G.1 144)), some (.ref (G.1 145)), some (.ref (G.1 146)), some (.ref (G.1 147)), some (.ref (G.1 148)), some (.ref (G.1 149)), some (.ref wq), some (.ref tq), some (.int (nI nn)), some (.int (ltI M k)), some (.int 1), some (.int (nI k)), some (.int (nI (rwN M k / 12))), some (.int (nI (rwN M k % 12))), some (.int (nI (rwN M k))), none] []) : vx p l e ({ frames := 8, cells := 3, slots := 11, locals := 185 } : Room) s m args below meth c G A 3 11 Q Mi (X ++ [xL G wq 3 W] ++ [xI G tq 4 tf]) 87 [some (.ref (G.1 144)), some (.ref (G.1 145)), some (.ref (G.1 146)), some (.ref (G.1 147)), some (.ref (G.1 148)), some (.ref (G.1 149)), some (.ref wq), some (.ref tq), some (.int (nI nn)), some (.int (ltI M k)), none, some (.int (nI k)), some (.int (nI (rwN M k / 12))), some (.int (nI (rwN M k % 12))), none, none] [] := by
  have hkl : k < (lstS M 8).length := by omega
  have hw := h.1.1.1.wfR
  obtain ⟨hr144, hv, hmis, hrn, hrm⟩ := rw_ok hw hkl
  have hv1 := hv.1
  have hv2 := hv.2.1
  have hn12 := hw.1.n.2
  refine vx_bipush (v := 12) C dL_areRows_87 (by decide) ?_
  refine vx_iload C 12 dL_areRows_89 rfl ?_
  refine vx_imul C dL_areRows_91 ?_
  refine vx_top (y := nI (12 * (rwN M k / 12))) (pk_mul 12 (rwN M k / 12)) ?_
  refine vx_iload C 13 dL_areRows_92 rfl ?_
  refine vx_iadd C dL_areRows_94 ?_
  refine vx_top (y := nI (rwN M k)) ((nI_add _ _).trans (congrArg nI (by omega))) ?_
  refine vx_istore (ls2 := [some (.ref (G.1 144)), some (.ref (G.1 145)), some (.ref (G.1 146)), some (.ref (G.1 147)), some (.ref (G.1 148)), some (.ref (G.1 149)), some (.ref wq), some (.ref tq), some (.int (nI nn)), some (.int (ltI M k)), none, some (.int (nI k)), some (.int (nI (rwN M k / 12))), some (.int (nI (rwN M k % 12))), some (.int (nI (rwN M k))), none]) C 14 dL_areRows_95 (Nat.le_of_ble_eq_true rfl) rfl ?_
  refine vx_iload C 12 dL_areRows_97 rfl ?_
  refine vx_nif_lt C (rwN M k / 12) 188 dL_areRows_99 (by decide) (by omega) (fun h_1 => h_1.elim) (fun h_2 => ?_)
  refine vx_iload C 12 dL_areRows_102 rfl ?_
  refine vx_aload_n C 1 dL_areRows_104 rfl rfl ?_
  refine vx_iconst (v := 2) C dL_areRows_105 (by decide) ?_
  refine vx_ald (j := 2) (q := 1102) C sh_145 rfl (by decide) rfl dL_areRows_106 ?_
  refine vx_top (y := nI (nN M 0)) ((lsameR h.1.2.1 cl).g2.trans (hw.1.n).1) ?_
  refine vx_ncmp_ge C (rwN M k / 12) (nN M 0) 188 dL_areRows_107 (by decide) (by omega) (by omega) (fun h_3 => absurd h_3 (by omega)) (fun h_4 => ?_)
  refine vx_iload C 13 dL_areRows_110 rfl ?_
  refine vx_nif_lt C (rwN M k % 12) 188 dL_areRows_112 (by decide) (by omega) (fun h_5 => h_5.elim) (fun h_6 => ?_)
  refine vx_iload C 13 dL_areRows_115 rfl ?_
  refine vx_bipush (v := 12) C dL_areRows_117 (by decide) ?_
  refine vx_ncmp_ge C (rwN M k % 12) 12 188 dL_areRows_119 (by decide) (by omega) (by decide) (fun h_7 => absurd h_7 (by omega)) (fun h_8 => ?_)
  refine vx_aload C 6 dL_areRows_122 rfl ?_
  refine vx_iload C 14 dL_areRows_124 rfl ?_
  refine vx_bipush (v := 48) C dL_areRows_126 (by decide) ?_
  refine vx_idiv C dL_areRows_128 (by decide) ?_
  refine vx_top (y := nI ((rwN M k) / 48)) (pk_div (a := rwN M k) (d := 48) (by omega) (by omega) (by omega)) ?_
  refine vx_xlld (j := (rwN M k) / 48) C (xl_at xa_at) (by decide) rfl (by omega) dL_areRows_129 ?_
  refine vx_iload C 14 dL_areRows_130 rfl ?_
  refine vx_bipush (v := 48) C dL_areRows_132 (by decide) ?_
  refine vx_irem C dL_areRows_134 (by decide) ?_
  refine vx_top (y := nI ((rwN M k) % 48)) (pk_rem (a := rwN M k) (d := 48) (by omega) (by omega) (by omega)) ?_
  refine vx_lshr (v := (W ((rwN M k) / 48)) >>> ((nI ((rwN M k) % 48)).toInt64 &&& 63)) C dL_areRows_135 rfl ?_
  refine vx_lconst (v := 1) C dL_areRows_136 (by decide) ?_
  refine vx_land C dL_areRows_137 ?_
  refine vx_topl (y := if decide (rwN M k ∈ lstS M 8) = true then 1 else 0) (wbP.bit hW (q := rwN M k) hr144) ?_
  refine vx_lconst (v := 1) C dL_areRows_138 (by decide) ?_
  refine vx_lcmp C (if decide (rwN M k ∈ lstS M 8) = true then 0 else (-1)) dL_areRows_139 lcm1 ?_
  refine vx_if_ne C 188 dL_areRows_140 (by decide) (fun h_9 => absurd (if_pos (decide_eq_true (rw_mem hkl))) h_9) (fun h_10 => ?_)
  refine vx_iload C 9 dL_areRows_143 rfl ?_
  refine vx_if_lt C 160 dL_areRows_145 (by decide) (fun h_neg => ?_) (fun h_nn => ?_)
  · exact lp_rows_e C h hnn hW cl hk hc
  · obtain ⟨hk0, elt⟩ := ltI_neg hw (by omega) h_nn
    have hkp : k - 1 < (lstS M 8).length := by omega
    obtain ⟨hp144, hpv, -⟩ := rw_ok hw hkp
    have hah : ahL M (rwN M (k - 1)) (rwN M k) = true := by
      have z := srt_ahL h.1.1.1 (j := k - 1) (by omega)
      rw [show k - 1 + 1 = k by omega] at z
      exact z
    refine vx_aload_n C 1 dL_areRows_148 rfl rfl ?_
    refine vx_aload_n C 2 dL_areRows_149 rfl rfl ?_
    refine vx_iload C 9 dL_areRows_150 rfl ?_
    refine vx_top (y := nI (rwN M (k - 1))) (elt) ?_
    refine vx_iload C 14 dL_areRows_152 rfl ?_
    refine vx_callSI C [.ref (G.1 145), .ref (G.1 146), .int (nI (rwN M (k - 1))), .int (nI (rwN M k))] (c_L_ahead Mi M (lsameR h.1.2.1 cl) h.1.1.1 (p0 := rwN M (k - 1)) (q0 := rwN M k) hp144 hr144 hpv hv) (cwS 4 C.1.2.2.2.2 gL_areRows_L_ahead rfl rfl rfl (by decide +kernel) ⟨Nat.le_of_ble_eq_true rfl, Nat.le_of_ble_eq_true rfl⟩) rfl rfl rfl (Nat.le_of_ble_eq_true rfl) dL_areRows_154 ⟨Nat.le_of_ble_eq_true rfl, Nat.le_of_ble_eq_true rfl⟩ ?_
    refine vx_bif_eq C 188 dL_areRows_157 (by decide) (fun h_13 => absurd hah h_13) (fun h_14 => ?_)
    exact lp_rows_e C h hnn hW cl hk hc
set_option maxRecDepth 100000 in
set_option maxHeartbeats 4000000 in
theorem lp_rows {p : Program} {l : Launch} {e : Env} {s : State} {m : MethodId} {args : Array Value} {below : List Frame} {meth : Method} {c : Code} {G : mw_GG} {A : Nat → Prop} {Q : State → Prop} (C : vx_C p s m args c G A cL_areRows 16 wsL_areRows RL) {M : mw_M} (h : linv M) {nn : Nat} (hnn : (lstS M 8).length = nn) {X : va_W} {wq tq : Nat} {W : Nat → Int64} (hW : wbL W (lstS M 8)) (hk : ∀ Mi tf, clO Mi M → vx p l e ({ frames := 8, cells := 3, slots := 11, locals := 185 } : Room) s m args below meth c G A 3 11 Q Mi (X ++ [xL G wq 3 W] ++ [xI G tq 4 tf]) 338 [some (.ref (G.1 144)), some (.ref (G.1 145)), some (.ref (G.1 146)), some (.ref (G.1 147)), some (.ref (G.1 148)), some (.ref (G.1 149)), some (.ref wq), some (.ref tq), some (.int (nI nn)), none, some (.int 1), none, none, none, none, none] []) : ∀ (n k : Nat) (Mi : mw_M) (tf : Nat → Int32), nn + 1 ≤ k + n → k ≤ nn → clO Mi M → vx p l e ({ frames := 8, cells := 3, slots := 11, locals := 185 } : Room) s m args below meth c G A 3 11 Q Mi (X ++ [xL G wq 3 W] ++ [xI G tq 4 tf]) 46 [some (.ref (G.1 144)), some (.ref (G.1 145)), some (.ref (G.1 146)), some (.ref (G.1 147)), some (.ref (G.1 148)), some (.ref (G.1 149)), some (.ref wq), some (.ref tq), some (.int (nI nn)), some (.int (ltI M k)), some (.int 1), some (.int (nI k)), none, none, none, none] [] := by
  have h144 : nn ≤ 144 := by rw [← hnn]; exact lstS_len h.1.1.1.wfR
  intro n
  induction n with
  | zero => intro k Mi tf h1 h2 _; omega
  | succ n ih =>
    intro k Mi tf h1 h2 cl
    refine vx_iload C 11 dL_areRows_46 rfl ?_
    refine vx_iload C 8 dL_areRows_48 rfl ?_
    refine vx_ncmp_ge C k nn 338 dL_areRows_50 (by decide) (by omega) (by omega) (fun h_ge => ?_) (fun hkn => ?_)
    · refine vx_keep (ls2 := [some (.ref (G.1 144)), some (.ref (G.1 145)), some (.ref (G.1 146)), some (.ref (G.1 147)), some (.ref (G.1 148)), some (.ref (G.1 149)), some (.ref wq), some (.ref tq), some (.int (nI nn)), none, some (.int 1), none, none, none, none, none]) ⟨rfl, rfl, rfl, rfl, rfl, rfl, rfl, rfl, rfl, rfl, trivial⟩ ?_
      exact hk _ tf cl
    · refine vx_iload C 10 dL_areRows_53 rfl ?_
      refine vx_nif_eq C 1 338 dL_areRows_55 (by decide) (by decide) (fun h_3 => absurd h_3 (by decide)) (fun h_4 => ?_)
      have hkl : k < (lstS M 8).length := by omega
      have hw := h.1.1.1.wfR
      obtain ⟨hr144, hv, hmis, hrn, hrm⟩ := rw_ok hw hkl
      have hv1 := hv.1
      have hv2 := hv.2.1
      have hn12 := hw.1.n.2
      have hc : ∀ M5 t1, clO M5 M → vx p l e ({ frames := 8, cells := 3, slots := 11, locals := 185 } : Room) s m args below meth c G A 3 11 Q M5 (X ++ [xL G wq 3 W] ++ [xI G tq 4 t1]) 328 [some (.ref (G.1 144)), some (.ref (G.1 145)), some (.ref (G.1 146)), some (.ref (G.1 147)), some (.ref (G.1 148)), some (.ref (G.1 149)), some (.ref wq), some (.ref tq), some (.int (nI nn)), some (.int (ltI M k)), some (.int 1), some (.int (nI k)), some (.int (nI (rwN M k / 12))), some (.int (nI (rwN M k % 12))), some (.int (nI (rwN M k))), none] [] := by
        intro M5 t1 cl5
        refine vx_iload C 14 dL_areRows_328 rfl ?_
        refine vx_istore (ls2 := [some (.ref (G.1 144)), some (.ref (G.1 145)), some (.ref (G.1 146)), some (.ref (G.1 147)), some (.ref (G.1 148)), some (.ref (G.1 149)), some (.ref wq), some (.ref tq), some (.int (nI nn)), some (.int (nI (rwN M k))), some (.int 1), some (.int (nI k)), some (.int (nI (rwN M k / 12))), some (.int (nI (rwN M k % 12))), some (.int (nI (rwN M k))), none]) C 9 dL_areRows_330 (Nat.le_of_ble_eq_true rfl) rfl ?_
        refine vx_iinc (v := nI (k + 1)) (ls2 := [some (.ref (G.1 144)), some (.ref (G.1 145)), some (.ref (G.1 146)), some (.ref (G.1 147)), some (.ref (G.1 148)), some (.ref (G.1 149)), some (.ref wq), some (.ref tq), some (.int (nI nn)), some (.int (nI (rwN M k))), some (.int 1), some (.int (nI (k + 1))), some (.int (nI (rwN M k / 12))), some (.int (nI (rwN M k % 12))), some (.int (nI (rwN M k))), none]) C 11 dL_areRows_332 rfl (nI_add k 1) rfl ?_
        refine vx_goto C 46 dL_areRows_335 (by decide) ?_
        refine vx_keep (ls2 := [some (.ref (G.1 144)), some (.ref (G.1 145)), some (.ref (G.1 146)), some (.ref (G.1 147)), some (.ref (G.1 148)), some (.ref (G.1 149)), some (.ref wq), some (.ref tq), some (.int (nI nn)), some (.int (nI (rwN M k))), some (.int 1), some (.int (nI (k + 1))), none, none, none, none]) ⟨rfl, rfl, rfl, rfl, rfl, rfl, rfl, rfl, rfl, rfl, rfl, rfl, trivial⟩ ?_
        refine vx_loc (ls2 := [some (.ref (G.1 144)), some (.ref (G.1 145)), some (.ref (G.1 146)), some (.ref (G.1 147)), some (.ref (G.1 148)), some (.ref (G.1 149)), some (.ref wq), some (.ref tq), some (.int (nI nn)), some (.int (ltI M (k + 1))), some (.int 1), some (.int (nI (k + 1))), none, none, none, none]) (by rw [show ltI M (k + 1) = nI (rwN M k) from if_neg (Nat.succ_ne_zero k)]) ?_
        exact ih (k + 1) M5 t1 (by omega) (by omega) cl5
      refine vx_aload_n C 0 dL_areRows_58 rfl rfl ?_
      refine vx_iload C 11 dL_areRows_59 rfl ?_
      refine vx_iconst (v := 0) C dL_areRows_61 (by decide) ?_
      refine vx_callVIP C [.int (nI k), .int 0] (c_X8_row Mi (lsame1 h cl).1.1.1 (lsame1 h cl).1.1.2.1 (lsame1 h cl).1.1.2.2.1 (nI k) 0) sh_144 rfl (cwV 2 C.1.2.2.2.2 gL_areRows_X8_row rfl rfl rfl (by decide +kernel) ⟨Nat.le_of_ble_eq_true rfl, Nat.le_of_ble_eq_true rfl⟩) rfl rfl rfl (Nat.le_of_ble_eq_true rfl) dL_areRows_62 ⟨Nat.le_of_ble_eq_true rfl, Nat.le_of_ble_eq_true rfl⟩ (fun x_5 M_6 h_7 => ?_)
      have cl_6 := cl_rd cl rd_row h_7.2
      refine vx_top (y := nI (rwN M k / 12)) (h_7.1.trans (rw_0 cl hw hkl)) ?_
      refine vx_istore (ls2 := [some (.ref (G.1 144)), some (.ref (G.1 145)), some (.ref (G.1 146)), some (.ref (G.1 147)), some (.ref (G.1 148)), some (.ref (G.1 149)), some (.ref wq), some (.ref tq), some (.int (nI nn)), some (.int (ltI M k)), some (.int 1), some (.int (nI k)), some (.int (nI (rwN M k / 12))), none, none, none]) C 12 dL_areRows_65 (Nat.le_of_ble_eq_true rfl) rfl ?_
      refine vx_aload_n C 1 dL_areRows_67 rfl rfl ?_
      refine vx_iconst (v := 4) C dL_areRows_68 (by decide) ?_
      refine vx_ald (j := 4) (q := 1104) C sh_145 rfl (by decide) rfl dL_areRows_69 ?_
      refine vx_top (y := M 124) ((lsameR h.1.2.1 cl_6).g4) ?_
      refine vx_iconst (v := 1) C dL_areRows_70 (by decide) ?_
      refine vx_icmp_ne C 84 dL_areRows_71 (by decide) (fun h_nb => ?_) (fun h_b => ?_)
      · refine vx_iconst (v := 0) C dL_areRows_84 (by decide) ?_
        refine vx_top (y := nI (rwN M k % 12)) ((by rw [rw_one hw hkl h_nb]; rfl)) ?_
        refine vx_istore (ls2 := [some (.ref (G.1 144)), some (.ref (G.1 145)), some (.ref (G.1 146)), some (.ref (G.1 147)), some (.ref (G.1 148)), some (.ref (G.1 149)), some (.ref wq), some (.ref tq), some (.int (nI nn)), some (.int (ltI M k)), some (.int 1), some (.int (nI k)), some (.int (nI (rwN M k / 12))), some (.int (nI (rwN M k % 12))), none, none]) C 13 dL_areRows_85 (Nat.le_of_ble_eq_true rfl) rfl ?_
        refine vx_keep (ls2 := [some (.ref (G.1 144)), some (.ref (G.1 145)), some (.ref (G.1 146)), some (.ref (G.1 147)), some (.ref (G.1 148)), some (.ref (G.1 149)), some (.ref wq), some (.ref tq), some (.int (nI nn)), some (.int (ltI M k)), none, some (.int (nI k)), some (.int (nI (rwN M k / 12))), some (.int (nI (rwN M k % 12))), none, none]) ⟨rfl, rfl, rfl, rfl, rfl, rfl, rfl, rfl, rfl, rfl, rfl, rfl, rfl, trivial⟩ ?_
        exact lp_rows_f C h hnn hW cl_6 hkn hc
      · refine vx_aload_n C 0 dL_areRows_74 rfl rfl ?_
        refine vx_iload C 11 dL_areRows_75 rfl ?_
        refine vx_iconst (v := 1) C dL_areRows_77 (by decide) ?_
        refine vx_callVIP C [.int (nI k), .int 1] (c_X8_row M_6 (lsame1 h cl_6).1.1.1 (lsame1 h cl_6).1.1.2.1 (lsame1 h cl_6).1.1.2.2.1 (nI k) 1) sh_144 rfl (cwV 2 C.1.2.2.2.2 gL_areRows_X8_row rfl rfl rfl (by decide +kernel) ⟨Nat.le_of_ble_eq_true rfl, Nat.le_of_ble_eq_true rfl⟩) rfl rfl rfl (Nat.le_of_ble_eq_true rfl) dL_areRows_78 ⟨Nat.le_of_ble_eq_true rfl, Nat.le_of_ble_eq_true rfl⟩ (fun x_10 M_11 h_12 => ?_)
        have cl_7 := cl_rd cl_6 rd_row h_12.2
        refine vx_top (y := nI (rwN M k % 12)) (h_12.1.trans ((rw_1 cl_6 hw hkl).trans (if_pos h_b))) ?_
        refine vx_goto C 85 dL_areRows_81 (by decide) ?_
        refine vx_istore (ls2 := [some (.ref (G.1 144)), some (.ref (G.1 145)), some (.ref (G.1 146)), some (.ref (G.1 147)), some (.ref (G.1 148)), some (.ref (G.1 149)), some (.ref wq), some (.ref tq), some (.int (nI nn)), some (.int (ltI M k)), some (.int 1), some (.int (nI k)), some (.int (nI (rwN M k / 12))), some (.int (nI (rwN M k % 12))), none, none]) C 13 dL_areRows_85 (Nat.le_of_ble_eq_true rfl) rfl ?_
        refine vx_keep (ls2 := [some (.ref (G.1 144)), some (.ref (G.1 145)), some (.ref (G.1 146)), some (.ref (G.1 147)), some (.ref (G.1 148)), some (.ref (G.1 149)), some (.ref wq), some (.ref tq), some (.int (nI nn)), some (.int (ltI M k)), none, some (.int (nI k)), some (.int (nI (rwN M k / 12))), some (.int (nI (rwN M k % 12))), none, none]) ⟨rfl, rfl, rfl, rfl, rfl, rfl, rfl, rfl, rfl, rfl, rfl, rfl, rfl, trivial⟩ ?_
        exact lp_rows_f C h hnn hW cl_7 hkn hc
set_option maxRecDepth 100000 in
set_option maxHeartbeats 4000000 in
theorem lp_rows_z {p : Program} {l : Launch} {e : Env} {s : State} {m : MethodId} {args : Array Value} {below : List Frame} {meth : Method} {c : Code} {G : mw_GG} {A : Nat → Prop} (C : vx_C p s m args c G A cL_areRows 16 wsL_areRows RL) (hR : vv_R meth (some .boolean)) {M : mw_M} (h : linv M) {nn : Nat} (hnn : (lstS M 8).length = nn) {X : va_W} {wq tq : Nat} {W : Nat → Int64} (hW : wbL W (lstS M 8)) {Mi : mw_M} (cl : clO Mi M) {tf : Nat → Int32}  : vx p l e ({ frames := 8, cells := 3, slots := 11, locals := 185 } : Room) s m args below meth c G A 3 11 (mx_E below args s G A (xI_P (fun r M2 X2 => r = 1 ∧ linv M2 ∧ X2 = X)) 3 11) Mi (X ++ [xL G wq 3 W] ++ [xI G tq 4 tf]) 338 [some (.ref (G.1 144)), some (.ref (G.1 145)), some (.ref (G.1 146)), some (.ref (G.1 147)), some (.ref (G.1 148)), some (.ref (G.1 149)), some (.ref wq), some (.ref tq), some (.int (nI nn)), none, some (.int 1), none, none, none, none, none] [] := by
  have h144 : nn ≤ 144 := by rw [← hnn]; exact lstS_len h.1.1.1.wfR
  refine vx_iload C 10 dL_areRows_338 rfl ?_
  refine vx_nif_eq C 1 419 dL_areRows_340 (by decide) (by decide) (fun h_1 => absurd h_1 (by decide)) (fun h_2 => ?_)
  refine vx_aload_n C 0 dL_areRows_343 rfl rfl ?_
  refine vx_iload C 8 dL_areRows_344 rfl ?_
  refine vx_iconst (v := 0) C dL_areRows_346 (by decide) ?_
  refine vx_callVIP C [.int (nI nn), .int 0] (c_X8_row Mi (lsame1 h cl).1.1.1 (lsame1 h cl).1.1.2.1 (lsame1 h cl).1.1.2.2.1 (nI nn) 0) sh_144 rfl (cwV 2 C.1.2.2.2.2 gL_areRows_X8_row rfl rfl rfl (by decide +kernel) ⟨Nat.le_of_ble_eq_true rfl, Nat.le_of_ble_eq_true rfl⟩) rfl rfl rfl (Nat.le_of_ble_eq_true rfl) dL_areRows_347 ⟨Nat.le_of_ble_eq_true rfl, Nat.le_of_ble_eq_true rfl⟩ (fun x_3 M_4 h_5 => ?_)
  have cl_8 := cl_rd cl rd_row h_5.2
  have hz1 := h_5.1.trans ((rw_end cl h.1.1.1.wfR hnn))
  refine vx_bipush (v := (-14)) C dL_areRows_350 (by decide) ?_
  refine vx_icmp_ne C 419 dL_areRows_352 (by decide) (fun h_6 => absurd hz1 h_6) (fun h_7 => ?_)
  refine vx_aload_n C 0 dL_areRows_355 rfl rfl ?_
  refine vx_iconst (v := (-1)) C dL_areRows_356 (by decide) ?_
  refine vx_iconst (v := 0) C dL_areRows_357 (by decide) ?_
  refine vx_callVIP C [.int (-1), .int 0] (c_X8_row M_4 (lsame1 h cl_8).1.1.1 (lsame1 h cl_8).1.1.2.1 (lsame1 h cl_8).1.1.2.2.1 (-1) 0) sh_144 rfl (cwV 2 C.1.2.2.2.2 gL_areRows_X8_row rfl rfl rfl (by decide +kernel) ⟨Nat.le_of_ble_eq_true rfl, Nat.le_of_ble_eq_true rfl⟩) rfl rfl rfl (Nat.le_of_ble_eq_true rfl) dL_areRows_358 ⟨Nat.le_of_ble_eq_true rfl, Nat.le_of_ble_eq_true rfl⟩ (fun x_8 M_9 h_10 => ?_)
  have cl_9 := cl_rd cl_8 rd_row h_10.2
  have hz2 := h_10.1.trans (rw_bad1)
  refine vx_bipush (v := (-11)) C dL_areRows_361 (by decide) ?_
  refine vx_icmp_ne C 419 dL_areRows_363 (by decide) (fun h_11 => absurd hz2 h_11) (fun h_12 => ?_)
  refine vx_aload_n C 0 dL_areRows_366 rfl rfl ?_
  refine vx_iconst (v := 0) C dL_areRows_367 (by decide) ?_
  refine vx_iconst (v := 2) C dL_areRows_368 (by decide) ?_
  refine vx_callVIP C [.int 0, .int 2] (c_X8_row M_9 (lsame1 h cl_9).1.1.1 (lsame1 h cl_9).1.1.2.1 (lsame1 h cl_9).1.1.2.2.1 0 2) sh_144 rfl (cwV 2 C.1.2.2.2.2 gL_areRows_X8_row rfl rfl rfl (by decide +kernel) ⟨Nat.le_of_ble_eq_true rfl, Nat.le_of_ble_eq_true rfl⟩) rfl rfl rfl (Nat.le_of_ble_eq_true rfl) dL_areRows_369 ⟨Nat.le_of_ble_eq_true rfl, Nat.le_of_ble_eq_true rfl⟩ (fun x_13 M_14 h_15 => ?_)
  have cl_10 := cl_rd cl_9 rd_row h_15.2
  have hz3 := h_15.1.trans ((rw_bad (by decide)))
  refine vx_bipush (v := (-11)) C dL_areRows_372 (by decide) ?_
  refine vx_icmp_ne C 419 dL_areRows_374 (by decide) (fun h_16 => absurd hz3 h_16) (fun h_17 => ?_)
  refine vx_aload_n C 0 dL_areRows_377 rfl rfl ?_
  refine vx_iconst (v := 0) C dL_areRows_378 (by decide) ?_
  refine vx_bipush (v := 18) C dL_areRows_379 (by decide) ?_
  refine vx_callVIP C [.int 0, .int 18] (c_X8_row M_14 (lsame1 h cl_10).1.1.1 (lsame1 h cl_10).1.1.2.1 (lsame1 h cl_10).1.1.2.2.1 0 18) sh_144 rfl (cwV 2 C.1.2.2.2.2 gL_areRows_X8_row rfl rfl rfl (by decide +kernel) ⟨Nat.le_of_ble_eq_true rfl, Nat.le_of_ble_eq_true rfl⟩) rfl rfl rfl (Nat.le_of_ble_eq_true rfl) dL_areRows_381 ⟨Nat.le_of_ble_eq_true rfl, Nat.le_of_ble_eq_true rfl⟩ (fun x_18 M_19 h_20 => ?_)
  have cl_11 := cl_rd cl_10 rd_row h_20.2
  have hz4 := h_20.1.trans ((rw_bad (by decide)))
  refine vx_bipush (v := (-11)) C dL_areRows_384 (by decide) ?_
  refine vx_icmp_ne C 419 dL_areRows_386 (by decide) (fun h_21 => absurd hz4 h_21) (fun h_22 => ?_)
  refine vx_aload_n C 0 dL_areRows_389 rfl rfl ?_
  refine vx_iconst (v := 0) C dL_areRows_390 (by decide) ?_
  refine vx_bipush (v := 24) C dL_areRows_391 (by decide) ?_
  refine vx_callVIP C [.int 0, .int 24] (c_X8_row M_19 (lsame1 h cl_11).1.1.1 (lsame1 h cl_11).1.1.2.1 (lsame1 h cl_11).1.1.2.2.1 0 24) sh_144 rfl (cwV 2 C.1.2.2.2.2 gL_areRows_X8_row rfl rfl rfl (by decide +kernel) ⟨Nat.le_of_ble_eq_true rfl, Nat.le_of_ble_eq_true rfl⟩) rfl rfl rfl (Nat.le_of_ble_eq_true rfl) dL_areRows_393 ⟨Nat.le_of_ble_eq_true rfl, Nat.le_of_ble_eq_true rfl⟩ (fun x_23 M_24 h_25 => ?_)
  have cl_12 := cl_rd cl_11 rd_row h_25.2
  have hz5 := h_25.1.trans ((rw_bad (by decide)))
  refine vx_bipush (v := (-11)) C dL_areRows_396 (by decide) ?_
  refine vx_icmp_ne C 419 dL_areRows_398 (by decide) (fun h_26 => absurd hz5 h_26) (fun h_27 => ?_)
  refine vx_aload_n C 0 dL_areRows_401 rfl rfl ?_
  refine vx_callVIP C [] (c_X8_unlike M_24 (lsame1 h cl_12).1.1.1 (lsame1 h cl_12).1.1.2.1 (lsame1 h cl_12).1.1.2.2.1 ) sh_144 rfl (cwV 0 C.1.2.2.2.2 gL_areRows_X8_unlike rfl rfl rfl (by decide +kernel) ⟨Nat.le_of_ble_eq_true rfl, Nat.le_of_ble_eq_true rfl⟩) rfl rfl rfl (Nat.le_of_ble_eq_true rfl) dL_areRows_402 ⟨Nat.le_of_ble_eq_true rfl, Nat.le_of_ble_eq_true rfl⟩ (fun x_28 M_29 h_30 => ?_)
  have cl_13 := cl_rd cl_12 rfl h_30.2
  have hz6 := h_30.1.trans ((cl_12.eq.unl h.1.1.1.wfR))
  refine vx_aload_n C 1 dL_areRows_405 rfl rfl ?_
  refine vx_aload_n C 2 dL_areRows_406 rfl rfl ?_
  refine vx_aload C 6 dL_areRows_407 rfl ?_
  refine vx_callXIP C [.ref (G.1 145), .ref (G.1 146), .ref wq] (c_L_unlike M_29 M (lsameR h.1.2.1 cl_13) h.1.1.1 (X := X ++ [xL G wq 3 W] ++ [xI G tq 4 tf]) (xl_at xa_at) hW) (cwS 3 C.1.2.2.2.2 gL_areRows_L_unlike rfl rfl rfl (by decide +kernel) ⟨Nat.le_of_ble_eq_true rfl, Nat.le_of_ble_eq_true rfl⟩) rfl rfl rfl (Nat.le_of_ble_eq_true rfl) dL_areRows_409 ⟨Nat.le_of_ble_eq_true rfl, Nat.le_of_ble_eq_true rfl⟩ (fun x_31 M_32 X_33 h_34 => ?_)
  obtain ⟨e_r, e_M, e_X⟩ := h_34
  refine vx_top (y := unlI M) e_r ?_
  refine vx_mem (M2 := M_29) e_M ?_
  refine vx_X (X2 := X ++ [xL G wq 3 W] ++ [xI G tq 4 tf]) e_X ?_
  refine vx_icmp_ne C 419 dL_areRows_412 (by decide) (fun h_35 => absurd hz6 h_35) (fun h_36 => ?_)
  refine vx_iconst (v := 1) C dL_areRows_415 (by decide) ?_
  refine vx_goto C 420 dL_areRows_416 (by decide) ?_
  refine vx_drop (X2 := X) (Y := [xL G wq 3 W, xI G tq 4 tf]) (by rw [List.append_assoc]; rfl) ?_
  exact vx_zret C hR (by decide) (by decide) (by decide) dL_areRows_420 ⟨_, rfl, rfl, lsame1 h cl_13, rfl⟩
set_option maxRecDepth 100000 in
set_option maxHeartbeats 4000000 in
theorem c_L_areRows {l : Launch} {G : mw_GG} {M : mw_M} (h : linv M) (X : va_W) : mx_Met l yL_areRows wsL_areRows ({ frames := 8, cells := 3, slots := 11, locals := 185 } : Room) G [.ref (G.1 144), .ref (G.1 145), .ref (G.1 146), .ref (G.1 147), .ref (G.1 148), .ref (G.1 149)] M X (xI_P (fun r M2 X2 => r = 1 ∧ linv M2 ∧ X2 = X)) 3 11 := by
  refine mx_ofV (cc := cL_areRows) 16 (by decide) rfl rfl (Nat.le_of_ble_eq_true rfl) ?_
  intro p e s m args below meth c A C hR
  refine vx_loc (ls2 := [some (.ref (G.1 144)), some (.ref (G.1 145)), some (.ref (G.1 146)), some (.ref (G.1 147)), some (.ref (G.1 148)), some (.ref (G.1 149)), none, none, none, none, none, none, none, none, none, none]) rfl ?_
  refine vx_iconst (v := 3) C dL_areRows_0 (by decide) ?_
  refine vx_newL (N := 3) C (List.mem_of_getElem? (i := 1) rfl) rfl (by decide) (Nat.le_of_ble_eq_true rfl) (Nat.le_of_ble_eq_true rfl) dL_areRows_1 (fun wq => ?_)
  refine vx_astore (ls2 := [some (.ref (G.1 144)), some (.ref (G.1 145)), some (.ref (G.1 146)), some (.ref (G.1 147)), some (.ref (G.1 148)), some (.ref (G.1 149)), some (.ref wq), none, none, none, none, none, none, none, none, none]) C 6 dL_areRows_3 (Nat.le_of_ble_eq_true rfl) rfl ?_
  refine vx_iconst (v := 4) C dL_areRows_5 (by decide) ?_
  refine vx_newI (N := 4) C (List.mem_of_getElem? (i := 2) rfl) rfl (by decide) (Nat.le_of_ble_eq_true rfl) (Nat.le_of_ble_eq_true rfl) dL_areRows_6 (fun tq => ?_)
  refine vx_astore (ls2 := [some (.ref (G.1 144)), some (.ref (G.1 145)), some (.ref (G.1 146)), some (.ref (G.1 147)), some (.ref (G.1 148)), some (.ref (G.1 149)), some (.ref wq), some (.ref tq), none, none, none, none, none, none, none, none]) C 7 dL_areRows_8 (Nat.le_of_ble_eq_true rfl) rfl ?_
  refine vx_aload_n C 1 dL_areRows_10 rfl rfl ?_
  refine vx_aload_n C 2 dL_areRows_11 rfl rfl ?_
  refine vx_aload_n C 3 dL_areRows_12 rfl rfl ?_
  refine vx_aload C 4 dL_areRows_13 rfl ?_
  refine vx_aload C 5 dL_areRows_15 rfl ?_
  refine vx_aload C 6 dL_areRows_17 rfl ?_
  refine vx_callXIP C [.ref (G.1 145), .ref (G.1 146), .ref (G.1 147), .ref (G.1 148), .ref (G.1 149), .ref wq] (c_L_many M M h.1.2.1 h.1.1.1 (X := X ++ [xL G wq 3 (fun _ => 0)] ++ [xI G tq 4 (fun _ => 0)]) (xl_at xa_at)) (cwS 6 C.1.2.2.2.2 gL_areRows_L_many rfl rfl rfl (by decide +kernel) ⟨Nat.le_of_ble_eq_true rfl, Nat.le_of_ble_eq_true rfl⟩) rfl rfl rfl (Nat.le_of_ble_eq_true rfl) dL_areRows_19 ⟨Nat.le_of_ble_eq_true rfl, Nat.le_of_ble_eq_true rfl⟩ (fun x_1 M_2 X_3 h_4 => ?_)
  obtain ⟨e_r, e_M, W, hW, e_X⟩ := h_4
  obtain ⟨nn, hnn⟩ : ∃ nn, (lstS M 8).length = nn := ⟨_, rfl⟩
  have h144 : nn ≤ 144 := by rw [← hnn]; exact lstS_len h.1.1.1.wfR
  refine vx_top (y := nI nn) (e_r.trans (congrArg nI hnn)) ?_
  refine vx_mem (M2 := M) e_M ?_
  refine vx_X (X2 := X ++ [xL G wq 3 W] ++ [xI G tq 4 (fun _ => 0)]) (e_X.trans (by rw [xl_set (by rw [List.length_append]; exact Nat.lt_succ_self _), xa_set])) ?_
  refine vx_istore (ls2 := [some (.ref (G.1 144)), some (.ref (G.1 145)), some (.ref (G.1 146)), some (.ref (G.1 147)), some (.ref (G.1 148)), some (.ref (G.1 149)), some (.ref wq), some (.ref tq), some (.int (nI nn)), none, none, none, none, none, none, none]) C 8 dL_areRows_22 (Nat.le_of_ble_eq_true rfl) rfl ?_
  refine vx_iconst (v := (-1)) C dL_areRows_24 (by decide) ?_
  refine vx_istore (ls2 := [some (.ref (G.1 144)), some (.ref (G.1 145)), some (.ref (G.1 146)), some (.ref (G.1 147)), some (.ref (G.1 148)), some (.ref (G.1 149)), some (.ref wq), some (.ref tq), some (.int (nI nn)), some (.int (-1)), none, none, none, none, none, none]) C 9 dL_areRows_25 (Nat.le_of_ble_eq_true rfl) rfl ?_
  refine vx_aload_n C 0 dL_areRows_27 rfl rfl ?_
  refine vx_callVIP C [] (c_X8_many M (h.1.1.1) (h.1.1.2.1) (h.1.1.2.2.1) ) sh_144 rfl (cwV 0 C.1.2.2.2.2 gL_areRows_X8_many rfl rfl rfl (by decide +kernel) ⟨Nat.le_of_ble_eq_true rfl, Nat.le_of_ble_eq_true rfl⟩) rfl rfl rfl (Nat.le_of_ble_eq_true rfl) dL_areRows_28 ⟨Nat.le_of_ble_eq_true rfl, Nat.le_of_ble_eq_true rfl⟩ (fun x_5 M_6 h_7 => ?_)
  have cl_14 := cl_rd clO.rf rfl h_7.2
  refine vx_top (y := nI nn) (h_7.1.trans (congrArg nI hnn)) ?_
  refine vx_iload C 8 dL_areRows_31 rfl ?_
  refine vx_ncmp_ne C nn nn 40 dL_areRows_33 (by decide) (by omega) (by omega) (fun h_8 => absurd rfl h_8) (fun h_9 => ?_)
  refine vx_iconst (v := 1) C dL_areRows_36 (by decide) ?_
  refine vx_goto C 41 dL_areRows_37 (by decide) ?_
  refine vx_istore (ls2 := [some (.ref (G.1 144)), some (.ref (G.1 145)), some (.ref (G.1 146)), some (.ref (G.1 147)), some (.ref (G.1 148)), some (.ref (G.1 149)), some (.ref wq), some (.ref tq), some (.int (nI nn)), some (.int (-1)), some (.int 1), none, none, none, none, none]) C 10 dL_areRows_41 (Nat.le_of_ble_eq_true rfl) rfl ?_
  refine vx_iconst (v := 0) C dL_areRows_43 (by decide) ?_
  refine vx_istore (ls2 := [some (.ref (G.1 144)), some (.ref (G.1 145)), some (.ref (G.1 146)), some (.ref (G.1 147)), some (.ref (G.1 148)), some (.ref (G.1 149)), some (.ref wq), some (.ref tq), some (.int (nI nn)), some (.int (-1)), some (.int 1), some (.int 0), none, none, none, none]) C 11 dL_areRows_44 (Nat.le_of_ble_eq_true rfl) rfl ?_
  refine vx_loc (ls2 := [some (.ref (G.1 144)), some (.ref (G.1 145)), some (.ref (G.1 146)), some (.ref (G.1 147)), some (.ref (G.1 148)), some (.ref (G.1 149)), some (.ref wq), some (.ref tq), some (.int (nI nn)), some (.int (ltI M 0)), some (.int 1), some (.int 0), none, none, none, none]) rfl ?_
  exact lp_rows C h hnn hW (fun Mi tf cl => lp_rows_z C hR h hnn hW cl) (nn + 1) 0 _ _ (by omega) (by omega) cl_14
