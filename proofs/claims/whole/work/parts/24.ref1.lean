/-! the reference: its ints stand from 1100 on; what they are is said by a memory V that is laid as the class is -/
def vwO (M V : mw_M) : Prop := ∀ k, k < 130 → M (2000 + k) = V k
def pstO (M V : mw_M) : Prop := M 1100 = V 650 ∧ ∀ i, i < hN V → ∀ k, k < 130 → M (3000 + (130 * (hN V - 1 - i) + k)) = V (130 * (i + 1) + k)
def txtO (M V : mw_M) : Prop := M 1101 = V 653 ∧ ∀ j, j < 60 → M (1200 + j) = V (1000 + j)
def relO (M V : mw_M) : Prop := vwO M V ∧ pstO M V ∧ txtO M V
def rfO (M M2 : mw_M) : Prop := ∀ q, q < 1100 → M2 q = M q
theorem rfO.rf {M : mw_M} : rfO M M := fun _ _ => rfl
theorem rfO.tr {M M1 M2 : mw_M} (h : rfO M M1) (h2 : rfO M1 M2) : rfO M M2 := fun q hq => (h2 q hq).trans (h q hq)
theorem rfO.u {M M1 : mw_M} (h : rfO M M1) {k : Nat} {x : Int32} (hk : 1100 ≤ k) : rfO M (upd M1 k x) := fun q hq => by rw [upd_o (by omega)]; exact h q hq
theorem hN_u {V : mw_M} {k : Nat} {x : Int32} (h : ¬ k = 650) : hN (upd V k x) = hN V := by unfold hN; rw [upd_o (fun z => h z.symm)]
theorem relO.u {M V : mw_M} (h : relO M V) {k : Nat} {x : Int32} (hk : k < 130) : relO (upd M (2000 + k) x) (upd V k x) := by
  refine ⟨fun j hj => ?_, ⟨?_, fun i hi j hj => ?_⟩, ?_, fun j hj => ?_⟩
  · by_cases z : j = k
    · rw [z, upd_s, upd_s]
    · rw [upd_o (by omega), upd_o z]
      exact h.1 j hj
  · rw [upd_o (by omega), upd_o (by omega)]
    exact h.2.1.1
  · rw [hN_u (by omega)] at hi ⊢
    rw [upd_o (by omega), upd_o (by omega)]
    exact h.2.1.2 i hi j hj
  · rw [upd_o (by omega), upd_o (by omega)]
    exact h.2.2.1
  · rw [upd_o (by omega), upd_o (by omega)]
    exact h.2.2.2 j hj
/-- the reference's scratch -/
def rsS (q : Nat) : Prop := (1102 ≤ q ∧ q < 1200) ∨ (1300 ≤ q ∧ q < 2000)
theorem relO.scr {M M2 V : mw_M} (h : relO M V) (h2 : ∀ q, ¬ rsS q → M2 q = M q) (hh : hiV V) : relO M2 V := by
  have h4 := hh.2
  refine ⟨fun j hj => ?_, ⟨?_, fun i hi j hj => ?_⟩, ?_, fun j hj => ?_⟩
  · rw [h2 _ (by unfold rsS; omega)]
    exact h.1 j hj
  · rw [h2 _ (by unfold rsS; omega)]
    exact h.2.1.1
  · rw [h2 _ (by unfold rsS; omega)]
    exact h.2.1.2 i hi j hj
  · rw [h2 _ (by unfold rsS; omega)]
    exact h.2.2.1
  · rw [h2 _ (by unfold rsS; omega)]
    exact h.2.2.2 j hj
theorem ix_c (d c w : Nat) : (100 : Int32) + 12 * nI d + 3 * nI c + nI w = nI (100 + 12 * d + 3 * c + w) := by
  rw [show (100 : Int32) = nI 100 from rfl, show (12 : Int32) = nI 12 from rfl, show (3 : Int32) = nI 3 from rfl, pk_mul, pk_mul, nI_add, nI_add, nI_add]
theorem ix_c0 (d c : Nat) : (100 : Int32) + 12 * nI d + 3 * nI c = nI (100 + 12 * d + 3 * c) := by
  rw [show (100 : Int32) = nI 100 from rfl, show (12 : Int32) = nI 12 from rfl, show (3 : Int32) = nI 3 from rfl, pk_mul, pk_mul, nI_add, nI_add]
theorem ix_v (d k c : Nat) : (4 : Int32) + 48 * nI d + 4 * nI k + nI c = nI (4 + 48 * d + 4 * k + c) := by
  rw [show (48 : Int32) = nI 48 from rfl, show (4 : Int32) = nI 4 from rfl, pk_mul, pk_mul, nI_add, nI_add, nI_add]
theorem ix_0 (d : Nat) : (0 : Int32) + nI d = nI (0 + d) := nI_add 0 d
theorem ix_2 (d : Nat) : (2 : Int32) + nI d = nI (2 + d) := nI_add 2 d
theorem in_bit {x : Int32} : inP x 0 1 ↔ bitP x := by
  constructor
  · intro h
    obtain ⟨k, -, h2, e⟩ := btw (a := 0) (b := 1) h.1 h.2 (by omega) (by omega)
    rcases Nat.lt_or_ge k 1 with z | z
    · left
      rw [e, show k = 0 by omega]
      rfl
    · right
      rw [e, show k = 1 by omega]
      rfl
  · intro h
    rcases h with rfl | rfl <;> decide
/-- a cell of the array s is laid -/
def s_cl (M : mw_M) (b d c : Nat) (x y z : Int32) : mw_M := upd (upd (upd M (b + (100 + 12 * d + 3 * c)) x) (b + (100 + 12 * d + 3 * c + 1)) y) (b + (100 + 12 * d + 3 * c + 2)) z
theorem relO.cl {M V : mw_M} (h : relO M V) {d c : Nat} (hd : d < 2) (hc : c < 4) {x y z : Int32} : relO (s_cl M 2000 d c x y z) (s_cl V 0 d c x y z) := by
  unfold s_cl
  rw [Nat.zero_add, Nat.zero_add, Nat.zero_add]
  exact ((h.u (by omega)).u (by omega)).u (by omega)
theorem rfO.cl {M M1 : mw_M} (h : rfO M M1) {d c : Nat} {x y z : Int32} : rfO M (s_cl M1 2000 d c x y z) := ((h.u (by omega)).u (by omega)).u (by omega)
theorem up0 {M : mw_M} {k q : Nat} (h : q = k ∨ M q = 0) : upd M k 0 q = 0 := by
  unfold upd
  split
  · rfl
  · rename_i z
    exact h.elim (fun w => absurd w z) id
theorem cl_zero {V : mw_M} {d : Nat} : s_cl (s_cl (s_cl (s_cl V 0 d 0 0 0 0) 0 d 1 0 0 0) 0 d 2 0 0 0) 0 d 3 0 0 0 = s_zero V (100 + 12 * d) := by
  funext q
  unfold s_cl s_zero
  by_cases z : 100 + 12 * d ≤ q ∧ q < 100 + 12 * d + 12
  · rw [if_pos z]
    refine up0 (Classical.or_iff_not_imp_left.mpr fun a0 => ?_)
    refine up0 (Classical.or_iff_not_imp_left.mpr fun a1 => ?_)
    refine up0 (Classical.or_iff_not_imp_left.mpr fun a2 => ?_)
    refine up0 (Classical.or_iff_not_imp_left.mpr fun a3 => ?_)
    refine up0 (Classical.or_iff_not_imp_left.mpr fun a4 => ?_)
    refine up0 (Classical.or_iff_not_imp_left.mpr fun a5 => ?_)
    refine up0 (Classical.or_iff_not_imp_left.mpr fun a6 => ?_)
    refine up0 (Classical.or_iff_not_imp_left.mpr fun a7 => ?_)
    refine up0 (Classical.or_iff_not_imp_left.mpr fun a8 => ?_)
    refine up0 (Classical.or_iff_not_imp_left.mpr fun a9 => ?_)
    refine up0 (Classical.or_iff_not_imp_left.mpr fun a10 => ?_)
    exact up0 (Or.inl (by omega))
  · rw [if_neg z]
    rw [upd_o (by omega), upd_o (by omega), upd_o (by omega), upd_o (by omega), upd_o (by omega), upd_o (by omega), upd_o (by omega), upd_o (by omega), upd_o (by omega), upd_o (by omega), upd_o (by omega), upd_o (by omega)]
def s_sh (M : mw_M) (i : Nat) : mw_M := fun q => if 3000 ≤ q ∧ q < 3000 + i then M (q + 130) else M q
def s_cp (M : mw_M) (p i : Nat) : mw_M := fun q => if 3000 + 130 * p ≤ q ∧ q < 3000 + 130 * p + i then M (2000 + (q - (3000 + 130 * p))) else M q
theorem sh_step {M : mw_M} {i : Nat} (hi : i < 390) : upd (s_sh M i) (3000 + i) (s_sh M i (3000 + (i + 130))) = s_sh M (i + 1) := by
  funext q
  unfold upd s_sh
  rw [if_neg (show ¬ (3000 ≤ 3000 + (i + 130) ∧ 3000 + (i + 130) < 3000 + i) by omega)]
  by_cases z : q = 3000 + i
  · rw [if_pos z, if_pos (by omega)]
    exact congrArg M (by omega)
  · rw [if_neg z]
    by_cases z2 : 3000 ≤ q ∧ q < 3000 + i
    · rw [if_pos z2, if_pos (by omega)]
    · rw [if_neg z2, if_neg (by omega)]
theorem cp_step {M : mw_M} {p i : Nat} (hi : i < 130) : upd (s_cp M p i) (3000 + (130 * p + i)) (s_cp M p i (2000 + i)) = s_cp M p (i + 1) := by
  funext q
  unfold upd s_cp
  rw [if_neg (show ¬ (3000 + 130 * p ≤ 2000 + i ∧ 2000 + i < 3000 + 130 * p + i) by omega)]
  by_cases z : q = 3000 + (130 * p + i)
  · rw [if_pos z, if_pos (by omega)]
    exact congrArg M (by omega)
  · rw [if_neg z]
    by_cases z2 : 3000 + 130 * p ≤ q ∧ q < 3000 + 130 * p + i
    · rw [if_pos z2, if_pos (by omega)]
    · rw [if_neg z2, if_neg (by omega)]
theorem sh_0' {M : mw_M} : s_sh M 0 = M := by
  funext q
  unfold s_sh
  rw [if_neg (by omega)]
theorem cp_0' {M : mw_M} {p : Nat} : s_cp M p 0 = M := by
  funext q
  unfold s_cp
  rw [if_neg (by omega)]
theorem sh_lo {M : mw_M} {i q : Nat} (h : q < 3000) : s_sh M i q = M q := by unfold s_sh; rw [if_neg (by omega)]
theorem cp_lo {M : mw_M} {p i q : Nat} (h : q < 3000) : s_cp M p i q = M q := by unfold s_cp; rw [if_neg (by omega)]
theorem kpS_p {V : mw_M} {q : Nat} (h : 130 ≤ q ∧ q < 650) : kpS V q = V (q - 130) := by
  unfold kpS s_keep
  rw [if_neg (by omega), if_pos h]
theorem kpS_hi {V : mw_M} {q : Nat} (h : 651 ≤ q) : kpS V q = V q := keep_hi h
theorem kpS_h {V : mw_M} : kpS V 650 = nI (min (hN V + 1) 4) := by
  unfold kpS s_keep
  rw [if_pos rfl]
theorem kpS_hN {V : mw_M} : hN (kpS V) = min (hN V + 1) 4 := by
  unfold hN
  rw [kpS_h, nI_clamp (by omega)]
  rfl
theorem kp_hi {V : mw_M} : hiV (kpS V) := ⟨by rw [kpS_hN]; exact kpS_h, by rw [kpS_hN]; omega⟩
theorem chg_lo {M : mw_M} {p : Nat} {Ma : mw_M} (hMa : ∀ q, q < 3000 → ¬ q = 1100 → Ma q = M q) {x : Int32} {q : Nat} (h : q < 3000) (h2 : ¬ q = 1100) : upd (s_cp Ma p 130) 1100 x q = M q := by
  rw [upd_o h2, cp_lo h]
  exact hMa q h h2
theorem chg_end {M V : mw_M} (h : relO M V) (hh : hiV V) {Ma : mw_M} {p : Nat} (hp : p + 1 = min (hN V + 1) 4) (hMa : ∀ q, q < 3000 → ¬ q = 1100 → Ma q = M q) (hb : ∀ i, i < p → ∀ k, k < 130 → Ma (3000 + (130 * (p - 1 - i) + k)) = V (130 * (i + 1) + k)) : relO (upd (s_cp Ma p 130) 1100 (nI (p + 1))) (kpS V) ∧ rfO M (upd (s_cp Ma p 130) 1100 (nI (p + 1))) := by
  refine ⟨⟨fun k hk => ?_, ⟨?_, fun i hi k hk => ?_⟩, ?_, fun j hj => ?_⟩, fun q hq => chg_lo hMa (by omega) (by omega)⟩
  · rw [chg_lo hMa (by omega) (by omega), kpS_lo hk]
    exact h.1 k hk
  · rw [upd_s, kpS_h, hp]
  · rw [kpS_hN, ← hp] at hi ⊢
    rw [upd_o (by omega), kpS_p (by omega)]
    cases i with
    | zero =>
      unfold s_cp
      rw [if_pos (by omega), show 3000 + (130 * (p + 1 - 1 - 0) + k) - (3000 + 130 * p) = k by omega, hMa _ (by omega) (by omega), h.1 k hk]
      exact congrArg V (by omega)
    | succ i =>
      unfold s_cp
      rw [if_neg (by omega), show p + 1 - 1 - (i + 1) = p - 1 - i by omega, hb i (by omega) k hk]
      exact congrArg V (by omega)
  · rw [chg_lo hMa (by omega) (by omega), kpS_hi (by omega)]
    exact h.2.2.1
  · rw [chg_lo hMa (by omega) (by omega), kpS_hi (by omega)]
    exact h.2.2.2 j hj
set_option maxRecDepth 100000 in
set_option maxHeartbeats 4000000 in
theorem c_X9_in {l : Launch} {G : mw_GG} (M : mw_M) (x y z : Int32) : mw_Met l yX9_in wsX9_in ({ frames := 0, cells := 0, slots := 0, locals := 0 } : Room) G [.int x, .int y, .int z] M (qI (bI (inP x y z)) M) := by
  refine mw_ofV (cc := cX9_in) 3 (by decide) rfl rfl (Nat.le_of_ble_eq_true rfl) ?_
  intro p e s m args below meth c C hR hN0
  refine vv_loc (ls2 := [some (.int x), some (.int y), some (.int z)]) rfl ?_
  refine vv_iload_n C 0 dX9_in_0 rfl rfl ?_
  refine vv_iload_n C 1 dX9_in_1 rfl rfl ?_
  refine vv_icmp_lt C 14 dX9_in_2 (by decide) (fun h_1 => ?_) (fun h_2 => ?_)
  · refine vv_iconst (v := 0) C dX9_in_14 (by decide) ?_
    exact vv_zret0 C hR dX9_in_15 (qI_of ((bI_f (fun z => z.1 h_1)).symm) (rfl))
  · refine vv_iload_n C 0 dX9_in_5 rfl rfl ?_
    refine vv_iload_n C 2 dX9_in_6 rfl rfl ?_
    refine vv_icmp_gt C 14 dX9_in_7 (by decide) (fun h_3 => ?_) (fun h_4 => ?_)
    · refine vv_iconst (v := 0) C dX9_in_14 (by decide) ?_
      exact vv_zret0 C hR dX9_in_15 (qI_of ((bI_f (fun z => z.2 h_3)).symm) (rfl))
    · refine vv_iconst (v := 1) C dX9_in_10 (by decide) ?_
      refine vv_goto C 15 dX9_in_11 (by decide) ?_
      exact vv_zret1 C hR dX9_in_15 (qI_of ((bI_t ⟨h_2, h_4⟩).symm) (rfl))
set_option maxRecDepth 100000 in
set_option maxHeartbeats 4000000 in
theorem c_X9_isDrawer {l : Launch} {G : mw_GG} (M : mw_M) (x : Int32) : mw_Met l yX9_isDrawer wsX9_isDrawer ({ frames := 1, cells := 0, slots := 0, locals := 22 } : Room) G [.int x] M (qI (bI (bitP x)) M) := by
  refine mw_ofV (cc := cX9_isDrawer) 1 (by decide) rfl rfl (Nat.le_of_ble_eq_true rfl) ?_
  intro p e s m args below meth c C hR hN0
  refine vv_loc (ls2 := [some (.int x)]) rfl ?_
  refine vv_iload_n C 0 dX9_isDrawer_0 rfl rfl ?_
  refine vv_iconst (v := 0) C dX9_isDrawer_1 (by decide) ?_
  refine vv_iconst (v := 1) C dX9_isDrawer_2 (by decide) ?_
  refine vv_callSI C [.int x, .int 0, .int 1] (c_X9_in M x 0 1) (cwS 3 C.1.2.2.2.2 gX9_isDrawer_X9_in rfl rfl rfl (by decide +kernel) ⟨Nat.le_of_ble_eq_true rfl, Nat.le_of_ble_eq_true rfl⟩) rfl rfl rfl (Nat.le_of_ble_eq_true rfl) dX9_isDrawer_3 ⟨Nat.le_refl _, Nat.le_refl _⟩ ?_
  exact vv_zret C hR dX9_isDrawer_6 (qI_of (bI_c in_bit) rfl)
theorem iX9_isColumn_X9 : ∀ w ∈ u_ws RX9 TX9 13, w ∈ wsX9_isColumn := fun w hw => (List.mem_cons_of_mem _ (List.mem_append_right _ hw))
set_option maxRecDepth 100000 in
set_option maxHeartbeats 4000000 in
theorem c_X9_isColumn {l : Launch} {G : mw_GG} (M V : mw_M) (hV : vwO M V) {d : Nat} (hd : d < 2) {x : Int32} (hx : x = nI d) (y : Int32) : mw_Met l yX9_isColumn wsX9_isColumn ({ frames := 0, cells := 0, slots := 0, locals := 0 } : Room) G [.ref (G.1 145), .int x, .int y] M (qI (bI (hcP V d y)) M) := by
  refine mw_ofV (cc := cX9_isColumn) 3 (by decide) rfl rfl (Nat.le_of_ble_eq_true rfl) ?_
  intro p e s m args below meth c C hR hN0
  subst hx
  refine vv_loc (ls2 := [some (.ref (G.1 145)), some (.int (nI d)), some (.int y)]) rfl ?_
  refine vv_iload_n C 2 dX9_isColumn_0 rfl rfl ?_
  refine vv_if_lt C 20 dX9_isColumn_1 (by decide) (fun h_1 => ?_) (fun h_2 => ?_)
  · refine vv_iconst (v := 0) C dX9_isColumn_20 (by decide) ?_
    exact vv_zret0 C hR dX9_isColumn_21 (qI_of ((bI_f (fun z => z.1 h_1)).symm) (rfl))
  · refine vv_iload_n C 2 dX9_isColumn_4 rfl rfl ?_
    refine vv_aload_n C 0 dX9_isColumn_5 rfl rfl ?_
    refine vv_getr C (Cn := RX9) (T := TX9) (N := 13) sh_145 0 rfl rfl (by decide) iX9_isColumn_X9 (List.mem_of_getElem? (i := 1) rfl) rfl dX9_isColumn_6 ?_
    refine vv_iconst (v := 0) C dX9_isColumn_9 (by decide) ?_
    refine vv_iload_n C 1 dX9_isColumn_10 rfl rfl ?_
    refine vv_iadd C dX9_isColumn_11 ?_
    refine vv_ald (j := 0 + d) (q := 2000 + (0 + d)) C sh_146 (ix_0 d) (by omega) (by omega) dX9_isColumn_12 ?_
    refine vv_top (y := V (d)) (by rw [Nat.zero_add]; exact hV d (by omega)) ?_
    refine vv_icmp_ge C 20 dX9_isColumn_13 (by decide) (fun h_3 => ?_) (fun h_4 => ?_)
    · refine vv_iconst (v := 0) C dX9_isColumn_20 (by decide) ?_
      exact vv_zret0 C hR dX9_isColumn_21 (qI_of ((bI_f (fun z => z.2 h_3)).symm) (rfl))
    · refine vv_iconst (v := 1) C dX9_isColumn_16 (by decide) ?_
      refine vv_goto C 21 dX9_isColumn_17 (by decide) ?_
      exact vv_zret1 C hR dX9_isColumn_21 (qI_of ((bI_t ⟨h_2, h_4⟩).symm) (rfl))
theorem iX9_isCard_X9 : ∀ w ∈ u_ws RX9 TX9 13, w ∈ wsX9_isCard := fun w hw => (List.mem_cons_of_mem _ (List.mem_append_right _ hw))
set_option maxRecDepth 100000 in
set_option maxHeartbeats 4000000 in
theorem c_X9_isCard {l : Launch} {G : mw_GG} (M V : mw_M) (hV : vwO M V) {d : Nat} (hd : d < 2) {x : Int32} (hx : x = nI d) (y : Int32) : mw_Met l yX9_isCard wsX9_isCard ({ frames := 0, cells := 0, slots := 0, locals := 0 } : Room) G [.ref (G.1 145), .int x, .int y] M (qI (bI (hkP V d y)) M) := by
  refine mw_ofV (cc := cX9_isCard) 3 (by decide) rfl rfl (Nat.le_of_ble_eq_true rfl) ?_
  intro p e s m args below meth c C hR hN0
  subst hx
  refine vv_loc (ls2 := [some (.ref (G.1 145)), some (.int (nI d)), some (.int y)]) rfl ?_
  refine vv_iload_n C 2 dX9_isCard_0 rfl rfl ?_
  refine vv_if_lt C 20 dX9_isCard_1 (by decide) (fun h_1 => ?_) (fun h_2 => ?_)
  · refine vv_iconst (v := 0) C dX9_isCard_20 (by decide) ?_
    exact vv_zret0 C hR dX9_isCard_21 (qI_of ((bI_f (fun z => z.1 h_1)).symm) (rfl))
  · refine vv_iload_n C 2 dX9_isCard_4 rfl rfl ?_
    refine vv_aload_n C 0 dX9_isCard_5 rfl rfl ?_
    refine vv_getr C (Cn := RX9) (T := TX9) (N := 13) sh_145 0 rfl rfl (by decide) iX9_isCard_X9 (List.mem_of_getElem? (i := 1) rfl) rfl dX9_isCard_6 ?_
    refine vv_iconst (v := 2) C dX9_isCard_9 (by decide) ?_
    refine vv_iload_n C 1 dX9_isCard_10 rfl rfl ?_
    refine vv_iadd C dX9_isCard_11 ?_
    refine vv_ald (j := 2 + d) (q := 2000 + (2 + d)) C sh_146 (ix_2 d) (by omega) (by omega) dX9_isCard_12 ?_
    refine vv_top (y := V (2 + d)) (hV (2 + d) (by omega)) ?_
    refine vv_icmp_ge C 20 dX9_isCard_13 (by decide) (fun h_3 => ?_) (fun h_4 => ?_)
    · refine vv_iconst (v := 0) C dX9_isCard_20 (by decide) ?_
      exact vv_zret0 C hR dX9_isCard_21 (qI_of ((bI_f (fun z => z.2 h_3)).symm) (rfl))
    · refine vv_iconst (v := 1) C dX9_isCard_16 (by decide) ?_
      refine vv_goto C 21 dX9_isCard_17 (by decide) ?_
      exact vv_zret1 C hR dX9_isCard_21 (qI_of ((bI_t ⟨h_2, h_4⟩).symm) (rfl))
set_option maxRecDepth 100000 in
set_option maxHeartbeats 4000000 in
theorem c_X9_valueAt {l : Launch} {G : mw_GG} (M : mw_M) (x y z : Int32) : mw_Met l yX9_valueAt wsX9_valueAt ({ frames := 0, cells := 0, slots := 0, locals := 0 } : Room) G [.int x, .int y, .int z] M (qI (4 + 48 * x + 4 * y + z) M) := by
  refine mw_ofV (cc := cX9_valueAt) 3 (by decide) rfl rfl (Nat.le_of_ble_eq_true rfl) ?_
  intro p e s m args below meth c C hR hN0
  refine vv_loc (ls2 := [some (.int x), some (.int y), some (.int z)]) rfl ?_
  refine vv_iconst (v := 4) C dX9_valueAt_0 (by decide) ?_
  refine vv_bipush (v := 48) C dX9_valueAt_1 (by decide) ?_
  refine vv_iload_n C 0 dX9_valueAt_3 rfl rfl ?_
  refine vv_imul C dX9_valueAt_4 ?_
  refine vv_iadd C dX9_valueAt_5 ?_
  refine vv_iconst (v := 4) C dX9_valueAt_6 (by decide) ?_
  refine vv_iload_n C 1 dX9_valueAt_7 rfl rfl ?_
  refine vv_imul C dX9_valueAt_8 ?_
  refine vv_iadd C dX9_valueAt_9 ?_
  refine vv_iload_n C 2 dX9_valueAt_10 rfl rfl ?_
  refine vv_iadd C dX9_valueAt_11 ?_
  exact vv_iret C hR dX9_valueAt_12 (qI_of (rfl) (rfl))
theorem iX9_cellAt_X9 : ∀ w ∈ u_ws RX9 TX9 13, w ∈ wsX9_cellAt := fun w hw => (List.mem_cons_of_mem _ (List.mem_append_right _ hw))
set_option maxRecDepth 100000 in
set_option maxHeartbeats 4000000 in
theorem c_X9_cellAt {l : Launch} {G : mw_GG} (M V : mw_M) (hV : vwO M V) {d cc w : Nat} (hb : d < 2 ∧ cc < 4 ∧ w < 3) {x y z : Int32} (hx : x = nI d) (hy : y = nI cc) (hz : z = nI w) : mw_Met l yX9_cellAt wsX9_cellAt ({ frames := 0, cells := 0, slots := 0, locals := 0 } : Room) G [.ref (G.1 145), .int x, .int y, .int z] M (qI (V (100 + 12 * d + 3 * cc + w)) M) := by
  refine mw_ofV (cc := cX9_cellAt) 4 (by decide) rfl rfl (Nat.le_of_ble_eq_true rfl) ?_
  intro p e s m args below meth c C hR hN0
  subst hx
  subst hy
  subst hz
  refine vv_loc (ls2 := [some (.ref (G.1 145)), some (.int (nI d)), some (.int (nI cc)), some (.int (nI w))]) rfl ?_
  refine vv_aload_n C 0 dX9_cellAt_0 rfl rfl ?_
  refine vv_getr C (Cn := RX9) (T := TX9) (N := 13) sh_145 0 rfl rfl (by decide) iX9_cellAt_X9 (List.mem_of_getElem? (i := 1) rfl) rfl dX9_cellAt_1 ?_
  refine vv_bipush (v := 100) C dX9_cellAt_4 (by decide) ?_
  refine vv_bipush (v := 12) C dX9_cellAt_6 (by decide) ?_
  refine vv_iload_n C 1 dX9_cellAt_8 rfl rfl ?_
  refine vv_imul C dX9_cellAt_9 ?_
  refine vv_iadd C dX9_cellAt_10 ?_
  refine vv_iconst (v := 3) C dX9_cellAt_11 (by decide) ?_
  refine vv_iload_n C 2 dX9_cellAt_12 rfl rfl ?_
  refine vv_imul C dX9_cellAt_13 ?_
  refine vv_iadd C dX9_cellAt_14 ?_
  refine vv_iload_n C 3 dX9_cellAt_15 rfl rfl ?_
  refine vv_iadd C dX9_cellAt_16 ?_
  refine vv_ald (j := 100 + 12 * d + 3 * cc + w) (q := 2000 + (100 + 12 * d + 3 * cc + w)) C sh_146 (ix_c d cc w) (by omega) (by omega) dX9_cellAt_17 ?_
  refine vv_top (y := V (100 + 12 * d + 3 * cc + w)) (hV _ (by omega)) ?_
  exact vv_iret C hR dX9_cellAt_18 (qI_of (rfl) (rfl))
theorem iX9_setsCell_X9 : ∀ w ∈ u_ws RX9 TX9 13, w ∈ wsX9_setsCell := fun w hw => (List.mem_cons_of_mem _ (List.mem_append_right _ hw))
set_option maxRecDepth 100000 in
set_option maxHeartbeats 4000000 in
theorem c_X9_setsCell {l : Launch} {G : mw_GG} (M : mw_M) {d cc : Nat} (hb : d < 2 ∧ cc < 4) {x y : Int32} (hx : x = nI d) (hy : y = nI cc) (u v w : Int32) : mw_Met l yX9_setsCell wsX9_setsCell ({ frames := 0, cells := 0, slots := 0, locals := 0 } : Room) G [.ref (G.1 145), .int x, .int y, .int u, .int v, .int w] M (qV (s_cl M 2000 d cc u v w)) := by
  refine mw_ofV (cc := cX9_setsCell) 6 (by decide) rfl rfl (Nat.le_of_ble_eq_true rfl) ?_
  intro p e s m args below meth c C hR hN0
  subst hx
  subst hy
  refine vv_loc (ls2 := [some (.ref (G.1 145)), some (.int (nI d)), some (.int (nI cc)), some (.int u), some (.int v), some (.int w)]) rfl ?_
  refine vv_aload_n C 0 dX9_setsCell_0 rfl rfl ?_
  refine vv_getr C (Cn := RX9) (T := TX9) (N := 13) sh_145 0 rfl rfl (by decide) iX9_setsCell_X9 (List.mem_of_getElem? (i := 1) rfl) rfl dX9_setsCell_1 ?_
  refine vv_bipush (v := 100) C dX9_setsCell_4 (by decide) ?_
  refine vv_bipush (v := 12) C dX9_setsCell_6 (by decide) ?_
  refine vv_iload_n C 1 dX9_setsCell_8 rfl rfl ?_
  refine vv_imul C dX9_setsCell_9 ?_
  refine vv_iadd C dX9_setsCell_10 ?_
  refine vv_iconst (v := 3) C dX9_setsCell_11 (by decide) ?_
  refine vv_iload_n C 2 dX9_setsCell_12 rfl rfl ?_
  refine vv_imul C dX9_setsCell_13 ?_
  refine vv_iadd C dX9_setsCell_14 ?_
  refine vv_iload_n C 3 dX9_setsCell_15 rfl rfl ?_
  refine vv_ast (j := 100 + 12 * d + 3 * cc) (q := 2000 + (100 + 12 * d + 3 * cc)) C sh_146 (ix_c0 d cc) (by omega) (by omega) dX9_setsCell_16 ?_
  refine vv_aload_n C 0 dX9_setsCell_17 rfl rfl ?_
  refine vv_getr C (Cn := RX9) (T := TX9) (N := 13) sh_145 0 rfl rfl (by decide) iX9_setsCell_X9 (List.mem_of_getElem? (i := 1) rfl) rfl dX9_setsCell_18 ?_
  refine vv_bipush (v := 100) C dX9_setsCell_21 (by decide) ?_
  refine vv_bipush (v := 12) C dX9_setsCell_23 (by decide) ?_
  refine vv_iload_n C 1 dX9_setsCell_25 rfl rfl ?_
  refine vv_imul C dX9_setsCell_26 ?_
  refine vv_iadd C dX9_setsCell_27 ?_
  refine vv_iconst (v := 3) C dX9_setsCell_28 (by decide) ?_
  refine vv_iload_n C 2 dX9_setsCell_29 rfl rfl ?_
  refine vv_imul C dX9_setsCell_30 ?_
  refine vv_iadd C dX9_setsCell_31 ?_
  refine vv_iconst (v := 1) C dX9_setsCell_32 (by decide) ?_
  refine vv_iadd C dX9_setsCell_33 ?_
  refine vv_iload C 4 dX9_setsCell_34 rfl ?_
  refine vv_ast (j := 100 + 12 * d + 3 * cc + 1) (q := 2000 + (100 + 12 * d + 3 * cc + 1)) C sh_146 (ix_c d cc 1) (by omega) (by omega) dX9_setsCell_36 ?_
  refine vv_aload_n C 0 dX9_setsCell_37 rfl rfl ?_
  refine vv_getr C (Cn := RX9) (T := TX9) (N := 13) sh_145 0 rfl rfl (by decide) iX9_setsCell_X9 (List.mem_of_getElem? (i := 1) rfl) rfl dX9_setsCell_38 ?_
  refine vv_bipush (v := 100) C dX9_setsCell_41 (by decide) ?_
  refine vv_bipush (v := 12) C dX9_setsCell_43 (by decide) ?_
  refine vv_iload_n C 1 dX9_setsCell_45 rfl rfl ?_
  refine vv_imul C dX9_setsCell_46 ?_
  refine vv_iadd C dX9_setsCell_47 ?_
  refine vv_iconst (v := 3) C dX9_setsCell_48 (by decide) ?_
  refine vv_iload_n C 2 dX9_setsCell_49 rfl rfl ?_
  refine vv_imul C dX9_setsCell_50 ?_
  refine vv_iadd C dX9_setsCell_51 ?_
  refine vv_iconst (v := 2) C dX9_setsCell_52 (by decide) ?_
  refine vv_iadd C dX9_setsCell_53 ?_
  refine vv_iload C 5 dX9_setsCell_54 rfl ?_
  refine vv_ast (j := 100 + 12 * d + 3 * cc + 2) (q := 2000 + (100 + 12 * d + 3 * cc + 2)) C sh_146 (ix_c d cc 2) (by omega) (by omega) dX9_setsCell_56 ?_
  exact vv_vret C hR dX9_setsCell_57 (qV_of (rfl))
theorem iX9_changes_X9 : ∀ w ∈ u_ws RX9 TX9 13, w ∈ wsX9_changes := fun w hw => (List.mem_cons_of_mem _ (List.mem_append_right _ hw))
set_option maxRecDepth 100000 in
set_option maxHeartbeats 4000000 in
theorem lp_X9_changes_1 {p : Program} {l : Launch} {e : Env} {s : State} {m : MethodId} {args : Array Value} {below : List Frame} {meth : Method} {c : Code} {G : mw_GG} {Q : State → Prop} (C : vv_C p s m args c G cX9_changes 2 wsX9_changes RX9) (M : mw_M) (hk : vv p l e ({ frames := 0, cells := 0, slots := 0, locals := 0 } : Room) s m args below meth c G 0 0 Q (s_sh M 390) 39 [some (.ref (G.1 145)), some (.int (nI 390))] []) : ∀ (k i : Nat), 391 ≤ i + k → i ≤ 390 → vv p l e ({ frames := 0, cells := 0, slots := 0, locals := 0 } : Room) s m args below meth c G 0 0 Q (s_sh M i) 10 [some (.ref (G.1 145)), some (.int (nI i))] [] := by
  intro k
  induction k with
  | zero => intro i h1 h2; omega
  | succ k ih =>
    intro i h1 h2
    refine vv_iload_n C 1 dX9_changes_10 rfl rfl ?_
    refine vv_sipush (v := 390) C dX9_changes_11 (by decide) ?_
    refine vv_icmp_ge C 39 dX9_changes_14 (by decide) (fun hge => ?_) (fun hlt => ?_)
    · have hin : i = 390 := by
        rcases Nat.lt_or_ge i 390 with z | z
        · exact absurd hge (nI_ge (b := 390) z (by omega))
        · omega
      subst hin
      exact hk
    · have hi4 : i < 390 := by
        rcases Nat.lt_or_ge i 390 with z | z
        · exact z
        · exact absurd (nI_le (a := 390) z (by omega)) hlt
      refine vv_aload_n C 0 dX9_changes_17 rfl rfl ?_
      refine vv_getr C (Cn := RX9) (T := TX9) (N := 13) sh_145 1 rfl rfl (by decide) iX9_changes_X9 (List.mem_of_getElem? (i := 2) rfl) rfl dX9_changes_18 ?_
      refine vv_iload_n C 1 dX9_changes_21 rfl rfl ?_
      refine vv_aload_n C 0 dX9_changes_22 rfl rfl ?_
      refine vv_getr C (Cn := RX9) (T := TX9) (N := 13) sh_145 1 rfl rfl (by decide) iX9_changes_X9 (List.mem_of_getElem? (i := 2) rfl) rfl dX9_changes_23 ?_
      refine vv_iload_n C 1 dX9_changes_26 rfl rfl ?_
      refine vv_sipush (v := 130) C dX9_changes_27 (by decide) ?_
      refine vv_iadd C dX9_changes_30 ?_
      refine vv_ald (j := i + 130) (q := 3000 + (i + 130)) C sh_147 (nI_add i 130) (by omega) (by omega) dX9_changes_31 ?_
      refine vv_ast (j := i) (q := 3000 + i) C sh_147 rfl (by omega) (by omega) dX9_changes_32 ?_
      refine vv_mem (M2 := s_sh M (i + 1)) (sh_step hi4) ?_
      refine vv_iinc (v := nI (i + 1)) (ls2 := [some (.ref (G.1 145)), some (.int (nI (i + 1)))]) C 1 dX9_changes_33 rfl (nI_1 _) rfl ?_
      refine vv_goto C 10 dX9_changes_36 (by decide) ?_
      exact ih (i + 1) (by omega) (by omega)
set_option maxRecDepth 100000 in
set_option maxHeartbeats 4000000 in
theorem lp_X9_changes_2 {p : Program} {l : Launch} {e : Env} {s : State} {m : MethodId} {args : Array Value} {below : List Frame} {meth : Method} {c : Code} {G : mw_GG} {Q : State → Prop} (C : vv_C p s m args c G cX9_changes 2 wsX9_changes RX9) (M : mw_M) {pp : Nat} (hp : M 1100 = nI pp) (hp4 : pp < 4) (hk : vv p l e ({ frames := 0, cells := 0, slots := 0, locals := 0 } : Room) s m args below meth c G 0 0 Q (s_cp M pp 130) 85 [some (.ref (G.1 145)), some (.int (nI 130))] []) : ∀ (k i : Nat), 131 ≤ i + k → i ≤ 130 → vv p l e ({ frames := 0, cells := 0, slots := 0, locals := 0 } : Room) s m args below meth c G 0 0 Q (s_cp M pp i) 51 [some (.ref (G.1 145)), some (.int (nI i))] [] := by
  intro k
  induction k with
  | zero => intro i h1 h2; omega
  | succ k ih =>
    intro i h1 h2
    refine vv_iload_n C 1 dX9_changes_51 rfl rfl ?_
    refine vv_sipush (v := 130) C dX9_changes_52 (by decide) ?_
    refine vv_icmp_ge C 85 dX9_changes_55 (by decide) (fun hge => ?_) (fun hlt => ?_)
    · have hin : i = 130 := by
        rcases Nat.lt_or_ge i 130 with z | z
        · exact absurd hge (nI_ge (b := 130) z (by omega))
        · omega
      subst hin
      exact hk
    · have hi4 : i < 130 := by
        rcases Nat.lt_or_ge i 130 with z | z
        · exact z
        · exact absurd (nI_le (a := 130) z (by omega)) hlt
      refine vv_aload_n C 0 dX9_changes_58 rfl rfl ?_
      refine vv_getr C (Cn := RX9) (T := TX9) (N := 13) sh_145 1 rfl rfl (by decide) iX9_changes_X9 (List.mem_of_getElem? (i := 2) rfl) rfl dX9_changes_59 ?_
      refine vv_sipush (v := 130) C dX9_changes_62 (by decide) ?_
      refine vv_aload_n C 0 dX9_changes_65 rfl rfl ?_
      refine vv_geti C (Cn := RX9) (T := TX9) (N := 13) sh_145 2 rfl rfl (by decide) iX9_changes_X9 (List.mem_of_getElem? (i := 1) rfl) rfl dX9_changes_66 ?_
      refine vv_imul C dX9_changes_69 ?_
      refine vv_iload_n C 1 dX9_changes_70 rfl rfl ?_
      refine vv_iadd C dX9_changes_71 ?_
      refine vv_aload_n C 0 dX9_changes_72 rfl rfl ?_
      refine vv_getr C (Cn := RX9) (T := TX9) (N := 13) sh_145 0 rfl rfl (by decide) iX9_changes_X9 (List.mem_of_getElem? (i := 3) rfl) rfl dX9_changes_73 ?_
      refine vv_iload_n C 1 dX9_changes_76 rfl rfl ?_
      refine vv_ald (j := i) (q := 2000 + i) C sh_146 rfl (by omega) (by omega) dX9_changes_77 ?_
      refine vv_ast (j := 130 * pp + i) (q := 3000 + (130 * pp + i)) C sh_147 (by rw [cp_lo (by omega), hp, show (130 : Int32) = nI 130 from rfl, pk_mul, nI_add]) (by omega) (by omega) dX9_changes_78 ?_
      refine vv_mem (M2 := s_cp M pp (i + 1)) (cp_step hi4) ?_
      refine vv_iinc (v := nI (i + 1)) (ls2 := [some (.ref (G.1 145)), some (.int (nI (i + 1)))]) C 1 dX9_changes_79 rfl (nI_1 _) rfl ?_
      refine vv_goto C 51 dX9_changes_82 (by decide) ?_
      exact ih (i + 1) (by omega) (by omega)
set_option maxRecDepth 100000 in
set_option maxHeartbeats 4000000 in
theorem c_X9_changes {l : Launch} {G : mw_GG} (M V : mw_M) (hV : relO M V) (hh : hiV V) : mw_Met l yX9_changes wsX9_changes ({ frames := 0, cells := 0, slots := 0, locals := 0 } : Room) G [.ref (G.1 145)] M (qVP (fun M2 => relO M2 (kpS V) ∧ rfO M M2)) := by
  refine mw_ofV (cc := cX9_changes) 2 (by decide) rfl rfl (Nat.le_of_ble_eq_true rfl) ?_
  intro p e s m args below meth c C hR hN0
  refine vv_loc (ls2 := [some (.ref (G.1 145)), none]) rfl ?_
  refine vv_aload_n C 0 dX9_changes_0 rfl rfl ?_
  refine vv_geti C (Cn := RX9) (T := TX9) (N := 13) sh_145 2 rfl rfl (by decide) iX9_changes_X9 (List.mem_of_getElem? (i := 1) rfl) rfl dX9_changes_1 ?_
  refine vv_iconst (v := 4) C dX9_changes_4 (by decide) ?_
  refine vv_icmp_ne C 49 dX9_changes_5 (by decide) (fun h_n4 => ?_) (fun h_4 => ?_)
  · have h44 : hN V < 4 := by
      rcases Nat.lt_or_ge (hN V) 4 with z | z
      · exact z
      · exact absurd (by rw [hV.2.1.1, hh.1, show hN V = 4 by have := hh.2; omega]; rfl) h_n4
    have hp0 : M 1100 = nI (hN V) := by rw [hV.2.1.1]; exact hh.1
    have hMa : ∀ q, q < 3000 → ¬ q = 1100 → M q = M q := fun q _ _ => rfl
    have hb : ∀ i, i < hN V → ∀ k, k < 130 → M (3000 + (130 * (hN V - 1 - i) + k)) = V (130 * (i + 1) + k) := hV.2.1.2
    refine vv_iconst (v := 0) C dX9_changes_49 (by decide) ?_
    refine vv_istore_n (ls2 := [some (.ref (G.1 145)), some (.int (nI 0))]) C 1 dX9_changes_50 rfl (Nat.le_of_ble_eq_true rfl) rfl ?_
    refine vv_mem (M2 := s_cp M (hN V) 0) cp_0'.symm ?_
    refine lp_X9_changes_2 C M (pp := (hN V)) hp0 (by omega) ?_ 131 0 (by omega) (by omega)
    refine vv_aload_n C 0 dX9_changes_85 rfl rfl ?_
    refine vv_dup C dX9_changes_86 rfl ?_
    refine vv_geti C (Cn := RX9) (T := TX9) (N := 13) sh_145 2 rfl rfl (by decide) iX9_changes_X9 (List.mem_of_getElem? (i := 1) rfl) rfl dX9_changes_87 ?_
    refine vv_iconst (v := 1) C dX9_changes_90 (by decide) ?_
    refine vv_iadd C dX9_changes_91 ?_
    refine vv_putf C (Cn := RX9) (T := TX9) (N := 13) sh_145 2 rfl rfl (by decide) iX9_changes_X9 (List.mem_of_getElem? (i := 1) rfl) rfl tyX9_ok nmX9 rfl rfl dX9_changes_92 ?_
    exact vv_vret C hR dX9_changes_95 (qVP_of (by rw [show s_cp M (hN V) 130 1100 + 1 = nI ((hN V) + 1) by rw [cp_lo (by omega), hp0, nI_1]]; exact chg_end hV hh (by omega) hMa hb))
  · refine vv_iconst (v := 0) C dX9_changes_8 (by decide) ?_
    refine vv_istore_n (ls2 := [some (.ref (G.1 145)), some (.int 0)]) C 1 dX9_changes_9 rfl (Nat.le_of_ble_eq_true rfl) rfl ?_
    refine vv_mem (M2 := s_sh M 0) sh_0'.symm ?_
    refine vv_loc (ls2 := [some (.ref (G.1 145)), some (.int (nI 0))]) rfl ?_
    refine lp_X9_changes_1 C M ?_ 391 0 (by omega) (by omega)
    refine vv_aload_n C 0 dX9_changes_39 rfl rfl ?_
    refine vv_dup C dX9_changes_40 rfl ?_
    refine vv_geti C (Cn := RX9) (T := TX9) (N := 13) sh_145 2 rfl rfl (by decide) iX9_changes_X9 (List.mem_of_getElem? (i := 1) rfl) rfl dX9_changes_41 ?_
    refine vv_iconst (v := 1) C dX9_changes_44 (by decide) ?_
    refine vv_isub C dX9_changes_45 ?_
    refine vv_putf C (Cn := RX9) (T := TX9) (N := 13) sh_145 2 rfl rfl (by decide) iX9_changes_X9 (List.mem_of_getElem? (i := 1) rfl) rfl tyX9_ok nmX9 rfl rfl dX9_changes_46 ?_
    have hp0 : (upd (s_sh M 390) 1100 (((s_sh M 390) 1100) - 1)) 1100 = nI 3 := by rw [upd_s, sh_lo (by omega), h_4]; decide
    have h44 : hN V = 4 := by rw [hV.2.1.1, hh.1] at h_4; exact (nI_eq (by have := hh.2; omega) (by omega)).mp h_4
    have hMa : ∀ q, q < 3000 → ¬ q = 1100 → (upd (s_sh M 390) 1100 (((s_sh M 390) 1100) - 1)) q = M q := fun q h1 h2 => by rw [upd_o h2, sh_lo h1]
    have hb : ∀ i, i < 3 → ∀ k, k < 130 → (upd (s_sh M 390) 1100 (((s_sh M 390) 1100) - 1)) (3000 + (130 * (3 - 1 - i) + k)) = V (130 * (i + 1) + k) := fun i hi k hk => by
      rw [upd_o (by omega)]
      unfold s_sh
      rw [if_pos (by omega), ← hV.2.1.2 i (by omega) k hk, h44]
      exact congrArg M (by omega)
    refine vv_iconst (v := 0) C dX9_changes_49 (by decide) ?_
    refine vv_istore_n (ls2 := [some (.ref (G.1 145)), some (.int (nI 0))]) C 1 dX9_changes_50 rfl (Nat.le_of_ble_eq_true rfl) rfl ?_
    refine vv_mem (M2 := s_cp (upd (s_sh M 390) 1100 (((s_sh M 390) 1100) - 1)) 3 0) cp_0'.symm ?_
    refine lp_X9_changes_2 C (upd (s_sh M 390) 1100 (((s_sh M 390) 1100) - 1)) (pp := 3) hp0 (by omega) ?_ 131 0 (by omega) (by omega)
    refine vv_aload_n C 0 dX9_changes_85 rfl rfl ?_
    refine vv_dup C dX9_changes_86 rfl ?_
    refine vv_geti C (Cn := RX9) (T := TX9) (N := 13) sh_145 2 rfl rfl (by decide) iX9_changes_X9 (List.mem_of_getElem? (i := 1) rfl) rfl dX9_changes_87 ?_
    refine vv_iconst (v := 1) C dX9_changes_90 (by decide) ?_
    refine vv_iadd C dX9_changes_91 ?_
    refine vv_putf C (Cn := RX9) (T := TX9) (N := 13) sh_145 2 rfl rfl (by decide) iX9_changes_X9 (List.mem_of_getElem? (i := 1) rfl) rfl tyX9_ok nmX9 rfl rfl dX9_changes_92 ?_
    exact vv_vret C hR dX9_changes_95 (qVP_of (by rw [show s_cp (upd (s_sh M 390) 1100 (((s_sh M 390) 1100) - 1)) 3 130 1100 + 1 = nI (3 + 1) by rw [cp_lo (by omega), hp0, nI_1]]; exact chg_end hV hh (by omega) hMa hb))
