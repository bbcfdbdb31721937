theorem st_eq {M M3 M4 : mw_M} {P P2 : Nat} (hP : P + 130 ≤ P2 ∨ P2 + 130 ≤ P) (h3 : r_Put (s_dr (s_dr M P P2 0) P P2 1) M3 2 (P + 125) 2 (fun i => (s_dr (s_dr M P P2 0) P P2 1) (P2 + 125 + 2 * i))) (h4 : r_Put M3 M4 2 (P + 126) 2 (fun i => M3 (P2 + 126 + 2 * i))) {M5 : mw_M} (h5 : M5 = upd (upd M4 (P + 124) (M4 (P2 + 124))) (P + 129) (upd M4 (P + 124) (M4 (P2 + 124)) (P2 + 129))) : M5 = s_blk M P P2 130 := by
  have far : ∀ q, ¬ (P ≤ q ∧ q < P + 130) → s_dr (s_dr M P P2 0) P P2 1 q = M q := fun q hq => by
    unfold s_dr
    rw [if_neg (fun z => hq ⟨z.1, z.2.1⟩), if_neg (fun z => hq ⟨z.1, z.2.1⟩)]
  have far4 : ∀ q, ¬ (P + 125 ≤ q ∧ q < P + 129) → M4 q = s_dr (s_dr M P P2 0) P P2 1 q := fun q hq => by
    rw [h4.2 q (fun i hi => by omega), h3.2 q (fun i hi => by omega)]
  subst h5
  funext q
  unfold s_blk
  by_cases hin : P ≤ q ∧ q < P + 130
  · rw [if_pos hin]
    obtain ⟨k, rfl⟩ : ∃ k, q = P + k := ⟨q - P, by omega⟩
    rw [show P + k - P = k by omega]
    by_cases c1 : k = 129
    · subst c1
      rw [upd_s, upd_o (by omega), far4 _ (by omega), far _ (by omega)]
    · by_cases c2 : k = 124
      · subst c2
        rw [upd_o (by omega), upd_s, far4 _ (by omega), far _ (by omega)]
      · rw [upd_o (by omega), upd_o (by omega)]
        by_cases c3 : 125 ≤ k
        · rcases (show k = 125 ∨ k = 126 ∨ k = 127 ∨ k = 128 by omega) with rfl | rfl | rfl | rfl
          · have e := h3.1 0 (by omega)
            rw [h4.2 _ (fun i hi => by omega)]
            exact e.trans (far _ (by omega))
          · have e := h4.1 0 (by omega)
            refine e.trans ?_
            show M3 (P2 + 126 + 2 * 0) = _
            rw [h3.2 _ (fun i hi => by omega)]
            exact far _ (by omega)
          · have e := h3.1 1 (by omega)
            rw [h4.2 _ (fun i hi => by omega)]
            refine Eq.trans ?_ (e.trans ((far _ (by omega)).trans ?_))
            · congr 1
            · congr 1
          · have e := h4.1 1 (by omega)
            refine Eq.trans ?_ (e.trans ?_)
            · congr 1
            · show M3 (P2 + 126 + 2 * 1) = _
              rw [h3.2 _ (fun i hi => by omega)]
              exact (far _ (by omega)).trans (by congr 1)
        · rw [far4 _ (by omega)]
          have hd : dOf k = 0 ∨ dOf k = 1 := by
            unfold dOf
            split
            · omega
            · split
              · omega
              · split <;> omega
          unfold s_dr
          rw [show P + k - P = k by omega]
          rcases hd with hd | hd
          · rw [if_neg (fun z => by rw [hd] at z; exact absurd z.2.2 (by decide)), if_pos ⟨hin.1, hin.2, hd⟩]
          · rw [if_pos ⟨hin.1, hin.2, hd⟩, if_neg (by omega)]
  · rw [if_neg hin, upd_o (by omega), upd_o (by omega), far4 _ (by omega), far _ hin]
def s_keep (M : mw_M) (h : Nat) : mw_M := fun q => if q = 650 then nI (min (h + 1) 4) else if 130 ≤ q ∧ q < 650 then M (q - 130) else M q
def s_rest (M : mw_M) (h : Nat) : mw_M := fun q => if q = 650 then nI (h - 1) else if q < 520 then M (q + 130) else M q
theorem s_blk_o {M : mw_M} {b b2 w q : Nat} (h : ¬ (b ≤ q ∧ q < b + w)) : s_blk M b b2 w q = M q := by unfold s_blk; rw [if_neg h]
theorem s_blk_i {M : mw_M} {b b2 w q : Nat} (h : b ≤ q ∧ q < b + w) : s_blk M b b2 w q = M (b2 + (q - b)) := by unfold s_blk; rw [if_pos h]
theorem min_nI {a : Nat} (h : a < 1000) : (if (4 : Int32) < nI a then 4 else nI a) = nI (min a 4) := by
  by_cases z : 4 < a
  · rw [if_pos (show (4 : Int32) < nI a from nI_lt (a := 4) z (by omega)), Nat.min_eq_right (by omega)]
    rfl
  · rw [if_neg (show ¬ (4 : Int32) < nI a from nI_nlt (b := a) (a := 4) (by omega) (by omega)), Nat.min_eq_left (by omega)]
theorem keep_eq {M : mw_M} {h : Nat} (hh : M 650 = nI h) (h4 : h ≤ 4) : upd (s_blk (s_blk (s_blk (s_blk M 520 390 130) 390 260 130) 260 130 130) 130 0 130) 650 (if 4 < (s_blk (s_blk (s_blk (s_blk M 520 390 130) 390 260 130) 260 130 130) 130 0 130) 650 + 1 then 4 else (s_blk (s_blk (s_blk (s_blk M 520 390 130) 390 260 130) 260 130 130) 130 0 130) 650 + 1) = s_keep M h := by
  funext q
  unfold s_keep
  rw [s_blk_o (q := 650) (by omega), s_blk_o (q := 650) (by omega), s_blk_o (q := 650) (by omega), s_blk_o (q := 650) (by omega), hh, nI_1, min_nI (by omega)]
  by_cases h1 : q = 650
  · rw [if_pos h1, h1, upd_s]
  · rw [if_neg h1, upd_o h1]
    by_cases c1 : 130 ≤ q ∧ q < 260
    · rw [s_blk_i (by omega), s_blk_o (by omega), s_blk_o (by omega), s_blk_o (by omega), if_pos (by omega)]
      exact congrArg M (by omega)
    · rw [s_blk_o (by omega)]
      by_cases c2 : 260 ≤ q ∧ q < 390
      · rw [s_blk_i (by omega), s_blk_o (by omega), s_blk_o (by omega), if_pos (by omega)]
        exact congrArg M (by omega)
      · rw [s_blk_o (by omega)]
        by_cases c3 : 390 ≤ q ∧ q < 520
        · rw [s_blk_i (by omega), s_blk_o (by omega), if_pos (by omega)]
          exact congrArg M (by omega)
        · rw [s_blk_o (by omega)]
          by_cases c4 : 520 ≤ q ∧ q < 650
          · rw [s_blk_i (by omega), if_pos (by omega)]
            exact congrArg M (by omega)
          · rw [s_blk_o (by omega), if_neg (by omega)]
theorem max_nI {a : Nat} (h : a < 1000) : (if nI a < (0 : Int32) then 0 else nI a) = nI a := if_neg (nI_pos (by omega))
theorem rest_eq {M : mw_M} {h : Nat} (hh : M 650 = nI h) (h1 : 1 ≤ h) (h4 : h ≤ 4) : upd (s_blk (s_blk (s_blk (s_blk M 0 130 130) 130 260 130) 260 390 130) 390 520 130) 650 (if (s_blk (s_blk (s_blk (s_blk M 0 130 130) 130 260 130) 260 390 130) 390 520 130) 650 - 1 < 0 then 0 else (s_blk (s_blk (s_blk (s_blk M 0 130 130) 130 260 130) 260 390 130) 390 520 130) 650 - 1) = s_rest M h := by
  funext q
  unfold s_rest
  rw [s_blk_o (q := 650) (by omega), s_blk_o (q := 650) (by omega), s_blk_o (q := 650) (by omega), s_blk_o (q := 650) (by omega), hh, show nI h - 1 = nI (h - 1) from pk_sub (show 1 ≤ h from h1), max_nI (by omega)]
  by_cases c0 : q = 650
  · rw [if_pos c0, c0, upd_s]
  · rw [if_neg c0, upd_o c0]
    by_cases c4 : 390 ≤ q ∧ q < 520
    · rw [s_blk_i (by omega), s_blk_o (by omega), s_blk_o (by omega), s_blk_o (by omega), if_pos (by omega)]
      exact congrArg M (by omega)
    · rw [s_blk_o (by omega)]
      by_cases c3 : 260 ≤ q ∧ q < 390
      · rw [s_blk_i (by omega), s_blk_o (by omega), s_blk_o (by omega), if_pos (by omega)]
        exact congrArg M (by omega)
      · rw [s_blk_o (by omega)]
        by_cases c2 : 130 ≤ q ∧ q < 260
        · rw [s_blk_i (by omega), s_blk_o (by omega), if_pos (by omega)]
          exact congrArg M (by omega)
        · rw [s_blk_o (by omega)]
          by_cases c1 : q < 130
          · rw [s_blk_i (by omega), if_pos (by omega)]
            exact congrArg M (by omega)
          · rw [s_blk_o (by omega), if_neg (by omega)]
/-- the character at a place of the text, -1 behind its end -/
def chA (M : mw_M) (t p : Nat) : Int32 := if p < t then M (1000 + p) else -1

theorem iX6_drawer_X6 : ∀ w ∈ u_ws RX6 TX6 6, w ∈ wsX6_drawer := fun w hw => (List.mem_cons_of_mem _ (List.mem_append_right _ hw))
set_option maxRecDepth 100000 in
set_option maxHeartbeats 4000000 in
theorem c_X6_drawer {l : Launch} {G : mw_GG} (M : mw_M) (x : Int32) : mw_Met l yX6_drawer wsX6_drawer ({ frames := 0, cells := 0, slots := 0, locals := 0 } : Room) G [.ref (G.1 0), .int x] M (qR (G.1 (1 + 10 * dN x)) M) := by
  refine mw_ofV (cc := cX6_drawer) 2 (by decide) rfl rfl (Nat.le_of_ble_eq_true rfl) ?_
  intro p e s m args below meth c C hR hN0
  refine vv_loc (ls2 := [some (.ref (G.1 0)), some (.int x)]) rfl ?_
  refine vv_iload_n C 1 dX6_drawer_0 rfl rfl ?_
  refine vv_if_ne C 11 dX6_drawer_1 (by decide) (fun h_1 => ?_) (fun h_2 => ?_)
  · refine vv_aload_n C 0 dX6_drawer_11 rfl rfl ?_
    refine vv_getr C (Cn := RX6) (T := TX6) (N := 6) sh_0 1 rfl rfl (by decide) iX6_drawer_X6 (List.mem_of_getElem? (i := 2) rfl) rfl dX6_drawer_12 ?_
    exact vv_aret C hR dX6_drawer_15 (qR_of (by simp [dN, h_1]) rfl)
  · refine vv_aload_n C 0 dX6_drawer_4 rfl rfl ?_
    refine vv_getr C (Cn := RX6) (T := TX6) (N := 6) sh_0 0 rfl rfl (by decide) iX6_drawer_X6 (List.mem_of_getElem? (i := 1) rfl) rfl dX6_drawer_5 ?_
    refine vv_goto C 15 dX6_drawer_8 (by decide) ?_
    exact vv_aret C hR dX6_drawer_15 (qR_of (by simp [dN, h_2]) rfl)
theorem iX6_isOfBoth_X6 : ∀ w ∈ u_ws RX6 TX6 6, w ∈ wsX6_isOfBoth := fun w hw => (List.mem_cons_of_mem _ (List.mem_append_right _ hw))
set_option maxRecDepth 100000 in
set_option maxHeartbeats 4000000 in
theorem c_X6_isOfBoth {l : Launch} {G : mw_GG} (M : mw_M) : mw_Met l yX6_isOfBoth wsX6_isOfBoth ({ frames := 0, cells := 0, slots := 0, locals := 0 } : Room) G [.ref (G.1 0)] M (qI (bI (M 124 = 1)) M) := by
  refine mw_ofV (cc := cX6_isOfBoth) 1 (by decide) rfl rfl (Nat.le_of_ble_eq_true rfl) ?_
  intro p e s m args below meth c C hR hN0
  refine vv_loc (ls2 := [some (.ref (G.1 0))]) rfl ?_
  refine vv_aload_n C 0 dX6_isOfBoth_0 rfl rfl ?_
  refine vv_geti C (Cn := RX6) (T := TX6) (N := 6) sh_0 4 rfl rfl (by decide) iX6_isOfBoth_X6 (List.mem_of_getElem? (i := 1) rfl) rfl dX6_isOfBoth_1 ?_
  refine vv_iconst (v := 1) C dX6_isOfBoth_4 (by decide) ?_
  refine vv_icmp_ne C 12 dX6_isOfBoth_5 (by decide) (fun h_1 => ?_) (fun h_2 => ?_)
  · refine vv_iconst (v := 0) C dX6_isOfBoth_12 (by decide) ?_
    exact vv_zret0 C hR dX6_isOfBoth_13 (qI_of (by simp [bI, h_1]) (rfl))
  · refine vv_iconst (v := 1) C dX6_isOfBoth_8 (by decide) ?_
    refine vv_goto C 13 dX6_isOfBoth_9 (by decide) ?_
    exact vv_zret1 C hR dX6_isOfBoth_13 (qI_of (by simp [bI, h_2]) (rfl))
theorem iX6_askBoth_X6 : ∀ w ∈ u_ws RX6 TX6 6, w ∈ wsX6_askBoth := fun w hw => (List.mem_cons_of_mem _ (List.mem_append_right _ hw))
set_option maxRecDepth 100000 in
set_option maxHeartbeats 4000000 in
theorem c_X6_askBoth {l : Launch} {G : mw_GG} (M : mw_M) (x : Int32) : mw_Met l yX6_askBoth wsX6_askBoth ({ frames := 0, cells := 0, slots := 0, locals := 0 } : Room) G [.ref (G.1 0), .int x] M (qI (M 124) (upd M 124 x)) := by
  refine mw_ofV (cc := cX6_askBoth) 3 (by decide) rfl rfl (Nat.le_of_ble_eq_true rfl) ?_
  intro p e s m args below meth c C hR hN0
  refine vv_loc (ls2 := [some (.ref (G.1 0)), some (.int x), none]) rfl ?_
  refine vv_aload_n C 0 dX6_askBoth_0 rfl rfl ?_
  refine vv_geti C (Cn := RX6) (T := TX6) (N := 6) sh_0 4 rfl rfl (by decide) iX6_askBoth_X6 (List.mem_of_getElem? (i := 1) rfl) rfl dX6_askBoth_1 ?_
  refine vv_istore_n (ls2 := [some (.ref (G.1 0)), some (.int x), some (.int (M 124))]) C 2 dX6_askBoth_4 rfl (Nat.le_of_ble_eq_true rfl) rfl ?_
  refine vv_aload_n C 0 dX6_askBoth_5 rfl rfl ?_
  refine vv_iload_n C 1 dX6_askBoth_6 rfl rfl ?_
  refine vv_putf C (Cn := RX6) (T := TX6) (N := 6) sh_0 4 rfl rfl (by decide) iX6_askBoth_X6 (List.mem_of_getElem? (i := 1) rfl) rfl tyX6_ok nmX6 rfl rfl dX6_askBoth_7 ?_
  refine vv_iload_n C 2 dX6_askBoth_10 rfl rfl ?_
  exact vv_iret C hR dX6_askBoth_11 (qI_of (rfl) (rfl))
theorem iX6_orderColumn_X6 : ∀ w ∈ u_ws RX6 TX6 6, w ∈ wsX6_orderColumn := fun w hw => (List.mem_cons_of_mem _ (List.mem_append_left _ (List.mem_append_right _ hw)))
set_option maxRecDepth 100000 in
set_option maxHeartbeats 4000000 in
theorem c_X6_orderColumn {l : Launch} {G : mw_GG} (M : mw_M) {i : Int32} {j : Nat} (hi : i = nI j) (hj : j < 2) : mw_Met l yX6_orderColumn wsX6_orderColumn ({ frames := 1, cells := 0, slots := 0, locals := 21 } : Room) G [.ref (G.1 0), .int i] M (qI (M (125 + 2 * j)) M) := by
  refine mw_ofV (cc := cX6_orderColumn) 2 (by decide) rfl rfl (Nat.le_of_ble_eq_true rfl) ?_
  intro p e s m args below meth c C hR hN0
  refine vv_loc (ls2 := [some (.ref (G.1 0)), some (.int i)]) rfl ?_
  refine vv_aload_n C 0 dX6_orderColumn_0 rfl rfl ?_
  refine vv_getr C (Cn := RX6) (T := TX6) (N := 6) sh_0 2 rfl rfl (by decide) iX6_orderColumn_X6 (List.mem_of_getElem? (i := 1) rfl) rfl dX6_orderColumn_1 ?_
  refine vv_iload_n C 1 dX6_orderColumn_4 rfl rfl ?_
  refine vv_callVI C [.int i] (c_X3_at nu_21 M (i := i) (j := j) hi hj) nu_21.1 rfl (cwV 1 C.1.2.2.2.2 gX6_orderColumn_X3_at rfl rfl rfl (by decide +kernel) ⟨Nat.le_of_ble_eq_true rfl, Nat.le_of_ble_eq_true rfl⟩) rfl rfl rfl (Nat.le_of_ble_eq_true rfl) dX6_orderColumn_5 ⟨Nat.le_refl _, Nat.le_refl _⟩ ?_
  exact vv_iret C hR dX6_orderColumn_8 (qI_of (rfl) (rfl))
theorem iX6_isDownwards_X6 : ∀ w ∈ u_ws RX6 TX6 6, w ∈ wsX6_isDownwards := fun w hw => (List.mem_cons_of_mem _ (List.mem_append_left _ (List.mem_append_right _ hw)))
set_option maxRecDepth 100000 in
set_option maxHeartbeats 4000000 in
theorem c_X6_isDownwards {l : Launch} {G : mw_GG} (M : mw_M) {i : Int32} {j : Nat} (hi : i = nI j) (hj : j < 2) : mw_Met l yX6_isDownwards wsX6_isDownwards ({ frames := 1, cells := 0, slots := 0, locals := 21 } : Room) G [.ref (G.1 0), .int i] M (qI (bI (M (126 + 2 * j) = 1)) M) := by
  refine mw_ofV (cc := cX6_isDownwards) 2 (by decide) rfl rfl (Nat.le_of_ble_eq_true rfl) ?_
  intro p e s m args below meth c C hR hN0
  refine vv_loc (ls2 := [some (.ref (G.1 0)), some (.int i)]) rfl ?_
  refine vv_aload_n C 0 dX6_isDownwards_0 rfl rfl ?_
  refine vv_getr C (Cn := RX6) (T := TX6) (N := 6) sh_0 3 rfl rfl (by decide) iX6_isDownwards_X6 (List.mem_of_getElem? (i := 1) rfl) rfl dX6_isDownwards_1 ?_
  refine vv_iload_n C 1 dX6_isDownwards_4 rfl rfl ?_
  refine vv_callVI C [.int i] (c_X3_at nu_23 M (i := i) (j := j) hi hj) nu_23.1 rfl (cwV 1 C.1.2.2.2.2 gX6_isDownwards_X3_at rfl rfl rfl (by decide +kernel) ⟨Nat.le_of_ble_eq_true rfl, Nat.le_of_ble_eq_true rfl⟩) rfl rfl rfl (Nat.le_of_ble_eq_true rfl) dX6_isDownwards_5 ⟨Nat.le_refl _, Nat.le_refl _⟩ ?_
  refine vv_iconst (v := 1) C dX6_isDownwards_8 (by decide) ?_
  refine vv_icmp_ne C 16 dX6_isDownwards_9 (by decide) (fun h_1 => ?_) (fun h_2 => ?_)
  · refine vv_iconst (v := 0) C dX6_isDownwards_16 (by decide) ?_
    exact vv_zret0 C hR dX6_isDownwards_17 (qI_of (by simp [bI, h_1]) (rfl))
  · refine vv_iconst (v := 1) C dX6_isDownwards_12 (by decide) ?_
    refine vv_goto C 17 dX6_isDownwards_13 (by decide) ?_
    exact vv_zret1 C hR dX6_isDownwards_17 (qI_of (by simp [bI, h_2]) (rfl))
theorem iX6_setOrder_X6 : ∀ w ∈ u_ws RX6 TX6 6, w ∈ wsX6_setOrder := fun w hw => (List.mem_cons_of_mem _ (List.mem_append_left _ (List.mem_append_right _ hw)))
set_option maxRecDepth 100000 in
set_option maxHeartbeats 4000000 in
theorem c_X6_setOrder {l : Launch} {G : mw_GG} (M : mw_M) {i : Int32} {j : Nat} (hi : i = nI j) (hj : j < 2) (u v : Int32) : mw_Met l yX6_setOrder wsX6_setOrder ({ frames := 1, cells := 0, slots := 0, locals := 22 } : Room) G [.ref (G.1 0), .int i, .int u, .int v] M (qV (upd (upd M (125 + 2 * j) u) (126 + 2 * j) v)) := by
  refine mw_ofV (cc := cX6_setOrder) 4 (by decide) rfl rfl (Nat.le_of_ble_eq_true rfl) ?_
  intro p e s m args below meth c C hR hN0
  refine vv_loc (ls2 := [some (.ref (G.1 0)), some (.int i), some (.int u), some (.int v)]) rfl ?_
  refine vv_aload_n C 0 dX6_setOrder_0 rfl rfl ?_
  refine vv_getr C (Cn := RX6) (T := TX6) (N := 6) sh_0 2 rfl rfl (by decide) iX6_setOrder_X6 (List.mem_of_getElem? (i := 1) rfl) rfl dX6_setOrder_1 ?_
  refine vv_iload_n C 1 dX6_setOrder_4 rfl rfl ?_
  refine vv_iload_n C 2 dX6_setOrder_5 rfl rfl ?_
  refine vv_callVV C [.int i, .int u] (c_X3_set nu_21 M (i := i) (j := j) hi hj u) nu_21.1 rfl (cwV 2 C.1.2.2.2.2 gX6_setOrder_X3_set rfl rfl rfl (by decide +kernel) ⟨Nat.le_of_ble_eq_true rfl, Nat.le_of_ble_eq_true rfl⟩) rfl rfl rfl (Nat.le_of_ble_eq_true rfl) dX6_setOrder_6 ⟨Nat.le_refl _, Nat.le_refl _⟩ ?_
  refine vv_aload_n C 0 dX6_setOrder_9 rfl rfl ?_
  refine vv_getr C (Cn := RX6) (T := TX6) (N := 6) sh_0 3 rfl rfl (by decide) iX6_setOrder_X6 (List.mem_of_getElem? (i := 2) rfl) rfl dX6_setOrder_10 ?_
  refine vv_iload_n C 1 dX6_setOrder_13 rfl rfl ?_
  refine vv_iload_n C 3 dX6_setOrder_14 rfl rfl ?_
  refine vv_callVV C [.int i, .int v] (c_X3_set nu_23 (upd M (125 + 2 * j) u) (i := i) (j := j) hi hj v) nu_23.1 rfl (cwV 2 C.1.2.2.2.2 gX6_setOrder_X3_set rfl rfl rfl (by decide +kernel) ⟨Nat.le_of_ble_eq_true rfl, Nat.le_of_ble_eq_true rfl⟩) rfl rfl rfl (Nat.le_of_ble_eq_true rfl) dX6_setOrder_15 ⟨Nat.le_refl _, Nat.le_refl _⟩ ?_
  exact vv_vret C hR dX6_setOrder_18 (qV_of (rfl))
theorem iX6_shownSet_X6 : ∀ w ∈ u_ws RX6 TX6 6, w ∈ wsX6_shownSet := fun w hw => (List.mem_cons_of_mem _ (List.mem_append_right _ hw))
set_option maxRecDepth 100000 in
set_option maxHeartbeats 4000000 in
theorem c_X6_shownSet {l : Launch} {G : mw_GG} (M : mw_M) : mw_Met l yX6_shownSet wsX6_shownSet ({ frames := 0, cells := 0, slots := 0, locals := 0 } : Room) G [.ref (G.1 0)] M (qI (M 129) M) := by
  refine mw_ofV (cc := cX6_shownSet) 1 (by decide) rfl rfl (Nat.le_of_ble_eq_true rfl) ?_
  intro p e s m args below meth c C hR hN0
  refine vv_loc (ls2 := [some (.ref (G.1 0))]) rfl ?_
  refine vv_aload_n C 0 dX6_shownSet_0 rfl rfl ?_
  refine vv_geti C (Cn := RX6) (T := TX6) (N := 6) sh_0 5 rfl rfl (by decide) iX6_shownSet_X6 (List.mem_of_getElem? (i := 1) rfl) rfl dX6_shownSet_1 ?_
  exact vv_iret C hR dX6_shownSet_4 (qI_of (rfl) (rfl))
theorem iX6_setShown_X6 : ∀ w ∈ u_ws RX6 TX6 6, w ∈ wsX6_setShown := fun w hw => (List.mem_cons_of_mem _ (List.mem_append_right _ hw))
set_option maxRecDepth 100000 in
set_option maxHeartbeats 4000000 in
theorem c_X6_setShown {l : Launch} {G : mw_GG} (M : mw_M) (x : Int32) : mw_Met l yX6_setShown wsX6_setShown ({ frames := 0, cells := 0, slots := 0, locals := 0 } : Room) G [.ref (G.1 0), .int x] M (qV (upd M 129 x)) := by
  refine mw_ofV (cc := cX6_setShown) 2 (by decide) rfl rfl (Nat.le_of_ble_eq_true rfl) ?_
  intro p e s m args below meth c C hR hN0
  refine vv_loc (ls2 := [some (.ref (G.1 0)), some (.int x)]) rfl ?_
  refine vv_aload_n C 0 dX6_setShown_0 rfl rfl ?_
  refine vv_iload_n C 1 dX6_setShown_1 rfl rfl ?_
  refine vv_putf C (Cn := RX6) (T := TX6) (N := 6) sh_0 5 rfl rfl (by decide) iX6_setShown_X6 (List.mem_of_getElem? (i := 1) rfl) rfl tyX6_ok nmX6 rfl rfl dX6_setShown_2 ?_
  exact vv_vret C hR dX6_setShown_5 (qV_of (rfl))
theorem iX6_isAsked_X6 : ∀ w ∈ u_ws RX6 TX6 6, w ∈ wsX6_isAsked := fun w hw => (List.mem_cons_of_mem _ (List.mem_append_left _ (List.mem_append_right _ hw)))
set_option maxRecDepth 100000 in
set_option maxHeartbeats 4000000 in
theorem c_X6_isAsked {l : Launch} {G : mw_GG} (M : mw_M) (x : Int32) : mw_Met l yX6_isAsked wsX6_isAsked ({ frames := 1, cells := 0, slots := 0, locals := 21 } : Room) G [.ref (G.1 0), .int x] M (qI (bI (askP M x)) M) := by
  refine mw_ofV (cc := cX6_isAsked) 2 (by decide) rfl rfl (Nat.le_of_ble_eq_true rfl) ?_
  intro p e s m args below meth c C hR hN0
  refine vv_loc (ls2 := [some (.ref (G.1 0)), some (.int x)]) rfl ?_
  refine vv_iload_n C 1 dX6_isAsked_0 rfl rfl ?_
  refine vv_iconst (v := 4) C dX6_isAsked_1 (by decide) ?_
  refine vv_icmp_ge C 14 dX6_isAsked_2 (by decide) (fun h_1 => ?_) (fun h_2 => ?_)
  · refine vv_aload_n C 0 dX6_isAsked_14 rfl rfl ?_
    refine vv_callVI C [] (c_X6_isOfBoth M) sh_0 rfl (cwV 0 C.1.2.2.2.2 gX6_isAsked_X6_isOfBoth rfl rfl rfl (by decide +kernel) ⟨Nat.le_of_ble_eq_true rfl, Nat.le_of_ble_eq_true rfl⟩) rfl rfl rfl (Nat.le_of_ble_eq_true rfl) dX6_isAsked_15 ⟨Nat.le_refl _, Nat.le_refl _⟩ ?_
    refine vv_bif_eq C 38 dX6_isAsked_18 (by decide) (fun h_3 => ?_) (fun h_4 => ?_)
    · refine vv_iconst (v := 0) C dX6_isAsked_38 (by decide) ?_
      exact vv_zret0 C hR dX6_isAsked_39 (qI_of (bI_f (fun z => z.elim (fun q => q.1 h_1) (fun q => h_3 q.2.1))).symm rfl)
    · refine vv_aload_n C 0 dX6_isAsked_21 rfl rfl ?_
      refine vv_getr C (Cn := RX6) (T := TX6) (N := 6) sh_0 1 rfl rfl (by decide) iX6_isAsked_X6 (List.mem_of_getElem? (i := 2) rfl) rfl dX6_isAsked_22 ?_
      refine vv_iload_n C 1 dX6_isAsked_25 rfl rfl ?_
      refine vv_iconst (v := 4) C dX6_isAsked_26 (by decide) ?_
      refine vv_isub C dX6_isAsked_27 ?_
      refine vv_callVI C [.int (x - 4)] (c_X0_hasColumn (d := 1) (show 1 < 2 by decide) M (x - 4)) dw_1.1 rfl (cwV 1 C.1.2.2.2.2 gX6_isAsked_X0_hasColumn rfl rfl rfl (by decide +kernel) ⟨Nat.le_of_ble_eq_true rfl, Nat.le_of_ble_eq_true rfl⟩) rfl rfl rfl (Nat.le_of_ble_eq_true rfl) dX6_isAsked_28 ⟨Nat.le_refl _, Nat.le_refl _⟩ ?_
      refine vv_bif_eq C 38 dX6_isAsked_31 (by decide) (fun h_5 => ?_) (fun h_6 => ?_)
      · refine vv_iconst (v := 0) C dX6_isAsked_38 (by decide) ?_
        exact vv_zret0 C hR dX6_isAsked_39 (qI_of (bI_f (fun z => z.elim (fun q => q.1 h_1) (fun q => h_5 q.2.2))).symm rfl)
      · refine vv_iconst (v := 1) C dX6_isAsked_34 (by decide) ?_
        refine vv_goto C 39 dX6_isAsked_35 (by decide) ?_
        exact vv_zret1 C hR dX6_isAsked_39 (qI_of (bI_t (Or.inr ⟨h_1, h_4, h_6⟩)).symm rfl)
  · refine vv_aload_n C 0 dX6_isAsked_5 rfl rfl ?_
    refine vv_getr C (Cn := RX6) (T := TX6) (N := 6) sh_0 0 rfl rfl (by decide) iX6_isAsked_X6 (List.mem_of_getElem? (i := 1) rfl) rfl dX6_isAsked_6 ?_
    refine vv_iload_n C 1 dX6_isAsked_9 rfl rfl ?_
    refine vv_callVI C [.int x] (c_X0_hasColumn (d := 0) (show 0 < 2 by decide) M x) dw_0.1 rfl (cwV 1 C.1.2.2.2.2 gX6_isAsked_X0_hasColumn rfl rfl rfl (by decide +kernel) ⟨Nat.le_of_ble_eq_true rfl, Nat.le_of_ble_eq_true rfl⟩) rfl rfl rfl (Nat.le_of_ble_eq_true rfl) dX6_isAsked_10 ⟨Nat.le_refl _, Nat.le_refl _⟩ ?_
    exact vv_zret C hR dX6_isAsked_13 (qI_of (bI_c ⟨fun z => Or.inl ⟨h_2, z⟩, fun z => z.elim (fun q => q.2) (fun q => absurd q.1 h_2)⟩) rfl)
theorem iX6_isShown_X6 : ∀ w ∈ u_ws RX6 TX6 6, w ∈ wsX6_isShown := fun w hw => (List.mem_cons_of_mem _ (List.mem_append_left _ (List.mem_append_right _ hw)))
set_option maxRecDepth 100000 in
set_option maxHeartbeats 4000000 in
theorem c_X6_isShown {l : Launch} {G : mw_GG} (M : mw_M) (x : Int32) : mw_Met l yX6_isShown wsX6_isShown ({ frames := 2, cells := 0, slots := 0, locals := 42 } : Room) G [.ref (G.1 0), .int x] M (qI (bI (shwP M x)) M) := by
  refine mw_ofV (cc := cX6_isShown) 2 (by decide) rfl rfl (Nat.le_of_ble_eq_true rfl) ?_
  intro p e s m args below meth c C hR hN0
  refine vv_loc (ls2 := [some (.ref (G.1 0)), some (.int x)]) rfl ?_
  refine vv_aload_n C 0 dX6_isShown_0 rfl rfl ?_
  refine vv_iload_n C 1 dX6_isShown_1 rfl rfl ?_
  refine vv_callVI C [.int x] (c_X6_isAsked M x) sh_0 rfl (cwV 1 C.1.2.2.2.2 gX6_isShown_X6_isAsked rfl rfl rfl (by decide +kernel) ⟨Nat.le_of_ble_eq_true rfl, Nat.le_of_ble_eq_true rfl⟩) rfl rfl rfl (Nat.le_of_ble_eq_true rfl) dX6_isShown_2 ⟨Nat.le_refl _, Nat.le_refl _⟩ ?_
  refine vv_bif_eq C 24 dX6_isShown_5 (by decide) (fun h_1 => ?_) (fun h_2 => ?_)
  · refine vv_iconst (v := 0) C dX6_isShown_24 (by decide) ?_
    exact vv_zret0 C hR dX6_isShown_25 (qI_of (bI_f (fun z => h_1 z.1)).symm rfl)
  · refine vv_aload_n C 0 dX6_isShown_8 rfl rfl ?_
    refine vv_geti C (Cn := RX6) (T := TX6) (N := 6) sh_0 5 rfl rfl (by decide) iX6_isShown_X6 (List.mem_of_getElem? (i := 1) rfl) rfl dX6_isShown_9 ?_
    refine vv_iload_n C 1 dX6_isShown_12 rfl rfl ?_
    refine vv_ishr C dX6_isShown_13 ?_
    refine vv_iconst (v := 1) C dX6_isShown_14 (by decide) ?_
    refine vv_iand C dX6_isShown_15 ?_
    refine vv_iconst (v := 1) C dX6_isShown_16 (by decide) ?_
    refine vv_icmp_ne C 24 dX6_isShown_17 (by decide) (fun h_3 => ?_) (fun h_4 => ?_)
    · refine vv_iconst (v := 0) C dX6_isShown_24 (by decide) ?_
      exact vv_zret0 C hR dX6_isShown_25 (qI_of (bI_f (fun z => h_3 z.2)).symm rfl)
    · refine vv_iconst (v := 1) C dX6_isShown_20 (by decide) ?_
      refine vv_goto C 25 dX6_isShown_21 (by decide) ?_
      exact vv_zret1 C hR dX6_isShown_25 (qI_of (bI_t ⟨h_2, h_4⟩).symm rfl)
theorem iX6_entry_X6 : ∀ w ∈ u_ws RX6 TX6 6, w ∈ wsX6_entry := fun w hw => (List.mem_cons_of_mem _ (List.mem_append_left _ (List.mem_append_left _ (List.mem_append_right _ hw))))
set_option maxRecDepth 100000 in
set_option maxHeartbeats 4000000 in
theorem c_X6_entry {l : Launch} {G : mw_GG} (M : mw_M) (hz0 : szP M 0) (hz1 : szP M 1) (x y : Int32) : mw_Met l yX6_entry wsX6_entry ({ frames := 2, cells := 0, slots := 0, locals := 43 } : Room) G [.ref (G.1 0), .int x, .int y] M (qI (rowE M x y) M) := by
  refine mw_ofV (cc := cX6_entry) 3 (by decide) rfl rfl (Nat.le_of_ble_eq_true rfl) ?_
  intro p e s m args below meth c C hR hN0
  refine vv_loc (ls2 := [some (.ref (G.1 0)), some (.int x), some (.int y)]) rfl ?_
  refine vv_iload_n C 1 dX6_entry_0 rfl rfl ?_
  refine vv_iconst (v := 4) C dX6_entry_1 (by decide) ?_
  refine vv_icmp_ge C 18 dX6_entry_2 (by decide) (fun h_1 => ?_) (fun h_2 => ?_)
  · refine vv_aload_n C 0 dX6_entry_18 rfl rfl ?_
    refine vv_getr C (Cn := RX6) (T := TX6) (N := 6) sh_0 1 rfl rfl (by decide) iX6_entry_X6 (List.mem_of_getElem? (i := 2) rfl) rfl dX6_entry_19 ?_
    refine vv_iload_n C 2 dX6_entry_22 rfl rfl ?_
    refine vv_bipush (v := 12) C dX6_entry_23 (by decide) ?_
    refine vv_irem C dX6_entry_25 (by decide) ?_
    refine vv_iload_n C 1 dX6_entry_26 rfl rfl ?_
    refine vv_iconst (v := 4) C dX6_entry_27 (by decide) ?_
    refine vv_isub C dX6_entry_28 ?_
    refine vv_callVI C [.int (y - y / 12 * 12), .int (x - 4)] (c_X0_entry (d := 1) (show 1 < 2 by decide) M hz1 (y - y / 12 * 12) (x - 4)) dw_1.1 rfl (cwV 2 C.1.2.2.2.2 gX6_entry_X0_entry rfl rfl rfl (by decide +kernel) ⟨Nat.le_of_ble_eq_true rfl, Nat.le_of_ble_eq_true rfl⟩) rfl rfl rfl (Nat.le_of_ble_eq_true rfl) dX6_entry_29 ⟨Nat.le_refl _, Nat.le_refl _⟩ ?_
    exact vv_iret C hR dX6_entry_32 (qI_of (by unfold rowE; rw [if_pos h_1]) (rfl))
  · refine vv_aload_n C 0 dX6_entry_5 rfl rfl ?_
    refine vv_getr C (Cn := RX6) (T := TX6) (N := 6) sh_0 0 rfl rfl (by decide) iX6_entry_X6 (List.mem_of_getElem? (i := 1) rfl) rfl dX6_entry_6 ?_
    refine vv_iload_n C 2 dX6_entry_9 rfl rfl ?_
    refine vv_bipush (v := 12) C dX6_entry_10 (by decide) ?_
    refine vv_idiv C dX6_entry_12 (by decide) ?_
    refine vv_iload_n C 1 dX6_entry_13 rfl rfl ?_
    refine vv_callVI C [.int (y / 12), .int x] (c_X0_entry (d := 0) (show 0 < 2 by decide) M hz0 (y / 12) x) dw_0.1 rfl (cwV 2 C.1.2.2.2.2 gX6_entry_X0_entry rfl rfl rfl (by decide +kernel) ⟨Nat.le_of_ble_eq_true rfl, Nat.le_of_ble_eq_true rfl⟩) rfl rfl rfl (Nat.le_of_ble_eq_true rfl) dX6_entry_14 ⟨Nat.le_refl _, Nat.le_refl _⟩ ?_
    exact vv_iret C hR dX6_entry_17 (qI_of (by unfold rowE; rw [if_neg h_2]) (rfl))
theorem iX6_exampleOf_X6 : ∀ w ∈ u_ws RX6 TX6 6, w ∈ wsX6_exampleOf := fun w hw => (List.mem_cons_of_mem _ (List.mem_append_left _ (List.mem_append_right _ hw)))
set_option maxRecDepth 100000 in
set_option maxHeartbeats 4000000 in
theorem c_X6_exampleOf {l : Launch} {G : mw_GG} (M : mw_M) (x : Int32) : mw_Met l yX6_exampleOf wsX6_exampleOf ({ frames := 1, cells := 0, slots := 0, locals := 20 } : Room) G [.ref (G.1 0), .int x] M (qR (G.1 (4 + 10 * xN x)) M) := by
  refine mw_ofV (cc := cX6_exampleOf) 2 (by decide) rfl rfl (Nat.le_of_ble_eq_true rfl) ?_
  intro p e s m args below meth c C hR hN0
  refine vv_loc (ls2 := [some (.ref (G.1 0)), some (.int x)]) rfl ?_
  refine vv_iload_n C 1 dX6_exampleOf_0 rfl rfl ?_
  refine vv_iconst (v := 4) C dX6_exampleOf_1 (by decide) ?_
  refine vv_icmp_ge C 15 dX6_exampleOf_2 (by decide) (fun h_1 => ?_) (fun h_2 => ?_)
  · refine vv_aload_n C 0 dX6_exampleOf_15 rfl rfl ?_
    refine vv_getr C (Cn := RX6) (T := TX6) (N := 6) sh_0 1 rfl rfl (by decide) iX6_exampleOf_X6 (List.mem_of_getElem? (i := 2) rfl) rfl dX6_exampleOf_16 ?_
    refine vv_callVR C [] (c_X0_example (d := 1) (show 1 < 2 by decide) M) dw_1.1 rfl (cwV 0 C.1.2.2.2.2 gX6_exampleOf_X0_example rfl rfl rfl (by decide +kernel) ⟨Nat.le_of_ble_eq_true rfl, Nat.le_of_ble_eq_true rfl⟩) rfl rfl rfl (Nat.le_of_ble_eq_true rfl) dX6_exampleOf_19 ⟨Nat.le_refl _, Nat.le_refl _⟩ ?_
    exact vv_aret C hR dX6_exampleOf_22 (qR_of (by simp [xN, h_1]) rfl)
  · refine vv_aload_n C 0 dX6_exampleOf_5 rfl rfl ?_
    refine vv_getr C (Cn := RX6) (T := TX6) (N := 6) sh_0 0 rfl rfl (by decide) iX6_exampleOf_X6 (List.mem_of_getElem? (i := 1) rfl) rfl dX6_exampleOf_6 ?_
    refine vv_callVR C [] (c_X0_example (d := 0) (show 0 < 2 by decide) M) dw_0.1 rfl (cwV 0 C.1.2.2.2.2 gX6_exampleOf_X0_example rfl rfl rfl (by decide +kernel) ⟨Nat.le_of_ble_eq_true rfl, Nat.le_of_ble_eq_true rfl⟩) rfl rfl rfl (Nat.le_of_ble_eq_true rfl) dX6_exampleOf_9 ⟨Nat.le_refl _, Nat.le_refl _⟩ ?_
    refine vv_goto C 22 dX6_exampleOf_12 (by decide) ?_
    exact vv_aret C hR dX6_exampleOf_22 (qR_of (by simp [xN, h_2]) rfl)
theorem iX6_copyFrom_X6 : ∀ w ∈ u_ws RX6 TX6 6, w ∈ wsX6_copyFrom := fun w hw => (List.mem_cons_of_mem _ (List.mem_append_left _ (List.mem_append_left _ (List.mem_append_left _ (List.mem_append_right _ hw)))))
set_option maxRecDepth 100000 in
set_option maxHeartbeats 4000000 in
theorem c_X6_copyFrom {l : Launch} {G : mw_GG} {x P x2 P2 : Nat} (hX : mw_St x P) (hX2 : mw_St x2 P2) (hP : P + 130 ≤ P2 ∨ P2 + 130 ≤ P) (M : mw_M) : mw_Met l yX6_copyFrom wsX6_copyFrom ({ frames := 4, cells := 0, slots := 0, locals := 85 } : Room) G [.ref (G.1 x), .ref (G.1 x2)] M (qV (s_blk M P P2 130)) := by
  refine mw_ofV (cc := cX6_copyFrom) 2 (by decide) rfl rfl (Nat.le_of_ble_eq_true rfl) ?_
  intro p e s m args below meth c C hR hN0
  refine vv_loc (ls2 := [some (.ref (G.1 x)), some (.ref (G.1 x2))]) rfl ?_
  refine vv_aload_n C 0 dX6_copyFrom_0 rfl rfl ?_
  refine vv_getr C (Cn := RX6) (T := TX6) (N := 6) hX.1 0 rfl rfl (by decide) iX6_copyFrom_X6 (List.mem_of_getElem? (i := 1) rfl) rfl dX6_copyFrom_1 ?_
  refine vv_aload_n C 1 dX6_copyFrom_4 rfl rfl ?_
  refine vv_getr C (Cn := RX6) (T := TX6) (N := 6) hX2.1 0 rfl rfl (by decide) iX6_copyFrom_X6 (List.mem_of_getElem? (i := 1) rfl) rfl dX6_copyFrom_5 ?_
  refine vv_callVV C [.ref (G.1 (x2 + 1))] (c_X0_copyFrom (d := 0) (by decide) hX.2.1 hX2.2.1 hP M) hX.2.1.1 rfl (cwV 1 C.1.2.2.2.2 gX6_copyFrom_X0_copyFrom rfl rfl rfl (by decide +kernel) ⟨Nat.le_of_ble_eq_true rfl, Nat.le_of_ble_eq_true rfl⟩) rfl rfl rfl (Nat.le_of_ble_eq_true rfl) dX6_copyFrom_8 ⟨Nat.le_refl _, Nat.le_refl _⟩ ?_
  refine vv_aload_n C 0 dX6_copyFrom_11 rfl rfl ?_
  refine vv_getr C (Cn := RX6) (T := TX6) (N := 6) hX.1 1 rfl rfl (by decide) iX6_copyFrom_X6 (List.mem_of_getElem? (i := 2) rfl) rfl dX6_copyFrom_12 ?_
  refine vv_aload_n C 1 dX6_copyFrom_15 rfl rfl ?_
  refine vv_getr C (Cn := RX6) (T := TX6) (N := 6) hX2.1 1 rfl rfl (by decide) iX6_copyFrom_X6 (List.mem_of_getElem? (i := 2) rfl) rfl dX6_copyFrom_16 ?_
  refine vv_callVV C [.ref (G.1 (x2 + 11))] (c_X0_copyFrom (d := 1) (by decide) hX.2.2.1 hX2.2.2.1 hP (s_dr M P P2 0)) hX.2.2.1.1 rfl (cwV 1 C.1.2.2.2.2 gX6_copyFrom_X0_copyFrom rfl rfl rfl (by decide +kernel) ⟨Nat.le_of_ble_eq_true rfl, Nat.le_of_ble_eq_true rfl⟩) rfl rfl rfl (Nat.le_of_ble_eq_true rfl) dX6_copyFrom_19 ⟨Nat.le_refl _, Nat.le_refl _⟩ ?_
  refine vv_aload_n C 0 dX6_copyFrom_22 rfl rfl ?_
  refine vv_getr C (Cn := RX6) (T := TX6) (N := 6) hX.1 2 rfl rfl (by decide) iX6_copyFrom_X6 (List.mem_of_getElem? (i := 3) rfl) rfl dX6_copyFrom_23 ?_
  refine vv_aload_n C 1 dX6_copyFrom_26 rfl rfl ?_
  refine vv_getr C (Cn := RX6) (T := TX6) (N := 6) hX2.1 2 rfl rfl (by decide) iX6_copyFrom_X6 (List.mem_of_getElem? (i := 3) rfl) rfl dX6_copyFrom_27 ?_
  refine vv_callVVP C [.ref (G.1 (x2 + 21))] (c_X3_copyFrom hX.2.2.2.1 hX2.2.2.2.1 (by omega) (by intro i j hi hj; omega) (s_dr (s_dr M P P2 0) P P2 1)) hX.2.2.2.1.1 rfl (cwV 1 C.1.2.2.2.2 gX6_copyFrom_X3_copyFrom rfl rfl rfl (by decide +kernel) ⟨Nat.le_of_ble_eq_true rfl, Nat.le_of_ble_eq_true rfl⟩) rfl rfl rfl (Nat.le_of_ble_eq_true rfl) dX6_copyFrom_30 ⟨Nat.le_refl _, Nat.le_refl _⟩ (fun M_1 h_2 => ?_)
  refine vv_aload_n C 0 dX6_copyFrom_33 rfl rfl ?_
  refine vv_getr C (Cn := RX6) (T := TX6) (N := 6) hX.1 3 rfl rfl (by decide) iX6_copyFrom_X6 (List.mem_of_getElem? (i := 4) rfl) rfl dX6_copyFrom_34 ?_
  refine vv_aload_n C 1 dX6_copyFrom_37 rfl rfl ?_
  refine vv_getr C (Cn := RX6) (T := TX6) (N := 6) hX2.1 3 rfl rfl (by decide) iX6_copyFrom_X6 (List.mem_of_getElem? (i := 4) rfl) rfl dX6_copyFrom_38 ?_
  refine vv_callVVP C [.ref (G.1 (x2 + 23))] (c_X3_copyFrom hX.2.2.2.2 hX2.2.2.2.2 (by omega) (by intro i j hi hj; omega) M_1) hX.2.2.2.2.1 rfl (cwV 1 C.1.2.2.2.2 gX6_copyFrom_X3_copyFrom rfl rfl rfl (by decide +kernel) ⟨Nat.le_of_ble_eq_true rfl, Nat.le_of_ble_eq_true rfl⟩) rfl rfl rfl (Nat.le_of_ble_eq_true rfl) dX6_copyFrom_41 ⟨Nat.le_refl _, Nat.le_refl _⟩ (fun M_3 h_4 => ?_)
  refine vv_aload_n C 0 dX6_copyFrom_44 rfl rfl ?_
  refine vv_aload_n C 1 dX6_copyFrom_45 rfl rfl ?_
  refine vv_geti C (Cn := RX6) (T := TX6) (N := 6) hX2.1 4 rfl rfl (by decide) iX6_copyFrom_X6 (List.mem_of_getElem? (i := 5) rfl) rfl dX6_copyFrom_46 ?_
  refine vv_putf C (Cn := RX6) (T := TX6) (N := 6) hX.1 4 rfl rfl (by decide) iX6_copyFrom_X6 (List.mem_of_getElem? (i := 5) rfl) rfl tyX6_ok nmX6 rfl rfl dX6_copyFrom_49 ?_
  refine vv_aload_n C 0 dX6_copyFrom_52 rfl rfl ?_
  refine vv_aload_n C 1 dX6_copyFrom_53 rfl rfl ?_
  refine vv_geti C (Cn := RX6) (T := TX6) (N := 6) hX2.1 5 rfl rfl (by decide) iX6_copyFrom_X6 (List.mem_of_getElem? (i := 6) rfl) rfl dX6_copyFrom_54 ?_
  refine vv_putf C (Cn := RX6) (T := TX6) (N := 6) hX.1 5 rfl rfl (by decide) iX6_copyFrom_X6 (List.mem_of_getElem? (i := 6) rfl) rfl tyX6_ok nmX6 rfl rfl dX6_copyFrom_57 ?_
  exact vv_vret C hR dX6_copyFrom_60 (qV_of (st_eq hP h_2 h_4 rfl))
theorem iX2_size_X2 : ∀ w ∈ u_ws RX2 TX2 5, w ∈ wsX2_size := fun w hw => (List.mem_cons_of_mem _ (List.mem_append_right _ hw))
set_option maxRecDepth 100000 in
set_option maxHeartbeats 4000000 in
theorem c_X2_size {l : Launch} {G : mw_GG} (M : mw_M) : mw_Met l yX2_size wsX2_size ({ frames := 0, cells := 0, slots := 0, locals := 0 } : Room) G [.ref (G.1 125)] M (qI (M 650) M) := by
  refine mw_ofV (cc := cX2_size) 1 (by decide) rfl rfl (Nat.le_of_ble_eq_true rfl) ?_
  intro p e s m args below meth c C hR hN0
  refine vv_loc (ls2 := [some (.ref (G.1 125))]) rfl ?_
  refine vv_aload_n C 0 dX2_size_0 rfl rfl ?_
  refine vv_geti C (Cn := RX2) (T := TX2) (N := 5) sh_125 4 rfl rfl (by decide) iX2_size_X2 (List.mem_of_getElem? (i := 1) rfl) rfl dX2_size_1 ?_
  exact vv_iret C hR dX2_size_4 (qI_of (rfl) (rfl))
theorem iX2_keep_X2 : ∀ w ∈ u_ws RX2 TX2 5, w ∈ wsX2_keep := fun w hw => (List.mem_cons_of_mem _ (List.mem_append_left _ (List.mem_append_left _ (List.mem_append_left _ (List.mem_append_left _ (List.mem_append_right _ hw))))))
set_option maxRecDepth 100000 in
set_option maxHeartbeats 4000000 in
theorem c_X2_keep {l : Launch} {G : mw_GG} (M : mw_M) {h : Nat} (hh : M 650 = nI h) (hh4 : h ≤ 4) : mw_Met l yX2_keep wsX2_keep ({ frames := 5, cells := 0, slots := 0, locals := 106 } : Room) G [.ref (G.1 125), .ref (G.1 0)] M (qV (s_keep M h)) := by
  refine mw_ofV (cc := cX2_keep) 2 (by decide) rfl rfl (Nat.le_of_ble_eq_true rfl) ?_
  intro p e s m args below meth c C hR hN0
  refine vv_loc (ls2 := [some (.ref (G.1 125)), some (.ref (G.1 0))]) rfl ?_
  refine vv_aload_n C 0 dX2_keep_0 rfl rfl ?_
  refine vv_getr C (Cn := RX2) (T := TX2) (N := 5) sh_125 3 rfl rfl (by decide) iX2_keep_X2 (List.mem_of_getElem? (i := 1) rfl) rfl dX2_keep_1 ?_
  refine vv_aload_n C 0 dX2_keep_4 rfl rfl ?_
  refine vv_getr C (Cn := RX2) (T := TX2) (N := 5) sh_125 2 rfl rfl (by decide) iX2_keep_X2 (List.mem_of_getElem? (i := 2) rfl) rfl dX2_keep_5 ?_
  refine vv_callVV C [.ref (G.1 75)] (c_X6_copyFrom st_4 st_3 (by decide) M) st_4.1 rfl (cwV 1 C.1.2.2.2.2 gX2_keep_X6_copyFrom rfl rfl rfl (by decide +kernel) ⟨Nat.le_of_ble_eq_true rfl, Nat.le_of_ble_eq_true rfl⟩) rfl rfl rfl (Nat.le_of_ble_eq_true rfl) dX2_keep_8 ⟨Nat.le_refl _, Nat.le_refl _⟩ ?_
  refine vv_aload_n C 0 dX2_keep_11 rfl rfl ?_
  refine vv_getr C (Cn := RX2) (T := TX2) (N := 5) sh_125 2 rfl rfl (by decide) iX2_keep_X2 (List.mem_of_getElem? (i := 2) rfl) rfl dX2_keep_12 ?_
  refine vv_aload_n C 0 dX2_keep_15 rfl rfl ?_
  refine vv_getr C (Cn := RX2) (T := TX2) (N := 5) sh_125 1 rfl rfl (by decide) iX2_keep_X2 (List.mem_of_getElem? (i := 3) rfl) rfl dX2_keep_16 ?_
  refine vv_callVV C [.ref (G.1 50)] (c_X6_copyFrom st_3 st_2 (by decide) (s_blk M 520 390 130)) st_3.1 rfl (cwV 1 C.1.2.2.2.2 gX2_keep_X6_copyFrom rfl rfl rfl (by decide +kernel) ⟨Nat.le_of_ble_eq_true rfl, Nat.le_of_ble_eq_true rfl⟩) rfl rfl rfl (Nat.le_of_ble_eq_true rfl) dX2_keep_19 ⟨Nat.le_refl _, Nat.le_refl _⟩ ?_
  refine vv_aload_n C 0 dX2_keep_22 rfl rfl ?_
  refine vv_getr C (Cn := RX2) (T := TX2) (N := 5) sh_125 1 rfl rfl (by decide) iX2_keep_X2 (List.mem_of_getElem? (i := 3) rfl) rfl dX2_keep_23 ?_
  refine vv_aload_n C 0 dX2_keep_26 rfl rfl ?_
  refine vv_getr C (Cn := RX2) (T := TX2) (N := 5) sh_125 0 rfl rfl (by decide) iX2_keep_X2 (List.mem_of_getElem? (i := 4) rfl) rfl dX2_keep_27 ?_
  refine vv_callVV C [.ref (G.1 25)] (c_X6_copyFrom st_2 st_1 (by decide) (s_blk (s_blk M 520 390 130) 390 260 130)) st_2.1 rfl (cwV 1 C.1.2.2.2.2 gX2_keep_X6_copyFrom rfl rfl rfl (by decide +kernel) ⟨Nat.le_of_ble_eq_true rfl, Nat.le_of_ble_eq_true rfl⟩) rfl rfl rfl (Nat.le_of_ble_eq_true rfl) dX2_keep_30 ⟨Nat.le_refl _, Nat.le_refl _⟩ ?_
  refine vv_aload_n C 0 dX2_keep_33 rfl rfl ?_
  refine vv_getr C (Cn := RX2) (T := TX2) (N := 5) sh_125 0 rfl rfl (by decide) iX2_keep_X2 (List.mem_of_getElem? (i := 4) rfl) rfl dX2_keep_34 ?_
  refine vv_aload_n C 1 dX2_keep_37 rfl rfl ?_
  refine vv_callVV C [.ref (G.1 0)] (c_X6_copyFrom st_1 st_0 (by decide) (s_blk (s_blk (s_blk M 520 390 130) 390 260 130) 260 130 130)) st_1.1 rfl (cwV 1 C.1.2.2.2.2 gX2_keep_X6_copyFrom rfl rfl rfl (by decide +kernel) ⟨Nat.le_of_ble_eq_true rfl, Nat.le_of_ble_eq_true rfl⟩) rfl rfl rfl (Nat.le_of_ble_eq_true rfl) dX2_keep_38 ⟨Nat.le_refl _, Nat.le_refl _⟩ ?_
  refine vv_aload_n C 0 dX2_keep_41 rfl rfl ?_
  refine vv_aload_n C 0 dX2_keep_42 rfl rfl ?_
  refine vv_geti C (Cn := RX2) (T := TX2) (N := 5) sh_125 4 rfl rfl (by decide) iX2_keep_X2 (List.mem_of_getElem? (i := 5) rfl) rfl dX2_keep_43 ?_
  refine vv_iconst (v := 1) C dX2_keep_46 (by decide) ?_
  refine vv_iadd C dX2_keep_47 ?_
  refine vv_iconst (v := 4) C dX2_keep_48 (by decide) ?_
  refine vv_mmin C rfl (List.mem_of_getElem? (i := 6) rfl) (List.mem_of_getElem? (i := 7) rfl) (List.mem_of_getElem? (i := 8) rfl) (List.mem_of_getElem? (i := 9) rfl) (Nat.le_of_ble_eq_true rfl) (Nat.le_of_ble_eq_true rfl) (Nat.le_refl _) (Nat.le_refl _) dX2_keep_49 ?_
  refine vv_putf C (Cn := RX2) (T := TX2) (N := 5) sh_125 4 rfl rfl (by decide) iX2_keep_X2 (List.mem_of_getElem? (i := 5) rfl) rfl tyX2_ok nmX2 rfl rfl dX2_keep_52 ?_
  exact vv_vret C hR dX2_keep_55 (qV_of (keep_eq hh hh4))
theorem iX7_length_X7 : ∀ w ∈ u_ws RX7 TX7 2, w ∈ wsX7_length := fun w hw => (List.mem_cons_of_mem _ (List.mem_append_right _ hw))
set_option maxRecDepth 100000 in
set_option maxHeartbeats 4000000 in
theorem c_X7_length {l : Launch} {G : mw_GG} (M : mw_M) : mw_Met l yX7_length wsX7_length ({ frames := 0, cells := 0, slots := 0, locals := 0 } : Room) G [.ref (G.1 133)] M (qI (M 653) M) := by
  refine mw_ofV (cc := cX7_length) 1 (by decide) rfl rfl (Nat.le_of_ble_eq_true rfl) ?_
  intro p e s m args below meth c C hR hN0
  refine vv_loc (ls2 := [some (.ref (G.1 133))]) rfl ?_
  refine vv_aload_n C 0 dX7_length_0 rfl rfl ?_
  refine vv_geti C (Cn := RX7) (T := TX7) (N := 2) sh_133 1 rfl rfl (by decide) iX7_length_X7 (List.mem_of_getElem? (i := 1) rfl) rfl dX7_length_1 ?_
  exact vv_iret C hR dX7_length_4 (qI_of (rfl) (rfl))
theorem iX7_characterAt_X7 : ∀ w ∈ u_ws RX7 TX7 2, w ∈ wsX7_characterAt := fun w hw => (List.mem_cons_of_mem _ (List.mem_append_left _ (List.mem_append_right _ hw)))
set_option maxRecDepth 100000 in
set_option maxHeartbeats 4000000 in
theorem c_X7_characterAt {l : Launch} {G : mw_GG} (M : mw_M) {t : Nat} (ht : M 653 = nI t) (ht60 : t ≤ 60) {i : Int32} {j : Nat} (hi : i = nI j) (hj : j < 1000) : mw_Met l yX7_characterAt wsX7_characterAt ({ frames := 1, cells := 0, slots := 0, locals := 21 } : Room) G [.ref (G.1 133), .int i] M (qI (chA M t j) M) := by
  refine mw_ofV (cc := cX7_characterAt) 2 (by decide) rfl rfl (Nat.le_of_ble_eq_true rfl) ?_
  intro p e s m args below meth c C hR hN0
  refine vv_loc (ls2 := [some (.ref (G.1 133)), some (.int i)]) rfl ?_
  refine vv_iload_n C 1 dX7_characterAt_0 rfl rfl ?_
  refine vv_aload_n C 0 dX7_characterAt_1 rfl rfl ?_
  refine vv_geti C (Cn := RX7) (T := TX7) (N := 2) sh_133 1 rfl rfl (by decide) iX7_characterAt_X7 (List.mem_of_getElem? (i := 1) rfl) rfl dX7_characterAt_2 ?_
  refine vv_icmp_ge C 19 dX7_characterAt_5 (by decide) (fun hge => ?_) (fun hlt => ?_)
  · refine vv_iconst (v := (-1)) C dX7_characterAt_19 (by decide) ?_
    exact vv_iret C hR dX7_characterAt_20 (qI_of (by unfold chA; rw [if_neg (fun z => nI_ge z (by omega) (by rw [ht, hi] at hge; exact hge))]) (rfl))
  · have hlt2 : j < t := by
      rcases Nat.lt_or_ge j t with z | z
      · exact z
      · exact absurd (by rw [ht, hi]; exact nI_le z (by omega)) hlt
    refine vv_aload_n C 0 dX7_characterAt_8 rfl rfl ?_
    refine vv_getr C (Cn := RX7) (T := TX7) (N := 2) sh_133 0 rfl rfl (by decide) iX7_characterAt_X7 (List.mem_of_getElem? (i := 2) rfl) rfl dX7_characterAt_9 ?_
    refine vv_iload_n C 1 dX7_characterAt_12 rfl rfl ?_
    refine vv_callVI C [.int i] (c_X3_at nu_134 M (i := i) (j := j) hi (by omega)) nu_134.1 rfl (cwV 1 C.1.2.2.2.2 gX7_characterAt_X3_at rfl rfl rfl (by decide +kernel) ⟨Nat.le_of_ble_eq_true rfl, Nat.le_of_ble_eq_true rfl⟩) rfl rfl rfl (Nat.le_of_ble_eq_true rfl) dX7_characterAt_13 ⟨Nat.le_refl _, Nat.le_refl _⟩ ?_
    refine vv_goto C 20 dX7_characterAt_16 (by decide) ?_
    exact vv_iret C hR dX7_characterAt_20 (qI_of (by unfold chA; rw [if_pos hlt2, Nat.one_mul]) (rfl))
theorem iX7_append_X7 : ∀ w ∈ u_ws RX7 TX7 2, w ∈ wsX7_append := fun w hw => (List.mem_cons_of_mem _ (List.mem_append_left _ (List.mem_append_right _ hw)))
set_option maxRecDepth 100000 in
set_option maxHeartbeats 4000000 in
theorem c_X7_append {l : Launch} {G : mw_GG} (M : mw_M) {t : Nat} (ht : M 653 = nI t) (ht60 : t < 60) (x : Int32) : mw_Met l yX7_append wsX7_append ({ frames := 1, cells := 0, slots := 0, locals := 22 } : Room) G [.ref (G.1 133), .int x] M (qI (nI (t + 1)) (upd (upd M (1000 + t) x) 653 (nI (t + 1)))) := by
  refine mw_ofV (cc := cX7_append) 2 (by decide) rfl rfl (Nat.le_of_ble_eq_true rfl) ?_
  intro p e s m args below meth c C hR hN0
  refine vv_loc (ls2 := [some (.ref (G.1 133)), some (.int x)]) rfl ?_
  refine vv_aload_n C 0 dX7_append_0 rfl rfl ?_
  refine vv_getr C (Cn := RX7) (T := TX7) (N := 2) sh_133 0 rfl rfl (by decide) iX7_append_X7 (List.mem_of_getElem? (i := 1) rfl) rfl dX7_append_1 ?_
  refine vv_aload_n C 0 dX7_append_4 rfl rfl ?_
  refine vv_geti C (Cn := RX7) (T := TX7) (N := 2) sh_133 1 rfl rfl (by decide) iX7_append_X7 (List.mem_of_getElem? (i := 2) rfl) rfl dX7_append_5 ?_
  refine vv_iload_n C 1 dX7_append_8 rfl rfl ?_
  refine vv_callVV C [.int (M 653), .int x] (c_X3_set nu_134 M (i := (M 653)) (j := t) ht ht60 x) nu_134.1 rfl (cwV 2 C.1.2.2.2.2 gX7_append_X3_set rfl rfl rfl (by decide +kernel) ⟨Nat.le_of_ble_eq_true rfl, Nat.le_of_ble_eq_true rfl⟩) rfl rfl rfl (Nat.le_of_ble_eq_true rfl) dX7_append_9 ⟨Nat.le_refl _, Nat.le_refl _⟩ ?_
  refine vv_aload_n C 0 dX7_append_12 rfl rfl ?_
  refine vv_dup C dX7_append_13 rfl ?_
  refine vv_geti C (Cn := RX7) (T := TX7) (N := 2) sh_133 1 rfl rfl (by decide) iX7_append_X7 (List.mem_of_getElem? (i := 2) rfl) rfl dX7_append_14 ?_
  refine vv_iconst (v := 1) C dX7_append_17 (by decide) ?_
  refine vv_iadd C dX7_append_18 ?_
  refine vv_putf C (Cn := RX7) (T := TX7) (N := 2) sh_133 1 rfl rfl (by decide) iX7_append_X7 (List.mem_of_getElem? (i := 2) rfl) rfl tyX7_ok nmX7 rfl rfl dX7_append_19 ?_
  refine vv_aload_n C 0 dX7_append_22 rfl rfl ?_
  refine vv_geti C (Cn := RX7) (T := TX7) (N := 2) sh_133 1 rfl rfl (by decide) iX7_append_X7 (List.mem_of_getElem? (i := 2) rfl) rfl dX7_append_23 ?_
  exact vv_iret C hR dX7_append_26 (qI_of (by rw [upd_s, upd_o (by omega), ht, nI_1]) (by rw [Nat.one_mul]; congr 1; rw [upd_o (by omega), ht, nI_1]))
theorem iX7_empty_X7 : ∀ w ∈ u_ws RX7 TX7 2, w ∈ wsX7_empty := fun w hw => (List.mem_cons_of_mem _ (List.mem_append_right _ hw))
set_option maxRecDepth 100000 in
set_option maxHeartbeats 4000000 in
theorem c_X7_empty {l : Launch} {G : mw_GG} (M : mw_M) : mw_Met l yX7_empty wsX7_empty ({ frames := 0, cells := 0, slots := 0, locals := 0 } : Room) G [.ref (G.1 133)] M (qI (M 653) (upd M 653 0)) := by
  refine mw_ofV (cc := cX7_empty) 2 (by decide) rfl rfl (Nat.le_of_ble_eq_true rfl) ?_
  intro p e s m args below meth c C hR hN0
  refine vv_loc (ls2 := [some (.ref (G.1 133)), none]) rfl ?_
  refine vv_aload_n C 0 dX7_empty_0 rfl rfl ?_
  refine vv_geti C (Cn := RX7) (T := TX7) (N := 2) sh_133 1 rfl rfl (by decide) iX7_empty_X7 (List.mem_of_getElem? (i := 1) rfl) rfl dX7_empty_1 ?_
  refine vv_istore_n (ls2 := [some (.ref (G.1 133)), some (.int (M 653))]) C 1 dX7_empty_4 rfl (Nat.le_of_ble_eq_true rfl) rfl ?_
  refine vv_aload_n C 0 dX7_empty_5 rfl rfl ?_
  refine vv_iconst (v := 0) C dX7_empty_6 (by decide) ?_
  refine vv_putf C (Cn := RX7) (T := TX7) (N := 2) sh_133 1 rfl rfl (by decide) iX7_empty_X7 (List.mem_of_getElem? (i := 1) rfl) rfl tyX7_ok nmX7 rfl rfl dX7_empty_7 ?_
  refine vv_iload_n C 1 dX7_empty_10 rfl rfl ?_
  exact vv_iret C hR dX7_empty_11 (qI_of (rfl) (rfl))
