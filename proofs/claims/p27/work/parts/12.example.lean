theorem iX1_kindAt_X1 : ∀ w ∈ u_ws RX1 TX1 3, w ∈ wsX1_kindAt := fun w hw => (List.mem_cons_of_mem _ (List.mem_append_left _ (List.mem_append_right _ hw)))
set_option maxRecDepth 100000 in
set_option maxHeartbeats 4000000 in
theorem c_X1_kindAt {l : Launch} {G : mw_GG} {x b : Nat} (hX : mw_Ex x b) (M : mw_M) {i : Int32} {j : Nat} (hi : i = nI j) (hj : j < 4) : mw_Met l yX1_kindAt wsX1_kindAt ({ frames := 1, cells := 0, slots := 0, locals := 21 } : Room) G [.ref (G.1 x), .int i] M (qI (M (b + 3 * j)) M) := by
  refine mw_ofV (cc := cX1_kindAt) 2 (by decide) rfl rfl (Nat.le_of_ble_eq_true rfl) ?_
  intro p e s m args below meth c C hR hN0
  refine vv_loc (ls2 := [some (.ref (G.1 x)), some (.int i)]) rfl ?_
  refine vv_aload_n C 0 dX1_kindAt_0 rfl rfl ?_
  refine vv_getr C (Cn := RX1) (T := TX1) (N := 3) hX.1 0 rfl rfl (by decide) iX1_kindAt_X1 (List.mem_of_getElem? (i := 1) rfl) rfl dX1_kindAt_1 ?_
  refine vv_iload_n C 1 dX1_kindAt_4 rfl rfl ?_
  refine vv_callVI C [.int i] (c_X3_at hX.2.1 M (i := i) (j := j) hi hj) hX.2.1.1 rfl (cwV 1 C.1.2.2.2.2 gX1_kindAt_X3_at rfl rfl rfl (by decide +kernel) ⟨Nat.le_of_ble_eq_true rfl, Nat.le_of_ble_eq_true rfl⟩) rfl rfl rfl (Nat.le_of_ble_eq_true rfl) dX1_kindAt_5 ⟨Nat.le_refl _, Nat.le_refl _⟩ ?_
  exact vv_iret C hR dX1_kindAt_8 (qI_of (rfl) (rfl))
theorem iX1_firstAt_X1 : ∀ w ∈ u_ws RX1 TX1 3, w ∈ wsX1_firstAt := fun w hw => (List.mem_cons_of_mem _ (List.mem_append_left _ (List.mem_append_right _ hw)))
set_option maxRecDepth 100000 in
set_option maxHeartbeats 4000000 in
theorem c_X1_firstAt {l : Launch} {G : mw_GG} {x b : Nat} (hX : mw_Ex x b) (M : mw_M) {i : Int32} {j : Nat} (hi : i = nI j) (hj : j < 4) : mw_Met l yX1_firstAt wsX1_firstAt ({ frames := 1, cells := 0, slots := 0, locals := 21 } : Room) G [.ref (G.1 x), .int i] M (qI (M (b + 1 + 3 * j)) M) := by
  refine mw_ofV (cc := cX1_firstAt) 2 (by decide) rfl rfl (Nat.le_of_ble_eq_true rfl) ?_
  intro p e s m args below meth c C hR hN0
  refine vv_loc (ls2 := [some (.ref (G.1 x)), some (.int i)]) rfl ?_
  refine vv_aload_n C 0 dX1_firstAt_0 rfl rfl ?_
  refine vv_getr C (Cn := RX1) (T := TX1) (N := 3) hX.1 1 rfl rfl (by decide) iX1_firstAt_X1 (List.mem_of_getElem? (i := 1) rfl) rfl dX1_firstAt_1 ?_
  refine vv_iload_n C 1 dX1_firstAt_4 rfl rfl ?_
  refine vv_callVI C [.int i] (c_X3_at hX.2.2.1 M (i := i) (j := j) hi hj) hX.2.2.1.1 rfl (cwV 1 C.1.2.2.2.2 gX1_firstAt_X3_at rfl rfl rfl (by decide +kernel) ⟨Nat.le_of_ble_eq_true rfl, Nat.le_of_ble_eq_true rfl⟩) rfl rfl rfl (Nat.le_of_ble_eq_true rfl) dX1_firstAt_5 ⟨Nat.le_refl _, Nat.le_refl _⟩ ?_
  exact vv_iret C hR dX1_firstAt_8 (qI_of (rfl) (rfl))
theorem iX1_secondAt_X1 : ∀ w ∈ u_ws RX1 TX1 3, w ∈ wsX1_secondAt := fun w hw => (List.mem_cons_of_mem _ (List.mem_append_left _ (List.mem_append_right _ hw)))
set_option maxRecDepth 100000 in
set_option maxHeartbeats 4000000 in
theorem c_X1_secondAt {l : Launch} {G : mw_GG} {x b : Nat} (hX : mw_Ex x b) (M : mw_M) {i : Int32} {j : Nat} (hi : i = nI j) (hj : j < 4) : mw_Met l yX1_secondAt wsX1_secondAt ({ frames := 1, cells := 0, slots := 0, locals := 21 } : Room) G [.ref (G.1 x), .int i] M (qI (M (b + 2 + 3 * j)) M) := by
  refine mw_ofV (cc := cX1_secondAt) 2 (by decide) rfl rfl (Nat.le_of_ble_eq_true rfl) ?_
  intro p e s m args below meth c C hR hN0
  refine vv_loc (ls2 := [some (.ref (G.1 x)), some (.int i)]) rfl ?_
  refine vv_aload_n C 0 dX1_secondAt_0 rfl rfl ?_
  refine vv_getr C (Cn := RX1) (T := TX1) (N := 3) hX.1 2 rfl rfl (by decide) iX1_secondAt_X1 (List.mem_of_getElem? (i := 1) rfl) rfl dX1_secondAt_1 ?_
  refine vv_iload_n C 1 dX1_secondAt_4 rfl rfl ?_
  refine vv_callVI C [.int i] (c_X3_at hX.2.2.2 M (i := i) (j := j) hi hj) hX.2.2.2.1 rfl (cwV 1 C.1.2.2.2.2 gX1_secondAt_X3_at rfl rfl rfl (by decide +kernel) ⟨Nat.le_of_ble_eq_true rfl, Nat.le_of_ble_eq_true rfl⟩) rfl rfl rfl (Nat.le_of_ble_eq_true rfl) dX1_secondAt_5 ⟨Nat.le_refl _, Nat.le_refl _⟩ ?_
  exact vv_iret C hR dX1_secondAt_8 (qI_of (rfl) (rfl))
theorem iX1_fill_X1 : ∀ w ∈ u_ws RX1 TX1 3, w ∈ wsX1_fill := fun w hw => (List.mem_cons_of_mem _ (List.mem_append_left _ (List.mem_append_right _ hw)))
set_option maxRecDepth 100000 in
set_option maxHeartbeats 4000000 in
theorem c_X1_fill {l : Launch} {G : mw_GG} {x b : Nat} (hX : mw_Ex x b) (M : mw_M) {i : Int32} {j : Nat} (hi : i = nI j) (hj : j < 4) (u v w : Int32) : mw_Met l yX1_fill wsX1_fill ({ frames := 1, cells := 0, slots := 0, locals := 22 } : Room) G [.ref (G.1 x), .int i, .int u, .int v, .int w] M (qV (upd (upd (upd M (b + 3 * j) u) (b + 1 + 3 * j) v) (b + 2 + 3 * j) w)) := by
  refine mw_ofV (cc := cX1_fill) 5 (by decide) rfl rfl (Nat.le_of_ble_eq_true rfl) ?_
  intro p e s m args below meth c C hR hN0
  refine vv_loc (ls2 := [some (.ref (G.1 x)), some (.int i), some (.int u), some (.int v), some (.int w)]) rfl ?_
  refine vv_aload_n C 0 dX1_fill_0 rfl rfl ?_
  refine vv_getr C (Cn := RX1) (T := TX1) (N := 3) hX.1 0 rfl rfl (by decide) iX1_fill_X1 (List.mem_of_getElem? (i := 1) rfl) rfl dX1_fill_1 ?_
  refine vv_iload_n C 1 dX1_fill_4 rfl rfl ?_
  refine vv_iload_n C 2 dX1_fill_5 rfl rfl ?_
  refine vv_callVV C [.int i, .int u] (c_X3_set hX.2.1 M (i := i) (j := j) hi hj u) hX.2.1.1 rfl (cwV 2 C.1.2.2.2.2 gX1_fill_X3_set rfl rfl rfl (by decide +kernel) ⟨Nat.le_of_ble_eq_true rfl, Nat.le_of_ble_eq_true rfl⟩) rfl rfl rfl (Nat.le_of_ble_eq_true rfl) dX1_fill_6 ⟨Nat.le_refl _, Nat.le_refl _⟩ ?_
  refine vv_aload_n C 0 dX1_fill_9 rfl rfl ?_
  refine vv_getr C (Cn := RX1) (T := TX1) (N := 3) hX.1 1 rfl rfl (by decide) iX1_fill_X1 (List.mem_of_getElem? (i := 2) rfl) rfl dX1_fill_10 ?_
  refine vv_iload_n C 1 dX1_fill_13 rfl rfl ?_
  refine vv_iload_n C 3 dX1_fill_14 rfl rfl ?_
  refine vv_callVV C [.int i, .int v] (c_X3_set hX.2.2.1 (upd M (b + 3 * j) u) (i := i) (j := j) hi hj v) hX.2.2.1.1 rfl (cwV 2 C.1.2.2.2.2 gX1_fill_X3_set rfl rfl rfl (by decide +kernel) ⟨Nat.le_of_ble_eq_true rfl, Nat.le_of_ble_eq_true rfl⟩) rfl rfl rfl (Nat.le_of_ble_eq_true rfl) dX1_fill_15 ⟨Nat.le_refl _, Nat.le_refl _⟩ ?_
  refine vv_aload_n C 0 dX1_fill_18 rfl rfl ?_
  refine vv_getr C (Cn := RX1) (T := TX1) (N := 3) hX.1 2 rfl rfl (by decide) iX1_fill_X1 (List.mem_of_getElem? (i := 3) rfl) rfl dX1_fill_19 ?_
  refine vv_iload_n C 1 dX1_fill_22 rfl rfl ?_
  refine vv_iload C 4 dX1_fill_23 rfl ?_
  refine vv_callVV C [.int i, .int w] (c_X3_set hX.2.2.2 (upd (upd M (b + 3 * j) u) (b + 1 + 3 * j) v) (i := i) (j := j) hi hj w) hX.2.2.2.1 rfl (cwV 2 C.1.2.2.2.2 gX1_fill_X3_set rfl rfl rfl (by decide +kernel) ⟨Nat.le_of_ble_eq_true rfl, Nat.le_of_ble_eq_true rfl⟩) rfl rfl rfl (Nat.le_of_ble_eq_true rfl) dX1_fill_25 ⟨Nat.le_refl _, Nat.le_refl _⟩ ?_
  exact vv_vret C hR dX1_fill_28 (qV_of (rfl))
theorem iX1_wipe_X1 : ∀ w ∈ u_ws RX1 TX1 3, w ∈ wsX1_wipe := fun w hw => (List.mem_cons_of_mem _ (List.mem_append_left _ (List.mem_append_right _ hw)))
set_option maxRecDepth 100000 in
set_option maxHeartbeats 4000000 in
theorem c_X1_wipe {l : Launch} {G : mw_GG} {x b : Nat} (hX : mw_Ex x b) (M : mw_M) : mw_Met l yX1_wipe wsX1_wipe ({ frames := 1, cells := 0, slots := 0, locals := 22 } : Room) G [.ref (G.1 x)] M (qV (s_zero M b)) := by
  refine mw_ofV (cc := cX1_wipe) 1 (by decide) rfl rfl (Nat.le_of_ble_eq_true rfl) ?_
  intro p e s m args below meth c C hR hN0
  refine vv_loc (ls2 := [some (.ref (G.1 x))]) rfl ?_
  refine vv_aload_n C 0 dX1_wipe_0 rfl rfl ?_
  refine vv_getr C (Cn := RX1) (T := TX1) (N := 3) hX.1 0 rfl rfl (by decide) iX1_wipe_X1 (List.mem_of_getElem? (i := 1) rfl) rfl dX1_wipe_1 ?_
  refine vv_iconst (v := 0) C dX1_wipe_4 (by decide) ?_
  refine vv_callVVP C [.int 0] (c_X3_fill hX.2.1 M 0) hX.2.1.1 rfl (cwV 1 C.1.2.2.2.2 gX1_wipe_X3_fill rfl rfl rfl (by decide +kernel) ⟨Nat.le_of_ble_eq_true rfl, Nat.le_of_ble_eq_true rfl⟩) rfl rfl rfl (Nat.le_of_ble_eq_true rfl) dX1_wipe_5 ⟨Nat.le_refl _, Nat.le_refl _⟩ (fun M_1 h_2 => ?_)
  refine vv_aload_n C 0 dX1_wipe_8 rfl rfl ?_
  refine vv_getr C (Cn := RX1) (T := TX1) (N := 3) hX.1 1 rfl rfl (by decide) iX1_wipe_X1 (List.mem_of_getElem? (i := 2) rfl) rfl dX1_wipe_9 ?_
  refine vv_iconst (v := 0) C dX1_wipe_12 (by decide) ?_
  refine vv_callVVP C [.int 0] (c_X3_fill hX.2.2.1 M_1 0) hX.2.2.1.1 rfl (cwV 1 C.1.2.2.2.2 gX1_wipe_X3_fill rfl rfl rfl (by decide +kernel) ⟨Nat.le_of_ble_eq_true rfl, Nat.le_of_ble_eq_true rfl⟩) rfl rfl rfl (Nat.le_of_ble_eq_true rfl) dX1_wipe_13 ⟨Nat.le_refl _, Nat.le_refl _⟩ (fun M_3 h_4 => ?_)
  refine vv_aload_n C 0 dX1_wipe_16 rfl rfl ?_
  refine vv_getr C (Cn := RX1) (T := TX1) (N := 3) hX.1 2 rfl rfl (by decide) iX1_wipe_X1 (List.mem_of_getElem? (i := 3) rfl) rfl dX1_wipe_17 ?_
  refine vv_iconst (v := 0) C dX1_wipe_20 (by decide) ?_
  refine vv_callVVP C [.int 0] (c_X3_fill hX.2.2.2 M_3 0) hX.2.2.2.1 rfl (cwV 1 C.1.2.2.2.2 gX1_wipe_X3_fill rfl rfl rfl (by decide +kernel) ⟨Nat.le_of_ble_eq_true rfl, Nat.le_of_ble_eq_true rfl⟩) rfl rfl rfl (Nat.le_of_ble_eq_true rfl) dX1_wipe_21 ⟨Nat.le_refl _, Nat.le_refl _⟩ (fun M_5 h_6 => ?_)
  exact vv_vret C hR dX1_wipe_24 (qV_of (wipe_eq h_2 h_4 h_6))
theorem iX1_copyFrom_X1 : ∀ w ∈ u_ws RX1 TX1 3, w ∈ wsX1_copyFrom := fun w hw => (List.mem_cons_of_mem _ (List.mem_append_left _ (List.mem_append_right _ hw)))
set_option maxRecDepth 100000 in
set_option maxHeartbeats 4000000 in
theorem c_X1_copyFrom {l : Launch} {G : mw_GG} {x b : Nat} (hX : mw_Ex x b) {x2 b2 : Nat} (hX2 : mw_Ex x2 b2) (hd : b + 12 ≤ b2 ∨ b2 + 12 ≤ b) (M : mw_M) : mw_Met l yX1_copyFrom wsX1_copyFrom ({ frames := 2, cells := 0, slots := 0, locals := 43 } : Room) G [.ref (G.1 x), .ref (G.1 x2)] M (qV (s_blk M b b2 12)) := by
  refine mw_ofV (cc := cX1_copyFrom) 2 (by decide) rfl rfl (Nat.le_of_ble_eq_true rfl) ?_
  intro p e s m args below meth c C hR hN0
  refine vv_loc (ls2 := [some (.ref (G.1 x)), some (.ref (G.1 x2))]) rfl ?_
  refine vv_aload_n C 0 dX1_copyFrom_0 rfl rfl ?_
  refine vv_getr C (Cn := RX1) (T := TX1) (N := 3) hX.1 0 rfl rfl (by decide) iX1_copyFrom_X1 (List.mem_of_getElem? (i := 1) rfl) rfl dX1_copyFrom_1 ?_
  refine vv_aload_n C 1 dX1_copyFrom_4 rfl rfl ?_
  refine vv_getr C (Cn := RX1) (T := TX1) (N := 3) hX2.1 0 rfl rfl (by decide) iX1_copyFrom_X1 (List.mem_of_getElem? (i := 1) rfl) rfl dX1_copyFrom_5 ?_
  refine vv_callVVP C [.ref (G.1 (x2 + 1))] (c_X3_copyFrom hX.2.1 hX2.2.1 (by omega) (by intro i j hi hj; omega) M) hX.2.1.1 rfl (cwV 1 C.1.2.2.2.2 gX1_copyFrom_X3_copyFrom rfl rfl rfl (by decide +kernel) ⟨Nat.le_of_ble_eq_true rfl, Nat.le_of_ble_eq_true rfl⟩) rfl rfl rfl (Nat.le_of_ble_eq_true rfl) dX1_copyFrom_8 ⟨Nat.le_refl _, Nat.le_refl _⟩ (fun M_1 h_2 => ?_)
  refine vv_aload_n C 0 dX1_copyFrom_11 rfl rfl ?_
  refine vv_getr C (Cn := RX1) (T := TX1) (N := 3) hX.1 1 rfl rfl (by decide) iX1_copyFrom_X1 (List.mem_of_getElem? (i := 2) rfl) rfl dX1_copyFrom_12 ?_
  refine vv_aload_n C 1 dX1_copyFrom_15 rfl rfl ?_
  refine vv_getr C (Cn := RX1) (T := TX1) (N := 3) hX2.1 1 rfl rfl (by decide) iX1_copyFrom_X1 (List.mem_of_getElem? (i := 2) rfl) rfl dX1_copyFrom_16 ?_
  refine vv_callVVP C [.ref (G.1 (x2 + 3))] (c_X3_copyFrom hX.2.2.1 hX2.2.2.1 (by omega) (by intro i j hi hj; omega) M_1) hX.2.2.1.1 rfl (cwV 1 C.1.2.2.2.2 gX1_copyFrom_X3_copyFrom rfl rfl rfl (by decide +kernel) ⟨Nat.le_of_ble_eq_true rfl, Nat.le_of_ble_eq_true rfl⟩) rfl rfl rfl (Nat.le_of_ble_eq_true rfl) dX1_copyFrom_19 ⟨Nat.le_refl _, Nat.le_refl _⟩ (fun M_3 h_4 => ?_)
  refine vv_aload_n C 0 dX1_copyFrom_22 rfl rfl ?_
  refine vv_getr C (Cn := RX1) (T := TX1) (N := 3) hX.1 2 rfl rfl (by decide) iX1_copyFrom_X1 (List.mem_of_getElem? (i := 3) rfl) rfl dX1_copyFrom_23 ?_
  refine vv_aload_n C 1 dX1_copyFrom_26 rfl rfl ?_
  refine vv_getr C (Cn := RX1) (T := TX1) (N := 3) hX2.1 2 rfl rfl (by decide) iX1_copyFrom_X1 (List.mem_of_getElem? (i := 3) rfl) rfl dX1_copyFrom_27 ?_
  refine vv_callVVP C [.ref (G.1 (x2 + 5))] (c_X3_copyFrom hX.2.2.2 hX2.2.2.2 (by omega) (by intro i j hi hj; omega) M_3) hX.2.2.2.1 rfl (cwV 1 C.1.2.2.2.2 gX1_copyFrom_X3_copyFrom rfl rfl rfl (by decide +kernel) ⟨Nat.le_of_ble_eq_true rfl, Nat.le_of_ble_eq_true rfl⟩) rfl rfl rfl (Nat.le_of_ble_eq_true rfl) dX1_copyFrom_30 ⟨Nat.le_refl _, Nat.le_refl _⟩ (fun M_5 h_6 => ?_)
  exact vv_vret C hR dX1_copyFrom_33 (qV_of (copy_eq hd h_2 h_4 h_6))
theorem iX1_otherKinds_X1 : ∀ w ∈ u_ws RX1 TX1 3, w ∈ wsX1_otherKinds := fun w hw => (List.mem_cons_of_mem _ (List.mem_append_left _ (List.mem_append_right _ hw)))
set_option maxRecDepth 100000 in
set_option maxHeartbeats 4000000 in
theorem lp_X1_otherKinds {p : Program} {l : Launch} {e : Env} {s : State} {m : MethodId} {args : Array Value} {below : List Frame} {meth : Method} {c : Code} {G : mw_GG} {Q : State → Prop} (C : vv_C p s m args c G cX1_otherKinds 3 wsX1_otherKinds RX1) {x b : Nat} (hX : mw_Ex x b) (M : mw_M) (f : Nat → Bool) (hf : ∀ i, i < 4 → f i = decide (¬ M (b + 3 * i) = 0)) (hk : vv p l e ({ frames := 1, cells := 0, slots := 0, locals := 21 } : Room) s m args below meth c G 0 0 Q M 29 [some (.ref (G.1 x)), some (.int (nI (cntB f 4))), some (.int (nI 4))] []) : ∀ (k i : Nat), 5 ≤ i + k → i ≤ 4 → vv p l e ({ frames := 1, cells := 0, slots := 0, locals := 21 } : Room) s m args below meth c G 0 0 Q M 4 [some (.ref (G.1 x)), some (.int (nI (cntB f i))), some (.int (nI i))] [] := by
  intro k
  induction k with
  | zero => intro i h1 h2; omega
  | succ k ih =>
    intro i h1 h2
    refine vv_iload_n C 2 dX1_otherKinds_4 rfl rfl ?_
    refine vv_iconst (v := 4) C dX1_otherKinds_5 (by decide) ?_
    refine vv_icmp_ge C 29 dX1_otherKinds_6 (by decide) (fun hge => ?_) (fun hlt => ?_)
    · have hin : i = 4 := by
        rcases Nat.lt_or_ge i 4 with z | z
        · exact absurd hge (nI_ge (b := 4) z (by omega))
        · omega
      subst hin
      exact hk
    · have hlt2 : i < 4 := by
        rcases Nat.lt_or_ge i 4 with z | z
        · exact z
        · exact absurd (nI_le z (by omega)) hlt
      refine vv_aload_n C 0 dX1_otherKinds_9 rfl rfl ?_
      refine vv_getr C (Cn := RX1) (T := TX1) (N := 3) hX.1 0 rfl rfl (by decide) iX1_otherKinds_X1 (List.mem_of_getElem? (i := 1) rfl) rfl dX1_otherKinds_10 ?_
      refine vv_iload_n C 2 dX1_otherKinds_13 rfl rfl ?_
      refine vv_callVI C [.int (nI i)] (c_X3_at hX.2.1 M (i := (nI i)) (j := i) rfl hlt2) hX.2.1.1 rfl (cwV 1 C.1.2.2.2.2 gX1_otherKinds_X3_at rfl rfl rfl (by decide +kernel) ⟨Nat.le_of_ble_eq_true rfl, Nat.le_of_ble_eq_true rfl⟩) rfl rfl rfl (Nat.le_of_ble_eq_true rfl) dX1_otherKinds_14 ⟨Nat.le_refl _, Nat.le_refl _⟩ ?_
      refine vv_if_eq C 23 dX1_otherKinds_17 (by decide) (fun he => ?_) (fun hne => ?_)
      · refine vv_iinc (v := nI (i + 1)) (ls2 := [some (.ref (G.1 x)), some (.int (nI (cntB f i))), some (.int (nI (i + 1)))]) C 2 dX1_otherKinds_23 rfl (nI_1 _) rfl ?_
        refine vv_goto C 4 dX1_otherKinds_26 (by decide) ?_
        have e := ih (i + 1) (by omega) (by omega)
        rw [cntB_f (by rw [hf i hlt2]; exact decide_eq_false (fun z => z he))] at e
        exact e
      · refine vv_iinc (v := nI (cntB f i + 1)) (ls2 := [some (.ref (G.1 x)), some (.int (nI (cntB f i + 1))), some (.int (nI i))]) C 1 dX1_otherKinds_20 rfl (nI_1 _) rfl ?_
        refine vv_iinc (v := nI (i + 1)) (ls2 := [some (.ref (G.1 x)), some (.int (nI (cntB f i + 1))), some (.int (nI (i + 1)))]) C 2 dX1_otherKinds_23 rfl (nI_1 _) rfl ?_
        refine vv_goto C 4 dX1_otherKinds_26 (by decide) ?_
        have e := ih (i + 1) (by omega) (by omega)
        rw [cntB_t (by rw [hf i hlt2]; exact decide_eq_true hne)] at e
        exact e
set_option maxRecDepth 100000 in
set_option maxHeartbeats 4000000 in
theorem c_X1_otherKinds {l : Launch} {G : mw_GG} {x b : Nat} (hX : mw_Ex x b) (M : mw_M) (f : Nat → Bool) (hf : ∀ i, i < 4 → f i = decide (¬ M (b + 3 * i) = 0)) : mw_Met l yX1_otherKinds wsX1_otherKinds ({ frames := 1, cells := 0, slots := 0, locals := 21 } : Room) G [.ref (G.1 x)] M (qI (nI (cntB f 4)) M) := by
  refine mw_ofV (cc := cX1_otherKinds) 3 (by decide) rfl rfl (Nat.le_of_ble_eq_true rfl) ?_
  intro p e s m args below meth c C hR hN0
  refine vv_loc (ls2 := [some (.ref (G.1 x)), none, none]) rfl ?_
  refine vv_iconst (v := 0) C dX1_otherKinds_0 (by decide) ?_
  refine vv_istore_n (ls2 := [some (.ref (G.1 x)), some (.int 0), none]) C 1 dX1_otherKinds_1 rfl (Nat.le_of_ble_eq_true rfl) rfl ?_
  refine vv_iconst (v := 0) C dX1_otherKinds_2 (by decide) ?_
  refine vv_istore_n (ls2 := [some (.ref (G.1 x)), some (.int 0), some (.int 0)]) C 2 dX1_otherKinds_3 rfl (Nat.le_of_ble_eq_true rfl) rfl ?_
  refine lp_X1_otherKinds C hX M f hf ?_ 5 0 (by omega) (by omega)
  refine vv_iload_n C 1 dX1_otherKinds_29 rfl rfl ?_
  exact vv_iret C hR dX1_otherKinds_30 (qI_of rfl rfl)
theorem iX1_takesAlone_X1 : ∀ w ∈ u_ws RX1 TX1 3, w ∈ wsX1_takesAlone := fun w hw => (List.mem_cons_of_mem _ (List.mem_append_left _ (List.mem_append_right _ hw)))
set_option maxRecDepth 100000 in
set_option maxHeartbeats 4000000 in
theorem c_X1_takesAlone {l : Launch} {G : mw_GG} {x b : Nat} (hX : mw_Ex x b) (M : mw_M) {i : Int32} {j : Nat} (hi : i = nI j) (hj : j < 4) (v : Int32) : mw_Met l yX1_takesAlone wsX1_takesAlone ({ frames := 1, cells := 0, slots := 0, locals := 21 } : Room) G [.ref (G.1 x), .int i, .int v] M (qI (bI (tkB (M (b + 3 * j)) (M (b + 1 + 3 * j)) (M (b + 2 + 3 * j)) v = true)) M) := by
  refine mw_ofV (cc := cX1_takesAlone) 5 (by decide) rfl rfl (Nat.le_of_ble_eq_true rfl) ?_
  intro p e s m args below meth c C hR hN0
  refine vv_loc (ls2 := [some (.ref (G.1 x)), some (.int i), some (.int v), none, none]) rfl ?_
  refine vv_aload_n C 0 dX1_takesAlone_0 rfl rfl ?_
  refine vv_getr C (Cn := RX1) (T := TX1) (N := 3) hX.1 0 rfl rfl (by decide) iX1_takesAlone_X1 (List.mem_of_getElem? (i := 1) rfl) rfl dX1_takesAlone_1 ?_
  refine vv_iload_n C 1 dX1_takesAlone_4 rfl rfl ?_
  refine vv_callVI C [.int i] (c_X3_at hX.2.1 M (i := i) (j := j) hi hj) hX.2.1.1 rfl (cwV 1 C.1.2.2.2.2 gX1_takesAlone_X3_at rfl rfl rfl (by decide +kernel) ⟨Nat.le_of_ble_eq_true rfl, Nat.le_of_ble_eq_true rfl⟩) rfl rfl rfl (Nat.le_of_ble_eq_true rfl) dX1_takesAlone_5 ⟨Nat.le_refl _, Nat.le_refl _⟩ ?_
  refine vv_istore_n (ls2 := [some (.ref (G.1 x)), some (.int i), some (.int v), some (.int (M (b + 3 * j))), none]) C 3 dX1_takesAlone_8 rfl (Nat.le_of_ble_eq_true rfl) rfl ?_
  refine vv_aload_n C 0 dX1_takesAlone_9 rfl rfl ?_
  refine vv_getr C (Cn := RX1) (T := TX1) (N := 3) hX.1 1 rfl rfl (by decide) iX1_takesAlone_X1 (List.mem_of_getElem? (i := 2) rfl) rfl dX1_takesAlone_10 ?_
  refine vv_iload_n C 1 dX1_takesAlone_13 rfl rfl ?_
  refine vv_callVI C [.int i] (c_X3_at hX.2.2.1 M (i := i) (j := j) hi hj) hX.2.2.1.1 rfl (cwV 1 C.1.2.2.2.2 gX1_takesAlone_X3_at rfl rfl rfl (by decide +kernel) ⟨Nat.le_of_ble_eq_true rfl, Nat.le_of_ble_eq_true rfl⟩) rfl rfl rfl (Nat.le_of_ble_eq_true rfl) dX1_takesAlone_14 ⟨Nat.le_refl _, Nat.le_refl _⟩ ?_
  refine vv_istore (ls2 := [some (.ref (G.1 x)), some (.int i), some (.int v), some (.int (M (b + 3 * j))), some (.int (M (b + 1 + 3 * j)))]) C 4 dX1_takesAlone_17 (Nat.le_of_ble_eq_true rfl) rfl ?_
  refine vv_iload_n C 3 dX1_takesAlone_19 rfl rfl ?_
  refine vv_if_eq C 28 dX1_takesAlone_20 (by decide) (fun h_1 => ?_) (fun h_2 => ?_)
  · refine vv_iload_n C 3 dX1_takesAlone_28 rfl rfl ?_
    refine vv_if_eq C 37 dX1_takesAlone_29 (by decide) (fun h_3 => ?_) (fun h_4 => ?_)
    · refine vv_iconst (v := 1) C dX1_takesAlone_37 (by decide) ?_
      refine vv_goto C 42 dX1_takesAlone_38 (by decide) ?_
      exact vv_zret1 C hR dX1_takesAlone_42 (qI_of (by first | (simp [bI, tkB, h_1, h_3]; done) | (clear C hR; simp_all [bI, tkB]; done)) (rfl))
    · refine vv_iload_n C 2 dX1_takesAlone_32 rfl rfl ?_
      refine vv_iconst (v := (-1)) C dX1_takesAlone_33 (by decide) ?_
      refine vv_icmp_ne C 41 dX1_takesAlone_34 (by decide) (fun h_5 => ?_) (fun h_6 => ?_)
      · refine vv_iconst (v := 0) C dX1_takesAlone_41 (by decide) ?_
        exact vv_zret0 C hR dX1_takesAlone_42 (qI_of (by first | (simp [bI, tkB, h_1, h_4, h_5]; done) | (clear C hR; simp_all [bI, tkB]; done)) (rfl))
      · refine vv_iconst (v := 1) C dX1_takesAlone_37 (by decide) ?_
        refine vv_goto C 42 dX1_takesAlone_38 (by decide) ?_
        exact vv_zret1 C hR dX1_takesAlone_42 (qI_of (by first | (simp [bI, tkB, h_1, h_4, h_6]; done) | (clear C hR; simp_all [bI, tkB]; done)) (rfl))
  · refine vv_iload_n C 3 dX1_takesAlone_23 rfl rfl ?_
    refine vv_iconst (v := 1) C dX1_takesAlone_24 (by decide) ?_
    refine vv_icmp_ne C 43 dX1_takesAlone_25 (by decide) (fun h_7 => ?_) (fun h_8 => ?_)
    · refine vv_iload_n C 2 dX1_takesAlone_43 rfl rfl ?_
      refine vv_iconst (v := (-1)) C dX1_takesAlone_44 (by decide) ?_
      refine vv_icmp_ne C 50 dX1_takesAlone_45 (by decide) (fun h_9 => ?_) (fun h_10 => ?_)
      · refine vv_iload_n C 3 dX1_takesAlone_50 rfl rfl ?_
        rcases Classical.em (M (b + 3 * j) = 2) with h_11 | h_12
        · refine vv_tsIn C 2 92 dX1_takesAlone_51 h_11 (by decide) (by decide) rfl (by decide) ?_
          refine vv_iconst (v := 1) C dX1_takesAlone_92 (by decide) ?_
          exact vv_zret1 C hR dX1_takesAlone_93 (qI_of (by first | (simp [bI, tkB, h_2, h_7, h_9, h_11]; done) | (clear C hR; simp_all [bI, tkB]; done)) (rfl))
        rcases Classical.em (M (b + 3 * j) = 3) with h_13 | h_14
        · refine vv_tsIn C 3 94 dX1_takesAlone_51 h_13 (by decide) (by decide) rfl (by decide) ?_
          refine vv_iload_n C 2 dX1_takesAlone_94 rfl rfl ?_
          refine vv_iload C 4 dX1_takesAlone_95 rfl ?_
          refine vv_icmp_ne C 104 dX1_takesAlone_97 (by decide) (fun h_15 => ?_) (fun h_16 => ?_)
          · refine vv_iconst (v := 0) C dX1_takesAlone_104 (by decide) ?_
            exact vv_zret0 C hR dX1_takesAlone_105 (qI_of (by first | (simp [bI, tkB, h_2, h_7, h_9, h_12, h_13, h_15]; done) | (clear C hR; simp_all [bI, tkB]; done)) (rfl))
          · refine vv_iconst (v := 1) C dX1_takesAlone_100 (by decide) ?_
            refine vv_goto C 105 dX1_takesAlone_101 (by decide) ?_
            exact vv_zret1 C hR dX1_takesAlone_105 (qI_of (by first | (simp [bI, tkB, h_2, h_7, h_9, h_12, h_13, h_16]; done) | (clear C hR; simp_all [bI, tkB]; done)) (rfl))
        rcases Classical.em (M (b + 3 * j) = 4) with h_17 | h_18
        · refine vv_tsIn C 4 106 dX1_takesAlone_51 h_17 (by decide) (by decide) rfl (by decide) ?_
          refine vv_iload_n C 2 dX1_takesAlone_106 rfl rfl ?_
          refine vv_iload C 4 dX1_takesAlone_107 rfl ?_
          refine vv_icmp_eq C 116 dX1_takesAlone_109 (by decide) (fun h_19 => ?_) (fun h_20 => ?_)
          · refine vv_iconst (v := 0) C dX1_takesAlone_116 (by decide) ?_
            exact vv_zret0 C hR dX1_takesAlone_117 (qI_of (by first | (simp [bI, tkB, h_2, h_7, h_9, h_12, h_14, h_17, h_19]; done) | (clear C hR; simp_all [bI, tkB]; done)) (rfl))
          · refine vv_iconst (v := 1) C dX1_takesAlone_112 (by decide) ?_
            refine vv_goto C 117 dX1_takesAlone_113 (by decide) ?_
            exact vv_zret1 C hR dX1_takesAlone_117 (qI_of (by first | (simp [bI, tkB, h_2, h_7, h_9, h_12, h_14, h_17, h_20]; done) | (clear C hR; simp_all [bI, tkB]; done)) (rfl))
        rcases Classical.em (M (b + 3 * j) = 5) with h_21 | h_22
        · refine vv_tsIn C 5 118 dX1_takesAlone_51 h_21 (by decide) (by decide) rfl (by decide) ?_
          refine vv_iload_n C 2 dX1_takesAlone_118 rfl rfl ?_
          refine vv_iload C 4 dX1_takesAlone_119 rfl ?_
          refine vv_icmp_ge C 128 dX1_takesAlone_121 (by decide) (fun h_23 => ?_) (fun h_24 => ?_)
          · refine vv_iconst (v := 0) C dX1_takesAlone_128 (by decide) ?_
            exact vv_zret0 C hR dX1_takesAlone_129 (qI_of (by first | (simp [bI, tkB, h_2, h_7, h_9, h_12, h_14, h_18, h_21, h_23]; done) | (clear C hR; simp_all [bI, tkB]; done)) (rfl))
          · refine vv_iconst (v := 1) C dX1_takesAlone_124 (by decide) ?_
            refine vv_goto C 129 dX1_takesAlone_125 (by decide) ?_
            exact vv_zret1 C hR dX1_takesAlone_129 (qI_of (by first | (simp [bI, tkB, h_2, h_7, h_9, h_12, h_14, h_18, h_21, h_24]; done) | (clear C hR; simp_all [bI, tkB]; done)) (rfl))
        rcases Classical.em (M (b + 3 * j) = 6) with h_25 | h_26
        · refine vv_tsIn C 6 130 dX1_takesAlone_51 h_25 (by decide) (by decide) rfl (by decide) ?_
          refine vv_iload_n C 2 dX1_takesAlone_130 rfl rfl ?_
          refine vv_iload C 4 dX1_takesAlone_131 rfl ?_
          refine vv_icmp_le C 140 dX1_takesAlone_133 (by decide) (fun h_27 => ?_) (fun h_28 => ?_)
          · refine vv_iconst (v := 0) C dX1_takesAlone_140 (by decide) ?_
            exact vv_zret0 C hR dX1_takesAlone_141 (qI_of (by first | (simp [bI, tkB, h_2, h_7, h_9, h_12, h_14, h_18, h_22, h_25, h_27]; done) | (clear C hR; simp_all [bI, tkB]; done)) (rfl))
          · refine vv_iconst (v := 1) C dX1_takesAlone_136 (by decide) ?_
            refine vv_goto C 141 dX1_takesAlone_137 (by decide) ?_
            exact vv_zret1 C hR dX1_takesAlone_141 (qI_of (by first | (simp [bI, tkB, h_2, h_7, h_9, h_12, h_14, h_18, h_22, h_25, h_28]; done) | (clear C hR; simp_all [bI, tkB]; done)) (rfl))
        rcases Classical.em (M (b + 3 * j) = 7) with h_29 | h_30
        · refine vv_tsIn C 7 142 dX1_takesAlone_51 h_29 (by decide) (by decide) rfl (by decide) ?_
          refine vv_iload_n C 2 dX1_takesAlone_142 rfl rfl ?_
          refine vv_iload C 4 dX1_takesAlone_143 rfl ?_
          refine vv_icmp_lt C 164 dX1_takesAlone_145 (by decide) (fun h_31 => ?_) (fun h_32 => ?_)
          · refine vv_iconst (v := 0) C dX1_takesAlone_164 (by decide) ?_
            exact vv_zret0 C hR dX1_takesAlone_165 (qI_of (by first | (simp [bI, tkB, h_2, h_7, h_9, h_12, h_14, h_18, h_22, h_26, h_29, h_31]; done) | (clear C hR; simp_all [bI, tkB]; done)) (rfl))
          · refine vv_iload_n C 2 dX1_takesAlone_148 rfl rfl ?_
            refine vv_aload_n C 0 dX1_takesAlone_149 rfl rfl ?_
            refine vv_getr C (Cn := RX1) (T := TX1) (N := 3) hX.1 2 rfl rfl (by decide) iX1_takesAlone_X1 (List.mem_of_getElem? (i := 3) rfl) rfl dX1_takesAlone_150 ?_
            refine vv_iload_n C 1 dX1_takesAlone_153 rfl rfl ?_
            refine vv_callVI C [.int i] (c_X3_at hX.2.2.2 M (i := i) (j := j) hi hj) hX.2.2.2.1 rfl (cwV 1 C.1.2.2.2.2 gX1_takesAlone_X3_at rfl rfl rfl (by decide +kernel) ⟨Nat.le_of_ble_eq_true rfl, Nat.le_of_ble_eq_true rfl⟩) rfl rfl rfl (Nat.le_of_ble_eq_true rfl) dX1_takesAlone_154 ⟨Nat.le_refl _, Nat.le_refl _⟩ ?_
            refine vv_icmp_gt C 164 dX1_takesAlone_157 (by decide) (fun h_33 => ?_) (fun h_34 => ?_)
            · refine vv_iconst (v := 0) C dX1_takesAlone_164 (by decide) ?_
              exact vv_zret0 C hR dX1_takesAlone_165 (qI_of (by first | (simp [bI, tkB, h_2, h_7, h_9, h_12, h_14, h_18, h_22, h_26, h_29, h_32, h_33]; done) | (clear C hR; simp_all [bI, tkB]; done)) (rfl))
            · refine vv_iconst (v := 1) C dX1_takesAlone_160 (by decide) ?_
              refine vv_goto C 165 dX1_takesAlone_161 (by decide) ?_
              exact vv_zret1 C hR dX1_takesAlone_165 (qI_of (by first | (simp [bI, tkB, h_2, h_7, h_9, h_12, h_14, h_18, h_22, h_26, h_29, h_32, h_34]; done) | (clear C hR; simp_all [bI, tkB]; done)) (rfl))
        rcases Classical.em (M (b + 3 * j) = 8) with h_35 | h_36
        · refine vv_tsIn C 8 92 dX1_takesAlone_51 h_35 (by decide) (by decide) rfl (by decide) ?_
          refine vv_iconst (v := 1) C dX1_takesAlone_92 (by decide) ?_
          exact vv_zret1 C hR dX1_takesAlone_93 (qI_of (by first | (simp [bI, tkB, h_2, h_7, h_9, h_12, h_14, h_18, h_22, h_26, h_30, h_35]; done) | (clear C hR; simp_all [bI, tkB]; done)) (rfl))
        refine vv_tsOut C 166 dX1_takesAlone_51 (by have t2 := lv_neT (a := 2) h_12 (by decide); have t3 := lv_neT (a := 3) h_14 (by decide); have t4 := lv_neT (a := 4) h_18 (by decide); have t5 := lv_neT (a := 5) h_22 (by decide); have t6 := lv_neT (a := 6) h_26 (by decide); have t7 := lv_neT (a := 7) h_30 (by decide); have t8 := lv_neT (a := 8) h_36 (by decide); omega) (by decide) ?_
        refine vv_iconst (v := 0) C dX1_takesAlone_166 (by decide) ?_
        exact vv_zret0 C hR dX1_takesAlone_167 (qI_of (by first | (simp [bI, tkB, h_2, h_7, h_9, h_12, h_14, h_18, h_22, h_26, h_30, h_36]; done) | (clear C hR; simp_all [bI, tkB]; done)) (rfl))
      · refine vv_iconst (v := 0) C dX1_takesAlone_48 (by decide) ?_
        exact vv_zret0 C hR dX1_takesAlone_49 (qI_of (by first | (simp [bI, tkB, h_2, h_7, h_10]; done) | (clear C hR; simp_all [bI, tkB]; done)) (rfl))
    · refine vv_iload_n C 3 dX1_takesAlone_28 rfl rfl ?_
      refine vv_if_eq C 37 dX1_takesAlone_29 (by decide) (fun h_38 => ?_) (fun h_39 => ?_)
      · refine vv_iconst (v := 1) C dX1_takesAlone_37 (by decide) ?_
        refine vv_goto C 42 dX1_takesAlone_38 (by decide) ?_
        exact vv_zret1 C hR dX1_takesAlone_42 (qI_of (by first | (simp [bI, tkB, h_2, h_8, h_38]; done) | (clear C hR; simp_all [bI, tkB]; done)) (rfl))
      · refine vv_iload_n C 2 dX1_takesAlone_32 rfl rfl ?_
        refine vv_iconst (v := (-1)) C dX1_takesAlone_33 (by decide) ?_
        refine vv_icmp_ne C 41 dX1_takesAlone_34 (by decide) (fun h_40 => ?_) (fun h_41 => ?_)
        · refine vv_iconst (v := 0) C dX1_takesAlone_41 (by decide) ?_
          exact vv_zret0 C hR dX1_takesAlone_42 (qI_of (by first | (simp [bI, tkB, h_2, h_8, h_39, h_40]; done) | (clear C hR; simp_all [bI, tkB]; done)) (rfl))
        · refine vv_iconst (v := 1) C dX1_takesAlone_37 (by decide) ?_
          refine vv_goto C 42 dX1_takesAlone_38 (by decide) ?_
          exact vv_zret1 C hR dX1_takesAlone_42 (qI_of (by first | (simp [bI, tkB, h_2, h_8, h_39, h_41]; done) | (clear C hR; simp_all [bI, tkB]; done)) (rfl))
