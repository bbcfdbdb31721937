theorem iX0_width_X0 : ∀ w ∈ u_ws RX0 TX0 4, w ∈ wsX0_width := fun w hw => (List.mem_cons_of_mem _ (List.mem_append_right _ hw))
theorem add_sub1 (x : Int32) : x + 1 - 1 = x := by rw [Int32.sub_eq_add_neg, Int32.add_assoc, Int32.add_right_neg, Int32.add_zero]
set_option maxRecDepth 100000 in
set_option maxHeartbeats 4000000 in
theorem c_X0_width {l : Launch} {G : mw_GG} {d : Nat} (hd : d < 2) (M : mw_M) : mw_Met l yX0_width wsX0_width ({ frames := 0, cells := 0, slots := 0, locals := 0 } : Room) G [.ref (G.1 (1 + 10 * d))] M (qI (M d) M) := by
  refine mw_ofV (cc := cX0_width) 1 (by decide) rfl rfl (Nat.le_of_ble_eq_true rfl) ?_
  intro p e s m args below meth c C hR hN0
  refine vv_loc (ls2 := [some (.ref (G.1 (1 + 10 * d)))]) rfl ?_
  refine vv_aload_n C 0 dX0_width_0 rfl rfl ?_
  refine vv_geti C (Cn := RX0) (T := TX0) (N := 4) (mw_Dw_d hd).1 2 rfl rfl (by decide) iX0_width_X0 (List.mem_of_getElem? (i := 1) rfl) rfl dX0_width_1 ?_
  exact vv_iret C hR dX0_width_4 (qI_of (rfl) (rfl))
theorem iX0_size_X0 : ∀ w ∈ u_ws RX0 TX0 4, w ∈ wsX0_size := fun w hw => (List.mem_cons_of_mem _ (List.mem_append_right _ hw))
set_option maxRecDepth 100000 in
set_option maxHeartbeats 4000000 in
theorem c_X0_size {l : Launch} {G : mw_GG} {d : Nat} (hd : d < 2) (M : mw_M) : mw_Met l yX0_size wsX0_size ({ frames := 0, cells := 0, slots := 0, locals := 0 } : Room) G [.ref (G.1 (1 + 10 * d))] M (qI (M (2 + d)) M) := by
  refine mw_ofV (cc := cX0_size) 1 (by decide) rfl rfl (Nat.le_of_ble_eq_true rfl) ?_
  intro p e s m args below meth c C hR hN0
  refine vv_loc (ls2 := [some (.ref (G.1 (1 + 10 * d)))]) rfl ?_
  refine vv_aload_n C 0 dX0_size_0 rfl rfl ?_
  refine vv_geti C (Cn := RX0) (T := TX0) (N := 4) (mw_Dw_d hd).1 3 rfl rfl (by decide) iX0_size_X0 (List.mem_of_getElem? (i := 1) rfl) rfl dX0_size_1 ?_
  exact vv_iret C hR dX0_size_4 (qI_of (rfl) (rfl))
theorem mw_DwE {d : Nat} (h : d < 2) : mw_Ex (4 + 10 * d) (100 + 12 * d) := (mw_Dw_d h).2.2
theorem iX0_example_X0 : ∀ w ∈ u_ws RX0 TX0 4, w ∈ wsX0_example := fun w hw => (List.mem_cons_of_mem _ (List.mem_append_right _ hw))
set_option maxRecDepth 100000 in
set_option maxHeartbeats 4000000 in
theorem c_X0_example {l : Launch} {G : mw_GG} {d : Nat} (hd : d < 2) (M : mw_M) : mw_Met l yX0_example wsX0_example ({ frames := 0, cells := 0, slots := 0, locals := 0 } : Room) G [.ref (G.1 (1 + 10 * d))] M (qR (G.1 (4 + 10 * d)) M) := by
  refine mw_ofV (cc := cX0_example) 1 (by decide) rfl rfl (Nat.le_of_ble_eq_true rfl) ?_
  intro p e s m args below meth c C hR hN0
  refine vv_loc (ls2 := [some (.ref (G.1 (1 + 10 * d)))]) rfl ?_
  refine vv_aload_n C 0 dX0_example_0 rfl rfl ?_
  refine vv_getr C (Cn := RX0) (T := TX0) (N := 4) (mw_Dw_d hd).1 1 rfl rfl (by decide) iX0_example_X0 (List.mem_of_getElem? (i := 1) rfl) rfl dX0_example_1 ?_
  exact vv_aret C hR dX0_example_4 (qR_of (rfl) (rfl))
theorem iX0_hasColumn_X0 : ∀ w ∈ u_ws RX0 TX0 4, w ∈ wsX0_hasColumn := fun w hw => (List.mem_cons_of_mem _ (List.mem_append_right _ hw))
set_option maxRecDepth 100000 in
set_option maxHeartbeats 4000000 in
theorem c_X0_hasColumn {l : Launch} {G : mw_GG} {d : Nat} (hd : d < 2) (M : mw_M) (i : Int32) : mw_Met l yX0_hasColumn wsX0_hasColumn ({ frames := 0, cells := 0, slots := 0, locals := 0 } : Room) G [.ref (G.1 (1 + 10 * d)), .int i] M (qI (bI (hcP M d i)) M) := by
  refine mw_ofV (cc := cX0_hasColumn) 2 (by decide) rfl rfl (Nat.le_of_ble_eq_true rfl) ?_
  intro p e s m args below meth c C hR hN0
  refine vv_loc (ls2 := [some (.ref (G.1 (1 + 10 * d))), some (.int i)]) rfl ?_
  refine vv_iload_n C 1 dX0_hasColumn_0 rfl rfl ?_
  refine vv_if_lt C 16 dX0_hasColumn_1 (by decide) (fun h_1 => ?_) (fun h_2 => ?_)
  · refine vv_iconst (v := 0) C dX0_hasColumn_16 (by decide) ?_
    exact vv_zret0 C hR dX0_hasColumn_17 (qI_of (by simp [bI, h_1]) (rfl))
  · refine vv_iload_n C 1 dX0_hasColumn_4 rfl rfl ?_
    refine vv_aload_n C 0 dX0_hasColumn_5 rfl rfl ?_
    refine vv_geti C (Cn := RX0) (T := TX0) (N := 4) (mw_Dw_d hd).1 2 rfl rfl (by decide) iX0_hasColumn_X0 (List.mem_of_getElem? (i := 1) rfl) rfl dX0_hasColumn_6 ?_
    refine vv_icmp_ge C 16 dX0_hasColumn_9 (by decide) (fun h_3 => ?_) (fun h_4 => ?_)
    · refine vv_iconst (v := 0) C dX0_hasColumn_16 (by decide) ?_
      exact vv_zret0 C hR dX0_hasColumn_17 (qI_of (by simp [bI, h_2, h_3]) (rfl))
    · refine vv_iconst (v := 1) C dX0_hasColumn_12 (by decide) ?_
      refine vv_goto C 17 dX0_hasColumn_13 (by decide) ?_
      exact vv_zret1 C hR dX0_hasColumn_17 (qI_of (by simp [bI, h_2, h_4]) (rfl))
theorem iX0_hasCard_X0 : ∀ w ∈ u_ws RX0 TX0 4, w ∈ wsX0_hasCard := fun w hw => (List.mem_cons_of_mem _ (List.mem_append_right _ hw))
set_option maxRecDepth 100000 in
set_option maxHeartbeats 4000000 in
theorem c_X0_hasCard {l : Launch} {G : mw_GG} {d : Nat} (hd : d < 2) (M : mw_M) (i : Int32) : mw_Met l yX0_hasCard wsX0_hasCard ({ frames := 0, cells := 0, slots := 0, locals := 0 } : Room) G [.ref (G.1 (1 + 10 * d)), .int i] M (qI (bI (hkP M d i)) M) := by
  refine mw_ofV (cc := cX0_hasCard) 2 (by decide) rfl rfl (Nat.le_of_ble_eq_true rfl) ?_
  intro p e s m args below meth c C hR hN0
  refine vv_loc (ls2 := [some (.ref (G.1 (1 + 10 * d))), some (.int i)]) rfl ?_
  refine vv_iload_n C 1 dX0_hasCard_0 rfl rfl ?_
  refine vv_if_lt C 16 dX0_hasCard_1 (by decide) (fun h_1 => ?_) (fun h_2 => ?_)
  · refine vv_iconst (v := 0) C dX0_hasCard_16 (by decide) ?_
    exact vv_zret0 C hR dX0_hasCard_17 (qI_of (by simp [bI, h_1]) (rfl))
  · refine vv_iload_n C 1 dX0_hasCard_4 rfl rfl ?_
    refine vv_aload_n C 0 dX0_hasCard_5 rfl rfl ?_
    refine vv_geti C (Cn := RX0) (T := TX0) (N := 4) (mw_Dw_d hd).1 3 rfl rfl (by decide) iX0_hasCard_X0 (List.mem_of_getElem? (i := 1) rfl) rfl dX0_hasCard_6 ?_
    refine vv_icmp_ge C 16 dX0_hasCard_9 (by decide) (fun h_3 => ?_) (fun h_4 => ?_)
    · refine vv_iconst (v := 0) C dX0_hasCard_16 (by decide) ?_
      exact vv_zret0 C hR dX0_hasCard_17 (qI_of (by simp [bI, h_2, h_3]) (rfl))
    · refine vv_iconst (v := 1) C dX0_hasCard_12 (by decide) ?_
      refine vv_goto C 17 dX0_hasCard_13 (by decide) ?_
      exact vv_zret1 C hR dX0_hasCard_17 (qI_of (by simp [bI, h_2, h_4]) (rfl))
theorem iX0_entry_X0 : ∀ w ∈ u_ws RX0 TX0 4, w ∈ wsX0_entry := fun w hw => (List.mem_cons_of_mem _ (List.mem_append_left _ (List.mem_append_right _ hw)))
set_option maxRecDepth 100000 in
set_option maxHeartbeats 4000000 in
theorem c_X0_entry {l : Launch} {G : mw_GG} {d : Nat} (hd : d < 2) (M : mw_M) (hz : szP M d) (i j : Int32) : mw_Met l yX0_entry wsX0_entry ({ frames := 1, cells := 0, slots := 0, locals := 21 } : Room) G [.ref (G.1 (1 + 10 * d)), .int i, .int j] M (qI (entI M d i j) M) := by
  refine mw_ofV (cc := cX0_entry) 3 (by decide) rfl rfl (Nat.le_of_ble_eq_true rfl) ?_
  intro p e s m args below meth c C hR hN0
  refine vv_loc (ls2 := [some (.ref (G.1 (1 + 10 * d))), some (.int i), some (.int j)]) rfl ?_
  refine vv_aload_n C 0 dX0_entry_0 rfl rfl ?_
  refine vv_iload_n C 1 dX0_entry_1 rfl rfl ?_
  refine vv_callVI C [.int i] (c_X0_hasCard (d := d) hd M i) (mw_Dw_d hd).1 rfl (cwV 1 C.1.2.2.2.2 gX0_entry_X0_hasCard rfl rfl rfl (by decide +kernel) ⟨Nat.le_of_ble_eq_true rfl, Nat.le_of_ble_eq_true rfl⟩) rfl rfl rfl (Nat.le_of_ble_eq_true rfl) dX0_entry_2 ⟨Nat.le_refl _, Nat.le_refl _⟩ ?_
  refine vv_bif_eq C 16 dX0_entry_5 (by decide) (fun h_nk => ?_) (fun h_k => ?_)
  · refine vv_iconst (v := (-1)) C dX0_entry_16 (by decide) ?_
    exact vv_iret C hR dX0_entry_17 (qI_of (by unfold entI; rw [if_neg (fun z => h_nk z.1)]) (rfl))
  · refine vv_aload_n C 0 dX0_entry_8 rfl rfl ?_
    refine vv_iload_n C 2 dX0_entry_9 rfl rfl ?_
    refine vv_callVI C [.int j] (c_X0_hasColumn (d := d) hd M j) (mw_Dw_d hd).1 rfl (cwV 1 C.1.2.2.2.2 gX0_entry_X0_hasColumn rfl rfl rfl (by decide +kernel) ⟨Nat.le_of_ble_eq_true rfl, Nat.le_of_ble_eq_true rfl⟩) rfl rfl rfl (Nat.le_of_ble_eq_true rfl) dX0_entry_10 ⟨Nat.le_refl _, Nat.le_refl _⟩ ?_
    refine vv_bif_ne C 18 dX0_entry_13 (by decide) (fun h_c => ?_) (fun h_nc => ?_)
    · refine vv_aload_n C 0 dX0_entry_18 rfl rfl ?_
      refine vv_getr C (Cn := RX0) (T := TX0) (N := 4) (mw_Dw_d hd).1 0 rfl rfl (by decide) iX0_entry_X0 (List.mem_of_getElem? (i := 1) rfl) rfl dX0_entry_19 ?_
      refine vv_iload_n C 1 dX0_entry_22 rfl rfl ?_
      refine vv_iconst (v := 4) C dX0_entry_23 (by decide) ?_
      refine vv_imul C dX0_entry_24 ?_
      refine vv_iload_n C 2 dX0_entry_25 rfl rfl ?_
      refine vv_iadd C dX0_entry_26 ?_
      refine vv_callVI C [.int ((i * 4) + j)] (c_X3_at (mw_Dw_d hd).2.1 M (i := ((i * 4) + j)) (j := (4 * i.toNatClampNeg + j.toNatClampNeg)) (ent_ix hz h_k h_c).1 (ent_ix hz h_k h_c).2) (mw_Dw_d hd).2.1.1 rfl (cwV 1 C.1.2.2.2.2 gX0_entry_X3_at rfl rfl rfl (by decide +kernel) ⟨Nat.le_of_ble_eq_true rfl, Nat.le_of_ble_eq_true rfl⟩) rfl rfl rfl (Nat.le_of_ble_eq_true rfl) dX0_entry_27 ⟨Nat.le_refl _, Nat.le_refl _⟩ ?_
      exact vv_iret C hR dX0_entry_30 (qI_of (by unfold entI; rw [if_pos ⟨h_k, h_c⟩]; congr 1; omega) (rfl))
    · refine vv_iconst (v := (-1)) C dX0_entry_16 (by decide) ?_
      exact vv_iret C hR dX0_entry_17 (qI_of (by unfold entI; rw [if_neg (fun z => h_nc z.2)]) (rfl))
theorem iX0_remake_X0 : ∀ w ∈ u_ws RX0 TX0 4, w ∈ wsX0_remake := fun w hw => (List.mem_cons_of_mem _ (List.mem_append_left _ (List.mem_append_left _ (List.mem_append_right _ hw))))
set_option maxRecDepth 100000 in
set_option maxHeartbeats 4000000 in
theorem c_X0_remake {l : Launch} {G : mw_GG} {d : Nat} (hd : d < 2) (M : mw_M) (x : Int32) : mw_Met l yX0_remake wsX0_remake ({ frames := 2, cells := 0, slots := 0, locals := 42 } : Room) G [.ref (G.1 (1 + 10 * d)), .int x] M (qI (M (2 + d)) (s_zero (upd (upd M d x) (2 + d) 0) (100 + 12 * d))) := by
  refine mw_ofV (cc := cX0_remake) 3 (by decide) rfl rfl (Nat.le_of_ble_eq_true rfl) ?_
  intro p e s m args below meth c C hR hN0
  refine vv_loc (ls2 := [some (.ref (G.1 (1 + 10 * d))), some (.int x), none]) rfl ?_
  refine vv_aload_n C 0 dX0_remake_0 rfl rfl ?_
  refine vv_geti C (Cn := RX0) (T := TX0) (N := 4) (mw_Dw_d hd).1 3 rfl rfl (by decide) iX0_remake_X0 (List.mem_of_getElem? (i := 1) rfl) rfl dX0_remake_1 ?_
  refine vv_istore_n (ls2 := [some (.ref (G.1 (1 + 10 * d))), some (.int x), some (.int (M (2 + d)))]) C 2 dX0_remake_4 rfl (Nat.le_of_ble_eq_true rfl) rfl ?_
  refine vv_aload_n C 0 dX0_remake_5 rfl rfl ?_
  refine vv_iload_n C 1 dX0_remake_6 rfl rfl ?_
  refine vv_putf C (Cn := RX0) (T := TX0) (N := 4) (mw_Dw_d hd).1 2 rfl rfl (by decide) iX0_remake_X0 (List.mem_of_getElem? (i := 2) rfl) rfl tyX0_ok nmX0 rfl rfl dX0_remake_7 ?_
  refine vv_aload_n C 0 dX0_remake_10 rfl rfl ?_
  refine vv_iconst (v := 0) C dX0_remake_11 (by decide) ?_
  refine vv_putf C (Cn := RX0) (T := TX0) (N := 4) (mw_Dw_d hd).1 3 rfl rfl (by decide) iX0_remake_X0 (List.mem_of_getElem? (i := 1) rfl) rfl tyX0_ok nmX0 rfl rfl dX0_remake_12 ?_
  refine vv_aload_n C 0 dX0_remake_15 rfl rfl ?_
  refine vv_getr C (Cn := RX0) (T := TX0) (N := 4) (mw_Dw_d hd).1 1 rfl rfl (by decide) iX0_remake_X0 (List.mem_of_getElem? (i := 3) rfl) rfl dX0_remake_16 ?_
  refine vv_callVV C [] (c_X1_wipe (mw_Dw_d hd).2.2 (upd (upd M d x) (2 + d) 0)) (mw_Dw_d hd).2.2.1 rfl (cwV 0 C.1.2.2.2.2 gX0_remake_X1_wipe rfl rfl rfl (by decide +kernel) ⟨Nat.le_of_ble_eq_true rfl, Nat.le_of_ble_eq_true rfl⟩) rfl rfl rfl (Nat.le_of_ble_eq_true rfl) dX0_remake_19 ⟨Nat.le_refl _, Nat.le_refl _⟩ ?_
  refine vv_iload_n C 2 dX0_remake_22 rfl rfl ?_
  exact vv_iret C hR dX0_remake_23 (qI_of (rfl) (rfl))
def s_add (M : mw_M) (d n : Nat) (x y z w : Int32) : mw_M := upd (upd (upd (upd (upd M (4 + 48 * d + 4 * n) x) (4 + 48 * d + (4 * n + 1)) y) (4 + 48 * d + (4 * n + 2)) z) (4 + 48 * d + (4 * n + 3)) w) (2 + d) (nI (n + 1))
theorem m4_nI (n k : Nat) : nI n * 4 + nI k = nI (4 * n + k) := by
  rw [show (4 : Int32) = nI 4 from rfl, pk_mul, nI_add, Nat.mul_comm]
theorem m4_nI0 (n : Nat) : nI n * 4 = nI (4 * n) := by
  rw [show (4 : Int32) = nI 4 from rfl, pk_mul, Nat.mul_comm]
theorem upd_o {M : mw_M} {k q : Nat} {x : Int32} (h : q ≠ k) : upd M k x q = M q := by unfold upd; rw [if_neg h]
theorem upd_s {M : mw_M} {k : Nat} {x : Int32} : upd M k x k = x := by unfold upd; rw [if_pos rfl]
theorem iX0_add_X0 : ∀ w ∈ u_ws RX0 TX0 4, w ∈ wsX0_add := fun w hw => (List.mem_cons_of_mem _ (List.mem_append_left _ (List.mem_append_right _ hw)))
set_option maxRecDepth 100000 in
set_option maxHeartbeats 4000000 in
theorem c_X0_add {l : Launch} {G : mw_GG} {d : Nat} (hd : d < 2) (M : mw_M) {n : Nat} (hn : M (2 + d) = nI n) (hlt : n < 12) (x y z w : Int32) : mw_Met l yX0_add wsX0_add ({ frames := 1, cells := 0, slots := 0, locals := 22 } : Room) G [.ref (G.1 (1 + 10 * d)), .int x, .int y, .int z, .int w] M (qI (nI n) (s_add M d n x y z w)) := by
  refine mw_ofV (cc := cX0_add) 6 (by decide) rfl rfl (Nat.le_of_ble_eq_true rfl) ?_
  intro p e s m args below meth c C hR hN0
  refine vv_loc (ls2 := [some (.ref (G.1 (1 + 10 * d))), some (.int x), some (.int y), some (.int z), some (.int w), none]) rfl ?_
  refine vv_aload_n C 0 dX0_add_0 rfl rfl ?_
  refine vv_geti C (Cn := RX0) (T := TX0) (N := 4) (mw_Dw_d hd).1 3 rfl rfl (by decide) iX0_add_X0 (List.mem_of_getElem? (i := 1) rfl) rfl dX0_add_1 ?_
  refine vv_iconst (v := 4) C dX0_add_4 (by decide) ?_
  refine vv_imul C dX0_add_5 ?_
  refine vv_istore (ls2 := [some (.ref (G.1 (1 + 10 * d))), some (.int x), some (.int y), some (.int z), some (.int w), some (.int ((M (2 + d)) * 4))]) C 5 dX0_add_6 (Nat.le_of_ble_eq_true rfl) rfl ?_
  refine vv_aload_n C 0 dX0_add_8 rfl rfl ?_
  refine vv_getr C (Cn := RX0) (T := TX0) (N := 4) (mw_Dw_d hd).1 0 rfl rfl (by decide) iX0_add_X0 (List.mem_of_getElem? (i := 2) rfl) rfl dX0_add_9 ?_
  refine vv_iload C 5 dX0_add_12 rfl ?_
  refine vv_iload_n C 1 dX0_add_14 rfl rfl ?_
  refine vv_callVV C [.int ((M (2 + d)) * 4), .int x] (c_X3_set (mw_Dw_d hd).2.1 M (i := ((M (2 + d)) * 4)) (j := (4 * n)) (by rw [hn]; exact m4_nI0 n) (by omega) x) (mw_Dw_d hd).2.1.1 rfl (cwV 2 C.1.2.2.2.2 gX0_add_X3_set rfl rfl rfl (by decide +kernel) ⟨Nat.le_of_ble_eq_true rfl, Nat.le_of_ble_eq_true rfl⟩) rfl rfl rfl (Nat.le_of_ble_eq_true rfl) dX0_add_15 ⟨Nat.le_refl _, Nat.le_refl _⟩ ?_
  refine vv_aload_n C 0 dX0_add_18 rfl rfl ?_
  refine vv_getr C (Cn := RX0) (T := TX0) (N := 4) (mw_Dw_d hd).1 0 rfl rfl (by decide) iX0_add_X0 (List.mem_of_getElem? (i := 2) rfl) rfl dX0_add_19 ?_
  refine vv_iload C 5 dX0_add_22 rfl ?_
  refine vv_iconst (v := 1) C dX0_add_24 (by decide) ?_
  refine vv_iadd C dX0_add_25 ?_
  refine vv_iload_n C 2 dX0_add_26 rfl rfl ?_
  refine vv_callVV C [.int (((M (2 + d)) * 4) + 1), .int y] (c_X3_set (mw_Dw_d hd).2.1 (upd M (4 + 48 * d + 1 * (4 * n)) x) (i := (((M (2 + d)) * 4) + 1)) (j := (4 * n + 1)) (by rw [hn]; exact m4_nI n 1) (by omega) y) (mw_Dw_d hd).2.1.1 rfl (cwV 2 C.1.2.2.2.2 gX0_add_X3_set rfl rfl rfl (by decide +kernel) ⟨Nat.le_of_ble_eq_true rfl, Nat.le_of_ble_eq_true rfl⟩) rfl rfl rfl (Nat.le_of_ble_eq_true rfl) dX0_add_27 ⟨Nat.le_refl _, Nat.le_refl _⟩ ?_
  refine vv_aload_n C 0 dX0_add_30 rfl rfl ?_
  refine vv_getr C (Cn := RX0) (T := TX0) (N := 4) (mw_Dw_d hd).1 0 rfl rfl (by decide) iX0_add_X0 (List.mem_of_getElem? (i := 2) rfl) rfl dX0_add_31 ?_
  refine vv_iload C 5 dX0_add_34 rfl ?_
  refine vv_iconst (v := 2) C dX0_add_36 (by decide) ?_
  refine vv_iadd C dX0_add_37 ?_
  refine vv_iload_n C 3 dX0_add_38 rfl rfl ?_
  refine vv_callVV C [.int (((M (2 + d)) * 4) + 2), .int z] (c_X3_set (mw_Dw_d hd).2.1 (upd (upd M (4 + 48 * d + 1 * (4 * n)) x) (4 + 48 * d + 1 * (4 * n + 1)) y) (i := (((M (2 + d)) * 4) + 2)) (j := (4 * n + 2)) (by rw [hn]; exact m4_nI n 2) (by omega) z) (mw_Dw_d hd).2.1.1 rfl (cwV 2 C.1.2.2.2.2 gX0_add_X3_set rfl rfl rfl (by decide +kernel) ⟨Nat.le_of_ble_eq_true rfl, Nat.le_of_ble_eq_true rfl⟩) rfl rfl rfl (Nat.le_of_ble_eq_true rfl) dX0_add_39 ⟨Nat.le_refl _, Nat.le_refl _⟩ ?_
  refine vv_aload_n C 0 dX0_add_42 rfl rfl ?_
  refine vv_getr C (Cn := RX0) (T := TX0) (N := 4) (mw_Dw_d hd).1 0 rfl rfl (by decide) iX0_add_X0 (List.mem_of_getElem? (i := 2) rfl) rfl dX0_add_43 ?_
  refine vv_iload C 5 dX0_add_46 rfl ?_
  refine vv_iconst (v := 3) C dX0_add_48 (by decide) ?_
  refine vv_iadd C dX0_add_49 ?_
  refine vv_iload C 4 dX0_add_50 rfl ?_
  refine vv_callVV C [.int (((M (2 + d)) * 4) + 3), .int w] (c_X3_set (mw_Dw_d hd).2.1 (upd (upd (upd M (4 + 48 * d + 1 * (4 * n)) x) (4 + 48 * d + 1 * (4 * n + 1)) y) (4 + 48 * d + 1 * (4 * n + 2)) z) (i := (((M (2 + d)) * 4) + 3)) (j := (4 * n + 3)) (by rw [hn]; exact m4_nI n 3) (by omega) w) (mw_Dw_d hd).2.1.1 rfl (cwV 2 C.1.2.2.2.2 gX0_add_X3_set rfl rfl rfl (by decide +kernel) ⟨Nat.le_of_ble_eq_true rfl, Nat.le_of_ble_eq_true rfl⟩) rfl rfl rfl (Nat.le_of_ble_eq_true rfl) dX0_add_52 ⟨Nat.le_refl _, Nat.le_refl _⟩ ?_
  refine vv_aload_n C 0 dX0_add_55 rfl rfl ?_
  refine vv_dup C dX0_add_56 rfl ?_
  refine vv_geti C (Cn := RX0) (T := TX0) (N := 4) (mw_Dw_d hd).1 3 rfl rfl (by decide) iX0_add_X0 (List.mem_of_getElem? (i := 1) rfl) rfl dX0_add_57 ?_
  refine vv_iconst (v := 1) C dX0_add_60 (by decide) ?_
  refine vv_iadd C dX0_add_61 ?_
  refine vv_putf C (Cn := RX0) (T := TX0) (N := 4) (mw_Dw_d hd).1 3 rfl rfl (by decide) iX0_add_X0 (List.mem_of_getElem? (i := 1) rfl) rfl tyX0_ok nmX0 rfl rfl dX0_add_62 ?_
  refine vv_aload_n C 0 dX0_add_65 rfl rfl ?_
  refine vv_geti C (Cn := RX0) (T := TX0) (N := 4) (mw_Dw_d hd).1 3 rfl rfl (by decide) iX0_add_X0 (List.mem_of_getElem? (i := 1) rfl) rfl dX0_add_66 ?_
  refine vv_iconst (v := 1) C dX0_add_69 (by decide) ?_
  refine vv_isub C dX0_add_70 ?_
  exact vv_iret C hR dX0_add_71 (qI_of (by rw [upd_s, upd_o (by omega), upd_o (by omega), upd_o (by omega), upd_o (by omega), hn]; exact add_sub1 _) (by unfold s_add; rw [upd_o (by omega), upd_o (by omega), upd_o (by omega), upd_o (by omega), hn, nI_1]; congr 5 <;> omega))
theorem iX0_replace_X0 : ∀ w ∈ u_ws RX0 TX0 4, w ∈ wsX0_replace := fun w hw => (List.mem_cons_of_mem _ (List.mem_append_left _ (List.mem_append_right _ hw)))
set_option maxRecDepth 100000 in
set_option maxHeartbeats 4000000 in
theorem c_X0_replace {l : Launch} {G : mw_GG} {d : Nat} (hd : d < 2) (M : mw_M) (hz : szP M d) {i j : Int32} (hk : hkP M d i) (hc : hcP M d j) (v : Int32) : mw_Met l yX0_replace wsX0_replace ({ frames := 2, cells := 0, slots := 0, locals := 43 } : Room) G [.ref (G.1 (1 + 10 * d)), .int i, .int j, .int v] M (qI (M (4 + 48 * d + (4 * i.toNatClampNeg + j.toNatClampNeg))) (upd M (4 + 48 * d + (4 * i.toNatClampNeg + j.toNatClampNeg)) v)) := by
  refine mw_ofV (cc := cX0_replace) 5 (by decide) rfl rfl (Nat.le_of_ble_eq_true rfl) ?_
  intro p e s m args below meth c C hR hN0
  refine vv_loc (ls2 := [some (.ref (G.1 (1 + 10 * d))), some (.int i), some (.int j), some (.int v), none]) rfl ?_
  refine vv_aload_n C 0 dX0_replace_0 rfl rfl ?_
  refine vv_iload_n C 1 dX0_replace_1 rfl rfl ?_
  refine vv_iload_n C 2 dX0_replace_2 rfl rfl ?_
  refine vv_callVI C [.int i, .int j] (c_X0_entry (d := d) hd M hz i j) (mw_Dw_d hd).1 rfl (cwV 2 C.1.2.2.2.2 gX0_replace_X0_entry rfl rfl rfl (by decide +kernel) ⟨Nat.le_of_ble_eq_true rfl, Nat.le_of_ble_eq_true rfl⟩) rfl rfl rfl (Nat.le_of_ble_eq_true rfl) dX0_replace_3 ⟨Nat.le_refl _, Nat.le_refl _⟩ ?_
  refine vv_istore (ls2 := [some (.ref (G.1 (1 + 10 * d))), some (.int i), some (.int j), some (.int v), some (.int (entI M d i j))]) C 4 dX0_replace_6 (Nat.le_of_ble_eq_true rfl) rfl ?_
  refine vv_aload_n C 0 dX0_replace_8 rfl rfl ?_
  refine vv_getr C (Cn := RX0) (T := TX0) (N := 4) (mw_Dw_d hd).1 0 rfl rfl (by decide) iX0_replace_X0 (List.mem_of_getElem? (i := 1) rfl) rfl dX0_replace_9 ?_
  refine vv_iload_n C 1 dX0_replace_12 rfl rfl ?_
  refine vv_iconst (v := 4) C dX0_replace_13 (by decide) ?_
  refine vv_imul C dX0_replace_14 ?_
  refine vv_iload_n C 2 dX0_replace_15 rfl rfl ?_
  refine vv_iadd C dX0_replace_16 ?_
  refine vv_iload_n C 3 dX0_replace_17 rfl rfl ?_
  refine vv_callVV C [.int ((i * 4) + j), .int v] (c_X3_set (mw_Dw_d hd).2.1 M (i := ((i * 4) + j)) (j := (4 * i.toNatClampNeg + j.toNatClampNeg)) (ent_ix hz hk hc).1 (ent_ix hz hk hc).2 v) (mw_Dw_d hd).2.1.1 rfl (cwV 2 C.1.2.2.2.2 gX0_replace_X3_set rfl rfl rfl (by decide +kernel) ⟨Nat.le_of_ble_eq_true rfl, Nat.le_of_ble_eq_true rfl⟩) rfl rfl rfl (Nat.le_of_ble_eq_true rfl) dX0_replace_18 ⟨Nat.le_refl _, Nat.le_refl _⟩ ?_
  refine vv_iload C 4 dX0_replace_21 rfl ?_
  exact vv_iret C hR dX0_replace_23 (qI_of (by unfold entI; rw [if_pos ⟨hk, hc⟩]) (by congr 1; omega))
def s_rem (M : mw_M) (d n k i : Nat) : mw_M := fun q => if 4 + 48 * d + 4 * k ≤ q ∧ q < 4 + 48 * d + i then M (q + 4) else if q = 2 + d then nI (n - 1) else M q
theorem rem_step {M : mw_M} {d n k i : Nat} (hd : d < 2) (h1 : 4 * k ≤ i) (h2 : i < 44) : upd (s_rem M d n k i) (4 + 48 * d + 1 * i) (s_rem M d n k i (4 + 48 * d + 1 * (i + 4))) = s_rem M d n k (i + 1) := by
  funext q
  unfold upd s_rem
  rw [if_neg (show ¬ (4 + 48 * d + 4 * k ≤ 4 + 48 * d + 1 * (i + 4) ∧ 4 + 48 * d + 1 * (i + 4) < 4 + 48 * d + i) by omega), if_neg (show ¬ (4 + 48 * d + 1 * (i + 4) = 2 + d) by omega)]
  by_cases hq : q = 4 + 48 * d + 1 * i
  · rw [if_pos hq, if_pos (by omega)]
    congr 1
    omega
  · rw [if_neg hq]
    by_cases h3 : 4 + 48 * d + 4 * k ≤ q ∧ q < 4 + 48 * d + i
    · rw [if_pos h3, if_pos (by omega)]
    · rw [if_neg h3, if_neg (show ¬ (4 + 48 * d + 4 * k ≤ q ∧ q < 4 + 48 * d + (i + 1)) by omega)]
theorem rem_start {M : mw_M} {d n k : Nat} (hd : d < 2) : upd M (2 + d) (nI (n - 1)) = s_rem M d n k (4 * k) := by
  funext q
  unfold upd s_rem
  rw [if_neg (show ¬ (4 + 48 * d + 4 * k ≤ q ∧ q < 4 + 48 * d + 4 * k) by omega)]
theorem rem_size {M : mw_M} {d n k i : Nat} (hd : d < 2) : s_rem M d n k i (2 + d) = nI (n - 1) := by
  unfold s_rem
  rw [if_neg (by omega), if_pos rfl]
theorem iX0_remove_X0 : ∀ w ∈ u_ws RX0 TX0 4, w ∈ wsX0_remove := fun w hw => (List.mem_cons_of_mem _ (List.mem_append_left _ (List.mem_append_right _ hw)))
set_option maxRecDepth 100000 in
set_option maxHeartbeats 4000000 in
theorem lp_X0_remove {p : Program} {l : Launch} {e : Env} {s : State} {m : MethodId} {args : Array Value} {below : List Frame} {meth : Method} {c : Code} {G : mw_GG} {Q : State → Prop} (C : vv_C p s m args c G cX0_remove 3 wsX0_remove RX0) {d : Nat} (hd : d < 2) (M : mw_M) {n k : Nat} (hn : n ≤ 12) (hkn : k < n) (x : Int32) (hk : vv p l e ({ frames := 1, cells := 0, slots := 0, locals := 22 } : Room) s m args below meth c G 0 0 Q (s_rem M d n k (4 * (n - 1))) 48 [some (.ref (G.1 (1 + 10 * d))), some (.int x), some (.int (nI (4 * (n - 1))))] []) : ∀ (f i : Nat), 4 * (n - 1) + 1 ≤ i + f → 4 * k ≤ i → i ≤ 4 * (n - 1) → vv p l e ({ frames := 1, cells := 0, slots := 0, locals := 22 } : Room) s m args below meth c G 0 0 Q (s_rem M d n k i) 14 [some (.ref (G.1 (1 + 10 * d))), some (.int x), some (.int (nI i))] [] := by
  intro f
  induction f with
  | zero => intro i h1 h2 h3; omega
  | succ f ih =>
    intro i h1 h2 h3
    refine vv_iload_n C 2 dX0_remove_14 rfl rfl ?_
    refine vv_aload_n C 0 dX0_remove_15 rfl rfl ?_
    refine vv_geti C (Cn := RX0) (T := TX0) (N := 4) (mw_Dw_d hd).1 3 rfl rfl (by decide) iX0_remove_X0 (List.mem_of_getElem? (i := 1) rfl) rfl dX0_remove_16 ?_
    refine vv_iconst (v := 4) C dX0_remove_19 (by decide) ?_
    refine vv_imul C dX0_remove_20 ?_
    refine vv_top (y := nI (4 * (n - 1))) (by rw [rem_size hd]; exact m4_nI0 (n - 1)) ?_
    refine vv_icmp_ge C 48 dX0_remove_21 (by decide) (fun hge => ?_) (fun hlt => ?_)
    · have hin : i = 4 * (n - 1) := by
        rcases Nat.lt_or_ge i (4 * (n - 1)) with z | z
        · exact absurd hge (nI_ge z (by omega))
        · omega
      subst hin
      exact hk
    · have hlt2 : i < 4 * (n - 1) := by
        rcases Nat.lt_or_ge i (4 * (n - 1)) with z | z
        · exact z
        · exact absurd (nI_le z (by omega)) hlt
      refine vv_aload_n C 0 dX0_remove_24 rfl rfl ?_
      refine vv_getr C (Cn := RX0) (T := TX0) (N := 4) (mw_Dw_d hd).1 0 rfl rfl (by decide) iX0_remove_X0 (List.mem_of_getElem? (i := 2) rfl) rfl dX0_remove_25 ?_
      refine vv_iload_n C 2 dX0_remove_28 rfl rfl ?_
      refine vv_aload_n C 0 dX0_remove_29 rfl rfl ?_
      refine vv_getr C (Cn := RX0) (T := TX0) (N := 4) (mw_Dw_d hd).1 0 rfl rfl (by decide) iX0_remove_X0 (List.mem_of_getElem? (i := 2) rfl) rfl dX0_remove_30 ?_
      refine vv_iload_n C 2 dX0_remove_33 rfl rfl ?_
      refine vv_iconst (v := 4) C dX0_remove_34 (by decide) ?_
      refine vv_iadd C dX0_remove_35 ?_
      refine vv_callVI C [.int ((nI i) + 4)] (c_X3_at (mw_Dw_d hd).2.1 (s_rem M d n k i) (i := ((nI i) + 4)) (j := (i + 4)) (nI_add i 4) (by omega)) (mw_Dw_d hd).2.1.1 rfl (cwV 1 C.1.2.2.2.2 gX0_remove_X3_at rfl rfl rfl (by decide +kernel) ⟨Nat.le_of_ble_eq_true rfl, Nat.le_of_ble_eq_true rfl⟩) rfl rfl rfl (Nat.le_of_ble_eq_true rfl) dX0_remove_36 ⟨Nat.le_refl _, Nat.le_refl _⟩ ?_
      refine vv_callVV C [.int (nI i), .int ((s_rem M d n k i) (4 + 48 * d + 1 * (i + 4)))] (c_X3_set (mw_Dw_d hd).2.1 (s_rem M d n k i) (i := (nI i)) (j := i) rfl (by omega) ((s_rem M d n k i) (4 + 48 * d + 1 * (i + 4)))) (mw_Dw_d hd).2.1.1 rfl (cwV 2 C.1.2.2.2.2 gX0_remove_X3_set rfl rfl rfl (by decide +kernel) ⟨Nat.le_of_ble_eq_true rfl, Nat.le_of_ble_eq_true rfl⟩) rfl rfl rfl (Nat.le_of_ble_eq_true rfl) dX0_remove_39 ⟨Nat.le_refl _, Nat.le_refl _⟩ ?_
      refine vv_mem (rem_step hd h2 (by omega)) ?_
      refine vv_iinc (v := nI (i + 1)) (ls2 := [some (.ref (G.1 (1 + 10 * d))), some (.int x), some (.int (nI (i + 1)))]) C 2 dX0_remove_42 rfl (nI_1 _) rfl ?_
      refine vv_goto C 14 dX0_remove_45 (by decide) ?_
      exact ih (i + 1) (by omega) (by omega) (by omega)
set_option maxRecDepth 100000 in
set_option maxHeartbeats 4000000 in
theorem c_X0_remove {l : Launch} {G : mw_GG} {d : Nat} (hd : d < 2) (M : mw_M) {n k : Nat} (hn : M (2 + d) = nI n) (hn12 : n ≤ 12) (hkn : k < n) {x : Int32} (hx : x = nI k) : mw_Met l yX0_remove wsX0_remove ({ frames := 1, cells := 0, slots := 0, locals := 22 } : Room) G [.ref (G.1 (1 + 10 * d)), .int x] M (qI (nI (n - 1)) (s_rem M d n k (4 * (n - 1)))) := by
  refine mw_ofV (cc := cX0_remove) 3 (by decide) rfl rfl (Nat.le_of_ble_eq_true rfl) ?_
  intro p e s m args below meth c C hR hN0
  refine vv_loc (ls2 := [some (.ref (G.1 (1 + 10 * d))), some (.int x), none]) rfl ?_
  refine vv_aload_n C 0 dX0_remove_0 rfl rfl ?_
  refine vv_dup C dX0_remove_1 rfl ?_
  refine vv_geti C (Cn := RX0) (T := TX0) (N := 4) (mw_Dw_d hd).1 3 rfl rfl (by decide) iX0_remove_X0 (List.mem_of_getElem? (i := 1) rfl) rfl dX0_remove_2 ?_
  refine vv_iconst (v := 1) C dX0_remove_5 (by decide) ?_
  refine vv_isub C dX0_remove_6 ?_
  refine vv_top (y := nI (n - 1)) (by rw [hn]; exact pk_sub (show 1 ≤ n by omega)) ?_
  refine vv_putf C (Cn := RX0) (T := TX0) (N := 4) (mw_Dw_d hd).1 3 rfl rfl (by decide) iX0_remove_X0 (List.mem_of_getElem? (i := 1) rfl) rfl tyX0_ok nmX0 rfl rfl dX0_remove_7 ?_
  refine vv_mem (rem_start (k := k) hd) ?_
  refine vv_iload_n C 1 dX0_remove_10 rfl rfl ?_
  refine vv_iconst (v := 4) C dX0_remove_11 (by decide) ?_
  refine vv_imul C dX0_remove_12 ?_
  refine vv_top (y := nI (4 * k)) (by rw [hx]; exact m4_nI0 k) ?_
  refine vv_istore_n (ls2 := [some (.ref (G.1 (1 + 10 * d))), some (.int x), some (.int (nI (4 * k)))]) C 2 dX0_remove_13 rfl (Nat.le_of_ble_eq_true rfl) rfl ?_
  refine lp_X0_remove C hd M hn12 hkn x ?_ (4 * (n - 1) + 1) (4 * k) (by omega) (by omega) (by omega)
  refine vv_aload_n C 0 dX0_remove_48 rfl rfl ?_
  refine vv_geti C (Cn := RX0) (T := TX0) (N := 4) (mw_Dw_d hd).1 3 rfl rfl (by decide) iX0_remove_X0 (List.mem_of_getElem? (i := 1) rfl) rfl dX0_remove_49 ?_
  exact vv_iret C hR dX0_remove_52 (qI_of (rem_size hd) rfl)
/-- how many cards fit a cell by themselves -/
def s_cf (M : mw_M) (d c : Nat) (k : Nat) : Bool := tkB (M (100 + 12 * d + 3 * c)) (M (100 + 12 * d + 1 + 3 * c)) (M (100 + 12 * d + 2 + 3 * c)) (entI M d (nI k) (nI c))
theorem iX0_countFitting_X0 : ∀ w ∈ u_ws RX0 TX0 4, w ∈ wsX0_countFitting := fun w hw => (List.mem_cons_of_mem _ (List.mem_append_left _ (List.mem_append_left _ (List.mem_append_right _ hw))))
set_option maxRecDepth 100000 in
set_option maxHeartbeats 4000000 in
theorem lp_X0_countFitting {p : Program} {l : Launch} {e : Env} {s : State} {m : MethodId} {args : Array Value} {below : List Frame} {meth : Method} {c : Code} {G : mw_GG} {Q : State → Prop} (C : vv_C p s m args c G cX0_countFitting 4 wsX0_countFitting RX0) {d : Nat} (hd : d < 2) (M : mw_M) (hz : szP M d) {n j : Nat} (hn : M (2 + d) = nI n) (hn12 : n ≤ 12) (hj : j < 4) (hk : vv p l e ({ frames := 2, cells := 0, slots := 0, locals := 45 } : Room) s m args below meth c G 0 0 Q M 38 [some (.ref (G.1 (1 + 10 * d))), some (.int (nI j)), some (.int (nI (cntB (s_cf M d j) n))), some (.int (nI n))] []) : ∀ (f i : Nat), n + 1 ≤ i + f → i ≤ n → vv p l e ({ frames := 2, cells := 0, slots := 0, locals := 45 } : Room) s m args below meth c G 0 0 Q M 4 [some (.ref (G.1 (1 + 10 * d))), some (.int (nI j)), some (.int (nI (cntB (s_cf M d j) i))), some (.int (nI i))] [] := by
  intro f
  induction f with
  | zero => intro i h1 h2; omega
  | succ f ih =>
    intro i h1 h2
    refine vv_iload_n C 3 dX0_countFitting_4 rfl rfl ?_
    refine vv_aload_n C 0 dX0_countFitting_5 rfl rfl ?_
    refine vv_geti C (Cn := RX0) (T := TX0) (N := 4) (mw_Dw_d hd).1 3 rfl rfl (by decide) iX0_countFitting_X0 (List.mem_of_getElem? (i := 1) rfl) rfl dX0_countFitting_6 ?_
    refine vv_top hn ?_
    refine vv_icmp_ge C 38 dX0_countFitting_9 (by decide) (fun hge => ?_) (fun hlt => ?_)
    · have hin : i = n := by
        rcases Nat.lt_or_ge i n with z | z
        · exact absurd hge (nI_ge z (by omega))
        · omega
      subst hin
      exact hk
    · have hlt2 : i < n := by
        rcases Nat.lt_or_ge i n with z | z
        · exact z
        · exact absurd (nI_le z (by omega)) hlt
      refine vv_aload_n C 0 dX0_countFitting_12 rfl rfl ?_
      refine vv_getr C (Cn := RX0) (T := TX0) (N := 4) (mw_Dw_d hd).1 1 rfl rfl (by decide) iX0_countFitting_X0 (List.mem_of_getElem? (i := 2) rfl) rfl dX0_countFitting_13 ?_
      refine vv_iload_n C 1 dX0_countFitting_16 rfl rfl ?_
      refine vv_aload_n C 0 dX0_countFitting_17 rfl rfl ?_
      refine vv_iload_n C 3 dX0_countFitting_18 rfl rfl ?_
      refine vv_iload_n C 1 dX0_countFitting_19 rfl rfl ?_
      refine vv_callVI C [.int (nI i), .int (nI j)] (c_X0_entry (d := d) hd M hz (nI i) (nI j)) (mw_Dw_d hd).1 rfl (cwV 2 C.1.2.2.2.2 gX0_countFitting_X0_entry rfl rfl rfl (by decide +kernel) ⟨Nat.le_of_ble_eq_true rfl, Nat.le_of_ble_eq_true rfl⟩) rfl rfl rfl (Nat.le_of_ble_eq_true rfl) dX0_countFitting_20 ⟨Nat.le_refl _, Nat.le_refl _⟩ ?_
      refine vv_callVI C [.int (nI j), .int (entI M d (nI i) (nI j))] (c_X1_takesAlone (mw_Dw_d hd).2.2 M (i := (nI j)) (j := j) rfl hj (entI M d (nI i) (nI j))) (mw_Dw_d hd).2.2.1 rfl (cwV 2 C.1.2.2.2.2 gX0_countFitting_X1_takesAlone rfl rfl rfl (by decide +kernel) ⟨Nat.le_of_ble_eq_true rfl, Nat.le_of_ble_eq_true rfl⟩) rfl rfl rfl (Nat.le_of_ble_eq_true rfl) dX0_countFitting_23 ⟨Nat.le_refl _, Nat.le_refl _⟩ ?_
      refine vv_bif_eq C 32 dX0_countFitting_26 (by decide) (fun he => ?_) (fun hne => ?_)
      · refine vv_iinc (v := nI (i + 1)) (ls2 := [some (.ref (G.1 (1 + 10 * d))), some (.int (nI j)), some (.int (nI (cntB (s_cf M d j) i))), some (.int (nI (i + 1)))]) C 3 dX0_countFitting_32 rfl (nI_1 _) rfl ?_
        refine vv_goto C 4 dX0_countFitting_35 (by decide) ?_
        have e := ih (i + 1) (by omega) (by omega)
        rw [cntB_f (f := s_cf M d j) (n := i) (Bool.eq_false_iff.mpr he)] at e
        exact e
      · refine vv_iinc (v := nI (cntB (s_cf M d j) i + 1)) (ls2 := [some (.ref (G.1 (1 + 10 * d))), some (.int (nI j)), some (.int (nI (cntB (s_cf M d j) i + 1))), some (.int (nI i))]) C 2 dX0_countFitting_29 rfl (nI_1 _) rfl ?_
        refine vv_iinc (v := nI (i + 1)) (ls2 := [some (.ref (G.1 (1 + 10 * d))), some (.int (nI j)), some (.int (nI (cntB (s_cf M d j) i + 1))), some (.int (nI (i + 1)))]) C 3 dX0_countFitting_32 rfl (nI_1 _) rfl ?_
        refine vv_goto C 4 dX0_countFitting_35 (by decide) ?_
        have e := ih (i + 1) (by omega) (by omega)
        rw [cntB_t (f := s_cf M d j) (n := i) hne] at e
        exact e
set_option maxRecDepth 100000 in
set_option maxHeartbeats 4000000 in
theorem c_X0_countFitting {l : Launch} {G : mw_GG} {d : Nat} (hd : d < 2) (M : mw_M) (hz : szP M d) {n j : Nat} (hn : M (2 + d) = nI n) (hn12 : n ≤ 12) (hj : j < 4) {x : Int32} (hx : x = nI j) : mw_Met l yX0_countFitting wsX0_countFitting ({ frames := 2, cells := 0, slots := 0, locals := 45 } : Room) G [.ref (G.1 (1 + 10 * d)), .int x] M (qI (nI (cntB (s_cf M d j) n)) M) := by
  refine mw_ofV (cc := cX0_countFitting) 4 (by decide) rfl rfl (Nat.le_of_ble_eq_true rfl) ?_
  intro p e s m args below meth c C hR hN0
  subst hx
  refine vv_loc (ls2 := [some (.ref (G.1 (1 + 10 * d))), some (.int (nI j)), none, none]) rfl ?_
  refine vv_iconst (v := 0) C dX0_countFitting_0 (by decide) ?_
  refine vv_istore_n (ls2 := [some (.ref (G.1 (1 + 10 * d))), some (.int (nI j)), some (.int 0), none]) C 2 dX0_countFitting_1 rfl (Nat.le_of_ble_eq_true rfl) rfl ?_
  refine vv_iconst (v := 0) C dX0_countFitting_2 (by decide) ?_
  refine vv_istore_n (ls2 := [some (.ref (G.1 (1 + 10 * d))), some (.int (nI j)), some (.int 0), some (.int 0)]) C 3 dX0_countFitting_3 rfl (Nat.le_of_ble_eq_true rfl) rfl ?_
  refine lp_X0_countFitting C hd M hz hn hn12 hj ?_ (n + 1) 0 (by omega) (by omega)
  refine vv_iload_n C 2 dX0_countFitting_38 rfl rfl ?_
  exact vv_iret C hR dX0_countFitting_39 (qI_of rfl rfl)
theorem iX0_copyFrom_X0 : ∀ w ∈ u_ws RX0 TX0 4, w ∈ wsX0_copyFrom := fun w hw => (List.mem_cons_of_mem _ (List.mem_append_left _ (List.mem_append_left _ (List.mem_append_right _ hw))))
set_option maxRecDepth 100000 in
set_option maxHeartbeats 4000000 in
theorem c_X0_copyFrom {l : Launch} {G : mw_GG} {d : Nat} (hd : d < 2) {x P x2 P2 : Nat} (hX : mw_Dr x P d) (hX2 : mw_Dr x2 P2 d) (hP : P + 130 ≤ P2 ∨ P2 + 130 ≤ P) (M : mw_M) : mw_Met l yX0_copyFrom wsX0_copyFrom ({ frames := 3, cells := 0, slots := 0, locals := 64 } : Room) G [.ref (G.1 x), .ref (G.1 x2)] M (qV (s_dr M P P2 d)) := by
  refine mw_ofV (cc := cX0_copyFrom) 2 (by decide) rfl rfl (Nat.le_of_ble_eq_true rfl) ?_
  intro p e s m args below meth c C hR hN0
  refine vv_loc (ls2 := [some (.ref (G.1 x)), some (.ref (G.1 x2))]) rfl ?_
  refine vv_aload_n C 0 dX0_copyFrom_0 rfl rfl ?_
  refine vv_getr C (Cn := RX0) (T := TX0) (N := 4) hX.1 0 rfl rfl (by decide) iX0_copyFrom_X0 (List.mem_of_getElem? (i := 1) rfl) rfl dX0_copyFrom_1 ?_
  refine vv_aload_n C 1 dX0_copyFrom_4 rfl rfl ?_
  refine vv_getr C (Cn := RX0) (T := TX0) (N := 4) hX2.1 0 rfl rfl (by decide) iX0_copyFrom_X0 (List.mem_of_getElem? (i := 1) rfl) rfl dX0_copyFrom_5 ?_
  refine vv_callVVP C [.ref (G.1 (x2 + 1))] (c_X3_copyFrom hX.2.1 hX2.2.1 (by omega) (by intro i j hi hj; omega) M) hX.2.1.1 rfl (cwV 1 C.1.2.2.2.2 gX0_copyFrom_X3_copyFrom rfl rfl rfl (by decide +kernel) ⟨Nat.le_of_ble_eq_true rfl, Nat.le_of_ble_eq_true rfl⟩) rfl rfl rfl (Nat.le_of_ble_eq_true rfl) dX0_copyFrom_8 ⟨Nat.le_refl _, Nat.le_refl _⟩ (fun M_1 h_2 => ?_)
  refine vv_aload_n C 0 dX0_copyFrom_11 rfl rfl ?_
  refine vv_getr C (Cn := RX0) (T := TX0) (N := 4) hX.1 1 rfl rfl (by decide) iX0_copyFrom_X0 (List.mem_of_getElem? (i := 2) rfl) rfl dX0_copyFrom_12 ?_
  refine vv_aload_n C 1 dX0_copyFrom_15 rfl rfl ?_
  refine vv_getr C (Cn := RX0) (T := TX0) (N := 4) hX2.1 1 rfl rfl (by decide) iX0_copyFrom_X0 (List.mem_of_getElem? (i := 2) rfl) rfl dX0_copyFrom_16 ?_
  refine vv_callVV C [.ref (G.1 (x2 + 3))] (c_X1_copyFrom hX.2.2 hX2.2.2 (by omega) M_1) hX.2.2.1 rfl (cwV 1 C.1.2.2.2.2 gX0_copyFrom_X1_copyFrom rfl rfl rfl (by decide +kernel) ⟨Nat.le_of_ble_eq_true rfl, Nat.le_of_ble_eq_true rfl⟩) rfl rfl rfl (Nat.le_of_ble_eq_true rfl) dX0_copyFrom_19 ⟨Nat.le_refl _, Nat.le_refl _⟩ ?_
  refine vv_aload_n C 0 dX0_copyFrom_22 rfl rfl ?_
  refine vv_aload_n C 1 dX0_copyFrom_23 rfl rfl ?_
  refine vv_geti C (Cn := RX0) (T := TX0) (N := 4) hX2.1 2 rfl rfl (by decide) iX0_copyFrom_X0 (List.mem_of_getElem? (i := 3) rfl) rfl dX0_copyFrom_24 ?_
  refine vv_putf C (Cn := RX0) (T := TX0) (N := 4) hX.1 2 rfl rfl (by decide) iX0_copyFrom_X0 (List.mem_of_getElem? (i := 3) rfl) rfl tyX0_ok nmX0 rfl rfl dX0_copyFrom_27 ?_
  refine vv_aload_n C 0 dX0_copyFrom_30 rfl rfl ?_
  refine vv_aload_n C 1 dX0_copyFrom_31 rfl rfl ?_
  refine vv_geti C (Cn := RX0) (T := TX0) (N := 4) hX2.1 3 rfl rfl (by decide) iX0_copyFrom_X0 (List.mem_of_getElem? (i := 4) rfl) rfl dX0_copyFrom_32 ?_
  refine vv_putf C (Cn := RX0) (T := TX0) (N := 4) hX.1 3 rfl rfl (by decide) iX0_copyFrom_X0 (List.mem_of_getElem? (i := 4) rfl) rfl tyX0_ok nmX0 rfl rfl dX0_copyFrom_35 ?_
  exact vv_vret C hR dX0_copyFrom_38 (qV_of (dr_eq hd hP h_2 _ rfl))
