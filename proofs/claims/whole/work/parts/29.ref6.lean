theorem wf_low {S S2 : mw_M} (h : wfV S) (e : ∀ q, q < 125 → S2 q = S q) (h6 : ∀ w, w < 2 → (S2 (125 + 2 * w) = -1 ∨ ∃ c, c < 8 ∧ S2 (125 + 2 * w) = nI c) ∧ (S2 (126 + 2 * w) = 0 ∨ S2 (126 + 2 * w) = 1)) : wfV S2 := by
  obtain ⟨h0, h1, h2, h3, h4, h5, -⟩ := h
  refine ⟨?_, ?_, fun i hi => ?_, fun c hc => ?_, fun d hd c hc hle => ?_, ?_, h6⟩
  · obtain ⟨a, b, i1, i2, i3, i4⟩ := h0
    exact ⟨a, b, by rw [e _ (by omega)]; exact i1, i2, by rw [e _ (by omega)]; exact i3, i4⟩
  · obtain ⟨a, b, i1, i2, i3, i4⟩ := h1
    exact ⟨a, b, by rw [e _ (by omega)]; exact i1, i2, by rw [e _ (by omega)]; exact i3, i4⟩
  · rw [e _ (by omega)]
    exact h2 i hi
  · rw [e (100 + 3 * c) (by omega), e (101 + 3 * c) (by omega), e (102 + 3 * c) (by omega)]
    exact h3 c hc
  · rw [e d (by omega)] at hle
    rw [e _ (by omega)]
    exact h4 d hd c hc hle
  · rw [e 124 (by omega)]
    exact h5
theorem wf_ext {S S2 : mw_M} (h : wfV S) (e : ∀ q, q < 129 → S2 q = S q) : wfV S2 :=
  wf_low h (fun q hq => e q (by omega)) (fun w hw => by rw [e (125 + 2 * w) (by omega), e (126 + 2 * w) (by omega)]; exact h.2.2.2.2.2.2 w hw)
theorem wf_kp {V : mw_M} (h : wfV V) : wfV (kpS V) := wf_ext h (fun q hq => kpS_lo (by omega))
theorem wf_shw {V : mw_M} (h : wfV V) {x : Int32} : wfV (upd (kpS V) 129 x) := wf_ext h (fun q hq => by rw [upd_o (by omega), kpS_lo (by omega)])
theorem in_m1 {x : Int32} (h : inP x (-1) 7) : x = -1 ∨ ∃ c, c < 8 ∧ x = nI c := by
  by_cases z : x < 0
  · left
    have h1 := h.1
    rw [Int32.lt_iff_toInt_lt] at z h1
    rw [← Int32.toInt_inj]
    have e0 : (0 : Int32).toInt = 0 := by decide
    have e1 : (-1 : Int32).toInt = -1 := by decide
    omega
  · right
    obtain ⟨k, -, h2, e⟩ := btw (a := 0) (b := 7) z h.2 (by omega) (by omega)
    exact ⟨k, by omega, e⟩
theorem wf_ord {V : mw_M} (h : wfV V) {x k b : Int32} (hk : inP k (-1) 7) (hb : bitP b) : wfV (ordN V x k b) := by
  have hd := dN_lt x
  refine wf_low h (fun q hq => ?_) (fun w hw => ?_)
  · unfold ordN
    rw [upd_o (by omega), upd_o (by omega), kpS_lo (by omega)]
  · unfold ordN
    by_cases z : w = dN x
    · rw [← z, upd_s, upd_o (by omega), upd_s]
      exact ⟨in_m1 hk, hb⟩
    · rw [upd_o (by omega), upd_o (by omega), upd_o (by omega), upd_o (by omega), kpS_lo (by omega), kpS_lo (by omega)]
      exact h.2.2.2.2.2.2 w hw
theorem fndR.rel {V M M1 : mw_M} {L : List Nat} (h : fndR V M M1 L) (hV : relO M V) (hh : hiV V) : relO M1 V := hV.scr (fun q hq => h.2.2 q (fun z => hq (by unfold rsS; unfold fnS at z; omega))) hh
theorem fndR.rf {V M M1 : mw_M} {L : List Nat} (h : fndR V M M1 L) : rfO M M1 := fun q hq => h.2.2 q (by unfold fnS; omega)
theorem hiV.u {V : mw_M} (h : hiV V) {k : Nat} {x : Int32} (hk : ¬ k = 650) : hiV (upd V k x) := by
  unfold hiV
  rw [hN_u hk, upd_o (fun z => hk z.symm)]
  exact h
theorem abr_in {y : Int32} : abrB y = true ↔ (inP y 0 1 ∨ inP y 10 17 ∨ inP y 20 23) := by
  unfold abrB
  simp only [Bool.or_eq_true, Bool.and_eq_true, decide_eq_true_eq]
  rw [in_bit]
  have e18 : (18 : Int32).toInt = 18 := by decide
  have e17 : (17 : Int32).toInt = 17 := by decide
  have e24 : (24 : Int32).toInt = 24 := by decide
  have e23 : (23 : Int32).toInt = 23 := by decide
  have a1 : y < 18 ↔ ¬ 17 < y := by
    rw [Int32.lt_iff_toInt_lt, Int32.lt_iff_toInt_lt]
    omega
  have a2 : ¬ 24 ≤ y ↔ ¬ 23 < y := by
    rw [Int32.lt_iff_toInt_lt, Int32.le_iff_toInt_le]
    omega
  rw [a1, a2]
theorem tcI_lt {k : Nat} (h : k < 8) : tcI k = nI k := if_pos h
theorem srt_at {V M M1 : mw_M} {L : List Nat} (h : fndR V M M1 L) {ix : Nat} (hx : ix < L.length) : M1 (1300 + ix) = nI ((srtS V L).getD ix 0 / 12) ∧ M1 (1450 + ix) = nI ((srtS V L).getD ix 0 % 12) := h.1 ix (by rw [srt_len]; exact hx)
theorem row_0 {V : mw_M} {r : Nat} {y : Int32} (h : y = 0) : rowI V r y = nI (r / 12) := if_pos h
theorem row_1 {V : mw_M} {r : Nat} {y : Int32} (h : y = 1) : rowI V r y = if V 124 = 1 then nI (r % 12) else -14 := by
  unfold rowI
  rw [if_neg (by rw [h]; decide), if_pos h]
theorem row_c {V : mw_M} {r : Nat} {y : Int32} (h : ¬ y < 2) (h0 : ¬ y < 0) : rowI V r y = if askP V (colI V y) then vS V (colI V y).toNatClampNeg (r / 12) (r % 12) else -14 := by
  unfold rowI
  rw [if_neg (fun z => h (by rw [z]; decide)), if_neg (fun z => h (by rw [z]; decide))]
theorem lt2 {y : Int32} (h : y < 2) (h0 : ¬ y < 0) : y = 0 ∨ y = 1 := by
  obtain ⟨j, hj, e, -⟩ := ix_of h0 (n := 2) (Int32.not_le.mpr h) (by omega)
  rcases Nat.lt_or_ge j 1 with z | z
  · left
    rw [e, show j = 0 by omega]
    rfl
  · right
    rw [e, show j = 1 by omega]
    rfl
theorem abr_pos {y : Int32} (h : abrB y = true) : ¬ y < 0 := by
  have e0 : (0 : Int32).toInt = 0 := by decide
  have e10 : (10 : Int32).toInt = 10 := by decide
  have e20 : (20 : Int32).toInt = 20 := by decide
  rcases abr_in.mp h with z | z | z
  · exact z.1
  · have := z.1
    rw [Int32.lt_iff_toInt_lt] at this ⊢
    omega
  · have := z.1
    rw [Int32.lt_iff_toInt_lt] at this ⊢
    omega
theorem abr_col {y : Int32} (h : abrB y = true) (h2 : ¬ y < 2) (h20 : y < 20) : ∃ j, j < 8 ∧ y - 10 = nI j := by
  have e2 : (2 : Int32).toInt = 2 := by decide
  have e1 : (1 : Int32).toInt = 1 := by decide
  rcases abr_in.mp h with z | z | z
  · have := z.2
    rw [Int32.lt_iff_toInt_lt] at this h2
    omega
  · obtain ⟨k, h1, h2, e⟩ := btw (a := 10) (b := 17) z.1 z.2 (by omega) (by omega)
    refine ⟨k - 10, by omega, ?_⟩
    rw [e]
    exact nI_subI (b := 10) h1
  · exact absurd h20 z.1
theorem iX9_many_X9 : ∀ w ∈ u_ws RX9 TX9 13, w ∈ wsX9_many := fun w hw => (List.mem_cons_of_mem _ (List.mem_append_right _ hw))
set_option maxRecDepth 100000 in
set_option maxHeartbeats 4000000 in
theorem c_X9_many {l : Launch} {G : mw_GG} (M V : mw_M) (hV : relO M V) (hw : wfV V) (hh : hiV V) (ht : txV V) : mw_Met l yX9_many wsX9_many ({ frames := 6, cells := 0, slots := 0, locals := 140 } : Room) G [.ref (G.1 145)] M (qIP (fun r M2 => r = (op_many V).1 ∧ relO M2 (op_many V).2 ∧ rfO M M2)) := by
  refine mw_ofV (cc := cX9_many) 1 (by decide) rfl rfl (Nat.le_of_ble_eq_true rfl) ?_
  intro p e s m args below meth c C hR hN0
  refine vv_loc (ls2 := [some (.ref (G.1 145))]) rfl ?_
  have hR0 := hw.wfR
  refine vv_aload_n C 0 dX9_many_0 rfl rfl ?_
  refine vv_callVVP C [] (c_X9_finds M V hV.1 hw) sh_145 rfl (cwV 0 C.1.2.2.2.2 gX9_many_X9_finds rfl rfl rfl (by decide +kernel) ⟨Nat.le_of_ble_eq_true rfl, Nat.le_of_ble_eq_true rfl⟩) rfl rfl rfl (Nat.le_of_ble_eq_true rfl) dX9_many_1 ⟨Nat.le_refl _, Nat.le_refl _⟩ (fun M_1 h_2 => ?_)
  have hF := h_2
  refine vv_aload_n C 0 dX9_many_4 rfl rfl ?_
  refine vv_geti C (Cn := RX9) (T := TX9) (N := 13) sh_145 7 rfl rfl (by decide) iX9_many_X9 (List.mem_of_getElem? (i := 1) rfl) rfl dX9_many_5 ?_
  refine vv_top (y := manyI V) hF.2.1 ?_
  exact vv_iret C hR dX9_many_8 (qIP_of ⟨rfl, hF.rel hV hh, hF.rf⟩)
theorem ix_o {x : Int32} {d b : Nat} (hx : x = nI d) : nI b + 2 * x = nI (b + 2 * d) := by
  rw [hx, show (2 : Int32) = nI 2 from rfl, pk_mul, nI_add]
theorem iX9_order_X9 : ∀ w ∈ u_ws RX9 TX9 13, w ∈ wsX9_order := fun w hw => (List.mem_cons_of_mem _ (List.mem_append_right _ hw))
set_option maxRecDepth 100000 in
set_option maxHeartbeats 4000000 in
theorem c_X9_order {l : Launch} {G : mw_GG} (M V : mw_M) (hV : relO M V) (hw : wfV V) (hh : hiV V) (ht : txV V) (x k b : Int32) : mw_Met l yX9_order wsX9_order ({ frames := 6, cells := 0, slots := 0, locals := 140 } : Room) G [.ref (G.1 145), .int x, .int k, .int b] M (qIP (fun r M2 => r = (op_order V x k b).1 ∧ relO M2 (op_order V x k b).2 ∧ rfO M M2)) := by
  refine mw_ofV (cc := cX9_order) 4 (by decide) rfl rfl (Nat.le_of_ble_eq_true rfl) ?_
  intro p e s m args below meth c C hR hN0
  refine vv_loc (ls2 := [some (.ref (G.1 145)), some (.int x), some (.int k), some (.int b)]) rfl ?_
  have hR0 := hw.wfR
  have hdx := dN_lt x
  refine vv_iload_n C 1 dX9_order_0 rfl rfl ?_
  refine vv_iconst (v := 0) C dX9_order_1 (by decide) ?_
  refine vv_iconst (v := 1) C dX9_order_2 (by decide) ?_
  refine vv_callSI C [.int x, .int 0, .int 1] (c_X9_in M x 0 1) (cwS 3 C.1.2.2.2.2 gX9_order_X9_in rfl rfl rfl (by decide +kernel) ⟨Nat.le_of_ble_eq_true rfl, Nat.le_of_ble_eq_true rfl⟩) rfl rfl rfl (Nat.le_of_ble_eq_true rfl) dX9_order_3 ⟨Nat.le_refl _, Nat.le_refl _⟩ ?_
  refine vv_bif_eq C 28 dX9_order_6 (by decide) (fun h_nx => ?_) (fun h_x => ?_)
  · refine vv_bipush (v := (-11)) C dX9_order_28 (by decide) ?_
    exact vv_iret C hR dX9_order_30 (qIP_of (by rw [show op_order V x k b = (-11, V) from if_neg (fun z => h_nx (in_bit.mpr z.1))]; exact ⟨rfl, hV, rfO.rf⟩))
  · refine vv_iload_n C 2 dX9_order_9 rfl rfl ?_
    refine vv_iconst (v := (-1)) C dX9_order_10 (by decide) ?_
    refine vv_bipush (v := 7) C dX9_order_11 (by decide) ?_
    refine vv_callSI C [.int k, .int (-1), .int 7] (c_X9_in M k (-1) 7) (cwS 3 C.1.2.2.2.2 gX9_order_X9_in rfl rfl rfl (by decide +kernel) ⟨Nat.le_of_ble_eq_true rfl, Nat.le_of_ble_eq_true rfl⟩) rfl rfl rfl (Nat.le_of_ble_eq_true rfl) dX9_order_13 ⟨Nat.le_refl _, Nat.le_refl _⟩ ?_
    refine vv_bif_eq C 28 dX9_order_16 (by decide) (fun h_nk => ?_) (fun h_k => ?_)
    · refine vv_bipush (v := (-11)) C dX9_order_28 (by decide) ?_
      exact vv_iret C hR dX9_order_30 (qIP_of (by rw [show op_order V x k b = (-11, V) from if_neg (fun z => h_nk z.2.1)]; exact ⟨rfl, hV, rfO.rf⟩))
    · refine vv_iload_n C 3 dX9_order_19 rfl rfl ?_
      refine vv_iconst (v := 0) C dX9_order_20 (by decide) ?_
      refine vv_iconst (v := 1) C dX9_order_21 (by decide) ?_
      refine vv_callSI C [.int b, .int 0, .int 1] (c_X9_in M b 0 1) (cwS 3 C.1.2.2.2.2 gX9_order_X9_in rfl rfl rfl (by decide +kernel) ⟨Nat.le_of_ble_eq_true rfl, Nat.le_of_ble_eq_true rfl⟩) rfl rfl rfl (Nat.le_of_ble_eq_true rfl) dX9_order_22 ⟨Nat.le_refl _, Nat.le_refl _⟩ ?_
      refine vv_bif_ne C 31 dX9_order_25 (by decide) (fun h_b => ?_) (fun h_nb => ?_)
      · have hx := in_bit.mp h_x
        have hb := in_bit.mp h_b
        refine vv_aload_n C 0 dX9_order_31 rfl rfl ?_
        refine vv_callVVP C [] (c_X9_changes M V hV hh) sh_145 rfl (cwV 0 C.1.2.2.2.2 gX9_order_X9_changes rfl rfl rfl (by decide +kernel) ⟨Nat.le_of_ble_eq_true rfl, Nat.le_of_ble_eq_true rfl⟩) rfl rfl rfl (Nat.le_of_ble_eq_true rfl) dX9_order_32 ⟨Nat.le_refl _, Nat.le_refl _⟩ (fun M_7 h_8 => ?_)
        have hC := h_8
        refine vv_aload_n C 0 dX9_order_35 rfl rfl ?_
        refine vv_getr C (Cn := RX9) (T := TX9) (N := 13) sh_145 0 rfl rfl (by decide) iX9_order_X9 (List.mem_of_getElem? (i := 1) rfl) rfl dX9_order_36 ?_
        refine vv_bipush (v := 125) C dX9_order_39 (by decide) ?_
        refine vv_iconst (v := 2) C dX9_order_41 (by decide) ?_
        refine vv_iload_n C 1 dX9_order_42 rfl rfl ?_
        refine vv_imul C dX9_order_43 ?_
        refine vv_iadd C dX9_order_44 ?_
        refine vv_iload_n C 2 dX9_order_45 rfl rfl ?_
        refine vv_ast (j := 125 + 2 * dN x) (q := 2000 + (125 + 2 * dN x)) C sh_146 (ix_o (b := 125) (dN_nI hx)) (by omega) (by omega) dX9_order_46 ?_
        refine vv_aload_n C 0 dX9_order_47 rfl rfl ?_
        refine vv_getr C (Cn := RX9) (T := TX9) (N := 13) sh_145 0 rfl rfl (by decide) iX9_order_X9 (List.mem_of_getElem? (i := 1) rfl) rfl dX9_order_48 ?_
        refine vv_bipush (v := 125) C dX9_order_51 (by decide) ?_
        refine vv_iconst (v := 2) C dX9_order_53 (by decide) ?_
        refine vv_iload_n C 1 dX9_order_54 rfl rfl ?_
        refine vv_imul C dX9_order_55 ?_
        refine vv_iadd C dX9_order_56 ?_
        refine vv_iconst (v := 1) C dX9_order_57 (by decide) ?_
        refine vv_iadd C dX9_order_58 ?_
        refine vv_iload_n C 3 dX9_order_59 rfl rfl ?_
        refine vv_ast (j := 126 + 2 * dN x) (q := 2000 + (126 + 2 * dN x)) C sh_146 (by rw [show (125 : Int32) + 2 * x = nI (125 + 2 * dN x) from ix_o (b := 125) (dN_nI hx), nI_1]; exact congrArg nI (by omega)) (by omega) (by omega) dX9_order_60 ?_
        refine vv_aload_n C 0 dX9_order_61 rfl rfl ?_
        have hrel : relO (upd (upd M_7 (2000 + (125 + 2 * dN x)) k) (2000 + (126 + 2 * dN x)) b) (ordN V x k b) := (hC.1.u (by omega)).u (by omega)
        refine vv_callVVP C [] (c_X9_finds (upd (upd M_7 (2000 + (125 + 2 * dN x)) k) (2000 + (126 + 2 * dN x)) b) (ordN V x k b) hrel.1 (wf_ord hw h_k hb)) sh_145 rfl (cwV 0 C.1.2.2.2.2 gX9_order_X9_finds rfl rfl rfl (by decide +kernel) ⟨Nat.le_of_ble_eq_true rfl, Nat.le_of_ble_eq_true rfl⟩) rfl rfl rfl (Nat.le_of_ble_eq_true rfl) dX9_order_62 ⟨Nat.le_refl _, Nat.le_refl _⟩ (fun M_9 h_10 => ?_)
        have hF := h_10
        refine vv_aload_n C 0 dX9_order_65 rfl rfl ?_
        refine vv_geti C (Cn := RX9) (T := TX9) (N := 13) sh_145 7 rfl rfl (by decide) iX9_order_X9 (List.mem_of_getElem? (i := 2) rfl) rfl dX9_order_66 ?_
        refine vv_top (y := manyI (ordN V x k b)) hF.2.1 ?_
        exact vv_iret C hR dX9_order_69 (qIP_of (by rw [show op_order V x k b = (manyI (ordN V x k b), (ordN V x k b)) from if_pos ⟨hx, h_k, hb⟩]; exact ⟨rfl, hF.rel hrel (kp_hi.u (by omega) |>.u (by omega)), ((hC.2.u (by omega)).u (by omega)).tr hF.rf⟩))
      · refine vv_bipush (v := (-11)) C dX9_order_28 (by decide) ?_
        exact vv_iret C hR dX9_order_30 (qIP_of (by rw [show op_order V x k b = (-11, V) from if_neg (fun z => h_nb (in_bit.mpr z.2.2))]; exact ⟨rfl, hV, rfO.rf⟩))
theorem iX9_row_X9 : ∀ w ∈ u_ws RX9 TX9 13, w ∈ wsX9_row := fun w hw => (List.mem_cons_of_mem _ (List.mem_append_right _ hw))
set_option maxRecDepth 100000 in
set_option maxHeartbeats 4000000 in
theorem c_X9_row {l : Launch} {G : mw_GG} (M V : mw_M) (hV : relO M V) (hw : wfV V) (hh : hiV V) (ht : txV V) (x y : Int32) : mw_Met l yX9_row wsX9_row ({ frames := 6, cells := 0, slots := 0, locals := 140 } : Room) G [.ref (G.1 145), .int x, .int y] M (qIP (fun r M2 => r = (op_row V x y).1 ∧ relO M2 (op_row V x y).2 ∧ rfO M M2)) := by
  refine mw_ofV (cc := cX9_row) 4 (by decide) rfl rfl (Nat.le_of_ble_eq_true rfl) ?_
  intro p e s m args below meth c C hR hN0
  refine vv_loc (ls2 := [some (.ref (G.1 145)), some (.int x), some (.int y), none]) rfl ?_
  have hR0 := hw.wfR
  refine vv_iload_n C 1 dX9_row_0 rfl rfl ?_
  refine vv_if_lt C 35 dX9_row_1 (by decide) (fun h_neg => ?_) (fun h_pos => ?_)
  · refine vv_bipush (v := (-11)) C dX9_row_35 (by decide) ?_
    exact vv_iret C hR dX9_row_37 (qIP_of (by rw [show op_row V x y = (-11, V) from if_neg (fun z => z.1 h_neg)]; exact ⟨rfl, hV, rfO.rf⟩))
  · refine vv_iload_n C 2 dX9_row_4 rfl rfl ?_
    refine vv_iconst (v := 0) C dX9_row_5 (by decide) ?_
    refine vv_iconst (v := 1) C dX9_row_6 (by decide) ?_
    refine vv_callSI C [.int y, .int 0, .int 1] (c_X9_in M y 0 1) (cwS 3 C.1.2.2.2.2 gX9_row_X9_in rfl rfl rfl (by decide +kernel) ⟨Nat.le_of_ble_eq_true rfl, Nat.le_of_ble_eq_true rfl⟩) rfl rfl rfl (Nat.le_of_ble_eq_true rfl) dX9_row_7 ⟨Nat.le_refl _, Nat.le_refl _⟩ ?_
    refine vv_bif_ne C 38 dX9_row_10 (by decide) (fun h_y0 => ?_) (fun h_n0 => ?_)
    · have hab : abrB y = true := abr_in.mpr (Or.inl h_y0)
      have hy0 := abr_pos hab
      refine vv_aload_n C 0 dX9_row_38 rfl rfl ?_
      refine vv_callVVP C [] (c_X9_finds M V hV.1 hw) sh_145 rfl (cwV 0 C.1.2.2.2.2 gX9_row_X9_finds rfl rfl rfl (by decide +kernel) ⟨Nat.le_of_ble_eq_true rfl, Nat.le_of_ble_eq_true rfl⟩) rfl rfl rfl (Nat.le_of_ble_eq_true rfl) dX9_row_39 ⟨Nat.le_refl _, Nat.le_refl _⟩ (fun M_5 h_6 => ?_)
      have hF := h_6
      refine vv_iload_n C 1 dX9_row_42 rfl rfl ?_
      refine vv_aload_n C 0 dX9_row_43 rfl rfl ?_
      refine vv_geti C (Cn := RX9) (T := TX9) (N := 13) sh_145 7 rfl rfl (by decide) iX9_row_X9 (List.mem_of_getElem? (i := 1) rfl) rfl dX9_row_44 ?_
      refine vv_top (y := manyI V) hF.2.1 ?_
      refine vv_icmp_ge C 65 dX9_row_47 (by decide) (fun h_ge => ?_) (fun h_nge => ?_)
      · refine vv_bipush (v := (-14)) C dX9_row_65 (by decide) ?_
        exact vv_iret C hR dX9_row_67 (qIP_of (by rw [show op_row V x y = (if x < manyI V then rowI V ((srtS V (lstS V 8)).getD x.toNatClampNeg 0) y else -14, V) from if_pos ⟨h_pos, hab⟩, if_neg (Int32.not_lt.mpr h_ge)]; exact ⟨rfl, hF.rel hV hh, hF.rf⟩))
      · have h_lt : x < manyI V := Int32.not_le.mp h_nge
        obtain ⟨ix, hixl, hixe, hixc⟩ := ix_lt h_pos h_lt (by have := lstS_len (lo := 8) hR0; omega)
        have hrr := srt_row hR0 hixl
        have hat := srt_at hF hixl
        have h144 := lstS_len (lo := 8) hR0
        have hV1 := hF.vw hV.1
        refine vv_iload_n C 2 dX9_row_50 rfl rfl ?_
        refine vv_iconst (v := 1) C dX9_row_51 (by decide) ?_
        refine vv_icmp_ne C 68 dX9_row_52 (by decide) (fun h_yn1 => ?_) (fun h_y1 => ?_)
        · have hb1 : y = 1 → V 124 = 1 := fun z => absurd z h_yn1
          refine vv_iload_n C 2 dX9_row_68 rfl rfl ?_
          refine vv_iconst (v := 2) C dX9_row_69 (by decide) ?_
          refine vv_icmp_ge C 93 dX9_row_70 (by decide) (fun h_ge2 => ?_) (fun h_l2 => ?_)
          · have hy2 : ¬ y < 2 := Int32.not_lt.mpr h_ge2
            refine vv_iload_n C 2 dX9_row_93 rfl rfl ?_
            refine vv_bipush (v := 20) C dX9_row_94 (by decide) ?_
            refine vv_icmp_ge C 106 dX9_row_96 (by decide) (fun h_ge20 => ?_) (fun h_l20 => ?_)
            · obtain ⟨a, ha4, hae, hac⟩ := abr_tel hab h_ge20
              refine vv_aload_n C 0 dX9_row_106 rfl rfl ?_
              refine vv_iload_n C 2 dX9_row_107 rfl rfl ?_
              refine vv_bipush (v := 20) C dX9_row_108 (by decide) ?_
              refine vv_isub C dX9_row_110 ?_
              refine vv_callVI C [.int (y - 20)] (c_X9_teller M_5 V hV1 (a := a) (x := (y - 20)) hae) sh_145 rfl (cwV 1 C.1.2.2.2.2 gX9_row_X9_teller rfl rfl rfl (by decide +kernel) ⟨Nat.le_of_ble_eq_true rfl, Nat.le_of_ble_eq_true rfl⟩) rfl rfl rfl (Nat.le_of_ble_eq_true rfl) dX9_row_111 ⟨Nat.le_refl _, Nat.le_refl _⟩ ?_
              refine vv_istore_n (ls2 := [some (.ref (G.1 145)), some (.int x), some (.int y), some (.int (rtI (telS V 8 a)))]) C 3 dX9_row_114 rfl (Nat.le_of_ble_eq_true rfl) rfl ?_
              have hcol0 : colI V y = tcI (telS V 8 a) := by unfold colI; rw [if_neg (Int32.not_lt.mpr h_ge20), hac]
              refine vv_iload_n C 3 dX9_row_115 rfl rfl ?_
              refine vv_if_lt C 127 dX9_row_116 (by decide) (fun h_clt => ?_) (fun h_cge => ?_)
              · have hnot : ¬ askP V (colI V y) := by
                  rw [hcol0]
                  have : ¬ telS V 8 a < 8 := fun z => nI_pos (n := telS V 8 a) (by omega) (by rw [rtI_lt z] at h_clt; exact h_clt)
                  rw [show tcI (telS V 8 a) = -1 from if_neg this]
                  exact ask_neg (by decide)
                refine vv_bipush (v := (-14)) C dX9_row_127 (by decide) ?_
                refine vv_goto C 149 dX9_row_129 (by decide) ?_
                exact vv_iret C hR dX9_row_149 (qIP_of (by rw [op_row_ok h_pos hab h_lt hixc]; exact ⟨((row_c hy2 hy0).trans (if_neg hnot)).symm, hF.rel hV hh, hF.rf⟩))
              · have hcj : telS V 8 a < 8 := by
                  rcases Nat.lt_or_ge (telS V 8 a) 8 with z | z
                  · exact z
                  · exact absurd (show rtI (telS V 8 a) < 0 by rw [rtI_no (by omega)]; decide) h_cge
                refine vv_loc (ls2 := [some (.ref (G.1 145)), some (.int x), some (.int y), some (.int (nI (telS V 8 a)))]) (by rw [rtI_lt hcj]) ?_
                have hcol : colI V y = nI (telS V 8 a) := hcol0.trans (tcI_lt hcj)
                refine vv_aload_n C 0 dX9_row_119 rfl rfl ?_
                refine vv_iload_n C 3 dX9_row_120 rfl rfl ?_
                refine vv_callVI C [.int (nI (telS V 8 a))] (c_X9_isAsked M_5 V hV1 (cc := (telS V 8 a)) hcj (x := (nI (telS V 8 a))) rfl) sh_145 rfl (cwV 1 C.1.2.2.2.2 gX9_row_X9_isAsked rfl rfl rfl (by decide +kernel) ⟨Nat.le_of_ble_eq_true rfl, Nat.le_of_ble_eq_true rfl⟩) rfl rfl rfl (Nat.le_of_ble_eq_true rfl) dX9_row_121 ⟨Nat.le_refl _, Nat.le_refl _⟩ ?_
                refine vv_bif_ne C 132 dX9_row_124 (by decide) (fun h_ask => ?_) (fun h_nask => ?_)
                · refine vv_aload_n C 0 dX9_row_132 rfl rfl ?_
                  refine vv_aload_n C 0 dX9_row_133 rfl rfl ?_
                  refine vv_getr C (Cn := RX9) (T := TX9) (N := 13) sh_145 5 rfl rfl (by decide) iX9_row_X9 (List.mem_of_getElem? (i := 3) rfl) rfl dX9_row_134 ?_
                  refine vv_iload_n C 1 dX9_row_137 rfl rfl ?_
                  refine vv_ald (j := ix) (q := 1300 + ix) C sh_149 hixe (by omega) (by omega) dX9_row_138 ?_
                  refine vv_top (y := nI ((srtS V (lstS V 8)).getD ix 0 / 12)) hat.1 ?_
                  refine vv_aload_n C 0 dX9_row_139 rfl rfl ?_
                  refine vv_getr C (Cn := RX9) (T := TX9) (N := 13) sh_145 6 rfl rfl (by decide) iX9_row_X9 (List.mem_of_getElem? (i := 4) rfl) rfl dX9_row_140 ?_
                  refine vv_iload_n C 1 dX9_row_143 rfl rfl ?_
                  refine vv_ald (j := ix) (q := 1450 + ix) C sh_150 hixe (by omega) (by omega) dX9_row_144 ?_
                  refine vv_top (y := nI ((srtS V (lstS V 8)).getD ix 0 % 12)) hat.2 ?_
                  refine vv_iload_n C 3 dX9_row_145 rfl rfl ?_
                  refine vv_callVI C [.int (nI ((srtS V (lstS V 8)).getD ix 0 / 12)), .int (nI ((srtS V (lstS V 8)).getD ix 0 % 12)), .int (nI (telS V 8 a))] (c_X9_at M_5 V hV1 (f := ((srtS V (lstS V 8)).getD ix 0 / 12)) (g := ((srtS V (lstS V 8)).getD ix 0 % 12)) (cc := (telS V 8 a)) ⟨by omega, by omega, hcj⟩ (x := (nI ((srtS V (lstS V 8)).getD ix 0 / 12))) (y := (nI ((srtS V (lstS V 8)).getD ix 0 % 12))) (z := (nI (telS V 8 a))) rfl rfl rfl) sh_145 rfl (cwV 3 C.1.2.2.2.2 gX9_row_X9_at rfl rfl rfl (by decide +kernel) ⟨Nat.le_of_ble_eq_true rfl, Nat.le_of_ble_eq_true rfl⟩) rfl rfl rfl (Nat.le_of_ble_eq_true rfl) dX9_row_146 ⟨Nat.le_refl _, Nat.le_refl _⟩ ?_
                  exact vv_iret C hR dX9_row_149 (qIP_of (by rw [op_row_ok h_pos hab h_lt hixc]; exact ⟨((row_c hy2 hy0).trans ((if_pos (by rw [hcol]; exact h_ask)).trans (by rw [hcol, nI_clamp (by omega)]))).symm, hF.rel hV hh, hF.rf⟩))
                · have hnot : ¬ askP V (colI V y) := by rw [hcol]; exact h_nask
                  refine vv_bipush (v := (-14)) C dX9_row_127 (by decide) ?_
                  refine vv_goto C 149 dX9_row_129 (by decide) ?_
                  exact vv_iret C hR dX9_row_149 (qIP_of (by rw [op_row_ok h_pos hab h_lt hixc]; exact ⟨((row_c hy2 hy0).trans (if_neg hnot)).symm, hF.rel hV hh, hF.rf⟩))
            · obtain ⟨cj, hj, hje⟩ := abr_col hab hy2 (Int32.not_le.mp h_l20)
              refine vv_iload_n C 2 dX9_row_99 rfl rfl ?_
              refine vv_bipush (v := 10) C dX9_row_100 (by decide) ?_
              refine vv_isub C dX9_row_102 ?_
              refine vv_goto C 114 dX9_row_103 (by decide) ?_
              refine vv_istore_n (ls2 := [some (.ref (G.1 145)), some (.int x), some (.int y), some (.int (y - 10))]) C 3 dX9_row_114 rfl (Nat.le_of_ble_eq_true rfl) rfl ?_
              have hcol : colI V y = nI cj := by unfold colI; rw [if_pos (Int32.not_le.mp h_l20)]; exact hje
              refine vv_loc (ls2 := [some (.ref (G.1 145)), some (.int x), some (.int y), some (.int (nI cj))]) (by rw [hje]) ?_
              refine vv_iload_n C 3 dX9_row_115 rfl rfl ?_
              refine vv_if_lt C 127 dX9_row_116 (by decide) (fun h_clt => ?_) (fun h_cge => ?_)
              · have hnot : ¬ askP V (colI V y) := absurd h_clt (nI_pos (by omega))
                refine vv_bipush (v := (-14)) C dX9_row_127 (by decide) ?_
                refine vv_goto C 149 dX9_row_129 (by decide) ?_
                exact vv_iret C hR dX9_row_149 (qIP_of (by rw [op_row_ok h_pos hab h_lt hixc]; exact ⟨((row_c hy2 hy0).trans (if_neg hnot)).symm, hF.rel hV hh, hF.rf⟩))
              · have hcj := hj
                refine vv_aload_n C 0 dX9_row_119 rfl rfl ?_
                refine vv_iload_n C 3 dX9_row_120 rfl rfl ?_
                refine vv_callVI C [.int (nI cj)] (c_X9_isAsked M_5 V hV1 (cc := cj) hcj (x := (nI cj)) rfl) sh_145 rfl (cwV 1 C.1.2.2.2.2 gX9_row_X9_isAsked rfl rfl rfl (by decide +kernel) ⟨Nat.le_of_ble_eq_true rfl, Nat.le_of_ble_eq_true rfl⟩) rfl rfl rfl (Nat.le_of_ble_eq_true rfl) dX9_row_121 ⟨Nat.le_refl _, Nat.le_refl _⟩ ?_
                refine vv_bif_ne C 132 dX9_row_124 (by decide) (fun h_ask => ?_) (fun h_nask => ?_)
                · refine vv_aload_n C 0 dX9_row_132 rfl rfl ?_
                  refine vv_aload_n C 0 dX9_row_133 rfl rfl ?_
                  refine vv_getr C (Cn := RX9) (T := TX9) (N := 13) sh_145 5 rfl rfl (by decide) iX9_row_X9 (List.mem_of_getElem? (i := 3) rfl) rfl dX9_row_134 ?_
                  refine vv_iload_n C 1 dX9_row_137 rfl rfl ?_
                  refine vv_ald (j := ix) (q := 1300 + ix) C sh_149 hixe (by omega) (by omega) dX9_row_138 ?_
                  refine vv_top (y := nI ((srtS V (lstS V 8)).getD ix 0 / 12)) hat.1 ?_
                  refine vv_aload_n C 0 dX9_row_139 rfl rfl ?_
                  refine vv_getr C (Cn := RX9) (T := TX9) (N := 13) sh_145 6 rfl rfl (by decide) iX9_row_X9 (List.mem_of_getElem? (i := 4) rfl) rfl dX9_row_140 ?_
                  refine vv_iload_n C 1 dX9_row_143 rfl rfl ?_
                  refine vv_ald (j := ix) (q := 1450 + ix) C sh_150 hixe (by omega) (by omega) dX9_row_144 ?_
                  refine vv_top (y := nI ((srtS V (lstS V 8)).getD ix 0 % 12)) hat.2 ?_
                  refine vv_iload_n C 3 dX9_row_145 rfl rfl ?_
                  refine vv_callVI C [.int (nI ((srtS V (lstS V 8)).getD ix 0 / 12)), .int (nI ((srtS V (lstS V 8)).getD ix 0 % 12)), .int (nI cj)] (c_X9_at M_5 V hV1 (f := ((srtS V (lstS V 8)).getD ix 0 / 12)) (g := ((srtS V (lstS V 8)).getD ix 0 % 12)) (cc := cj) ⟨by omega, by omega, hcj⟩ (x := (nI ((srtS V (lstS V 8)).getD ix 0 / 12))) (y := (nI ((srtS V (lstS V 8)).getD ix 0 % 12))) (z := (nI cj)) rfl rfl rfl) sh_145 rfl (cwV 3 C.1.2.2.2.2 gX9_row_X9_at rfl rfl rfl (by decide +kernel) ⟨Nat.le_of_ble_eq_true rfl, Nat.le_of_ble_eq_true rfl⟩) rfl rfl rfl (Nat.le_of_ble_eq_true rfl) dX9_row_146 ⟨Nat.le_refl _, Nat.le_refl _⟩ ?_
                  exact vv_iret C hR dX9_row_149 (qIP_of (by rw [op_row_ok h_pos hab h_lt hixc]; exact ⟨((row_c hy2 hy0).trans ((if_pos (by rw [hcol]; exact h_ask)).trans (by rw [hcol, nI_clamp (by omega)]))).symm, hF.rel hV hh, hF.rf⟩))
                · have hnot : ¬ askP V (colI V y) := by rw [hcol]; exact h_nask
                  refine vv_bipush (v := (-14)) C dX9_row_127 (by decide) ?_
                  refine vv_goto C 149 dX9_row_129 (by decide) ?_
                  exact vv_iret C hR dX9_row_149 (qIP_of (by rw [op_row_ok h_pos hab h_lt hixc]; exact ⟨((row_c hy2 hy0).trans (if_neg hnot)).symm, hF.rel hV hh, hF.rf⟩))
          · refine vv_iload_n C 2 dX9_row_73 rfl rfl ?_
            refine vv_if_ne C 86 dX9_row_74 (by decide) (fun h_nz => ?_) (fun h_z => ?_)
            · have hy1 : y = 1 := (lt2 (Int32.not_le.mp h_l2) hy0).elim (fun z => absurd z h_nz) id
              refine vv_aload_n C 0 dX9_row_86 rfl rfl ?_
              refine vv_getr C (Cn := RX9) (T := TX9) (N := 13) sh_145 6 rfl rfl (by decide) iX9_row_X9 (List.mem_of_getElem? (i := 4) rfl) rfl dX9_row_87 ?_
              refine vv_iload_n C 1 dX9_row_90 rfl rfl ?_
              refine vv_ald (j := ix) (q := 1450 + ix) C sh_150 hixe (by omega) (by omega) dX9_row_91 ?_
              refine vv_top (y := nI ((srtS V (lstS V 8)).getD ix 0 % 12)) hat.2 ?_
              exact vv_iret C hR dX9_row_92 (qIP_of (by rw [op_row_ok h_pos hab h_lt hixc]; exact ⟨((row_1 hy1).trans (if_pos (hb1 hy1))).symm, hF.rel hV hh, hF.rf⟩))
            · refine vv_aload_n C 0 dX9_row_77 rfl rfl ?_
              refine vv_getr C (Cn := RX9) (T := TX9) (N := 13) sh_145 5 rfl rfl (by decide) iX9_row_X9 (List.mem_of_getElem? (i := 3) rfl) rfl dX9_row_78 ?_
              refine vv_iload_n C 1 dX9_row_81 rfl rfl ?_
              refine vv_ald (j := ix) (q := 1300 + ix) C sh_149 hixe (by omega) (by omega) dX9_row_82 ?_
              refine vv_top (y := nI ((srtS V (lstS V 8)).getD ix 0 / 12)) hat.1 ?_
              refine vv_goto C 92 dX9_row_83 (by decide) ?_
              exact vv_iret C hR dX9_row_92 (qIP_of (by rw [op_row_ok h_pos hab h_lt hixc]; exact ⟨(row_0 h_z).symm, hF.rel hV hh, hF.rf⟩))
        · refine vv_aload_n C 0 dX9_row_55 rfl rfl ?_
          refine vv_getr C (Cn := RX9) (T := TX9) (N := 13) sh_145 0 rfl rfl (by decide) iX9_row_X9 (List.mem_of_getElem? (i := 2) rfl) rfl dX9_row_56 ?_
          refine vv_bipush (v := 124) C dX9_row_59 (by decide) ?_
          refine vv_ald (j := 124) (q := 2124) C sh_146 (by decide) (by decide) rfl dX9_row_61 ?_
          refine vv_top (y := V 124) (hV1 124 (by decide)) ?_
          refine vv_if_ne C 68 dX9_row_62 (by decide) (fun h_bn0 => ?_) (fun h_b0 => ?_)
          · have hb1 : y = 1 → V 124 = 1 := fun _ => hw.2.2.2.2.2.1.elim (fun z => absurd z h_bn0) id
            refine vv_iload_n C 2 dX9_row_68 rfl rfl ?_
            refine vv_iconst (v := 2) C dX9_row_69 (by decide) ?_
            refine vv_icmp_ge C 93 dX9_row_70 (by decide) (fun h_ge2 => ?_) (fun h_l2 => ?_)
            · have hy2 : ¬ y < 2 := Int32.not_lt.mpr h_ge2
              refine vv_iload_n C 2 dX9_row_93 rfl rfl ?_
              refine vv_bipush (v := 20) C dX9_row_94 (by decide) ?_
              refine vv_icmp_ge C 106 dX9_row_96 (by decide) (fun h_ge20 => ?_) (fun h_l20 => ?_)
              · obtain ⟨a, ha4, hae, hac⟩ := abr_tel hab h_ge20
                refine vv_aload_n C 0 dX9_row_106 rfl rfl ?_
                refine vv_iload_n C 2 dX9_row_107 rfl rfl ?_
                refine vv_bipush (v := 20) C dX9_row_108 (by decide) ?_
                refine vv_isub C dX9_row_110 ?_
                refine vv_callVI C [.int (y - 20)] (c_X9_teller M_5 V hV1 (a := a) (x := (y - 20)) hae) sh_145 rfl (cwV 1 C.1.2.2.2.2 gX9_row_X9_teller rfl rfl rfl (by decide +kernel) ⟨Nat.le_of_ble_eq_true rfl, Nat.le_of_ble_eq_true rfl⟩) rfl rfl rfl (Nat.le_of_ble_eq_true rfl) dX9_row_111 ⟨Nat.le_refl _, Nat.le_refl _⟩ ?_
                refine vv_istore_n (ls2 := [some (.ref (G.1 145)), some (.int x), some (.int y), some (.int (rtI (telS V 8 a)))]) C 3 dX9_row_114 rfl (Nat.le_of_ble_eq_true rfl) rfl ?_
                have hcol0 : colI V y = tcI (telS V 8 a) := by unfold colI; rw [if_neg (Int32.not_lt.mpr h_ge20), hac]
                refine vv_iload_n C 3 dX9_row_115 rfl rfl ?_
                refine vv_if_lt C 127 dX9_row_116 (by decide) (fun h_clt => ?_) (fun h_cge => ?_)
                · have hnot : ¬ askP V (colI V y) := by
                    rw [hcol0]
                    have : ¬ telS V 8 a < 8 := fun z => nI_pos (n := telS V 8 a) (by omega) (by rw [rtI_lt z] at h_clt; exact h_clt)
                    rw [show tcI (telS V 8 a) = -1 from if_neg this]
                    exact ask_neg (by decide)
                  refine vv_bipush (v := (-14)) C dX9_row_127 (by decide) ?_
                  refine vv_goto C 149 dX9_row_129 (by decide) ?_
                  exact vv_iret C hR dX9_row_149 (qIP_of (by rw [op_row_ok h_pos hab h_lt hixc]; exact ⟨((row_c hy2 hy0).trans (if_neg hnot)).symm, hF.rel hV hh, hF.rf⟩))
                · have hcj : telS V 8 a < 8 := by
                    rcases Nat.lt_or_ge (telS V 8 a) 8 with z | z
                    · exact z
                    · exact absurd (show rtI (telS V 8 a) < 0 by rw [rtI_no (by omega)]; decide) h_cge
                  refine vv_loc (ls2 := [some (.ref (G.1 145)), some (.int x), some (.int y), some (.int (nI (telS V 8 a)))]) (by rw [rtI_lt hcj]) ?_
                  have hcol : colI V y = nI (telS V 8 a) := hcol0.trans (tcI_lt hcj)
                  refine vv_aload_n C 0 dX9_row_119 rfl rfl ?_
                  refine vv_iload_n C 3 dX9_row_120 rfl rfl ?_
                  refine vv_callVI C [.int (nI (telS V 8 a))] (c_X9_isAsked M_5 V hV1 (cc := (telS V 8 a)) hcj (x := (nI (telS V 8 a))) rfl) sh_145 rfl (cwV 1 C.1.2.2.2.2 gX9_row_X9_isAsked rfl rfl rfl (by decide +kernel) ⟨Nat.le_of_ble_eq_true rfl, Nat.le_of_ble_eq_true rfl⟩) rfl rfl rfl (Nat.le_of_ble_eq_true rfl) dX9_row_121 ⟨Nat.le_refl _, Nat.le_refl _⟩ ?_
                  refine vv_bif_ne C 132 dX9_row_124 (by decide) (fun h_ask => ?_) (fun h_nask => ?_)
                  · refine vv_aload_n C 0 dX9_row_132 rfl rfl ?_
                    refine vv_aload_n C 0 dX9_row_133 rfl rfl ?_
                    refine vv_getr C (Cn := RX9) (T := TX9) (N := 13) sh_145 5 rfl rfl (by decide) iX9_row_X9 (List.mem_of_getElem? (i := 3) rfl) rfl dX9_row_134 ?_
                    refine vv_iload_n C 1 dX9_row_137 rfl rfl ?_
                    refine vv_ald (j := ix) (q := 1300 + ix) C sh_149 hixe (by omega) (by omega) dX9_row_138 ?_
                    refine vv_top (y := nI ((srtS V (lstS V 8)).getD ix 0 / 12)) hat.1 ?_
                    refine vv_aload_n C 0 dX9_row_139 rfl rfl ?_
                    refine vv_getr C (Cn := RX9) (T := TX9) (N := 13) sh_145 6 rfl rfl (by decide) iX9_row_X9 (List.mem_of_getElem? (i := 4) rfl) rfl dX9_row_140 ?_
                    refine vv_iload_n C 1 dX9_row_143 rfl rfl ?_
                    refine vv_ald (j := ix) (q := 1450 + ix) C sh_150 hixe (by omega) (by omega) dX9_row_144 ?_
                    refine vv_top (y := nI ((srtS V (lstS V 8)).getD ix 0 % 12)) hat.2 ?_
                    refine vv_iload_n C 3 dX9_row_145 rfl rfl ?_
                    refine vv_callVI C [.int (nI ((srtS V (lstS V 8)).getD ix 0 / 12)), .int (nI ((srtS V (lstS V 8)).getD ix 0 % 12)), .int (nI (telS V 8 a))] (c_X9_at M_5 V hV1 (f := ((srtS V (lstS V 8)).getD ix 0 / 12)) (g := ((srtS V (lstS V 8)).getD ix 0 % 12)) (cc := (telS V 8 a)) ⟨by omega, by omega, hcj⟩ (x := (nI ((srtS V (lstS V 8)).getD ix 0 / 12))) (y := (nI ((srtS V (lstS V 8)).getD ix 0 % 12))) (z := (nI (telS V 8 a))) rfl rfl rfl) sh_145 rfl (cwV 3 C.1.2.2.2.2 gX9_row_X9_at rfl rfl rfl (by decide +kernel) ⟨Nat.le_of_ble_eq_true rfl, Nat.le_of_ble_eq_true rfl⟩) rfl rfl rfl (Nat.le_of_ble_eq_true rfl) dX9_row_146 ⟨Nat.le_refl _, Nat.le_refl _⟩ ?_
                    exact vv_iret C hR dX9_row_149 (qIP_of (by rw [op_row_ok h_pos hab h_lt hixc]; exact ⟨((row_c hy2 hy0).trans ((if_pos (by rw [hcol]; exact h_ask)).trans (by rw [hcol, nI_clamp (by omega)]))).symm, hF.rel hV hh, hF.rf⟩))
                  · have hnot : ¬ askP V (colI V y) := by rw [hcol]; exact h_nask
                    refine vv_bipush (v := (-14)) C dX9_row_127 (by decide) ?_
                    refine vv_goto C 149 dX9_row_129 (by decide) ?_
                    exact vv_iret C hR dX9_row_149 (qIP_of (by rw [op_row_ok h_pos hab h_lt hixc]; exact ⟨((row_c hy2 hy0).trans (if_neg hnot)).symm, hF.rel hV hh, hF.rf⟩))
              · obtain ⟨cj, hj, hje⟩ := abr_col hab hy2 (Int32.not_le.mp h_l20)
                refine vv_iload_n C 2 dX9_row_99 rfl rfl ?_
                refine vv_bipush (v := 10) C dX9_row_100 (by decide) ?_
                refine vv_isub C dX9_row_102 ?_
                refine vv_goto C 114 dX9_row_103 (by decide) ?_
                refine vv_istore_n (ls2 := [some (.ref (G.1 145)), some (.int x), some (.int y), some (.int (y - 10))]) C 3 dX9_row_114 rfl (Nat.le_of_ble_eq_true rfl) rfl ?_
                have hcol : colI V y = nI cj := by unfold colI; rw [if_pos (Int32.not_le.mp h_l20)]; exact hje
                refine vv_loc (ls2 := [some (.ref (G.1 145)), some (.int x), some (.int y), some (.int (nI cj))]) (by rw [hje]) ?_
                refine vv_iload_n C 3 dX9_row_115 rfl rfl ?_
                refine vv_if_lt C 127 dX9_row_116 (by decide) (fun h_clt => ?_) (fun h_cge => ?_)
                · have hnot : ¬ askP V (colI V y) := absurd h_clt (nI_pos (by omega))
                  refine vv_bipush (v := (-14)) C dX9_row_127 (by decide) ?_
                  refine vv_goto C 149 dX9_row_129 (by decide) ?_
                  exact vv_iret C hR dX9_row_149 (qIP_of (by rw [op_row_ok h_pos hab h_lt hixc]; exact ⟨((row_c hy2 hy0).trans (if_neg hnot)).symm, hF.rel hV hh, hF.rf⟩))
                · have hcj := hj
                  refine vv_aload_n C 0 dX9_row_119 rfl rfl ?_
                  refine vv_iload_n C 3 dX9_row_120 rfl rfl ?_
                  refine vv_callVI C [.int (nI cj)] (c_X9_isAsked M_5 V hV1 (cc := cj) hcj (x := (nI cj)) rfl) sh_145 rfl (cwV 1 C.1.2.2.2.2 gX9_row_X9_isAsked rfl rfl rfl (by decide +kernel) ⟨Nat.le_of_ble_eq_true rfl, Nat.le_of_ble_eq_true rfl⟩) rfl rfl rfl (Nat.le_of_ble_eq_true rfl) dX9_row_121 ⟨Nat.le_refl _, Nat.le_refl _⟩ ?_
                  refine vv_bif_ne C 132 dX9_row_124 (by decide) (fun h_ask => ?_) (fun h_nask => ?_)
                  · refine vv_aload_n C 0 dX9_row_132 rfl rfl ?_
                    refine vv_aload_n C 0 dX9_row_133 rfl rfl ?_
                    refine vv_getr C (Cn := RX9) (T := TX9) (N := 13) sh_145 5 rfl rfl (by decide) iX9_row_X9 (List.mem_of_getElem? (i := 3) rfl) rfl dX9_row_134 ?_
                    refine vv_iload_n C 1 dX9_row_137 rfl rfl ?_
                    refine vv_ald (j := ix) (q := 1300 + ix) C sh_149 hixe (by omega) (by omega) dX9_row_138 ?_
                    refine vv_top (y := nI ((srtS V (lstS V 8)).getD ix 0 / 12)) hat.1 ?_
                    refine vv_aload_n C 0 dX9_row_139 rfl rfl ?_
                    refine vv_getr C (Cn := RX9) (T := TX9) (N := 13) sh_145 6 rfl rfl (by decide) iX9_row_X9 (List.mem_of_getElem? (i := 4) rfl) rfl dX9_row_140 ?_
                    refine vv_iload_n C 1 dX9_row_143 rfl rfl ?_
                    refine vv_ald (j := ix) (q := 1450 + ix) C sh_150 hixe (by omega) (by omega) dX9_row_144 ?_
                    refine vv_top (y := nI ((srtS V (lstS V 8)).getD ix 0 % 12)) hat.2 ?_
                    refine vv_iload_n C 3 dX9_row_145 rfl rfl ?_
                    refine vv_callVI C [.int (nI ((srtS V (lstS V 8)).getD ix 0 / 12)), .int (nI ((srtS V (lstS V 8)).getD ix 0 % 12)), .int (nI cj)] (c_X9_at M_5 V hV1 (f := ((srtS V (lstS V 8)).getD ix 0 / 12)) (g := ((srtS V (lstS V 8)).getD ix 0 % 12)) (cc := cj) ⟨by omega, by omega, hcj⟩ (x := (nI ((srtS V (lstS V 8)).getD ix 0 / 12))) (y := (nI ((srtS V (lstS V 8)).getD ix 0 % 12))) (z := (nI cj)) rfl rfl rfl) sh_145 rfl (cwV 3 C.1.2.2.2.2 gX9_row_X9_at rfl rfl rfl (by decide +kernel) ⟨Nat.le_of_ble_eq_true rfl, Nat.le_of_ble_eq_true rfl⟩) rfl rfl rfl (Nat.le_of_ble_eq_true rfl) dX9_row_146 ⟨Nat.le_refl _, Nat.le_refl _⟩ ?_
                    exact vv_iret C hR dX9_row_149 (qIP_of (by rw [op_row_ok h_pos hab h_lt hixc]; exact ⟨((row_c hy2 hy0).trans ((if_pos (by rw [hcol]; exact h_ask)).trans (by rw [hcol, nI_clamp (by omega)]))).symm, hF.rel hV hh, hF.rf⟩))
                  · have hnot : ¬ askP V (colI V y) := by rw [hcol]; exact h_nask
                    refine vv_bipush (v := (-14)) C dX9_row_127 (by decide) ?_
                    refine vv_goto C 149 dX9_row_129 (by decide) ?_
                    exact vv_iret C hR dX9_row_149 (qIP_of (by rw [op_row_ok h_pos hab h_lt hixc]; exact ⟨((row_c hy2 hy0).trans (if_neg hnot)).symm, hF.rel hV hh, hF.rf⟩))
            · refine vv_iload_n C 2 dX9_row_73 rfl rfl ?_
              refine vv_if_ne C 86 dX9_row_74 (by decide) (fun h_nz => ?_) (fun h_z => ?_)
              · have hy1 : y = 1 := (lt2 (Int32.not_le.mp h_l2) hy0).elim (fun z => absurd z h_nz) id
                refine vv_aload_n C 0 dX9_row_86 rfl rfl ?_
                refine vv_getr C (Cn := RX9) (T := TX9) (N := 13) sh_145 6 rfl rfl (by decide) iX9_row_X9 (List.mem_of_getElem? (i := 4) rfl) rfl dX9_row_87 ?_
                refine vv_iload_n C 1 dX9_row_90 rfl rfl ?_
                refine vv_ald (j := ix) (q := 1450 + ix) C sh_150 hixe (by omega) (by omega) dX9_row_91 ?_
                refine vv_top (y := nI ((srtS V (lstS V 8)).getD ix 0 % 12)) hat.2 ?_
                exact vv_iret C hR dX9_row_92 (qIP_of (by rw [op_row_ok h_pos hab h_lt hixc]; exact ⟨((row_1 hy1).trans (if_pos (hb1 hy1))).symm, hF.rel hV hh, hF.rf⟩))
              · refine vv_aload_n C 0 dX9_row_77 rfl rfl ?_
                refine vv_getr C (Cn := RX9) (T := TX9) (N := 13) sh_145 5 rfl rfl (by decide) iX9_row_X9 (List.mem_of_getElem? (i := 3) rfl) rfl dX9_row_78 ?_
                refine vv_iload_n C 1 dX9_row_81 rfl rfl ?_
                refine vv_ald (j := ix) (q := 1300 + ix) C sh_149 hixe (by omega) (by omega) dX9_row_82 ?_
                refine vv_top (y := nI ((srtS V (lstS V 8)).getD ix 0 / 12)) hat.1 ?_
                refine vv_goto C 92 dX9_row_83 (by decide) ?_
                exact vv_iret C hR dX9_row_92 (qIP_of (by rw [op_row_ok h_pos hab h_lt hixc]; exact ⟨(row_0 h_z).symm, hF.rel hV hh, hF.rf⟩))
          · refine vv_bipush (v := (-14)) C dX9_row_65 (by decide) ?_
            exact vv_iret C hR dX9_row_67 (qIP_of (by rw [op_row_ok h_pos hab h_lt hixc]; exact ⟨((row_1 h_y1).trans (if_neg (fun z => absurd (z.symm.trans h_b0) (by decide)))).symm, hF.rel hV hh, hF.rf⟩))
    · refine vv_iload_n C 2 dX9_row_13 rfl rfl ?_
      refine vv_bipush (v := 10) C dX9_row_14 (by decide) ?_
      refine vv_bipush (v := 17) C dX9_row_16 (by decide) ?_
      refine vv_callSI C [.int y, .int 10, .int 17] (c_X9_in M y 10 17) (cwS 3 C.1.2.2.2.2 gX9_row_X9_in rfl rfl rfl (by decide +kernel) ⟨Nat.le_of_ble_eq_true rfl, Nat.le_of_ble_eq_true rfl⟩) rfl rfl rfl (Nat.le_of_ble_eq_true rfl) dX9_row_18 ⟨Nat.le_refl _, Nat.le_refl _⟩ ?_
      refine vv_bif_ne C 38 dX9_row_21 (by decide) (fun h_y10 => ?_) (fun h_n10 => ?_)
      · have hab : abrB y = true := abr_in.mpr (Or.inr (Or.inl h_y10))
        have hy0 := abr_pos hab
        refine vv_aload_n C 0 dX9_row_38 rfl rfl ?_
        refine vv_callVVP C [] (c_X9_finds M V hV.1 hw) sh_145 rfl (cwV 0 C.1.2.2.2.2 gX9_row_X9_finds rfl rfl rfl (by decide +kernel) ⟨Nat.le_of_ble_eq_true rfl, Nat.le_of_ble_eq_true rfl⟩) rfl rfl rfl (Nat.le_of_ble_eq_true rfl) dX9_row_39 ⟨Nat.le_refl _, Nat.le_refl _⟩ (fun M_43 h_44 => ?_)
        have hF := h_44
        refine vv_iload_n C 1 dX9_row_42 rfl rfl ?_
        refine vv_aload_n C 0 dX9_row_43 rfl rfl ?_
        refine vv_geti C (Cn := RX9) (T := TX9) (N := 13) sh_145 7 rfl rfl (by decide) iX9_row_X9 (List.mem_of_getElem? (i := 1) rfl) rfl dX9_row_44 ?_
        refine vv_top (y := manyI V) hF.2.1 ?_
        refine vv_icmp_ge C 65 dX9_row_47 (by decide) (fun h_ge => ?_) (fun h_nge => ?_)
        · refine vv_bipush (v := (-14)) C dX9_row_65 (by decide) ?_
          exact vv_iret C hR dX9_row_67 (qIP_of (by rw [show op_row V x y = (if x < manyI V then rowI V ((srtS V (lstS V 8)).getD x.toNatClampNeg 0) y else -14, V) from if_pos ⟨h_pos, hab⟩, if_neg (Int32.not_lt.mpr h_ge)]; exact ⟨rfl, hF.rel hV hh, hF.rf⟩))
        · have h_lt : x < manyI V := Int32.not_le.mp h_nge
          obtain ⟨ix, hixl, hixe, hixc⟩ := ix_lt h_pos h_lt (by have := lstS_len (lo := 8) hR0; omega)
          have hrr := srt_row hR0 hixl
          have hat := srt_at hF hixl
          have h144 := lstS_len (lo := 8) hR0
          have hV1 := hF.vw hV.1
          refine vv_iload_n C 2 dX9_row_50 rfl rfl ?_
          refine vv_iconst (v := 1) C dX9_row_51 (by decide) ?_
          refine vv_icmp_ne C 68 dX9_row_52 (by decide) (fun h_yn1 => ?_) (fun h_y1 => ?_)
          · have hb1 : y = 1 → V 124 = 1 := fun z => absurd z h_yn1
            refine vv_iload_n C 2 dX9_row_68 rfl rfl ?_
            refine vv_iconst (v := 2) C dX9_row_69 (by decide) ?_
            refine vv_icmp_ge C 93 dX9_row_70 (by decide) (fun h_ge2 => ?_) (fun h_l2 => ?_)
            · have hy2 : ¬ y < 2 := Int32.not_lt.mpr h_ge2
              refine vv_iload_n C 2 dX9_row_93 rfl rfl ?_
              refine vv_bipush (v := 20) C dX9_row_94 (by decide) ?_
              refine vv_icmp_ge C 106 dX9_row_96 (by decide) (fun h_ge20 => ?_) (fun h_l20 => ?_)
              · obtain ⟨a, ha4, hae, hac⟩ := abr_tel hab h_ge20
                refine vv_aload_n C 0 dX9_row_106 rfl rfl ?_
                refine vv_iload_n C 2 dX9_row_107 rfl rfl ?_
                refine vv_bipush (v := 20) C dX9_row_108 (by decide) ?_
                refine vv_isub C dX9_row_110 ?_
                refine vv_callVI C [.int (y - 20)] (c_X9_teller M_43 V hV1 (a := a) (x := (y - 20)) hae) sh_145 rfl (cwV 1 C.1.2.2.2.2 gX9_row_X9_teller rfl rfl rfl (by decide +kernel) ⟨Nat.le_of_ble_eq_true rfl, Nat.le_of_ble_eq_true rfl⟩) rfl rfl rfl (Nat.le_of_ble_eq_true rfl) dX9_row_111 ⟨Nat.le_refl _, Nat.le_refl _⟩ ?_
                refine vv_istore_n (ls2 := [some (.ref (G.1 145)), some (.int x), some (.int y), some (.int (rtI (telS V 8 a)))]) C 3 dX9_row_114 rfl (Nat.le_of_ble_eq_true rfl) rfl ?_
                have hcol0 : colI V y = tcI (telS V 8 a) := by unfold colI; rw [if_neg (Int32.not_lt.mpr h_ge20), hac]
                refine vv_iload_n C 3 dX9_row_115 rfl rfl ?_
                refine vv_if_lt C 127 dX9_row_116 (by decide) (fun h_clt => ?_) (fun h_cge => ?_)
                · have hnot : ¬ askP V (colI V y) := by
                    rw [hcol0]
                    have : ¬ telS V 8 a < 8 := fun z => nI_pos (n := telS V 8 a) (by omega) (by rw [rtI_lt z] at h_clt; exact h_clt)
                    rw [show tcI (telS V 8 a) = -1 from if_neg this]
                    exact ask_neg (by decide)
                  refine vv_bipush (v := (-14)) C dX9_row_127 (by decide) ?_
                  refine vv_goto C 149 dX9_row_129 (by decide) ?_
                  exact vv_iret C hR dX9_row_149 (qIP_of (by rw [op_row_ok h_pos hab h_lt hixc]; exact ⟨((row_c hy2 hy0).trans (if_neg hnot)).symm, hF.rel hV hh, hF.rf⟩))
                · have hcj : telS V 8 a < 8 := by
                    rcases Nat.lt_or_ge (telS V 8 a) 8 with z | z
                    · exact z
                    · exact absurd (show rtI (telS V 8 a) < 0 by rw [rtI_no (by omega)]; decide) h_cge
                  refine vv_loc (ls2 := [some (.ref (G.1 145)), some (.int x), some (.int y), some (.int (nI (telS V 8 a)))]) (by rw [rtI_lt hcj]) ?_
                  have hcol : colI V y = nI (telS V 8 a) := hcol0.trans (tcI_lt hcj)
                  refine vv_aload_n C 0 dX9_row_119 rfl rfl ?_
                  refine vv_iload_n C 3 dX9_row_120 rfl rfl ?_
                  refine vv_callVI C [.int (nI (telS V 8 a))] (c_X9_isAsked M_43 V hV1 (cc := (telS V 8 a)) hcj (x := (nI (telS V 8 a))) rfl) sh_145 rfl (cwV 1 C.1.2.2.2.2 gX9_row_X9_isAsked rfl rfl rfl (by decide +kernel) ⟨Nat.le_of_ble_eq_true rfl, Nat.le_of_ble_eq_true rfl⟩) rfl rfl rfl (Nat.le_of_ble_eq_true rfl) dX9_row_121 ⟨Nat.le_refl _, Nat.le_refl _⟩ ?_
                  refine vv_bif_ne C 132 dX9_row_124 (by decide) (fun h_ask => ?_) (fun h_nask => ?_)
                  · refine vv_aload_n C 0 dX9_row_132 rfl rfl ?_
                    refine vv_aload_n C 0 dX9_row_133 rfl rfl ?_
                    refine vv_getr C (Cn := RX9) (T := TX9) (N := 13) sh_145 5 rfl rfl (by decide) iX9_row_X9 (List.mem_of_getElem? (i := 3) rfl) rfl dX9_row_134 ?_
                    refine vv_iload_n C 1 dX9_row_137 rfl rfl ?_
                    refine vv_ald (j := ix) (q := 1300 + ix) C sh_149 hixe (by omega) (by omega) dX9_row_138 ?_
                    refine vv_top (y := nI ((srtS V (lstS V 8)).getD ix 0 / 12)) hat.1 ?_
                    refine vv_aload_n C 0 dX9_row_139 rfl rfl ?_
                    refine vv_getr C (Cn := RX9) (T := TX9) (N := 13) sh_145 6 rfl rfl (by decide) iX9_row_X9 (List.mem_of_getElem? (i := 4) rfl) rfl dX9_row_140 ?_
                    refine vv_iload_n C 1 dX9_row_143 rfl rfl ?_
                    refine vv_ald (j := ix) (q := 1450 + ix) C sh_150 hixe (by omega) (by omega) dX9_row_144 ?_
                    refine vv_top (y := nI ((srtS V (lstS V 8)).getD ix 0 % 12)) hat.2 ?_
                    refine vv_iload_n C 3 dX9_row_145 rfl rfl ?_
                    refine vv_callVI C [.int (nI ((srtS V (lstS V 8)).getD ix 0 / 12)), .int (nI ((srtS V (lstS V 8)).getD ix 0 % 12)), .int (nI (telS V 8 a))] (c_X9_at M_43 V hV1 (f := ((srtS V (lstS V 8)).getD ix 0 / 12)) (g := ((srtS V (lstS V 8)).getD ix 0 % 12)) (cc := (telS V 8 a)) ⟨by omega, by omega, hcj⟩ (x := (nI ((srtS V (lstS V 8)).getD ix 0 / 12))) (y := (nI ((srtS V (lstS V 8)).getD ix 0 % 12))) (z := (nI (telS V 8 a))) rfl rfl rfl) sh_145 rfl (cwV 3 C.1.2.2.2.2 gX9_row_X9_at rfl rfl rfl (by decide +kernel) ⟨Nat.le_of_ble_eq_true rfl, Nat.le_of_ble_eq_true rfl⟩) rfl rfl rfl (Nat.le_of_ble_eq_true rfl) dX9_row_146 ⟨Nat.le_refl _, Nat.le_refl _⟩ ?_
                    exact vv_iret C hR dX9_row_149 (qIP_of (by rw [op_row_ok h_pos hab h_lt hixc]; exact ⟨((row_c hy2 hy0).trans ((if_pos (by rw [hcol]; exact h_ask)).trans (by rw [hcol, nI_clamp (by omega)]))).symm, hF.rel hV hh, hF.rf⟩))
                  · have hnot : ¬ askP V (colI V y) := by rw [hcol]; exact h_nask
                    refine vv_bipush (v := (-14)) C dX9_row_127 (by decide) ?_
                    refine vv_goto C 149 dX9_row_129 (by decide) ?_
                    exact vv_iret C hR dX9_row_149 (qIP_of (by rw [op_row_ok h_pos hab h_lt hixc]; exact ⟨((row_c hy2 hy0).trans (if_neg hnot)).symm, hF.rel hV hh, hF.rf⟩))
              · obtain ⟨cj, hj, hje⟩ := abr_col hab hy2 (Int32.not_le.mp h_l20)
                refine vv_iload_n C 2 dX9_row_99 rfl rfl ?_
                refine vv_bipush (v := 10) C dX9_row_100 (by decide) ?_
                refine vv_isub C dX9_row_102 ?_
                refine vv_goto C 114 dX9_row_103 (by decide) ?_
                refine vv_istore_n (ls2 := [some (.ref (G.1 145)), some (.int x), some (.int y), some (.int (y - 10))]) C 3 dX9_row_114 rfl (Nat.le_of_ble_eq_true rfl) rfl ?_
                have hcol : colI V y = nI cj := by unfold colI; rw [if_pos (Int32.not_le.mp h_l20)]; exact hje
                refine vv_loc (ls2 := [some (.ref (G.1 145)), some (.int x), some (.int y), some (.int (nI cj))]) (by rw [hje]) ?_
                refine vv_iload_n C 3 dX9_row_115 rfl rfl ?_
                refine vv_if_lt C 127 dX9_row_116 (by decide) (fun h_clt => ?_) (fun h_cge => ?_)
                · have hnot : ¬ askP V (colI V y) := absurd h_clt (nI_pos (by omega))
                  refine vv_bipush (v := (-14)) C dX9_row_127 (by decide) ?_
                  refine vv_goto C 149 dX9_row_129 (by decide) ?_
                  exact vv_iret C hR dX9_row_149 (qIP_of (by rw [op_row_ok h_pos hab h_lt hixc]; exact ⟨((row_c hy2 hy0).trans (if_neg hnot)).symm, hF.rel hV hh, hF.rf⟩))
                · have hcj := hj
                  refine vv_aload_n C 0 dX9_row_119 rfl rfl ?_
                  refine vv_iload_n C 3 dX9_row_120 rfl rfl ?_
                  refine vv_callVI C [.int (nI cj)] (c_X9_isAsked M_43 V hV1 (cc := cj) hcj (x := (nI cj)) rfl) sh_145 rfl (cwV 1 C.1.2.2.2.2 gX9_row_X9_isAsked rfl rfl rfl (by decide +kernel) ⟨Nat.le_of_ble_eq_true rfl, Nat.le_of_ble_eq_true rfl⟩) rfl rfl rfl (Nat.le_of_ble_eq_true rfl) dX9_row_121 ⟨Nat.le_refl _, Nat.le_refl _⟩ ?_
                  refine vv_bif_ne C 132 dX9_row_124 (by decide) (fun h_ask => ?_) (fun h_nask => ?_)
                  · refine vv_aload_n C 0 dX9_row_132 rfl rfl ?_
                    refine vv_aload_n C 0 dX9_row_133 rfl rfl ?_
                    refine vv_getr C (Cn := RX9) (T := TX9) (N := 13) sh_145 5 rfl rfl (by decide) iX9_row_X9 (List.mem_of_getElem? (i := 3) rfl) rfl dX9_row_134 ?_
                    refine vv_iload_n C 1 dX9_row_137 rfl rfl ?_
                    refine vv_ald (j := ix) (q := 1300 + ix) C sh_149 hixe (by omega) (by omega) dX9_row_138 ?_
                    refine vv_top (y := nI ((srtS V (lstS V 8)).getD ix 0 / 12)) hat.1 ?_
                    refine vv_aload_n C 0 dX9_row_139 rfl rfl ?_
                    refine vv_getr C (Cn := RX9) (T := TX9) (N := 13) sh_145 6 rfl rfl (by decide) iX9_row_X9 (List.mem_of_getElem? (i := 4) rfl) rfl dX9_row_140 ?_
                    refine vv_iload_n C 1 dX9_row_143 rfl rfl ?_
                    refine vv_ald (j := ix) (q := 1450 + ix) C sh_150 hixe (by omega) (by omega) dX9_row_144 ?_
                    refine vv_top (y := nI ((srtS V (lstS V 8)).getD ix 0 % 12)) hat.2 ?_
                    refine vv_iload_n C 3 dX9_row_145 rfl rfl ?_
                    refine vv_callVI C [.int (nI ((srtS V (lstS V 8)).getD ix 0 / 12)), .int (nI ((srtS V (lstS V 8)).getD ix 0 % 12)), .int (nI cj)] (c_X9_at M_43 V hV1 (f := ((srtS V (lstS V 8)).getD ix 0 / 12)) (g := ((srtS V (lstS V 8)).getD ix 0 % 12)) (cc := cj) ⟨by omega, by omega, hcj⟩ (x := (nI ((srtS V (lstS V 8)).getD ix 0 / 12))) (y := (nI ((srtS V (lstS V 8)).getD ix 0 % 12))) (z := (nI cj)) rfl rfl rfl) sh_145 rfl (cwV 3 C.1.2.2.2.2 gX9_row_X9_at rfl rfl rfl (by decide +kernel) ⟨Nat.le_of_ble_eq_true rfl, Nat.le_of_ble_eq_true rfl⟩) rfl rfl rfl (Nat.le_of_ble_eq_true rfl) dX9_row_146 ⟨Nat.le_refl _, Nat.le_refl _⟩ ?_
                    exact vv_iret C hR dX9_row_149 (qIP_of (by rw [op_row_ok h_pos hab h_lt hixc]; exact ⟨((row_c hy2 hy0).trans ((if_pos (by rw [hcol]; exact h_ask)).trans (by rw [hcol, nI_clamp (by omega)]))).symm, hF.rel hV hh, hF.rf⟩))
                  · have hnot : ¬ askP V (colI V y) := by rw [hcol]; exact h_nask
                    refine vv_bipush (v := (-14)) C dX9_row_127 (by decide) ?_
                    refine vv_goto C 149 dX9_row_129 (by decide) ?_
                    exact vv_iret C hR dX9_row_149 (qIP_of (by rw [op_row_ok h_pos hab h_lt hixc]; exact ⟨((row_c hy2 hy0).trans (if_neg hnot)).symm, hF.rel hV hh, hF.rf⟩))
            · refine vv_iload_n C 2 dX9_row_73 rfl rfl ?_
              refine vv_if_ne C 86 dX9_row_74 (by decide) (fun h_nz => ?_) (fun h_z => ?_)
              · have hy1 : y = 1 := (lt2 (Int32.not_le.mp h_l2) hy0).elim (fun z => absurd z h_nz) id
                refine vv_aload_n C 0 dX9_row_86 rfl rfl ?_
                refine vv_getr C (Cn := RX9) (T := TX9) (N := 13) sh_145 6 rfl rfl (by decide) iX9_row_X9 (List.mem_of_getElem? (i := 4) rfl) rfl dX9_row_87 ?_
                refine vv_iload_n C 1 dX9_row_90 rfl rfl ?_
                refine vv_ald (j := ix) (q := 1450 + ix) C sh_150 hixe (by omega) (by omega) dX9_row_91 ?_
                refine vv_top (y := nI ((srtS V (lstS V 8)).getD ix 0 % 12)) hat.2 ?_
                exact vv_iret C hR dX9_row_92 (qIP_of (by rw [op_row_ok h_pos hab h_lt hixc]; exact ⟨((row_1 hy1).trans (if_pos (hb1 hy1))).symm, hF.rel hV hh, hF.rf⟩))
              · refine vv_aload_n C 0 dX9_row_77 rfl rfl ?_
                refine vv_getr C (Cn := RX9) (T := TX9) (N := 13) sh_145 5 rfl rfl (by decide) iX9_row_X9 (List.mem_of_getElem? (i := 3) rfl) rfl dX9_row_78 ?_
                refine vv_iload_n C 1 dX9_row_81 rfl rfl ?_
                refine vv_ald (j := ix) (q := 1300 + ix) C sh_149 hixe (by omega) (by omega) dX9_row_82 ?_
                refine vv_top (y := nI ((srtS V (lstS V 8)).getD ix 0 / 12)) hat.1 ?_
                refine vv_goto C 92 dX9_row_83 (by decide) ?_
                exact vv_iret C hR dX9_row_92 (qIP_of (by rw [op_row_ok h_pos hab h_lt hixc]; exact ⟨(row_0 h_z).symm, hF.rel hV hh, hF.rf⟩))
          · refine vv_aload_n C 0 dX9_row_55 rfl rfl ?_
            refine vv_getr C (Cn := RX9) (T := TX9) (N := 13) sh_145 0 rfl rfl (by decide) iX9_row_X9 (List.mem_of_getElem? (i := 2) rfl) rfl dX9_row_56 ?_
            refine vv_bipush (v := 124) C dX9_row_59 (by decide) ?_
            refine vv_ald (j := 124) (q := 2124) C sh_146 (by decide) (by decide) rfl dX9_row_61 ?_
            refine vv_top (y := V 124) (hV1 124 (by decide)) ?_
            refine vv_if_ne C 68 dX9_row_62 (by decide) (fun h_bn0 => ?_) (fun h_b0 => ?_)
            · have hb1 : y = 1 → V 124 = 1 := fun _ => hw.2.2.2.2.2.1.elim (fun z => absurd z h_bn0) id
              refine vv_iload_n C 2 dX9_row_68 rfl rfl ?_
              refine vv_iconst (v := 2) C dX9_row_69 (by decide) ?_
              refine vv_icmp_ge C 93 dX9_row_70 (by decide) (fun h_ge2 => ?_) (fun h_l2 => ?_)
              · have hy2 : ¬ y < 2 := Int32.not_lt.mpr h_ge2
                refine vv_iload_n C 2 dX9_row_93 rfl rfl ?_
                refine vv_bipush (v := 20) C dX9_row_94 (by decide) ?_
                refine vv_icmp_ge C 106 dX9_row_96 (by decide) (fun h_ge20 => ?_) (fun h_l20 => ?_)
                · obtain ⟨a, ha4, hae, hac⟩ := abr_tel hab h_ge20
                  refine vv_aload_n C 0 dX9_row_106 rfl rfl ?_
                  refine vv_iload_n C 2 dX9_row_107 rfl rfl ?_
                  refine vv_bipush (v := 20) C dX9_row_108 (by decide) ?_
                  refine vv_isub C dX9_row_110 ?_
                  refine vv_callVI C [.int (y - 20)] (c_X9_teller M_43 V hV1 (a := a) (x := (y - 20)) hae) sh_145 rfl (cwV 1 C.1.2.2.2.2 gX9_row_X9_teller rfl rfl rfl (by decide +kernel) ⟨Nat.le_of_ble_eq_true rfl, Nat.le_of_ble_eq_true rfl⟩) rfl rfl rfl (Nat.le_of_ble_eq_true rfl) dX9_row_111 ⟨Nat.le_refl _, Nat.le_refl _⟩ ?_
                  refine vv_istore_n (ls2 := [some (.ref (G.1 145)), some (.int x), some (.int y), some (.int (rtI (telS V 8 a)))]) C 3 dX9_row_114 rfl (Nat.le_of_ble_eq_true rfl) rfl ?_
                  have hcol0 : colI V y = tcI (telS V 8 a) := by unfold colI; rw [if_neg (Int32.not_lt.mpr h_ge20), hac]
                  refine vv_iload_n C 3 dX9_row_115 rfl rfl ?_
                  refine vv_if_lt C 127 dX9_row_116 (by decide) (fun h_clt => ?_) (fun h_cge => ?_)
                  · have hnot : ¬ askP V (colI V y) := by
                      rw [hcol0]
                      have : ¬ telS V 8 a < 8 := fun z => nI_pos (n := telS V 8 a) (by omega) (by rw [rtI_lt z] at h_clt; exact h_clt)
                      rw [show tcI (telS V 8 a) = -1 from if_neg this]
                      exact ask_neg (by decide)
                    refine vv_bipush (v := (-14)) C dX9_row_127 (by decide) ?_
                    refine vv_goto C 149 dX9_row_129 (by decide) ?_
                    exact vv_iret C hR dX9_row_149 (qIP_of (by rw [op_row_ok h_pos hab h_lt hixc]; exact ⟨((row_c hy2 hy0).trans (if_neg hnot)).symm, hF.rel hV hh, hF.rf⟩))
                  · have hcj : telS V 8 a < 8 := by
                      rcases Nat.lt_or_ge (telS V 8 a) 8 with z | z
                      · exact z
                      · exact absurd (show rtI (telS V 8 a) < 0 by rw [rtI_no (by omega)]; decide) h_cge
                    refine vv_loc (ls2 := [some (.ref (G.1 145)), some (.int x), some (.int y), some (.int (nI (telS V 8 a)))]) (by rw [rtI_lt hcj]) ?_
                    have hcol : colI V y = nI (telS V 8 a) := hcol0.trans (tcI_lt hcj)
                    refine vv_aload_n C 0 dX9_row_119 rfl rfl ?_
                    refine vv_iload_n C 3 dX9_row_120 rfl rfl ?_
                    refine vv_callVI C [.int (nI (telS V 8 a))] (c_X9_isAsked M_43 V hV1 (cc := (telS V 8 a)) hcj (x := (nI (telS V 8 a))) rfl) sh_145 rfl (cwV 1 C.1.2.2.2.2 gX9_row_X9_isAsked rfl rfl rfl (by decide +kernel) ⟨Nat.le_of_ble_eq_true rfl, Nat.le_of_ble_eq_true rfl⟩) rfl rfl rfl (Nat.le_of_ble_eq_true rfl) dX9_row_121 ⟨Nat.le_refl _, Nat.le_refl _⟩ ?_
                    refine vv_bif_ne C 132 dX9_row_124 (by decide) (fun h_ask => ?_) (fun h_nask => ?_)
                    · refine vv_aload_n C 0 dX9_row_132 rfl rfl ?_
                      refine vv_aload_n C 0 dX9_row_133 rfl rfl ?_
                      refine vv_getr C (Cn := RX9) (T := TX9) (N := 13) sh_145 5 rfl rfl (by decide) iX9_row_X9 (List.mem_of_getElem? (i := 3) rfl) rfl dX9_row_134 ?_
                      refine vv_iload_n C 1 dX9_row_137 rfl rfl ?_
                      refine vv_ald (j := ix) (q := 1300 + ix) C sh_149 hixe (by omega) (by omega) dX9_row_138 ?_
                      refine vv_top (y := nI ((srtS V (lstS V 8)).getD ix 0 / 12)) hat.1 ?_
                      refine vv_aload_n C 0 dX9_row_139 rfl rfl ?_
                      refine vv_getr C (Cn := RX9) (T := TX9) (N := 13) sh_145 6 rfl rfl (by decide) iX9_row_X9 (List.mem_of_getElem? (i := 4) rfl) rfl dX9_row_140 ?_
                      refine vv_iload_n C 1 dX9_row_143 rfl rfl ?_
                      refine vv_ald (j := ix) (q := 1450 + ix) C sh_150 hixe (by omega) (by omega) dX9_row_144 ?_
                      refine vv_top (y := nI ((srtS V (lstS V 8)).getD ix 0 % 12)) hat.2 ?_
                      refine vv_iload_n C 3 dX9_row_145 rfl rfl ?_
                      refine vv_callVI C [.int (nI ((srtS V (lstS V 8)).getD ix 0 / 12)), .int (nI ((srtS V (lstS V 8)).getD ix 0 % 12)), .int (nI (telS V 8 a))] (c_X9_at M_43 V hV1 (f := ((srtS V (lstS V 8)).getD ix 0 / 12)) (g := ((srtS V (lstS V 8)).getD ix 0 % 12)) (cc := (telS V 8 a)) ⟨by omega, by omega, hcj⟩ (x := (nI ((srtS V (lstS V 8)).getD ix 0 / 12))) (y := (nI ((srtS V (lstS V 8)).getD ix 0 % 12))) (z := (nI (telS V 8 a))) rfl rfl rfl) sh_145 rfl (cwV 3 C.1.2.2.2.2 gX9_row_X9_at rfl rfl rfl (by decide +kernel) ⟨Nat.le_of_ble_eq_true rfl, Nat.le_of_ble_eq_true rfl⟩) rfl rfl rfl (Nat.le_of_ble_eq_true rfl) dX9_row_146 ⟨Nat.le_refl _, Nat.le_refl _⟩ ?_
                      exact vv_iret C hR dX9_row_149 (qIP_of (by rw [op_row_ok h_pos hab h_lt hixc]; exact ⟨((row_c hy2 hy0).trans ((if_pos (by rw [hcol]; exact h_ask)).trans (by rw [hcol, nI_clamp (by omega)]))).symm, hF.rel hV hh, hF.rf⟩))
                    · have hnot : ¬ askP V (colI V y) := by rw [hcol]; exact h_nask
                      refine vv_bipush (v := (-14)) C dX9_row_127 (by decide) ?_
                      refine vv_goto C 149 dX9_row_129 (by decide) ?_
                      exact vv_iret C hR dX9_row_149 (qIP_of (by rw [op_row_ok h_pos hab h_lt hixc]; exact ⟨((row_c hy2 hy0).trans (if_neg hnot)).symm, hF.rel hV hh, hF.rf⟩))
                · obtain ⟨cj, hj, hje⟩ := abr_col hab hy2 (Int32.not_le.mp h_l20)
                  refine vv_iload_n C 2 dX9_row_99 rfl rfl ?_
                  refine vv_bipush (v := 10) C dX9_row_100 (by decide) ?_
                  refine vv_isub C dX9_row_102 ?_
                  refine vv_goto C 114 dX9_row_103 (by decide) ?_
                  refine vv_istore_n (ls2 := [some (.ref (G.1 145)), some (.int x), some (.int y), some (.int (y - 10))]) C 3 dX9_row_114 rfl (Nat.le_of_ble_eq_true rfl) rfl ?_
                  have hcol : colI V y = nI cj := by unfold colI; rw [if_pos (Int32.not_le.mp h_l20)]; exact hje
                  refine vv_loc (ls2 := [some (.ref (G.1 145)), some (.int x), some (.int y), some (.int (nI cj))]) (by rw [hje]) ?_
                  refine vv_iload_n C 3 dX9_row_115 rfl rfl ?_
                  refine vv_if_lt C 127 dX9_row_116 (by decide) (fun h_clt => ?_) (fun h_cge => ?_)
                  · have hnot : ¬ askP V (colI V y) := absurd h_clt (nI_pos (by omega))
                    refine vv_bipush (v := (-14)) C dX9_row_127 (by decide) ?_
                    refine vv_goto C 149 dX9_row_129 (by decide) ?_
                    exact vv_iret C hR dX9_row_149 (qIP_of (by rw [op_row_ok h_pos hab h_lt hixc]; exact ⟨((row_c hy2 hy0).trans (if_neg hnot)).symm, hF.rel hV hh, hF.rf⟩))
                  · have hcj := hj
                    refine vv_aload_n C 0 dX9_row_119 rfl rfl ?_
                    refine vv_iload_n C 3 dX9_row_120 rfl rfl ?_
                    refine vv_callVI C [.int (nI cj)] (c_X9_isAsked M_43 V hV1 (cc := cj) hcj (x := (nI cj)) rfl) sh_145 rfl (cwV 1 C.1.2.2.2.2 gX9_row_X9_isAsked rfl rfl rfl (by decide +kernel) ⟨Nat.le_of_ble_eq_true rfl, Nat.le_of_ble_eq_true rfl⟩) rfl rfl rfl (Nat.le_of_ble_eq_true rfl) dX9_row_121 ⟨Nat.le_refl _, Nat.le_refl _⟩ ?_
                    refine vv_bif_ne C 132 dX9_row_124 (by decide) (fun h_ask => ?_) (fun h_nask => ?_)
                    · refine vv_aload_n C 0 dX9_row_132 rfl rfl ?_
                      refine vv_aload_n C 0 dX9_row_133 rfl rfl ?_
                      refine vv_getr C (Cn := RX9) (T := TX9) (N := 13) sh_145 5 rfl rfl (by decide) iX9_row_X9 (List.mem_of_getElem? (i := 3) rfl) rfl dX9_row_134 ?_
                      refine vv_iload_n C 1 dX9_row_137 rfl rfl ?_
                      refine vv_ald (j := ix) (q := 1300 + ix) C sh_149 hixe (by omega) (by omega) dX9_row_138 ?_
                      refine vv_top (y := nI ((srtS V (lstS V 8)).getD ix 0 / 12)) hat.1 ?_
                      refine vv_aload_n C 0 dX9_row_139 rfl rfl ?_
                      refine vv_getr C (Cn := RX9) (T := TX9) (N := 13) sh_145 6 rfl rfl (by decide) iX9_row_X9 (List.mem_of_getElem? (i := 4) rfl) rfl dX9_row_140 ?_
                      refine vv_iload_n C 1 dX9_row_143 rfl rfl ?_
                      refine vv_ald (j := ix) (q := 1450 + ix) C sh_150 hixe (by omega) (by omega) dX9_row_144 ?_
                      refine vv_top (y := nI ((srtS V (lstS V 8)).getD ix 0 % 12)) hat.2 ?_
                      refine vv_iload_n C 3 dX9_row_145 rfl rfl ?_
                      refine vv_callVI C [.int (nI ((srtS V (lstS V 8)).getD ix 0 / 12)), .int (nI ((srtS V (lstS V 8)).getD ix 0 % 12)), .int (nI cj)] (c_X9_at M_43 V hV1 (f := ((srtS V (lstS V 8)).getD ix 0 / 12)) (g := ((srtS V (lstS V 8)).getD ix 0 % 12)) (cc := cj) ⟨by omega, by omega, hcj⟩ (x := (nI ((srtS V (lstS V 8)).getD ix 0 / 12))) (y := (nI ((srtS V (lstS V 8)).getD ix 0 % 12))) (z := (nI cj)) rfl rfl rfl) sh_145 rfl (cwV 3 C.1.2.2.2.2 gX9_row_X9_at rfl rfl rfl (by decide +kernel) ⟨Nat.le_of_ble_eq_true rfl, Nat.le_of_ble_eq_true rfl⟩) rfl rfl rfl (Nat.le_of_ble_eq_true rfl) dX9_row_146 ⟨Nat.le_refl _, Nat.le_refl _⟩ ?_
                      exact vv_iret C hR dX9_row_149 (qIP_of (by rw [op_row_ok h_pos hab h_lt hixc]; exact ⟨((row_c hy2 hy0).trans ((if_pos (by rw [hcol]; exact h_ask)).trans (by rw [hcol, nI_clamp (by omega)]))).symm, hF.rel hV hh, hF.rf⟩))
                    · have hnot : ¬ askP V (colI V y) := by rw [hcol]; exact h_nask
                      refine vv_bipush (v := (-14)) C dX9_row_127 (by decide) ?_
                      refine vv_goto C 149 dX9_row_129 (by decide) ?_
                      exact vv_iret C hR dX9_row_149 (qIP_of (by rw [op_row_ok h_pos hab h_lt hixc]; exact ⟨((row_c hy2 hy0).trans (if_neg hnot)).symm, hF.rel hV hh, hF.rf⟩))
              · refine vv_iload_n C 2 dX9_row_73 rfl rfl ?_
                refine vv_if_ne C 86 dX9_row_74 (by decide) (fun h_nz => ?_) (fun h_z => ?_)
                · have hy1 : y = 1 := (lt2 (Int32.not_le.mp h_l2) hy0).elim (fun z => absurd z h_nz) id
                  refine vv_aload_n C 0 dX9_row_86 rfl rfl ?_
                  refine vv_getr C (Cn := RX9) (T := TX9) (N := 13) sh_145 6 rfl rfl (by decide) iX9_row_X9 (List.mem_of_getElem? (i := 4) rfl) rfl dX9_row_87 ?_
                  refine vv_iload_n C 1 dX9_row_90 rfl rfl ?_
                  refine vv_ald (j := ix) (q := 1450 + ix) C sh_150 hixe (by omega) (by omega) dX9_row_91 ?_
                  refine vv_top (y := nI ((srtS V (lstS V 8)).getD ix 0 % 12)) hat.2 ?_
                  exact vv_iret C hR dX9_row_92 (qIP_of (by rw [op_row_ok h_pos hab h_lt hixc]; exact ⟨((row_1 hy1).trans (if_pos (hb1 hy1))).symm, hF.rel hV hh, hF.rf⟩))
                · refine vv_aload_n C 0 dX9_row_77 rfl rfl ?_
                  refine vv_getr C (Cn := RX9) (T := TX9) (N := 13) sh_145 5 rfl rfl (by decide) iX9_row_X9 (List.mem_of_getElem? (i := 3) rfl) rfl dX9_row_78 ?_
                  refine vv_iload_n C 1 dX9_row_81 rfl rfl ?_
                  refine vv_ald (j := ix) (q := 1300 + ix) C sh_149 hixe (by omega) (by omega) dX9_row_82 ?_
                  refine vv_top (y := nI ((srtS V (lstS V 8)).getD ix 0 / 12)) hat.1 ?_
                  refine vv_goto C 92 dX9_row_83 (by decide) ?_
                  exact vv_iret C hR dX9_row_92 (qIP_of (by rw [op_row_ok h_pos hab h_lt hixc]; exact ⟨(row_0 h_z).symm, hF.rel hV hh, hF.rf⟩))
            · refine vv_bipush (v := (-14)) C dX9_row_65 (by decide) ?_
              exact vv_iret C hR dX9_row_67 (qIP_of (by rw [op_row_ok h_pos hab h_lt hixc]; exact ⟨((row_1 h_y1).trans (if_neg (fun z => absurd (z.symm.trans h_b0) (by decide)))).symm, hF.rel hV hh, hF.rf⟩))
      · refine vv_iload_n C 2 dX9_row_24 rfl rfl ?_
        refine vv_bipush (v := 20) C dX9_row_25 (by decide) ?_
        refine vv_bipush (v := 23) C dX9_row_27 (by decide) ?_
        refine vv_callSI C [.int y, .int 20, .int 23] (c_X9_in M y 20 23) (cwS 3 C.1.2.2.2.2 gX9_row_X9_in rfl rfl rfl (by decide +kernel) ⟨Nat.le_of_ble_eq_true rfl, Nat.le_of_ble_eq_true rfl⟩) rfl rfl rfl (Nat.le_of_ble_eq_true rfl) dX9_row_29 ⟨Nat.le_refl _, Nat.le_refl _⟩ ?_
        refine vv_bif_ne C 38 dX9_row_32 (by decide) (fun h_y20 => ?_) (fun h_n20 => ?_)
        · have hab : abrB y = true := abr_in.mpr (Or.inr (Or.inr h_y20))
          have hy0 := abr_pos hab
          refine vv_aload_n C 0 dX9_row_38 rfl rfl ?_
          refine vv_callVVP C [] (c_X9_finds M V hV.1 hw) sh_145 rfl (cwV 0 C.1.2.2.2.2 gX9_row_X9_finds rfl rfl rfl (by decide +kernel) ⟨Nat.le_of_ble_eq_true rfl, Nat.le_of_ble_eq_true rfl⟩) rfl rfl rfl (Nat.le_of_ble_eq_true rfl) dX9_row_39 ⟨Nat.le_refl _, Nat.le_refl _⟩ (fun M_81 h_82 => ?_)
          have hF := h_82
          refine vv_iload_n C 1 dX9_row_42 rfl rfl ?_
          refine vv_aload_n C 0 dX9_row_43 rfl rfl ?_
          refine vv_geti C (Cn := RX9) (T := TX9) (N := 13) sh_145 7 rfl rfl (by decide) iX9_row_X9 (List.mem_of_getElem? (i := 1) rfl) rfl dX9_row_44 ?_
          refine vv_top (y := manyI V) hF.2.1 ?_
          refine vv_icmp_ge C 65 dX9_row_47 (by decide) (fun h_ge => ?_) (fun h_nge => ?_)
          · refine vv_bipush (v := (-14)) C dX9_row_65 (by decide) ?_
            exact vv_iret C hR dX9_row_67 (qIP_of (by rw [show op_row V x y = (if x < manyI V then rowI V ((srtS V (lstS V 8)).getD x.toNatClampNeg 0) y else -14, V) from if_pos ⟨h_pos, hab⟩, if_neg (Int32.not_lt.mpr h_ge)]; exact ⟨rfl, hF.rel hV hh, hF.rf⟩))
          · have h_lt : x < manyI V := Int32.not_le.mp h_nge
            obtain ⟨ix, hixl, hixe, hixc⟩ := ix_lt h_pos h_lt (by have := lstS_len (lo := 8) hR0; omega)
            have hrr := srt_row hR0 hixl
            have hat := srt_at hF hixl
            have h144 := lstS_len (lo := 8) hR0
            have hV1 := hF.vw hV.1
            refine vv_iload_n C 2 dX9_row_50 rfl rfl ?_
            refine vv_iconst (v := 1) C dX9_row_51 (by decide) ?_
            refine vv_icmp_ne C 68 dX9_row_52 (by decide) (fun h_yn1 => ?_) (fun h_y1 => ?_)
            · have hb1 : y = 1 → V 124 = 1 := fun z => absurd z h_yn1
              refine vv_iload_n C 2 dX9_row_68 rfl rfl ?_
              refine vv_iconst (v := 2) C dX9_row_69 (by decide) ?_
              refine vv_icmp_ge C 93 dX9_row_70 (by decide) (fun h_ge2 => ?_) (fun h_l2 => ?_)
              · have hy2 : ¬ y < 2 := Int32.not_lt.mpr h_ge2
                refine vv_iload_n C 2 dX9_row_93 rfl rfl ?_
                refine vv_bipush (v := 20) C dX9_row_94 (by decide) ?_
                refine vv_icmp_ge C 106 dX9_row_96 (by decide) (fun h_ge20 => ?_) (fun h_l20 => ?_)
                · obtain ⟨a, ha4, hae, hac⟩ := abr_tel hab h_ge20
                  refine vv_aload_n C 0 dX9_row_106 rfl rfl ?_
                  refine vv_iload_n C 2 dX9_row_107 rfl rfl ?_
                  refine vv_bipush (v := 20) C dX9_row_108 (by decide) ?_
                  refine vv_isub C dX9_row_110 ?_
                  refine vv_callVI C [.int (y - 20)] (c_X9_teller M_81 V hV1 (a := a) (x := (y - 20)) hae) sh_145 rfl (cwV 1 C.1.2.2.2.2 gX9_row_X9_teller rfl rfl rfl (by decide +kernel) ⟨Nat.le_of_ble_eq_true rfl, Nat.le_of_ble_eq_true rfl⟩) rfl rfl rfl (Nat.le_of_ble_eq_true rfl) dX9_row_111 ⟨Nat.le_refl _, Nat.le_refl _⟩ ?_
                  refine vv_istore_n (ls2 := [some (.ref (G.1 145)), some (.int x), some (.int y), some (.int (rtI (telS V 8 a)))]) C 3 dX9_row_114 rfl (Nat.le_of_ble_eq_true rfl) rfl ?_
                  have hcol0 : colI V y = tcI (telS V 8 a) := by unfold colI; rw [if_neg (Int32.not_lt.mpr h_ge20), hac]
                  refine vv_iload_n C 3 dX9_row_115 rfl rfl ?_
                  refine vv_if_lt C 127 dX9_row_116 (by decide) (fun h_clt => ?_) (fun h_cge => ?_)
                  · have hnot : ¬ askP V (colI V y) := by
                      rw [hcol0]
                      have : ¬ telS V 8 a < 8 := fun z => nI_pos (n := telS V 8 a) (by omega) (by rw [rtI_lt z] at h_clt; exact h_clt)
                      rw [show tcI (telS V 8 a) = -1 from if_neg this]
                      exact ask_neg (by decide)
                    refine vv_bipush (v := (-14)) C dX9_row_127 (by decide) ?_
                    refine vv_goto C 149 dX9_row_129 (by decide) ?_
                    exact vv_iret C hR dX9_row_149 (qIP_of (by rw [op_row_ok h_pos hab h_lt hixc]; exact ⟨((row_c hy2 hy0).trans (if_neg hnot)).symm, hF.rel hV hh, hF.rf⟩))
                  · have hcj : telS V 8 a < 8 := by
                      rcases Nat.lt_or_ge (telS V 8 a) 8 with z | z
                      · exact z
                      · exact absurd (show rtI (telS V 8 a) < 0 by rw [rtI_no (by omega)]; decide) h_cge
                    refine vv_loc (ls2 := [some (.ref (G.1 145)), some (.int x), some (.int y), some (.int (nI (telS V 8 a)))]) (by rw [rtI_lt hcj]) ?_
                    have hcol : colI V y = nI (telS V 8 a) := hcol0.trans (tcI_lt hcj)
                    refine vv_aload_n C 0 dX9_row_119 rfl rfl ?_
                    refine vv_iload_n C 3 dX9_row_120 rfl rfl ?_
                    refine vv_callVI C [.int (nI (telS V 8 a))] (c_X9_isAsked M_81 V hV1 (cc := (telS V 8 a)) hcj (x := (nI (telS V 8 a))) rfl) sh_145 rfl (cwV 1 C.1.2.2.2.2 gX9_row_X9_isAsked rfl rfl rfl (by decide +kernel) ⟨Nat.le_of_ble_eq_true rfl, Nat.le_of_ble_eq_true rfl⟩) rfl rfl rfl (Nat.le_of_ble_eq_true rfl) dX9_row_121 ⟨Nat.le_refl _, Nat.le_refl _⟩ ?_
                    refine vv_bif_ne C 132 dX9_row_124 (by decide) (fun h_ask => ?_) (fun h_nask => ?_)
                    · refine vv_aload_n C 0 dX9_row_132 rfl rfl ?_
                      refine vv_aload_n C 0 dX9_row_133 rfl rfl ?_
                      refine vv_getr C (Cn := RX9) (T := TX9) (N := 13) sh_145 5 rfl rfl (by decide) iX9_row_X9 (List.mem_of_getElem? (i := 3) rfl) rfl dX9_row_134 ?_
                      refine vv_iload_n C 1 dX9_row_137 rfl rfl ?_
                      refine vv_ald (j := ix) (q := 1300 + ix) C sh_149 hixe (by omega) (by omega) dX9_row_138 ?_
                      refine vv_top (y := nI ((srtS V (lstS V 8)).getD ix 0 / 12)) hat.1 ?_
                      refine vv_aload_n C 0 dX9_row_139 rfl rfl ?_
                      refine vv_getr C (Cn := RX9) (T := TX9) (N := 13) sh_145 6 rfl rfl (by decide) iX9_row_X9 (List.mem_of_getElem? (i := 4) rfl) rfl dX9_row_140 ?_
                      refine vv_iload_n C 1 dX9_row_143 rfl rfl ?_
                      refine vv_ald (j := ix) (q := 1450 + ix) C sh_150 hixe (by omega) (by omega) dX9_row_144 ?_
                      refine vv_top (y := nI ((srtS V (lstS V 8)).getD ix 0 % 12)) hat.2 ?_
                      refine vv_iload_n C 3 dX9_row_145 rfl rfl ?_
                      refine vv_callVI C [.int (nI ((srtS V (lstS V 8)).getD ix 0 / 12)), .int (nI ((srtS V (lstS V 8)).getD ix 0 % 12)), .int (nI (telS V 8 a))] (c_X9_at M_81 V hV1 (f := ((srtS V (lstS V 8)).getD ix 0 / 12)) (g := ((srtS V (lstS V 8)).getD ix 0 % 12)) (cc := (telS V 8 a)) ⟨by omega, by omega, hcj⟩ (x := (nI ((srtS V (lstS V 8)).getD ix 0 / 12))) (y := (nI ((srtS V (lstS V 8)).getD ix 0 % 12))) (z := (nI (telS V 8 a))) rfl rfl rfl) sh_145 rfl (cwV 3 C.1.2.2.2.2 gX9_row_X9_at rfl rfl rfl (by decide +kernel) ⟨Nat.le_of_ble_eq_true rfl, Nat.le_of_ble_eq_true rfl⟩) rfl rfl rfl (Nat.le_of_ble_eq_true rfl) dX9_row_146 ⟨Nat.le_refl _, Nat.le_refl _⟩ ?_
                      exact vv_iret C hR dX9_row_149 (qIP_of (by rw [op_row_ok h_pos hab h_lt hixc]; exact ⟨((row_c hy2 hy0).trans ((if_pos (by rw [hcol]; exact h_ask)).trans (by rw [hcol, nI_clamp (by omega)]))).symm, hF.rel hV hh, hF.rf⟩))
                    · have hnot : ¬ askP V (colI V y) := by rw [hcol]; exact h_nask
                      refine vv_bipush (v := (-14)) C dX9_row_127 (by decide) ?_
                      refine vv_goto C 149 dX9_row_129 (by decide) ?_
                      exact vv_iret C hR dX9_row_149 (qIP_of (by rw [op_row_ok h_pos hab h_lt hixc]; exact ⟨((row_c hy2 hy0).trans (if_neg hnot)).symm, hF.rel hV hh, hF.rf⟩))
                · obtain ⟨cj, hj, hje⟩ := abr_col hab hy2 (Int32.not_le.mp h_l20)
                  refine vv_iload_n C 2 dX9_row_99 rfl rfl ?_
                  refine vv_bipush (v := 10) C dX9_row_100 (by decide) ?_
                  refine vv_isub C dX9_row_102 ?_
                  refine vv_goto C 114 dX9_row_103 (by decide) ?_
                  refine vv_istore_n (ls2 := [some (.ref (G.1 145)), some (.int x), some (.int y), some (.int (y - 10))]) C 3 dX9_row_114 rfl (Nat.le_of_ble_eq_true rfl) rfl ?_
                  have hcol : colI V y = nI cj := by unfold colI; rw [if_pos (Int32.not_le.mp h_l20)]; exact hje
                  refine vv_loc (ls2 := [some (.ref (G.1 145)), some (.int x), some (.int y), some (.int (nI cj))]) (by rw [hje]) ?_
                  refine vv_iload_n C 3 dX9_row_115 rfl rfl ?_
                  refine vv_if_lt C 127 dX9_row_116 (by decide) (fun h_clt => ?_) (fun h_cge => ?_)
                  · have hnot : ¬ askP V (colI V y) := absurd h_clt (nI_pos (by omega))
                    refine vv_bipush (v := (-14)) C dX9_row_127 (by decide) ?_
                    refine vv_goto C 149 dX9_row_129 (by decide) ?_
                    exact vv_iret C hR dX9_row_149 (qIP_of (by rw [op_row_ok h_pos hab h_lt hixc]; exact ⟨((row_c hy2 hy0).trans (if_neg hnot)).symm, hF.rel hV hh, hF.rf⟩))
                  · have hcj := hj
                    refine vv_aload_n C 0 dX9_row_119 rfl rfl ?_
                    refine vv_iload_n C 3 dX9_row_120 rfl rfl ?_
                    refine vv_callVI C [.int (nI cj)] (c_X9_isAsked M_81 V hV1 (cc := cj) hcj (x := (nI cj)) rfl) sh_145 rfl (cwV 1 C.1.2.2.2.2 gX9_row_X9_isAsked rfl rfl rfl (by decide +kernel) ⟨Nat.le_of_ble_eq_true rfl, Nat.le_of_ble_eq_true rfl⟩) rfl rfl rfl (Nat.le_of_ble_eq_true rfl) dX9_row_121 ⟨Nat.le_refl _, Nat.le_refl _⟩ ?_
                    refine vv_bif_ne C 132 dX9_row_124 (by decide) (fun h_ask => ?_) (fun h_nask => ?_)
                    · refine vv_aload_n C 0 dX9_row_132 rfl rfl ?_
                      refine vv_aload_n C 0 dX9_row_133 rfl rfl ?_
                      refine vv_getr C (Cn := RX9) (T := TX9) (N := 13) sh_145 5 rfl rfl (by decide) iX9_row_X9 (List.mem_of_getElem? (i := 3) rfl) rfl dX9_row_134 ?_
                      refine vv_iload_n C 1 dX9_row_137 rfl rfl ?_
                      refine vv_ald (j := ix) (q := 1300 + ix) C sh_149 hixe (by omega) (by omega) dX9_row_138 ?_
                      refine vv_top (y := nI ((srtS V (lstS V 8)).getD ix 0 / 12)) hat.1 ?_
                      refine vv_aload_n C 0 dX9_row_139 rfl rfl ?_
                      refine vv_getr C (Cn := RX9) (T := TX9) (N := 13) sh_145 6 rfl rfl (by decide) iX9_row_X9 (List.mem_of_getElem? (i := 4) rfl) rfl dX9_row_140 ?_
                      refine vv_iload_n C 1 dX9_row_143 rfl rfl ?_
                      refine vv_ald (j := ix) (q := 1450 + ix) C sh_150 hixe (by omega) (by omega) dX9_row_144 ?_
                      refine vv_top (y := nI ((srtS V (lstS V 8)).getD ix 0 % 12)) hat.2 ?_
                      refine vv_iload_n C 3 dX9_row_145 rfl rfl ?_
                      refine vv_callVI C [.int (nI ((srtS V (lstS V 8)).getD ix 0 / 12)), .int (nI ((srtS V (lstS V 8)).getD ix 0 % 12)), .int (nI cj)] (c_X9_at M_81 V hV1 (f := ((srtS V (lstS V 8)).getD ix 0 / 12)) (g := ((srtS V (lstS V 8)).getD ix 0 % 12)) (cc := cj) ⟨by omega, by omega, hcj⟩ (x := (nI ((srtS V (lstS V 8)).getD ix 0 / 12))) (y := (nI ((srtS V (lstS V 8)).getD ix 0 % 12))) (z := (nI cj)) rfl rfl rfl) sh_145 rfl (cwV 3 C.1.2.2.2.2 gX9_row_X9_at rfl rfl rfl (by decide +kernel) ⟨Nat.le_of_ble_eq_true rfl, Nat.le_of_ble_eq_true rfl⟩) rfl rfl rfl (Nat.le_of_ble_eq_true rfl) dX9_row_146 ⟨Nat.le_refl _, Nat.le_refl _⟩ ?_
                      exact vv_iret C hR dX9_row_149 (qIP_of (by rw [op_row_ok h_pos hab h_lt hixc]; exact ⟨((row_c hy2 hy0).trans ((if_pos (by rw [hcol]; exact h_ask)).trans (by rw [hcol, nI_clamp (by omega)]))).symm, hF.rel hV hh, hF.rf⟩))
                    · have hnot : ¬ askP V (colI V y) := by rw [hcol]; exact h_nask
                      refine vv_bipush (v := (-14)) C dX9_row_127 (by decide) ?_
                      refine vv_goto C 149 dX9_row_129 (by decide) ?_
                      exact vv_iret C hR dX9_row_149 (qIP_of (by rw [op_row_ok h_pos hab h_lt hixc]; exact ⟨((row_c hy2 hy0).trans (if_neg hnot)).symm, hF.rel hV hh, hF.rf⟩))
              · refine vv_iload_n C 2 dX9_row_73 rfl rfl ?_
                refine vv_if_ne C 86 dX9_row_74 (by decide) (fun h_nz => ?_) (fun h_z => ?_)
                · have hy1 : y = 1 := (lt2 (Int32.not_le.mp h_l2) hy0).elim (fun z => absurd z h_nz) id
                  refine vv_aload_n C 0 dX9_row_86 rfl rfl ?_
                  refine vv_getr C (Cn := RX9) (T := TX9) (N := 13) sh_145 6 rfl rfl (by decide) iX9_row_X9 (List.mem_of_getElem? (i := 4) rfl) rfl dX9_row_87 ?_
                  refine vv_iload_n C 1 dX9_row_90 rfl rfl ?_
                  refine vv_ald (j := ix) (q := 1450 + ix) C sh_150 hixe (by omega) (by omega) dX9_row_91 ?_
                  refine vv_top (y := nI ((srtS V (lstS V 8)).getD ix 0 % 12)) hat.2 ?_
                  exact vv_iret C hR dX9_row_92 (qIP_of (by rw [op_row_ok h_pos hab h_lt hixc]; exact ⟨((row_1 hy1).trans (if_pos (hb1 hy1))).symm, hF.rel hV hh, hF.rf⟩))
                · refine vv_aload_n C 0 dX9_row_77 rfl rfl ?_
                  refine vv_getr C (Cn := RX9) (T := TX9) (N := 13) sh_145 5 rfl rfl (by decide) iX9_row_X9 (List.mem_of_getElem? (i := 3) rfl) rfl dX9_row_78 ?_
                  refine vv_iload_n C 1 dX9_row_81 rfl rfl ?_
                  refine vv_ald (j := ix) (q := 1300 + ix) C sh_149 hixe (by omega) (by omega) dX9_row_82 ?_
                  refine vv_top (y := nI ((srtS V (lstS V 8)).getD ix 0 / 12)) hat.1 ?_
                  refine vv_goto C 92 dX9_row_83 (by decide) ?_
                  exact vv_iret C hR dX9_row_92 (qIP_of (by rw [op_row_ok h_pos hab h_lt hixc]; exact ⟨(row_0 h_z).symm, hF.rel hV hh, hF.rf⟩))
            · refine vv_aload_n C 0 dX9_row_55 rfl rfl ?_
              refine vv_getr C (Cn := RX9) (T := TX9) (N := 13) sh_145 0 rfl rfl (by decide) iX9_row_X9 (List.mem_of_getElem? (i := 2) rfl) rfl dX9_row_56 ?_
              refine vv_bipush (v := 124) C dX9_row_59 (by decide) ?_
              refine vv_ald (j := 124) (q := 2124) C sh_146 (by decide) (by decide) rfl dX9_row_61 ?_
              refine vv_top (y := V 124) (hV1 124 (by decide)) ?_
              refine vv_if_ne C 68 dX9_row_62 (by decide) (fun h_bn0 => ?_) (fun h_b0 => ?_)
              · have hb1 : y = 1 → V 124 = 1 := fun _ => hw.2.2.2.2.2.1.elim (fun z => absurd z h_bn0) id
                refine vv_iload_n C 2 dX9_row_68 rfl rfl ?_
                refine vv_iconst (v := 2) C dX9_row_69 (by decide) ?_
                refine vv_icmp_ge C 93 dX9_row_70 (by decide) (fun h_ge2 => ?_) (fun h_l2 => ?_)
                · have hy2 : ¬ y < 2 := Int32.not_lt.mpr h_ge2
                  refine vv_iload_n C 2 dX9_row_93 rfl rfl ?_
                  refine vv_bipush (v := 20) C dX9_row_94 (by decide) ?_
                  refine vv_icmp_ge C 106 dX9_row_96 (by decide) (fun h_ge20 => ?_) (fun h_l20 => ?_)
                  · obtain ⟨a, ha4, hae, hac⟩ := abr_tel hab h_ge20
                    refine vv_aload_n C 0 dX9_row_106 rfl rfl ?_
                    refine vv_iload_n C 2 dX9_row_107 rfl rfl ?_
                    refine vv_bipush (v := 20) C dX9_row_108 (by decide) ?_
                    refine vv_isub C dX9_row_110 ?_
                    refine vv_callVI C [.int (y - 20)] (c_X9_teller M_81 V hV1 (a := a) (x := (y - 20)) hae) sh_145 rfl (cwV 1 C.1.2.2.2.2 gX9_row_X9_teller rfl rfl rfl (by decide +kernel) ⟨Nat.le_of_ble_eq_true rfl, Nat.le_of_ble_eq_true rfl⟩) rfl rfl rfl (Nat.le_of_ble_eq_true rfl) dX9_row_111 ⟨Nat.le_refl _, Nat.le_refl _⟩ ?_
                    refine vv_istore_n (ls2 := [some (.ref (G.1 145)), some (.int x), some (.int y), some (.int (rtI (telS V 8 a)))]) C 3 dX9_row_114 rfl (Nat.le_of_ble_eq_true rfl) rfl ?_
                    have hcol0 : colI V y = tcI (telS V 8 a) := by unfold colI; rw [if_neg (Int32.not_lt.mpr h_ge20), hac]
                    refine vv_iload_n C 3 dX9_row_115 rfl rfl ?_
                    refine vv_if_lt C 127 dX9_row_116 (by decide) (fun h_clt => ?_) (fun h_cge => ?_)
                    · have hnot : ¬ askP V (colI V y) := by
                        rw [hcol0]
                        have : ¬ telS V 8 a < 8 := fun z => nI_pos (n := telS V 8 a) (by omega) (by rw [rtI_lt z] at h_clt; exact h_clt)
                        rw [show tcI (telS V 8 a) = -1 from if_neg this]
                        exact ask_neg (by decide)
                      refine vv_bipush (v := (-14)) C dX9_row_127 (by decide) ?_
                      refine vv_goto C 149 dX9_row_129 (by decide) ?_
                      exact vv_iret C hR dX9_row_149 (qIP_of (by rw [op_row_ok h_pos hab h_lt hixc]; exact ⟨((row_c hy2 hy0).trans (if_neg hnot)).symm, hF.rel hV hh, hF.rf⟩))
                    · have hcj : telS V 8 a < 8 := by
                        rcases Nat.lt_or_ge (telS V 8 a) 8 with z | z
                        · exact z
                        · exact absurd (show rtI (telS V 8 a) < 0 by rw [rtI_no (by omega)]; decide) h_cge
                      refine vv_loc (ls2 := [some (.ref (G.1 145)), some (.int x), some (.int y), some (.int (nI (telS V 8 a)))]) (by rw [rtI_lt hcj]) ?_
                      have hcol : colI V y = nI (telS V 8 a) := hcol0.trans (tcI_lt hcj)
                      refine vv_aload_n C 0 dX9_row_119 rfl rfl ?_
                      refine vv_iload_n C 3 dX9_row_120 rfl rfl ?_
                      refine vv_callVI C [.int (nI (telS V 8 a))] (c_X9_isAsked M_81 V hV1 (cc := (telS V 8 a)) hcj (x := (nI (telS V 8 a))) rfl) sh_145 rfl (cwV 1 C.1.2.2.2.2 gX9_row_X9_isAsked rfl rfl rfl (by decide +kernel) ⟨Nat.le_of_ble_eq_true rfl, Nat.le_of_ble_eq_true rfl⟩) rfl rfl rfl (Nat.le_of_ble_eq_true rfl) dX9_row_121 ⟨Nat.le_refl _, Nat.le_refl _⟩ ?_
                      refine vv_bif_ne C 132 dX9_row_124 (by decide) (fun h_ask => ?_) (fun h_nask => ?_)
                      · refine vv_aload_n C 0 dX9_row_132 rfl rfl ?_
                        refine vv_aload_n C 0 dX9_row_133 rfl rfl ?_
                        refine vv_getr C (Cn := RX9) (T := TX9) (N := 13) sh_145 5 rfl rfl (by decide) iX9_row_X9 (List.mem_of_getElem? (i := 3) rfl) rfl dX9_row_134 ?_
                        refine vv_iload_n C 1 dX9_row_137 rfl rfl ?_
                        refine vv_ald (j := ix) (q := 1300 + ix) C sh_149 hixe (by omega) (by omega) dX9_row_138 ?_
                        refine vv_top (y := nI ((srtS V (lstS V 8)).getD ix 0 / 12)) hat.1 ?_
                        refine vv_aload_n C 0 dX9_row_139 rfl rfl ?_
                        refine vv_getr C (Cn := RX9) (T := TX9) (N := 13) sh_145 6 rfl rfl (by decide) iX9_row_X9 (List.mem_of_getElem? (i := 4) rfl) rfl dX9_row_140 ?_
                        refine vv_iload_n C 1 dX9_row_143 rfl rfl ?_
                        refine vv_ald (j := ix) (q := 1450 + ix) C sh_150 hixe (by omega) (by omega) dX9_row_144 ?_
                        refine vv_top (y := nI ((srtS V (lstS V 8)).getD ix 0 % 12)) hat.2 ?_
                        refine vv_iload_n C 3 dX9_row_145 rfl rfl ?_
                        refine vv_callVI C [.int (nI ((srtS V (lstS V 8)).getD ix 0 / 12)), .int (nI ((srtS V (lstS V 8)).getD ix 0 % 12)), .int (nI (telS V 8 a))] (c_X9_at M_81 V hV1 (f := ((srtS V (lstS V 8)).getD ix 0 / 12)) (g := ((srtS V (lstS V 8)).getD ix 0 % 12)) (cc := (telS V 8 a)) ⟨by omega, by omega, hcj⟩ (x := (nI ((srtS V (lstS V 8)).getD ix 0 / 12))) (y := (nI ((srtS V (lstS V 8)).getD ix 0 % 12))) (z := (nI (telS V 8 a))) rfl rfl rfl) sh_145 rfl (cwV 3 C.1.2.2.2.2 gX9_row_X9_at rfl rfl rfl (by decide +kernel) ⟨Nat.le_of_ble_eq_true rfl, Nat.le_of_ble_eq_true rfl⟩) rfl rfl rfl (Nat.le_of_ble_eq_true rfl) dX9_row_146 ⟨Nat.le_refl _, Nat.le_refl _⟩ ?_
                        exact vv_iret C hR dX9_row_149 (qIP_of (by rw [op_row_ok h_pos hab h_lt hixc]; exact ⟨((row_c hy2 hy0).trans ((if_pos (by rw [hcol]; exact h_ask)).trans (by rw [hcol, nI_clamp (by omega)]))).symm, hF.rel hV hh, hF.rf⟩))
                      · have hnot : ¬ askP V (colI V y) := by rw [hcol]; exact h_nask
                        refine vv_bipush (v := (-14)) C dX9_row_127 (by decide) ?_
                        refine vv_goto C 149 dX9_row_129 (by decide) ?_
                        exact vv_iret C hR dX9_row_149 (qIP_of (by rw [op_row_ok h_pos hab h_lt hixc]; exact ⟨((row_c hy2 hy0).trans (if_neg hnot)).symm, hF.rel hV hh, hF.rf⟩))
                  · obtain ⟨cj, hj, hje⟩ := abr_col hab hy2 (Int32.not_le.mp h_l20)
                    refine vv_iload_n C 2 dX9_row_99 rfl rfl ?_
                    refine vv_bipush (v := 10) C dX9_row_100 (by decide) ?_
                    refine vv_isub C dX9_row_102 ?_
                    refine vv_goto C 114 dX9_row_103 (by decide) ?_
                    refine vv_istore_n (ls2 := [some (.ref (G.1 145)), some (.int x), some (.int y), some (.int (y - 10))]) C 3 dX9_row_114 rfl (Nat.le_of_ble_eq_true rfl) rfl ?_
                    have hcol : colI V y = nI cj := by unfold colI; rw [if_pos (Int32.not_le.mp h_l20)]; exact hje
                    refine vv_loc (ls2 := [some (.ref (G.1 145)), some (.int x), some (.int y), some (.int (nI cj))]) (by rw [hje]) ?_
                    refine vv_iload_n C 3 dX9_row_115 rfl rfl ?_
                    refine vv_if_lt C 127 dX9_row_116 (by decide) (fun h_clt => ?_) (fun h_cge => ?_)
                    · have hnot : ¬ askP V (colI V y) := absurd h_clt (nI_pos (by omega))
                      refine vv_bipush (v := (-14)) C dX9_row_127 (by decide) ?_
                      refine vv_goto C 149 dX9_row_129 (by decide) ?_
                      exact vv_iret C hR dX9_row_149 (qIP_of (by rw [op_row_ok h_pos hab h_lt hixc]; exact ⟨((row_c hy2 hy0).trans (if_neg hnot)).symm, hF.rel hV hh, hF.rf⟩))
                    · have hcj := hj
                      refine vv_aload_n C 0 dX9_row_119 rfl rfl ?_
                      refine vv_iload_n C 3 dX9_row_120 rfl rfl ?_
                      refine vv_callVI C [.int (nI cj)] (c_X9_isAsked M_81 V hV1 (cc := cj) hcj (x := (nI cj)) rfl) sh_145 rfl (cwV 1 C.1.2.2.2.2 gX9_row_X9_isAsked rfl rfl rfl (by decide +kernel) ⟨Nat.le_of_ble_eq_true rfl, Nat.le_of_ble_eq_true rfl⟩) rfl rfl rfl (Nat.le_of_ble_eq_true rfl) dX9_row_121 ⟨Nat.le_refl _, Nat.le_refl _⟩ ?_
                      refine vv_bif_ne C 132 dX9_row_124 (by decide) (fun h_ask => ?_) (fun h_nask => ?_)
                      · refine vv_aload_n C 0 dX9_row_132 rfl rfl ?_
                        refine vv_aload_n C 0 dX9_row_133 rfl rfl ?_
                        refine vv_getr C (Cn := RX9) (T := TX9) (N := 13) sh_145 5 rfl rfl (by decide) iX9_row_X9 (List.mem_of_getElem? (i := 3) rfl) rfl dX9_row_134 ?_
                        refine vv_iload_n C 1 dX9_row_137 rfl rfl ?_
                        refine vv_ald (j := ix) (q := 1300 + ix) C sh_149 hixe (by omega) (by omega) dX9_row_138 ?_
                        refine vv_top (y := nI ((srtS V (lstS V 8)).getD ix 0 / 12)) hat.1 ?_
                        refine vv_aload_n C 0 dX9_row_139 rfl rfl ?_
                        refine vv_getr C (Cn := RX9) (T := TX9) (N := 13) sh_145 6 rfl rfl (by decide) iX9_row_X9 (List.mem_of_getElem? (i := 4) rfl) rfl dX9_row_140 ?_
                        refine vv_iload_n C 1 dX9_row_143 rfl rfl ?_
                        refine vv_ald (j := ix) (q := 1450 + ix) C sh_150 hixe (by omega) (by omega) dX9_row_144 ?_
                        refine vv_top (y := nI ((srtS V (lstS V 8)).getD ix 0 % 12)) hat.2 ?_
                        refine vv_iload_n C 3 dX9_row_145 rfl rfl ?_
                        refine vv_callVI C [.int (nI ((srtS V (lstS V 8)).getD ix 0 / 12)), .int (nI ((srtS V (lstS V 8)).getD ix 0 % 12)), .int (nI cj)] (c_X9_at M_81 V hV1 (f := ((srtS V (lstS V 8)).getD ix 0 / 12)) (g := ((srtS V (lstS V 8)).getD ix 0 % 12)) (cc := cj) ⟨by omega, by omega, hcj⟩ (x := (nI ((srtS V (lstS V 8)).getD ix 0 / 12))) (y := (nI ((srtS V (lstS V 8)).getD ix 0 % 12))) (z := (nI cj)) rfl rfl rfl) sh_145 rfl (cwV 3 C.1.2.2.2.2 gX9_row_X9_at rfl rfl rfl (by decide +kernel) ⟨Nat.le_of_ble_eq_true rfl, Nat.le_of_ble_eq_true rfl⟩) rfl rfl rfl (Nat.le_of_ble_eq_true rfl) dX9_row_146 ⟨Nat.le_refl _, Nat.le_refl _⟩ ?_
                        exact vv_iret C hR dX9_row_149 (qIP_of (by rw [op_row_ok h_pos hab h_lt hixc]; exact ⟨((row_c hy2 hy0).trans ((if_pos (by rw [hcol]; exact h_ask)).trans (by rw [hcol, nI_clamp (by omega)]))).symm, hF.rel hV hh, hF.rf⟩))
                      · have hnot : ¬ askP V (colI V y) := by rw [hcol]; exact h_nask
                        refine vv_bipush (v := (-14)) C dX9_row_127 (by decide) ?_
                        refine vv_goto C 149 dX9_row_129 (by decide) ?_
                        exact vv_iret C hR dX9_row_149 (qIP_of (by rw [op_row_ok h_pos hab h_lt hixc]; exact ⟨((row_c hy2 hy0).trans (if_neg hnot)).symm, hF.rel hV hh, hF.rf⟩))
                · refine vv_iload_n C 2 dX9_row_73 rfl rfl ?_
                  refine vv_if_ne C 86 dX9_row_74 (by decide) (fun h_nz => ?_) (fun h_z => ?_)
                  · have hy1 : y = 1 := (lt2 (Int32.not_le.mp h_l2) hy0).elim (fun z => absurd z h_nz) id
                    refine vv_aload_n C 0 dX9_row_86 rfl rfl ?_
                    refine vv_getr C (Cn := RX9) (T := TX9) (N := 13) sh_145 6 rfl rfl (by decide) iX9_row_X9 (List.mem_of_getElem? (i := 4) rfl) rfl dX9_row_87 ?_
                    refine vv_iload_n C 1 dX9_row_90 rfl rfl ?_
                    refine vv_ald (j := ix) (q := 1450 + ix) C sh_150 hixe (by omega) (by omega) dX9_row_91 ?_
                    refine vv_top (y := nI ((srtS V (lstS V 8)).getD ix 0 % 12)) hat.2 ?_
                    exact vv_iret C hR dX9_row_92 (qIP_of (by rw [op_row_ok h_pos hab h_lt hixc]; exact ⟨((row_1 hy1).trans (if_pos (hb1 hy1))).symm, hF.rel hV hh, hF.rf⟩))
                  · refine vv_aload_n C 0 dX9_row_77 rfl rfl ?_
                    refine vv_getr C (Cn := RX9) (T := TX9) (N := 13) sh_145 5 rfl rfl (by decide) iX9_row_X9 (List.mem_of_getElem? (i := 3) rfl) rfl dX9_row_78 ?_
                    refine vv_iload_n C 1 dX9_row_81 rfl rfl ?_
                    refine vv_ald (j := ix) (q := 1300 + ix) C sh_149 hixe (by omega) (by omega) dX9_row_82 ?_
                    refine vv_top (y := nI ((srtS V (lstS V 8)).getD ix 0 / 12)) hat.1 ?_
                    refine vv_goto C 92 dX9_row_83 (by decide) ?_
                    exact vv_iret C hR dX9_row_92 (qIP_of (by rw [op_row_ok h_pos hab h_lt hixc]; exact ⟨(row_0 h_z).symm, hF.rel hV hh, hF.rf⟩))
              · refine vv_bipush (v := (-14)) C dX9_row_65 (by decide) ?_
                exact vv_iret C hR dX9_row_67 (qIP_of (by rw [op_row_ok h_pos hab h_lt hixc]; exact ⟨((row_1 h_y1).trans (if_neg (fun z => absurd (z.symm.trans h_b0) (by decide)))).symm, hF.rel hV hh, hF.rf⟩))
        · refine vv_bipush (v := (-11)) C dX9_row_35 (by decide) ?_
          exact vv_iret C hR dX9_row_37 (qIP_of (by rw [show op_row V x y = (-11, V) from if_neg (fun z => (abr_in.mp z.2).elim h_n0 (fun q => q.elim h_n10 h_n20))]; exact ⟨rfl, hV, rfO.rf⟩))
theorem iX9_why_X9 : ∀ w ∈ u_ws RX9 TX9 13, w ∈ wsX9_why := fun w hw => (List.mem_cons_of_mem _ (List.mem_append_right _ hw))
set_option maxRecDepth 100000 in
set_option maxHeartbeats 4000000 in
theorem c_X9_why {l : Launch} {G : mw_GG} (M V : mw_M) (hV : relO M V) (hw : wfV V) (hh : hiV V) (ht : txV V) (x y : Int32) : mw_Met l yX9_why wsX9_why ({ frames := 5, cells := 0, slots := 0, locals := 117 } : Room) G [.ref (G.1 145), .int x, .int y] M (qIP (fun r M2 => r = (op_why V x y).1 ∧ relO M2 (op_why V x y).2 ∧ rfO M M2)) := by
  refine mw_ofV (cc := cX9_why) 3 (by decide) rfl rfl (Nat.le_of_ble_eq_true rfl) ?_
  intro p e s m args below meth c C hR hN0
  refine vv_loc (ls2 := [some (.ref (G.1 145)), some (.int x), some (.int y)]) rfl ?_
  have hR0 := hw.wfR
  refine vv_aload_n C 0 dX9_why_0 rfl rfl ?_
  refine vv_iconst (v := 0) C dX9_why_1 (by decide) ?_
  refine vv_iload_n C 1 dX9_why_2 rfl rfl ?_
  refine vv_callVI C [.int 0, .int x] (c_X9_isCard M V hV.1 (d := 0) (by decide) (x := 0) rfl x) sh_145 rfl (cwV 2 C.1.2.2.2.2 gX9_why_X9_isCard rfl rfl rfl (by decide +kernel) ⟨Nat.le_of_ble_eq_true rfl, Nat.le_of_ble_eq_true rfl⟩) rfl rfl rfl (Nat.le_of_ble_eq_true rfl) dX9_why_3 ⟨Nat.le_refl _, Nat.le_refl _⟩ ?_
  refine vv_bif_eq C 36 dX9_why_6 (by decide) (fun h_nk => ?_) (fun h_k => ?_)
  · refine vv_bipush (v := (-11)) C dX9_why_36 (by decide) ?_
    exact vv_iret C hR dX9_why_38 (qIP_of (by rw [show op_why V x y = (-11, V) from if_neg (fun z => h_nk z.1)]; exact ⟨rfl, hV, rfO.rf⟩))
  · refine vv_aload_n C 0 dX9_why_9 rfl rfl ?_
    refine vv_getr C (Cn := RX9) (T := TX9) (N := 13) sh_145 0 rfl rfl (by decide) iX9_why_X9 (List.mem_of_getElem? (i := 1) rfl) rfl dX9_why_10 ?_
    refine vv_bipush (v := 124) C dX9_why_13 (by decide) ?_
    refine vv_ald (j := 124) (q := 2124) C sh_146 (by decide) (by decide) rfl dX9_why_15 ?_
    refine vv_top (y := V 124) (hV.1 124 (by decide)) ?_
    refine vv_iconst (v := 1) C dX9_why_16 (by decide) ?_
    refine vv_icmp_ne C 32 dX9_why_17 (by decide) (fun h_n1 => ?_) (fun h_1 => ?_)
    · refine vv_iload_n C 2 dX9_why_32 rfl rfl ?_
      refine vv_if_eq C 39 dX9_why_33 (by decide) (fun h_yz => ?_) (fun h_y0 => ?_)
      · obtain ⟨i, j, hxi, hyj, hci, hcj, hv⟩ := secP_val hR0 h_k (show secP V y from Or.inr ⟨h_n1, h_yz⟩)
        refine vv_aload_n C 0 dX9_why_39 rfl rfl ?_
        refine vv_iload_n C 1 dX9_why_40 rfl rfl ?_
        refine vv_iload_n C 2 dX9_why_41 rfl rfl ?_
        refine vv_callVI C [.int x, .int y] (c_X9_unfit M V hV.1 hw (f := i) (g := j) ⟨hv.1, hv.2.1⟩ (x := x) (y := y) hxi hyj) sh_145 rfl (cwV 2 C.1.2.2.2.2 gX9_why_X9_unfit rfl rfl rfl (by decide +kernel) ⟨Nat.le_of_ble_eq_true rfl, Nat.le_of_ble_eq_true rfl⟩) rfl rfl rfl (Nat.le_of_ble_eq_true rfl) dX9_why_42 ⟨Nat.le_refl _, Nat.le_refl _⟩ ?_
        exact vv_iret C hR dX9_why_45 (qIP_of (by rw [show op_why V x y = _ from if_pos ⟨h_k, Or.inr ⟨h_n1, h_yz⟩⟩, hci, hcj]; exact ⟨rfl, hV, rfO.rf⟩))
      · refine vv_bipush (v := (-11)) C dX9_why_36 (by decide) ?_
        exact vv_iret C hR dX9_why_38 (qIP_of (by rw [show op_why V x y = (-11, V) from if_neg (fun z => z.2.elim (fun q => h_n1 q.1) (fun q => h_y0 q.2))]; exact ⟨rfl, hV, rfO.rf⟩))
    · refine vv_aload_n C 0 dX9_why_20 rfl rfl ?_
      refine vv_iconst (v := 1) C dX9_why_21 (by decide) ?_
      refine vv_iload_n C 2 dX9_why_22 rfl rfl ?_
      refine vv_callVI C [.int 1, .int y] (c_X9_isCard M V hV.1 (d := 1) (by decide) (x := 1) rfl y) sh_145 rfl (cwV 2 C.1.2.2.2.2 gX9_why_X9_isCard rfl rfl rfl (by decide +kernel) ⟨Nat.le_of_ble_eq_true rfl, Nat.le_of_ble_eq_true rfl⟩) rfl rfl rfl (Nat.le_of_ble_eq_true rfl) dX9_why_23 ⟨Nat.le_refl _, Nat.le_refl _⟩ ?_
      refine vv_bif_ne C 39 dX9_why_26 (by decide) (fun h_s => ?_) (fun h_ns => ?_)
      · obtain ⟨i, j, hxi, hyj, hci, hcj, hv⟩ := secP_val hR0 h_k (show secP V y from Or.inl ⟨h_1, h_s⟩)
        refine vv_aload_n C 0 dX9_why_39 rfl rfl ?_
        refine vv_iload_n C 1 dX9_why_40 rfl rfl ?_
        refine vv_iload_n C 2 dX9_why_41 rfl rfl ?_
        refine vv_callVI C [.int x, .int y] (c_X9_unfit M V hV.1 hw (f := i) (g := j) ⟨hv.1, hv.2.1⟩ (x := x) (y := y) hxi hyj) sh_145 rfl (cwV 2 C.1.2.2.2.2 gX9_why_X9_unfit rfl rfl rfl (by decide +kernel) ⟨Nat.le_of_ble_eq_true rfl, Nat.le_of_ble_eq_true rfl⟩) rfl rfl rfl (Nat.le_of_ble_eq_true rfl) dX9_why_42 ⟨Nat.le_refl _, Nat.le_refl _⟩ ?_
        exact vv_iret C hR dX9_why_45 (qIP_of (by rw [show op_why V x y = _ from if_pos ⟨h_k, Or.inl ⟨h_1, h_s⟩⟩, hci, hcj]; exact ⟨rfl, hV, rfO.rf⟩))
      · refine vv_goto C 36 dX9_why_29 (by decide) ?_
        refine vv_bipush (v := (-11)) C dX9_why_36 (by decide) ?_
        exact vv_iret C hR dX9_why_38 (qIP_of (by rw [show op_why V x y = (-11, V) from if_neg (fun z => z.2.elim (fun q => h_ns q.2) (fun q => q.1 h_1))]; exact ⟨rfl, hV, rfO.rf⟩))
