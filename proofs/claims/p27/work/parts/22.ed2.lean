theorem clO.fnd {M M1 : mw_M} {lo : Nat} {L : List Nat} (h : fndI M M1 lo L) : clO M1 M := fun q hq => h.1 q (fun z => hq (by unfold scF at z; unfold clS; omega))
theorem clO.scr {M M1 : mw_M} (h : ∀ q, ¬ scR q → M1 q = M q) : clO M1 M := fun q hq => h q (fun z => hq (by unfold scR scF at z; unfold clS; omega))
theorem clO.tr {M M1 M2 : mw_M} (h : clO M1 M) (h2 : clO M2 M1) : clO M2 M := fun q hq => (h2 q hq).trans (h q hq)
theorem clO.tel {M M1 : mw_M} {lo c0 : Nat} (h : telI M M1 lo c0) : clO M1 M := fun q hq => h.1 q (fun z => hq (by unfold clS; omega)) (fun z => hq (by unfold clS; omega))
theorem clO.st {M M1 : mw_M} {r : psT} (h : stO M M1 r) : clO M1 M := fun q hq => h.1 q (fun z => hq (by unfold clS; omega)) (fun z => hq (by unfold clS; omega))
theorem clO.eq {M M1 : mw_M} (h : clO M1 M) : eqS M M1 := fun q hq => h q (by unfold clS; omega)
theorem clO.hi {M M1 : mw_M} (h : clO M1 M) : M1 650 = M 650 := h 650 (by unfold clS; omega)
theorem clO.t {M M1 : mw_M} (h : clO M1 M) : M1 653 = M 653 := h 653 (by unfold clS; omega)
theorem clO.ch {M M1 : mw_M} (h : clO M1 M) {t : Nat} : t ≤ 60 → chA M1 t = chA M t := fun ht => by
  funext q
  unfold chA
  by_cases z : q < t
  · rw [if_pos z, if_pos z]
    exact h _ (by unfold clS; omega)
  · rw [if_neg z, if_neg z]
theorem clO.kp {M M1 : mw_M} (h : clO M1 M) : clO (kpS M1) (kpS M) := fun q hq => by
  have h5 : hN M1 = hN M := by unfold hN; rw [h.hi]
  unfold kpS s_keep
  rw [h5]
  by_cases z : q = 650
  · rw [if_pos z, if_pos z]
  · rw [if_neg z, if_neg z]
    by_cases z2 : 130 ≤ q ∧ q < 650
    · rw [if_pos z2, if_pos z2]
      exact h _ (by unfold clS; omega)
    · rw [if_neg z2, if_neg z2]
      exact h q hq
theorem eqS.ones {S S2 : mw_M} (h : eqS S S2) : n1 S2 = n1 S := by
  unfold n1 nN
  rw [h 124 (by omega), h (2 + 1) (by omega)]
theorem eqS.lstg {S S2 : mw_M} (h : eqS S S2) {lo f : Nat} (hf : f < 12) : ∀ g, g ≤ 12 → lstG S2 lo f g = lstG S lo f g
  | 0, _ => by simp [lstG]
  | g + 1, hg => by
    by_cases z : misS S lo f g = 8
    · rw [lstG_y z, lstG_y ((h.mis hf (by omega)).trans z), eqS.lstg h hf g (by omega)]
    · rw [lstG_n z, lstG_n (fun w => z ((h.mis hf (by omega)).symm.trans w)), eqS.lstg h hf g (by omega)]
theorem eqS.lstf {S S2 : mw_M} (h : eqS S S2) {lo m0 : Nat} (hm : m0 ≤ 12) : ∀ f, f ≤ 12 → lstF S2 lo m0 f = lstF S lo m0 f
  | 0, _ => by simp [lstF]
  | f + 1, hf => by rw [lstF_s, lstF_s, eqS.lstf h hm f (by omega), h.lstg (by omega) m0 hm]
theorem eqS.nn {S S2 : mw_M} (h : eqS S S2) : nN S2 0 = nN S 0 := by
  unfold nN
  rw [h (2 + 0) (by omega)]
theorem eqS.lst {S S2 : mw_M} (h : eqS S S2) (hw : wfR S) {lo : Nat} : lstS S2 lo = lstS S lo := by
  unfold lstS
  rw [h.ones, h.nn]
  exact h.lstf (n1_le hw.2.1) _ hw.1.n.2
theorem eqS.many {S S2 : mw_M} (h : eqS S S2) (hw : wfR S) : manyI S2 = manyI S := by unfold manyI; rw [h.lst hw]
theorem eqS.dc {f g : Nat → Int32} : ∀ n, (∀ i, i < n → f i = g i) → dcF f n = dcF g n
  | 0, _ => rfl
  | n + 1, h => by
    have hb : noneB f (f n) n = noneB g (g n) n := by
      unfold noneB
      rw [decide_eq_decide]
      constructor
      · intro z j hj
        rw [← h j (by omega), ← h n (by omega)]
        exact z j hj
      · intro z j hj
        rw [h j (by omega), h n (by omega)]
        exact z j hj
    unfold dcF
    rw [eqS.dc n (fun i hi => h i (by omega)), hb, h n (by omega)]
theorem eqS.unl {S S2 : mw_M} (h : eqS S S2) (hw : wfR S) : unlI S2 = unlI S := by
  unfold unlI
  rw [h.lst hw]
  refine congrArg nI (eqS.dc _ (fun i hi => ?_))
  unfold kyS
  rw [h.key (valP_row hw (getD_mem hi)).1]
theorem ix_lt {x : Int32} {n : Nat} (h0 : ¬ x < 0) (h : x < nI n) (hn : n < 1000) : ∃ j, j < n ∧ x = nI j ∧ x.toNatClampNeg = j := ix_of h0 (Int32.not_le.mpr h) (by omega)
theorem vlP_vS {S : mw_M} (h : wfV S) {c f g : Nat} (hc : c < 8) (hf : f < 12) (hg : g < 12) : vlP (vS S c f g) := by
  have := h.2.2.1 (48 * (c / 4) + (4 * (if c < 4 then f else g) + c % 4)) (by split <;> omega)
  unfold vS
  rw [show 4 + 48 * (c / 4) + (4 * (if c < 4 then f else g) + c % 4) = 4 + (48 * (c / 4) + (4 * (if c < 4 then f else g) + c % 4)) by omega]
  exact this
/-- what changes leave is within the limits again, as far as the rows want it -/
theorem ord_wf {V : mw_M} (h : wfR V) {w c d : Int32} : wfR (ordN V w c d) := by
  have e : ∀ q, q < 124 → ordN V w c d q = V q := fun q hq => by
    have := dN_lt w
    unfold ordN
    rw [upd_o (by omega), upd_o (by omega), kpS_lo (by omega)]
  refine ⟨?_, ?_, fun k hk h8 => ?_⟩
  · obtain ⟨a, b, h1, h2, h3, h4⟩ := h.1
    exact ⟨a, b, by rw [e _ (by omega)]; exact h1, h2, by rw [e _ (by omega)]; exact h3, h4⟩
  · obtain ⟨a, b, h1, h2, h3, h4⟩ := h.2.1
    exact ⟨a, b, by rw [e _ (by omega)]; exact h1, h2, by rw [e _ (by omega)]; exact h3, h4⟩
  · rw [e _ (by omega)] at h8 ⊢
    exact h.2.2 k hk h8
theorem shw_wf {V : mw_M} (h : wfR V) {x : Int32} : wfR (upd (kpS V) 129 x) := by
  have e : ∀ q, q < 124 → upd (kpS V) 129 x q = V q := fun q hq => by rw [upd_o (by omega), kpS_lo (by omega)]
  refine ⟨?_, ?_, fun k hk h8 => ?_⟩
  · obtain ⟨a, b, h1, h2, h3, h4⟩ := h.1
    exact ⟨a, b, by rw [e _ (by omega)]; exact h1, h2, by rw [e _ (by omega)]; exact h3, h4⟩
  · obtain ⟨a, b, h1, h2, h3, h4⟩ := h.2.1
    exact ⟨a, b, by rw [e _ (by omega)]; exact h1, h2, by rw [e _ (by omega)]; exact h3, h4⟩
  · rw [e _ (by omega)] at h8 ⊢
    exact h.2.2 k hk h8
theorem secP_val {V : mw_M} (hw : wfR V) {f g : Int32} (h1 : hkP V 0 f) (h2 : secP V g) : ∃ i j, f = nI i ∧ g = nI j ∧ f.toNatClampNeg = i ∧ g.toNatClampNeg = j ∧ valP V i j := by
  obtain ⟨hn, hn12⟩ := hw.1.n
  obtain ⟨i, hi, ei, ci⟩ := ix_of h1.1 (by have := h1.2; rw [hn] at this; exact this) (by omega)
  rcases h2 with ⟨hb, hk⟩ | ⟨hb, hg⟩
  · obtain ⟨hm, hm12⟩ := hw.2.1.n
    obtain ⟨j, hj, ej, cj⟩ := ix_of hk.1 (by have := hk.2; rw [hm] at this; exact this) (by omega)
    refine ⟨i, j, ei, ej, ci, cj, by omega, by omega, ?_, fun _ => ?_⟩
    · rw [← ei]; exact h1.2
    · rw [← ej]; exact hk.2
  · refine ⟨i, 0, ei, hg, ci, by rw [hg]; rfl, by omega, by omega, ?_, fun z => absurd z hb⟩
    rw [← ei]; exact h1.2
theorem dN_nI {x : Int32} (h : bitP x) : x = nI (dN x) := by
  rcases h with rfl | rfl <;> decide
theorem le7 {k : Int32} (h : 8 ≤ k) : 7 < k := by
  rw [Int32.le_iff_toInt_le] at h
  rw [Int32.lt_iff_toInt_lt]
  have e8 : (8 : Int32).toInt = 8 := by decide
  have e7 : (7 : Int32).toInt = 7 := by decide
  omega
theorem le8 {k : Int32} (h : 7 < k) : 8 ≤ k := by
  rw [Int32.lt_iff_toInt_lt] at h
  rw [Int32.le_iff_toInt_le]
  have e8 : (8 : Int32).toInt = 8 := by decide
  have e7 : (7 : Int32).toInt = 7 := by decide
  omega
theorem iX8_order_X8 : ∀ w ∈ u_ws RX8 TX8 5, w ∈ wsX8_order := fun w hw => (List.mem_cons_of_mem _ (List.mem_append_left _ (List.mem_append_left _ (List.mem_append_left _ (List.mem_append_left _ (List.mem_append_left _ (List.mem_append_left _ (List.mem_append_right _ hw))))))))
set_option maxRecDepth 100000 in
set_option maxHeartbeats 4000000 in
theorem c_X8_order {l : Launch} {G : mw_GG} (M : mw_M) (hw : wfV M) (hh : hiV M) (ht : txV M) (x k b : Int32) : mw_Met l yX8_order wsX8_order ({ frames := 6, cells := 0, slots := 0, locals := 140 } : Room) G [.ref (G.1 144), .int x, .int k, .int b] M (qIP (fun r M2 => r = (op_order M x k b).1 ∧ clO M2 (op_order M x k b).2)) := by
  refine mw_ofV (cc := cX8_order) 4 (by decide) rfl rfl (Nat.le_of_ble_eq_true rfl) ?_
  intro p e s m args below meth c C hR hN0
  refine vv_loc (ls2 := [some (.ref (G.1 144)), some (.int x), some (.int k), some (.int b)]) rfl ?_
  have hR0 := hw.wfR
  refine vv_iload_n C 1 dX8_order_0 rfl rfl ?_
  refine vv_callSI C [.int x] (c_X8_isBit M x) (cwS 1 C.1.2.2.2.2 gX8_order_X8_isBit rfl rfl rfl (by decide +kernel) ⟨Nat.le_of_ble_eq_true rfl, Nat.le_of_ble_eq_true rfl⟩) rfl rfl rfl (Nat.le_of_ble_eq_true rfl) dX8_order_1 ⟨Nat.le_refl _, Nat.le_refl _⟩ ?_
  refine vv_bif_eq C 25 dX8_order_4 (by decide) (fun h_nb => ?_) (fun h_b => ?_)
  · refine vv_bipush (v := (-11)) C dX8_order_25 (by decide) ?_
    exact vv_iret C hR dX8_order_27 (qIP_of (by rw [show op_order M x k b = (-11, M) from if_neg (fun z => h_nb z.1)]; exact ⟨rfl, clO.rf⟩))
  · refine vv_iload_n C 2 dX8_order_7 rfl rfl ?_
    refine vv_iconst (v := (-1)) C dX8_order_8 (by decide) ?_
    refine vv_icmp_lt C 25 dX8_order_9 (by decide) (fun h_3 => ?_) (fun h_4 => ?_)
    · refine vv_bipush (v := (-11)) C dX8_order_25 (by decide) ?_
      exact vv_iret C hR dX8_order_27 (qIP_of (by rw [show op_order M x k b = (-11, M) from if_neg (fun z => z.2.1.1 h_3)]; exact ⟨rfl, clO.rf⟩))
    · refine vv_iload_n C 2 dX8_order_12 rfl rfl ?_
      refine vv_bipush (v := 8) C dX8_order_13 (by decide) ?_
      refine vv_icmp_ge C 25 dX8_order_15 (by decide) (fun h_5 => ?_) (fun h_6 => ?_)
      · refine vv_bipush (v := (-11)) C dX8_order_25 (by decide) ?_
        exact vv_iret C hR dX8_order_27 (qIP_of (by rw [show op_order M x k b = (-11, M) from if_neg (fun z => z.2.1.2 (le7 h_5))]; exact ⟨rfl, clO.rf⟩))
      · refine vv_iload_n C 3 dX8_order_18 rfl rfl ?_
        refine vv_callSI C [.int b] (c_X8_isBit M b) (cwS 1 C.1.2.2.2.2 gX8_order_X8_isBit rfl rfl rfl (by decide +kernel) ⟨Nat.le_of_ble_eq_true rfl, Nat.le_of_ble_eq_true rfl⟩) rfl rfl rfl (Nat.le_of_ble_eq_true rfl) dX8_order_19 ⟨Nat.le_refl _, Nat.le_refl _⟩ ?_
        refine vv_bif_ne C 28 dX8_order_22 (by decide) (fun h_7 => ?_) (fun h_8 => ?_)
        · refine vv_aload_n C 0 dX8_order_28 rfl rfl ?_
          refine vv_getr C (Cn := RX8) (T := TX8) (N := 5) sh_144 1 rfl rfl (by decide) iX8_order_X8 (List.mem_of_getElem? (i := 1) rfl) rfl dX8_order_29 ?_
          refine vv_aload_n C 0 dX8_order_32 rfl rfl ?_
          refine vv_getr C (Cn := RX8) (T := TX8) (N := 5) sh_144 0 rfl rfl (by decide) iX8_order_X8 (List.mem_of_getElem? (i := 2) rfl) rfl dX8_order_33 ?_
          refine vv_callVV C [.ref (G.1 0)] (c_X2_keep M (h := (hN M)) hh.1 hh.2) sh_125 rfl (cwV 1 C.1.2.2.2.2 gX8_order_X2_keep rfl rfl rfl (by decide +kernel) ⟨Nat.le_of_ble_eq_true rfl, Nat.le_of_ble_eq_true rfl⟩) rfl rfl rfl (Nat.le_of_ble_eq_true rfl) dX8_order_36 ⟨Nat.le_refl _, Nat.le_refl _⟩ ?_
          refine vv_mem (M2 := kpS M) rfl ?_
          refine vv_aload_n C 0 dX8_order_39 rfl rfl ?_
          refine vv_getr C (Cn := RX8) (T := TX8) (N := 5) sh_144 0 rfl rfl (by decide) iX8_order_X8 (List.mem_of_getElem? (i := 2) rfl) rfl dX8_order_40 ?_
          refine vv_iload_n C 1 dX8_order_43 rfl rfl ?_
          refine vv_iload_n C 2 dX8_order_44 rfl rfl ?_
          refine vv_iload_n C 3 dX8_order_45 rfl rfl ?_
          refine vv_callVV C [.int x, .int k, .int b] (c_X6_setOrder (kpS M) (i := x) (j := (dN x)) (dN_nI h_b) (dN_lt x) k b) sh_0 rfl (cwV 3 C.1.2.2.2.2 gX8_order_X6_setOrder rfl rfl rfl (by decide +kernel) ⟨Nat.le_of_ble_eq_true rfl, Nat.le_of_ble_eq_true rfl⟩) rfl rfl rfl (Nat.le_of_ble_eq_true rfl) dX8_order_46 ⟨Nat.le_refl _, Nat.le_refl _⟩ ?_
          refine vv_mem (M2 := ordN M x k b) rfl ?_
          refine vv_aload_n C 0 dX8_order_49 rfl rfl ?_
          refine vv_getr C (Cn := RX8) (T := TX8) (N := 5) sh_144 2 rfl rfl (by decide) iX8_order_X8 (List.mem_of_getElem? (i := 3) rfl) rfl dX8_order_50 ?_
          refine vv_iconst (v := (-1)) C dX8_order_53 (by decide) ?_
          refine vv_callVIP C [.int (-1)] (c_X5_find (ordN M x k b) (ord_wf hR0) (lo := 8) (x := (-1)) (by decide)) sh_126 rfl (cwV 1 C.1.2.2.2.2 gX8_order_X5_find rfl rfl rfl (by decide +kernel) ⟨Nat.le_of_ble_eq_true rfl, Nat.le_of_ble_eq_true rfl⟩) rfl rfl rfl (Nat.le_of_ble_eq_true rfl) dX8_order_54 ⟨Nat.le_refl _, Nat.le_refl _⟩ (fun x_9 M_10 h_11 => ?_)
          obtain ⟨rfl, h_11⟩ := h_11
          exact vv_iret C hR dX8_order_57 (qIP_of (by rw [show op_order M x k b = (manyI (ordN M x k b), ordN M x k b) from if_pos ⟨h_b, ⟨h_4, fun z => h_6 (le8 z)⟩, h_7⟩]; exact ⟨rfl, clO.fnd h_11⟩))
        · refine vv_bipush (v := (-11)) C dX8_order_25 (by decide) ?_
          exact vv_iret C hR dX8_order_27 (qIP_of (by rw [show op_order M x k b = (-11, M) from if_neg (fun z => h_8 z.2.2)]; exact ⟨rfl, clO.rf⟩))
theorem iX8_show_X8 : ∀ w ∈ u_ws RX8 TX8 5, w ∈ wsX8_show := fun w hw => (List.mem_cons_of_mem _ (List.mem_append_left _ (List.mem_append_left _ (List.mem_append_left _ (List.mem_append_left _ (List.mem_append_left _ (List.mem_append_left _ (List.mem_append_right _ hw))))))))
set_option maxRecDepth 100000 in
set_option maxHeartbeats 4000000 in
theorem c_X8_show {l : Launch} {G : mw_GG} (M : mw_M) (hw : wfV M) (hh : hiV M) (ht : txV M) (x : Int32) : mw_Met l yX8_show wsX8_show ({ frames := 7, cells := 0, slots := 0, locals := 165 } : Room) G [.ref (G.1 144), .int x] M (qIP (fun r M2 => r = (op_show M x).1 ∧ clO M2 (op_show M x).2)) := by
  refine mw_ofV (cc := cX8_show) 2 (by decide) rfl rfl (Nat.le_of_ble_eq_true rfl) ?_
  intro p e s m args below meth c C hR hN0
  refine vv_loc (ls2 := [some (.ref (G.1 144)), some (.int x)]) rfl ?_
  have hR0 := hw.wfR
  refine vv_iload_n C 1 dX8_show_0 rfl rfl ?_
  refine vv_if_lt C 11 dX8_show_1 (by decide) (fun h_1 => ?_) (fun h_2 => ?_)
  · refine vv_bipush (v := (-11)) C dX8_show_11 (by decide) ?_
    exact vv_iret C hR dX8_show_13 (qIP_of (by rw [show op_show M x = (-11, M) from if_neg (fun z => z.1 h_1)]; exact ⟨rfl, clO.rf⟩))
  · refine vv_iload_n C 1 dX8_show_4 rfl rfl ?_
    refine vv_sipush (v := 255) C dX8_show_5 (by decide) ?_
    refine vv_icmp_le C 14 dX8_show_8 (by decide) (fun h_3 => ?_) (fun h_4 => ?_)
    · refine vv_aload_n C 0 dX8_show_14 rfl rfl ?_
      refine vv_getr C (Cn := RX8) (T := TX8) (N := 5) sh_144 1 rfl rfl (by decide) iX8_show_X8 (List.mem_of_getElem? (i := 1) rfl) rfl dX8_show_15 ?_
      refine vv_aload_n C 0 dX8_show_18 rfl rfl ?_
      refine vv_getr C (Cn := RX8) (T := TX8) (N := 5) sh_144 0 rfl rfl (by decide) iX8_show_X8 (List.mem_of_getElem? (i := 2) rfl) rfl dX8_show_19 ?_
      refine vv_callVV C [.ref (G.1 0)] (c_X2_keep M (h := (hN M)) hh.1 hh.2) sh_125 rfl (cwV 1 C.1.2.2.2.2 gX8_show_X2_keep rfl rfl rfl (by decide +kernel) ⟨Nat.le_of_ble_eq_true rfl, Nat.le_of_ble_eq_true rfl⟩) rfl rfl rfl (Nat.le_of_ble_eq_true rfl) dX8_show_22 ⟨Nat.le_refl _, Nat.le_refl _⟩ ?_
      refine vv_mem (M2 := kpS M) rfl ?_
      refine vv_aload_n C 0 dX8_show_25 rfl rfl ?_
      refine vv_getr C (Cn := RX8) (T := TX8) (N := 5) sh_144 0 rfl rfl (by decide) iX8_show_X8 (List.mem_of_getElem? (i := 2) rfl) rfl dX8_show_26 ?_
      refine vv_iload_n C 1 dX8_show_29 rfl rfl ?_
      refine vv_callVV C [.int x] (c_X6_setShown (kpS M) x) sh_0 rfl (cwV 1 C.1.2.2.2.2 gX8_show_X6_setShown rfl rfl rfl (by decide +kernel) ⟨Nat.le_of_ble_eq_true rfl, Nat.le_of_ble_eq_true rfl⟩) rfl rfl rfl (Nat.le_of_ble_eq_true rfl) dX8_show_30 ⟨Nat.le_refl _, Nat.le_refl _⟩ ?_
      refine vv_aload_n C 0 dX8_show_33 rfl rfl ?_
      refine vv_getr C (Cn := RX8) (T := TX8) (N := 5) sh_144 2 rfl rfl (by decide) iX8_show_X8 (List.mem_of_getElem? (i := 3) rfl) rfl dX8_show_34 ?_
      refine vv_callVIP C [] (c_X5_countUnlike (upd (kpS M) 129 x) (shw_wf hR0)) sh_126 rfl (cwV 0 C.1.2.2.2.2 gX8_show_X5_countUnlike rfl rfl rfl (by decide +kernel) ⟨Nat.le_of_ble_eq_true rfl, Nat.le_of_ble_eq_true rfl⟩) rfl rfl rfl (Nat.le_of_ble_eq_true rfl) dX8_show_37 ⟨Nat.le_refl _, Nat.le_refl _⟩ (fun x_5 M_6 h_7 => ?_)
      obtain ⟨rfl, h_7⟩ := h_7
      exact vv_iret C hR dX8_show_40 (qIP_of (by rw [show op_show M x = (unlI (upd (kpS M) 129 x), upd (kpS M) 129 x) from if_pos ⟨h_2, Int32.not_lt.mpr h_3⟩]; exact ⟨rfl, clO.scr h_7⟩))
    · refine vv_bipush (v := (-11)) C dX8_show_11 (by decide) ?_
      exact vv_iret C hR dX8_show_13 (qIP_of (by rw [show op_show M x = (-11, M) from if_neg (fun z => z.2 (Int32.not_le.mp h_4))]; exact ⟨rfl, clO.rf⟩))
theorem iX8_many_X8 : ∀ w ∈ u_ws RX8 TX8 5, w ∈ wsX8_many := fun w hw => (List.mem_cons_of_mem _ (List.mem_append_left _ (List.mem_append_left _ (List.mem_append_left _ (List.mem_append_left _ (List.mem_append_left _ (List.mem_append_right _ hw)))))))
set_option maxRecDepth 100000 in
set_option maxHeartbeats 4000000 in
theorem c_X8_many {l : Launch} {G : mw_GG} (M : mw_M) (hw : wfV M) (hh : hiV M) (ht : txV M) : mw_Met l yX8_many wsX8_many ({ frames := 6, cells := 0, slots := 0, locals := 140 } : Room) G [.ref (G.1 144)] M (qIP (fun r M2 => r = (op_many M).1 ∧ clO M2 (op_many M).2)) := by
  refine mw_ofV (cc := cX8_many) 1 (by decide) rfl rfl (Nat.le_of_ble_eq_true rfl) ?_
  intro p e s m args below meth c C hR hN0
  refine vv_loc (ls2 := [some (.ref (G.1 144))]) rfl ?_
  have hR0 := hw.wfR
  refine vv_aload_n C 0 dX8_many_0 rfl rfl ?_
  refine vv_getr C (Cn := RX8) (T := TX8) (N := 5) sh_144 2 rfl rfl (by decide) iX8_many_X8 (List.mem_of_getElem? (i := 1) rfl) rfl dX8_many_1 ?_
  refine vv_iconst (v := (-1)) C dX8_many_4 (by decide) ?_
  refine vv_callVIP C [.int (-1)] (c_X5_find M hR0 (lo := 8) (x := (-1)) (by decide)) sh_126 rfl (cwV 1 C.1.2.2.2.2 gX8_many_X5_find rfl rfl rfl (by decide +kernel) ⟨Nat.le_of_ble_eq_true rfl, Nat.le_of_ble_eq_true rfl⟩) rfl rfl rfl (Nat.le_of_ble_eq_true rfl) dX8_many_5 ⟨Nat.le_refl _, Nat.le_refl _⟩ (fun x_1 M_2 h_3 => ?_)
  obtain ⟨rfl, h_3⟩ := h_3
  exact vv_iret C hR dX8_many_8 (qIP_of ⟨rfl, clO.fnd h_3⟩)
theorem iX8_unlike_X8 : ∀ w ∈ u_ws RX8 TX8 5, w ∈ wsX8_unlike := fun w hw => (List.mem_cons_of_mem _ (List.mem_append_left _ (List.mem_append_left _ (List.mem_append_left _ (List.mem_append_left _ (List.mem_append_left _ (List.mem_append_right _ hw)))))))
set_option maxRecDepth 100000 in
set_option maxHeartbeats 4000000 in
theorem c_X8_unlike {l : Launch} {G : mw_GG} (M : mw_M) (hw : wfV M) (hh : hiV M) (ht : txV M) : mw_Met l yX8_unlike wsX8_unlike ({ frames := 7, cells := 0, slots := 0, locals := 165 } : Room) G [.ref (G.1 144)] M (qIP (fun r M2 => r = (op_unlike M).1 ∧ clO M2 (op_unlike M).2)) := by
  refine mw_ofV (cc := cX8_unlike) 1 (by decide) rfl rfl (Nat.le_of_ble_eq_true rfl) ?_
  intro p e s m args below meth c C hR hN0
  refine vv_loc (ls2 := [some (.ref (G.1 144))]) rfl ?_
  have hR0 := hw.wfR
  refine vv_aload_n C 0 dX8_unlike_0 rfl rfl ?_
  refine vv_getr C (Cn := RX8) (T := TX8) (N := 5) sh_144 2 rfl rfl (by decide) iX8_unlike_X8 (List.mem_of_getElem? (i := 1) rfl) rfl dX8_unlike_1 ?_
  refine vv_callVIP C [] (c_X5_countUnlike M hR0) sh_126 rfl (cwV 0 C.1.2.2.2.2 gX8_unlike_X5_countUnlike rfl rfl rfl (by decide +kernel) ⟨Nat.le_of_ble_eq_true rfl, Nat.le_of_ble_eq_true rfl⟩) rfl rfl rfl (Nat.le_of_ble_eq_true rfl) dX8_unlike_4 ⟨Nat.le_refl _, Nat.le_refl _⟩ (fun x_1 M_2 h_3 => ?_)
  obtain ⟨rfl, h_3⟩ := h_3
  exact vv_iret C hR dX8_unlike_7 (qIP_of ⟨rfl, clO.scr h_3⟩)
theorem iX8_why_X8 : ∀ w ∈ u_ws RX8 TX8 5, w ∈ wsX8_why := fun w hw => (List.mem_cons_of_mem _ (List.mem_append_left _ (List.mem_append_left _ (List.mem_append_left _ (List.mem_append_left _ (List.mem_append_left _ (List.mem_append_right _ hw)))))))
set_option maxRecDepth 100000 in
set_option maxHeartbeats 4000000 in
theorem c_X8_why {l : Launch} {G : mw_GG} (M : mw_M) (hw : wfV M) (hh : hiV M) (ht : txV M) (x y : Int32) : mw_Met l yX8_why wsX8_why ({ frames := 6, cells := 0, slots := 0, locals := 135 } : Room) G [.ref (G.1 144), .int x, .int y] M (qIP (fun r M2 => r = (op_why M x y).1 ∧ clO M2 (op_why M x y).2)) := by
  refine mw_ofV (cc := cX8_why) 5 (by decide) rfl rfl (Nat.le_of_ble_eq_true rfl) ?_
  intro p e s m args below meth c C hR hN0
  refine vv_loc (ls2 := [some (.ref (G.1 144)), some (.int x), some (.int y), none, none]) rfl ?_
  have hR0 := hw.wfR
  refine vv_aload_n C 0 dX8_why_0 rfl rfl ?_
  refine vv_getr C (Cn := RX8) (T := TX8) (N := 5) sh_144 0 rfl rfl (by decide) iX8_why_X8 (List.mem_of_getElem? (i := 1) rfl) rfl dX8_why_1 ?_
  refine vv_callVI C [] (c_X6_isOfBoth M) sh_0 rfl (cwV 0 C.1.2.2.2.2 gX8_why_X6_isOfBoth rfl rfl rfl (by decide +kernel) ⟨Nat.le_of_ble_eq_true rfl, Nat.le_of_ble_eq_true rfl⟩) rfl rfl rfl (Nat.le_of_ble_eq_true rfl) dX8_why_4 ⟨Nat.le_refl _, Nat.le_refl _⟩ ?_
  refine vv_bif_eq C 25 dX8_why_7 (by decide) (fun h_nb => ?_) (fun h_b => ?_)
  · refine vv_iload_n C 2 dX8_why_25 rfl rfl ?_
    refine vv_if_ne C 33 dX8_why_26 (by decide) (fun h_ng => ?_) (fun h_g => ?_)
    · refine vv_iconst (v := 0) C dX8_why_33 (by decide) ?_
      refine vv_istore_n (ls2 := [some (.ref (G.1 144)), some (.int x), some (.int y), some (.int 0), none]) C 3 dX8_why_34 rfl (Nat.le_of_ble_eq_true rfl) rfl ?_
      refine vv_aload_n C 0 dX8_why_35 rfl rfl ?_
      refine vv_getr C (Cn := RX8) (T := TX8) (N := 5) sh_144 0 rfl rfl (by decide) iX8_why_X8 (List.mem_of_getElem? (i := 1) rfl) rfl dX8_why_36 ?_
      refine vv_iconst (v := 0) C dX8_why_39 (by decide) ?_
      refine vv_callVR C [.int 0] (c_X6_drawer M 0) sh_0 rfl (cwV 1 C.1.2.2.2.2 gX8_why_X6_drawer rfl rfl rfl (by decide +kernel) ⟨Nat.le_of_ble_eq_true rfl, Nat.le_of_ble_eq_true rfl⟩) rfl rfl rfl (Nat.le_of_ble_eq_true rfl) dX8_why_40 ⟨Nat.le_refl _, Nat.le_refl _⟩ ?_
      refine vv_topr (b := G.1 (1 + 10 * 0)) (by simp [dN]) ?_
      refine vv_iload_n C 1 dX8_why_43 rfl rfl ?_
      refine vv_callVI C [.int x] (c_X0_hasCard (d := 0) (show 0 < 2 by decide) M x) dw_0.1 rfl (cwV 1 C.1.2.2.2.2 gX8_why_X0_hasCard rfl rfl rfl (by decide +kernel) ⟨Nat.le_of_ble_eq_true rfl, Nat.le_of_ble_eq_true rfl⟩) rfl rfl rfl (Nat.le_of_ble_eq_true rfl) dX8_why_44 ⟨Nat.le_refl _, Nat.le_refl _⟩ ?_
      refine vv_bif_eq C 54 dX8_why_47 (by decide) (fun h_nk => ?_) (fun h_k => ?_)
      · refine vv_bipush (v := (-11)) C dX8_why_54 (by decide) ?_
        exact vv_iret C hR dX8_why_56 (qIP_of (by rw [show op_why M x y = (-11, M) from if_neg (fun z => h_nk z.1)]; exact ⟨rfl, clO.rf⟩))
      · refine vv_iload_n C 3 dX8_why_50 rfl rfl ?_
        refine vv_if_ne C 57 dX8_why_51 (by decide) (fun h_7 => absurd h_7 (by decide)) (fun h_8 => ?_)
        refine vv_bipush (v := (-11)) C dX8_why_54 (by decide) ?_
        exact vv_iret C hR dX8_why_56 (qIP_of (by rw [show op_why M x y = (-11, M) from if_neg (fun z => z.2.elim (fun q => h_nb q.1) (fun q => h_ng q.2))]; exact ⟨rfl, clO.rf⟩))
    · refine vv_iconst (v := 1) C dX8_why_29 (by decide) ?_
      refine vv_goto C 34 dX8_why_30 (by decide) ?_
      refine vv_istore_n (ls2 := [some (.ref (G.1 144)), some (.int x), some (.int y), some (.int 1), none]) C 3 dX8_why_34 rfl (Nat.le_of_ble_eq_true rfl) rfl ?_
      refine vv_aload_n C 0 dX8_why_35 rfl rfl ?_
      refine vv_getr C (Cn := RX8) (T := TX8) (N := 5) sh_144 0 rfl rfl (by decide) iX8_why_X8 (List.mem_of_getElem? (i := 1) rfl) rfl dX8_why_36 ?_
      refine vv_iconst (v := 0) C dX8_why_39 (by decide) ?_
      refine vv_callVR C [.int 0] (c_X6_drawer M 0) sh_0 rfl (cwV 1 C.1.2.2.2.2 gX8_why_X6_drawer rfl rfl rfl (by decide +kernel) ⟨Nat.le_of_ble_eq_true rfl, Nat.le_of_ble_eq_true rfl⟩) rfl rfl rfl (Nat.le_of_ble_eq_true rfl) dX8_why_40 ⟨Nat.le_refl _, Nat.le_refl _⟩ ?_
      refine vv_topr (b := G.1 (1 + 10 * 0)) (by simp [dN]) ?_
      refine vv_iload_n C 1 dX8_why_43 rfl rfl ?_
      refine vv_callVI C [.int x] (c_X0_hasCard (d := 0) (show 0 < 2 by decide) M x) dw_0.1 rfl (cwV 1 C.1.2.2.2.2 gX8_why_X0_hasCard rfl rfl rfl (by decide +kernel) ⟨Nat.le_of_ble_eq_true rfl, Nat.le_of_ble_eq_true rfl⟩) rfl rfl rfl (Nat.le_of_ble_eq_true rfl) dX8_why_44 ⟨Nat.le_refl _, Nat.le_refl _⟩ ?_
      refine vv_bif_eq C 54 dX8_why_47 (by decide) (fun h_nk => ?_) (fun h_k => ?_)
      · refine vv_bipush (v := (-11)) C dX8_why_54 (by decide) ?_
        exact vv_iret C hR dX8_why_56 (qIP_of (by rw [show op_why M x y = (-11, M) from if_neg (fun z => h_nk z.1)]; exact ⟨rfl, clO.rf⟩))
      · refine vv_iload_n C 3 dX8_why_50 rfl rfl ?_
        refine vv_if_ne C 57 dX8_why_51 (by decide) (fun h_12 => ?_) (fun h_11 => absurd h_11 (by decide))
        obtain ⟨i, j, hxi, hyj, hci, hcj, hv⟩ := secP_val hR0 h_k (show secP M y from Or.inr ⟨h_nb, h_g⟩)
        refine vv_aload_n C 0 dX8_why_57 rfl rfl ?_
        refine vv_getr C (Cn := RX8) (T := TX8) (N := 5) sh_144 2 rfl rfl (by decide) iX8_why_X8 (List.mem_of_getElem? (i := 2) rfl) rfl dX8_why_58 ?_
        refine vv_iload_n C 1 dX8_why_61 rfl rfl ?_
        refine vv_bipush (v := 12) C dX8_why_62 (by decide) ?_
        refine vv_imul C dX8_why_64 ?_
        refine vv_iload_n C 2 dX8_why_65 rfl rfl ?_
        refine vv_iadd C dX8_why_66 ?_
        refine vv_top (y := nI (12 * i + j)) (by rw [hxi, hyj, show (12 : Int32) = nI 12 from rfl, pk_mul, nI_add, Nat.mul_comm]) ?_
        refine vv_callVIP C [.int (nI (12 * i + j))] (c_X5_explain M hR0 (f := i) (g := j) hv (x := (nI (12 * i + j))) rfl) sh_126 rfl (cwV 1 C.1.2.2.2.2 gX8_why_X5_explain rfl rfl rfl (by decide +kernel) ⟨Nat.le_of_ble_eq_true rfl, Nat.le_of_ble_eq_true rfl⟩) rfl rfl rfl (Nat.le_of_ble_eq_true rfl) dX8_why_67 ⟨Nat.le_refl _, Nat.le_refl _⟩ (fun x_13 M_14 h_15 => ?_)
        obtain ⟨rfl, h_15⟩ := h_15
        have hT := h_15
        refine vv_istore (ls2 := [some (.ref (G.1 144)), some (.int x), some (.int y), some (.int 1), some (.int (tcI (misS M 8 i j)))]) C 4 dX8_why_70 (Nat.le_of_ble_eq_true rfl) rfl ?_
        refine vv_iload C 4 dX8_why_72 rfl ?_
        refine vv_iconst (v := (-1)) C dX8_why_74 (by decide) ?_
        refine vv_icmp_ne C 83 dX8_why_75 (by decide) (fun h_nm1 => ?_) (fun h_m1 => ?_)
        · refine vv_iload C 4 dX8_why_83 rfl ?_
          exact vv_iret C hR dX8_why_85 (qIP_of (by have h8 : misS M 8 i j < 8 := Classical.not_not.mp (fun z => h_nm1 (tcI_m1.mpr z)); rw [show op_why M x y = _ from if_pos ⟨h_k, Or.inr ⟨h_nb, h_g⟩⟩, hci, hcj, if_pos h8]; exact ⟨if_pos h8, clO.tel hT⟩))
        · refine vv_bipush (v := (-14)) C dX8_why_78 (by decide) ?_
          refine vv_goto C 85 dX8_why_80 (by decide) ?_
          exact vv_iret C hR dX8_why_85 (qIP_of (by rw [show op_why M x y = _ from if_pos ⟨h_k, Or.inr ⟨h_nb, h_g⟩⟩, hci, hcj, if_neg (tcI_m1.mp h_m1)]; exact ⟨rfl, clO.tel hT⟩))
  · refine vv_aload_n C 0 dX8_why_10 rfl rfl ?_
    refine vv_getr C (Cn := RX8) (T := TX8) (N := 5) sh_144 0 rfl rfl (by decide) iX8_why_X8 (List.mem_of_getElem? (i := 1) rfl) rfl dX8_why_11 ?_
    refine vv_iconst (v := 1) C dX8_why_14 (by decide) ?_
    refine vv_callVR C [.int 1] (c_X6_drawer M 1) sh_0 rfl (cwV 1 C.1.2.2.2.2 gX8_why_X6_drawer rfl rfl rfl (by decide +kernel) ⟨Nat.le_of_ble_eq_true rfl, Nat.le_of_ble_eq_true rfl⟩) rfl rfl rfl (Nat.le_of_ble_eq_true rfl) dX8_why_15 ⟨Nat.le_refl _, Nat.le_refl _⟩ ?_
    refine vv_topr (b := G.1 (1 + 10 * 1)) (by simp [dN]) ?_
    refine vv_iload_n C 2 dX8_why_18 rfl rfl ?_
    refine vv_callVI C [.int y] (c_X0_hasCard (d := 1) (show 1 < 2 by decide) M y) dw_1.1 rfl (cwV 1 C.1.2.2.2.2 gX8_why_X0_hasCard rfl rfl rfl (by decide +kernel) ⟨Nat.le_of_ble_eq_true rfl, Nat.le_of_ble_eq_true rfl⟩) rfl rfl rfl (Nat.le_of_ble_eq_true rfl) dX8_why_19 ⟨Nat.le_refl _, Nat.le_refl _⟩ ?_
    refine vv_goto C 34 dX8_why_22 (by decide) ?_
    refine vv_istore_n (ls2 := [some (.ref (G.1 144)), some (.int x), some (.int y), some (.int (bI (hkP M 1 y))), none]) C 3 dX8_why_34 rfl (Nat.le_of_ble_eq_true rfl) rfl ?_
    refine vv_aload_n C 0 dX8_why_35 rfl rfl ?_
    refine vv_getr C (Cn := RX8) (T := TX8) (N := 5) sh_144 0 rfl rfl (by decide) iX8_why_X8 (List.mem_of_getElem? (i := 1) rfl) rfl dX8_why_36 ?_
    refine vv_iconst (v := 0) C dX8_why_39 (by decide) ?_
    refine vv_callVR C [.int 0] (c_X6_drawer M 0) sh_0 rfl (cwV 1 C.1.2.2.2.2 gX8_why_X6_drawer rfl rfl rfl (by decide +kernel) ⟨Nat.le_of_ble_eq_true rfl, Nat.le_of_ble_eq_true rfl⟩) rfl rfl rfl (Nat.le_of_ble_eq_true rfl) dX8_why_40 ⟨Nat.le_refl _, Nat.le_refl _⟩ ?_
    refine vv_topr (b := G.1 (1 + 10 * 0)) (by simp [dN]) ?_
    refine vv_iload_n C 1 dX8_why_43 rfl rfl ?_
    refine vv_callVI C [.int x] (c_X0_hasCard (d := 0) (show 0 < 2 by decide) M x) dw_0.1 rfl (cwV 1 C.1.2.2.2.2 gX8_why_X0_hasCard rfl rfl rfl (by decide +kernel) ⟨Nat.le_of_ble_eq_true rfl, Nat.le_of_ble_eq_true rfl⟩) rfl rfl rfl (Nat.le_of_ble_eq_true rfl) dX8_why_44 ⟨Nat.le_refl _, Nat.le_refl _⟩ ?_
    refine vv_bif_eq C 54 dX8_why_47 (by decide) (fun h_nk => ?_) (fun h_k => ?_)
    · refine vv_bipush (v := (-11)) C dX8_why_54 (by decide) ?_
      exact vv_iret C hR dX8_why_56 (qIP_of (by rw [show op_why M x y = (-11, M) from if_neg (fun z => h_nk z.1)]; exact ⟨rfl, clO.rf⟩))
    · refine vv_iload_n C 3 dX8_why_50 rfl rfl ?_
      refine vv_bif_ne C 57 dX8_why_51 (by decide) (fun h_s => ?_) (fun h_ns => ?_)
      · obtain ⟨i, j, hxi, hyj, hci, hcj, hv⟩ := secP_val hR0 h_k (show secP M y from Or.inl ⟨h_b, h_s⟩)
        refine vv_aload_n C 0 dX8_why_57 rfl rfl ?_
        refine vv_getr C (Cn := RX8) (T := TX8) (N := 5) sh_144 2 rfl rfl (by decide) iX8_why_X8 (List.mem_of_getElem? (i := 2) rfl) rfl dX8_why_58 ?_
        refine vv_iload_n C 1 dX8_why_61 rfl rfl ?_
        refine vv_bipush (v := 12) C dX8_why_62 (by decide) ?_
        refine vv_imul C dX8_why_64 ?_
        refine vv_iload_n C 2 dX8_why_65 rfl rfl ?_
        refine vv_iadd C dX8_why_66 ?_
        refine vv_top (y := nI (12 * i + j)) (by rw [hxi, hyj, show (12 : Int32) = nI 12 from rfl, pk_mul, nI_add, Nat.mul_comm]) ?_
        refine vv_callVIP C [.int (nI (12 * i + j))] (c_X5_explain M hR0 (f := i) (g := j) hv (x := (nI (12 * i + j))) rfl) sh_126 rfl (cwV 1 C.1.2.2.2.2 gX8_why_X5_explain rfl rfl rfl (by decide +kernel) ⟨Nat.le_of_ble_eq_true rfl, Nat.le_of_ble_eq_true rfl⟩) rfl rfl rfl (Nat.le_of_ble_eq_true rfl) dX8_why_67 ⟨Nat.le_refl _, Nat.le_refl _⟩ (fun x_22 M_23 h_24 => ?_)
        obtain ⟨rfl, h_24⟩ := h_24
        have hT := h_24
        refine vv_istore (ls2 := [some (.ref (G.1 144)), some (.int x), some (.int y), some (.int (bI (hkP M 1 y))), some (.int (tcI (misS M 8 i j)))]) C 4 dX8_why_70 (Nat.le_of_ble_eq_true rfl) rfl ?_
        refine vv_iload C 4 dX8_why_72 rfl ?_
        refine vv_iconst (v := (-1)) C dX8_why_74 (by decide) ?_
        refine vv_icmp_ne C 83 dX8_why_75 (by decide) (fun h_nm1 => ?_) (fun h_m1 => ?_)
        · refine vv_iload C 4 dX8_why_83 rfl ?_
          exact vv_iret C hR dX8_why_85 (qIP_of (by have h8 : misS M 8 i j < 8 := Classical.not_not.mp (fun z => h_nm1 (tcI_m1.mpr z)); rw [show op_why M x y = _ from if_pos ⟨h_k, Or.inl ⟨h_b, h_s⟩⟩, hci, hcj, if_pos h8]; exact ⟨if_pos h8, clO.tel hT⟩))
        · refine vv_bipush (v := (-14)) C dX8_why_78 (by decide) ?_
          refine vv_goto C 85 dX8_why_80 (by decide) ?_
          exact vv_iret C hR dX8_why_85 (qIP_of (by rw [show op_why M x y = _ from if_pos ⟨h_k, Or.inl ⟨h_b, h_s⟩⟩, hci, hcj, if_neg (tcI_m1.mp h_m1)]; exact ⟨rfl, clO.tel hT⟩))
      · refine vv_bipush (v := (-11)) C dX8_why_54 (by decide) ?_
        exact vv_iret C hR dX8_why_56 (qIP_of (by rw [show op_why M x y = (-11, M) from if_neg (fun z => z.2.elim (fun q => h_ns q.2) (fun q => q.1 h_b))]; exact ⟨rfl, clO.rf⟩))