theorem relO.to {M V V2 : mw_M} (h : relO M V) (e : V = V2) : relO M V2 := e ▸ h
theorem ix_v3 {x y z : Int32} {d k c : Nat} (hx : x = nI d) (hy : y = nI k) (hz : z = nI c) : 4 + 48 * x + 4 * y + z = nI (4 + 48 * d + (4 * k + c)) := by
  rw [hx, hy, hz, ix_v]
  exact congrArg nI (by omega)
theorem ix_2x {x : Int32} {d : Nat} (hx : x = nI d) : 2 + x = nI (2 + d) := by rw [hx]; exact ix_2 d
theorem ix_0x {x : Int32} {d : Nat} (hx : x = nI d) : 0 + x = nI d := by rw [hx, ix_0, Nat.zero_add]
theorem hk_nI {V : mw_M} {d : Nat} (hz : szP V d) {k : Int32} (h : hkP V d k) : k = nI k.toNatClampNeg ∧ k.toNatClampNeg < 12 := by
  obtain ⟨hn, hn12⟩ := hz.n
  have h2 := h.2
  rw [hn] at h2
  obtain ⟨j, hj, e, c⟩ := ix_of h.1 h2 (by omega)
  rw [c]
  exact ⟨e, by omega⟩
theorem hc_nI {V : mw_M} {d : Nat} (hz : szP V d) {k : Int32} (h : hcP V d k) : k = nI k.toNatClampNeg ∧ k.toNatClampNeg < 4 := by
  obtain ⟨j, hj, e, c⟩ := ix_of h.1 (n := 4) (fun z => h.2 (Int32.le_trans (sz_w hz) z)) (by omega)
  rw [c]
  exact ⟨e, by omega⟩
def fitR (x a b v : Int32) : Bool := if x = 0 then true else if x = 1 then decide (v = -1) else if x = 3 then decide (v = a) else if x = 4 then decide (¬ v = -1 ∧ ¬ v = a) else if x = 5 then decide (¬ v = -1 ∧ ¬ a ≤ v) else if x = 6 then decide (¬ v ≤ a) else if x = 7 then decide (inP v a b) else decide (¬ v = -1)
theorem n12_lt {n : Nat} (h : n ≤ 12) : nI n < 12 ↔ ¬ nI n = 12 := by
  constructor
  · intro z w
    rw [w] at z
    exact absurd z (by decide)
  · intro z
    refine nI_lt (b := 12) ?_ (by omega)
    rcases Nat.lt_or_ge n 12 with w | w
    · exact w
    · exact absurd (by rw [show n = 12 by omega]; rfl) z
theorem t60_lt {n : Nat} (h : n ≤ 60) : nI n < 60 ↔ ¬ nI n = 60 := by
  constructor
  · intro z w
    rw [w] at z
    exact absurd z (by decide)
  · intro z
    refine nI_lt (b := 60) ?_ (by omega)
    rcases Nat.lt_or_ge n 60 with w | w
    · exact w
    · exact absurd (by rw [show n = 60 by omega]; rfl) z
theorem cnt_cut {f : Nat → Bool} {w : Nat} : ∀ n, w ≤ n → (∀ i, w ≤ i → i < n → f i = false) → cntB f n = cntB f w
  | 0, h, _ => by rw [show w = 0 by omega]
  | n + 1, h, hf => by
    by_cases z : w = n + 1
    · rw [z]
    · show cntB f n + (if f n then 1 else 0) = cntB f w
      rw [hf n (by omega) (by omega), ← cnt_cut n (by omega) (fun i h1 h2 => hf i h1 (by omega))]
      simp
def rmS (M V : mw_M) (d n k i : Nat) : Prop := relO M (s_rem (kpS V) d n k i)
theorem gt_nle {a b : Int32} : b < a ↔ ¬ a ≤ b := Int32.not_le.symm
theorem in00 {z : Int32} : inP z 0 0 ↔ z = 0 := by
  constructor
  · intro h
    obtain ⟨k, -, h2, e⟩ := btw (a := 0) (b := 0) h.1 h.2 (by omega) (by omega)
    rw [e, show k = 0 by omega]
    rfl
  · intro h
    rw [h]
    decide
theorem relO.ty {M V : mw_M} (h : relO M V) (hh : hiV V) {t : Nat} (ht : t < 60) {x : Int32} : relO (upd (upd M (1200 + t) x) 1101 (nI (t + 1))) (upd (upd V (1000 + t) x) 653 (nI (t + 1))) := by
  have h4 := hh.2
  have e : hN (upd (upd V (1000 + t) x) 653 (nI (t + 1))) = hN V := by rw [hN_u (by omega), hN_u (by omega)]
  refine ⟨fun j hj => ?_, ⟨?_, fun i hi j hj => ?_⟩, ?_, fun j hj => ?_⟩
  · rw [upd_o (by omega), upd_o (by omega), upd_o (by omega), upd_o (by omega)]
    exact h.1 j hj
  · rw [upd_o (by omega), upd_o (by omega), upd_o (by omega), upd_o (by omega)]
    exact h.2.1.1
  · rw [e] at hi ⊢
    rw [upd_o (by omega), upd_o (by omega), upd_o (by omega), upd_o (by omega)]
    exact h.2.1.2 i hi j hj
  · rw [upd_s, upd_s]
  · rw [upd_o (show 1200 + j ≠ 1101 by omega), upd_o (show 1000 + j ≠ 653 by omega)]
    by_cases z : j = t
    · rw [z, upd_s, upd_s]
    · rw [upd_o (show 1200 + j ≠ 1200 + t by omega), upd_o (show 1000 + j ≠ 1000 + t by omega)]
      exact h.2.2.2 j hj
theorem relO.ct {M V : mw_M} (h : relO M V) (hh : hiV V) : relO (upd M 1101 0) (upd V 653 0) := by
  refine ⟨fun j hj => ?_, ⟨?_, fun i hi j hj => ?_⟩, ?_, fun j hj => ?_⟩
  · rw [upd_o (by omega), upd_o (by omega)]
    exact h.1 j hj
  · rw [upd_o (by omega), upd_o (by omega)]
    exact h.2.1.1
  · rw [hN_u (by omega)] at hi ⊢
    rw [upd_o (by omega)]
    refine (h.2.1.2 i hi j hj).trans ?_
    have : ∀ q, ¬ q = 653 → V q = upd V 653 0 q := fun q hq => (upd_o hq).symm
    have h4 := hh.2
    exact this _ (by omega)
  · rw [upd_s, upd_s]
  · rw [upd_o (by omega), upd_o (by omega)]
    exact h.2.2.2 j hj
theorem cl_set {V : mw_M} {d c : Nat} {x y z : Int32} : s_cl V 0 d c x y z = upd (upd (upd V (100 + 12 * d + 3 * c) x) (100 + 12 * d + 1 + 3 * c) y) (100 + 12 * d + 2 + 3 * c) z := by
  unfold s_cl
  rw [show 0 + (100 + 12 * d + 3 * c) = 100 + 12 * d + 3 * c by omega, show 0 + (100 + 12 * d + 3 * c + 1) = 100 + 12 * d + 1 + 3 * c by omega, show 0 + (100 + 12 * d + 3 * c + 2) = 100 + 12 * d + 2 + 3 * c by omega]
theorem le_t38 {x : Int32} (h : ¬ x < 8) : 3 ≤ x := by
  rw [Int32.lt_iff_toInt_lt] at h
  rw [Int32.le_iff_toInt_le]
  have e8 : (8 : Int32).toInt = 8 := by decide
  have e3 : (3 : Int32).toInt = 3 := by decide
  omega
theorem iX9_columns_X9 : ∀ w ∈ u_ws RX9 TX9 13, w ∈ wsX9_columns := fun w hw => (List.mem_cons_of_mem _ (List.mem_append_right _ hw))
set_option maxRecDepth 100000 in
set_option maxHeartbeats 4000000 in
theorem c_X9_columns {l : Launch} {G : mw_GG} (M V : mw_M) (hV : relO M V) (hw : wfV V) (hh : hiV V) (ht : txV V) (x y : Int32) : mw_Met l yX9_columns wsX9_columns ({ frames := 2, cells := 0, slots := 0, locals := 42 } : Room) G [.ref (G.1 145), .int x, .int y] M (qIP (fun r M2 => r = (op_columns V x y).1 ∧ relO M2 (op_columns V x y).2 ∧ rfO M M2)) := by
  refine mw_ofV (cc := cX9_columns) 5 (by decide) rfl rfl (Nat.le_of_ble_eq_true rfl) ?_
  intro p e s m args below meth c C hR hN0
  refine vv_loc (ls2 := [some (.ref (G.1 145)), some (.int x), some (.int y), none, none]) rfl ?_
  have hR0 := hw.wfR
  have hdx := dN_lt x
  refine vv_iload_n C 1 dX9_columns_0 rfl rfl ?_
  refine vv_callSI C [.int x] (c_X9_isDrawer M x) (cwS 1 C.1.2.2.2.2 gX9_columns_X9_isDrawer rfl rfl rfl (by decide +kernel) ⟨Nat.le_of_ble_eq_true rfl, Nat.le_of_ble_eq_true rfl⟩) rfl rfl rfl (Nat.le_of_ble_eq_true rfl) dX9_columns_1 ⟨Nat.le_refl _, Nat.le_refl _⟩ ?_
  refine vv_bif_eq C 16 dX9_columns_4 (by decide) (fun h_nd => ?_) (fun h_d => ?_)
  · refine vv_bipush (v := (-11)) C dX9_columns_16 (by decide) ?_
    exact vv_iret C hR dX9_columns_18 (qIP_of (by rw [show op_columns V x y = (-11, V) from if_neg (fun z => h_nd z.1)]; exact ⟨rfl, hV, rfO.rf⟩))
  · refine vv_iload_n C 2 dX9_columns_7 rfl rfl ?_
    refine vv_iconst (v := 1) C dX9_columns_8 (by decide) ?_
    refine vv_iconst (v := 4) C dX9_columns_9 (by decide) ?_
    refine vv_callSI C [.int y, .int 1, .int 4] (c_X9_in M y 1 4) (cwS 3 C.1.2.2.2.2 gX9_columns_X9_in rfl rfl rfl (by decide +kernel) ⟨Nat.le_of_ble_eq_true rfl, Nat.le_of_ble_eq_true rfl⟩) rfl rfl rfl (Nat.le_of_ble_eq_true rfl) dX9_columns_10 ⟨Nat.le_refl _, Nat.le_refl _⟩ ?_
    refine vv_bif_ne C 19 dX9_columns_13 (by decide) (fun h_in => ?_) (fun h_nin => ?_)
    · refine vv_aload_n C 0 dX9_columns_19 rfl rfl ?_
      refine vv_callVVP C [] (c_X9_changes M V hV hh) sh_145 rfl (cwV 0 C.1.2.2.2.2 gX9_columns_X9_changes rfl rfl rfl (by decide +kernel) ⟨Nat.le_of_ble_eq_true rfl, Nat.le_of_ble_eq_true rfl⟩) rfl rfl rfl (Nat.le_of_ble_eq_true rfl) dX9_columns_20 ⟨Nat.le_refl _, Nat.le_refl _⟩ (fun M_5 h_6 => ?_)
      have hC := h_6
      refine vv_aload_n C 0 dX9_columns_23 rfl rfl ?_
      refine vv_getr C (Cn := RX9) (T := TX9) (N := 13) sh_145 0 rfl rfl (by decide) iX9_columns_X9 (List.mem_of_getElem? (i := 1) rfl) rfl dX9_columns_24 ?_
      refine vv_iconst (v := 2) C dX9_columns_27 (by decide) ?_
      refine vv_iload_n C 1 dX9_columns_28 rfl rfl ?_
      refine vv_iadd C dX9_columns_29 ?_
      refine vv_ald (j := 2 + dN x) (q := 2000 + (2 + dN x)) C sh_146 (ix_2x (dN_nI h_d)) (by omega) (by omega) dX9_columns_30 ?_
      refine vv_top (y := V (2 + dN x)) ((hC.1.1 _ (by omega)).trans (kpS_lo (by omega))) ?_
      refine vv_istore_n (ls2 := [some (.ref (G.1 145)), some (.int x), some (.int y), some (.int (V (2 + dN x))), none]) C 3 dX9_columns_31 rfl (Nat.le_of_ble_eq_true rfl) rfl ?_
      refine vv_aload_n C 0 dX9_columns_32 rfl rfl ?_
      refine vv_getr C (Cn := RX9) (T := TX9) (N := 13) sh_145 0 rfl rfl (by decide) iX9_columns_X9 (List.mem_of_getElem? (i := 1) rfl) rfl dX9_columns_33 ?_
      refine vv_iconst (v := 0) C dX9_columns_36 (by decide) ?_
      refine vv_iload_n C 1 dX9_columns_37 rfl rfl ?_
      refine vv_iadd C dX9_columns_38 ?_
      refine vv_iload_n C 2 dX9_columns_39 rfl rfl ?_
      refine vv_ast (j := dN x) (q := 2000 + (dN x)) C sh_146 (ix_0x (dN_nI h_d)) (by omega) (by omega) dX9_columns_40 ?_
      refine vv_aload_n C 0 dX9_columns_41 rfl rfl ?_
      refine vv_getr C (Cn := RX9) (T := TX9) (N := 13) sh_145 0 rfl rfl (by decide) iX9_columns_X9 (List.mem_of_getElem? (i := 1) rfl) rfl dX9_columns_42 ?_
      refine vv_iconst (v := 2) C dX9_columns_45 (by decide) ?_
      refine vv_iload_n C 1 dX9_columns_46 rfl rfl ?_
      refine vv_iadd C dX9_columns_47 ?_
      refine vv_iconst (v := 0) C dX9_columns_48 (by decide) ?_
      refine vv_ast (j := 2 + dN x) (q := 2000 + (2 + dN x)) C sh_146 (ix_2x (dN_nI h_d)) (by omega) (by omega) dX9_columns_49 ?_
      refine vv_iconst (v := 0) C dX9_columns_50 (by decide) ?_
      refine vv_istore (ls2 := [some (.ref (G.1 145)), some (.int x), some (.int y), some (.int (V (2 + dN x))), some (.int 0)]) C 4 dX9_columns_51 (Nat.le_of_ble_eq_true rfl) rfl ?_
      refine vv_iload C 4 dX9_columns_53 rfl ?_
      refine vv_iconst (v := 4) C dX9_columns_55 (by decide) ?_
      refine vv_icmp_ge C 75 dX9_columns_56 (by decide) (fun h_7 => absurd h_7 (by decide)) (fun h_8 => ?_)
      refine vv_aload_n C 0 dX9_columns_59 rfl rfl ?_
      refine vv_iload_n C 1 dX9_columns_60 rfl rfl ?_
      refine vv_iload C 4 dX9_columns_61 rfl ?_
      refine vv_iconst (v := 0) C dX9_columns_63 (by decide) ?_
      refine vv_iconst (v := 0) C dX9_columns_64 (by decide) ?_
      refine vv_iconst (v := 0) C dX9_columns_65 (by decide) ?_
      refine vv_callVV C [.int x, .int 0, .int 0, .int 0, .int 0] (c_X9_setsCell (upd (upd M_5 (2000 + (dN x)) y) (2000 + (2 + dN x)) 0) (d := (dN x)) (cc := 0) ⟨dN_lt x, by decide⟩ (x := x) (y := 0) (dN_nI h_d) (by decide) 0 0 0) sh_145 rfl (cwV 5 C.1.2.2.2.2 gX9_columns_X9_setsCell rfl rfl rfl (by decide +kernel) ⟨Nat.le_of_ble_eq_true rfl, Nat.le_of_ble_eq_true rfl⟩) rfl rfl rfl (Nat.le_of_ble_eq_true rfl) dX9_columns_66 ⟨Nat.le_refl _, Nat.le_refl _⟩ ?_
      refine vv_iinc (v := 1) (ls2 := [some (.ref (G.1 145)), some (.int x), some (.int y), some (.int (V (2 + dN x))), some (.int 1)]) C 4 dX9_columns_69 rfl (by decide) rfl ?_
      refine vv_goto C 53 dX9_columns_72 (by decide) ?_
      refine vv_iload C 4 dX9_columns_53 rfl ?_
      refine vv_iconst (v := 4) C dX9_columns_55 (by decide) ?_
      refine vv_icmp_ge C 75 dX9_columns_56 (by decide) (fun h_9 => absurd h_9 (by decide)) (fun h_10 => ?_)
      refine vv_aload_n C 0 dX9_columns_59 rfl rfl ?_
      refine vv_iload_n C 1 dX9_columns_60 rfl rfl ?_
      refine vv_iload C 4 dX9_columns_61 rfl ?_
      refine vv_iconst (v := 0) C dX9_columns_63 (by decide) ?_
      refine vv_iconst (v := 0) C dX9_columns_64 (by decide) ?_
      refine vv_iconst (v := 0) C dX9_columns_65 (by decide) ?_
      refine vv_callVV C [.int x, .int 1, .int 0, .int 0, .int 0] (c_X9_setsCell (s_cl (upd (upd M_5 (2000 + (dN x)) y) (2000 + (2 + dN x)) 0) 2000 (dN x) 0 0 0 0) (d := (dN x)) (cc := 1) ⟨dN_lt x, by decide⟩ (x := x) (y := 1) (dN_nI h_d) (by decide) 0 0 0) sh_145 rfl (cwV 5 C.1.2.2.2.2 gX9_columns_X9_setsCell rfl rfl rfl (by decide +kernel) ⟨Nat.le_of_ble_eq_true rfl, Nat.le_of_ble_eq_true rfl⟩) rfl rfl rfl (Nat.le_of_ble_eq_true rfl) dX9_columns_66 ⟨Nat.le_refl _, Nat.le_refl _⟩ ?_
      refine vv_iinc (v := 2) (ls2 := [some (.ref (G.1 145)), some (.int x), some (.int y), some (.int (V (2 + dN x))), some (.int 2)]) C 4 dX9_columns_69 rfl (by decide) rfl ?_
      refine vv_goto C 53 dX9_columns_72 (by decide) ?_
      refine vv_iload C 4 dX9_columns_53 rfl ?_
      refine vv_iconst (v := 4) C dX9_columns_55 (by decide) ?_
      refine vv_icmp_ge C 75 dX9_columns_56 (by decide) (fun h_11 => absurd h_11 (by decide)) (fun h_12 => ?_)
      refine vv_aload_n C 0 dX9_columns_59 rfl rfl ?_
      refine vv_iload_n C 1 dX9_columns_60 rfl rfl ?_
      refine vv_iload C 4 dX9_columns_61 rfl ?_
      refine vv_iconst (v := 0) C dX9_columns_63 (by decide) ?_
      refine vv_iconst (v := 0) C dX9_columns_64 (by decide) ?_
      refine vv_iconst (v := 0) C dX9_columns_65 (by decide) ?_
      refine vv_callVV C [.int x, .int 2, .int 0, .int 0, .int 0] (c_X9_setsCell (s_cl (s_cl (upd (upd M_5 (2000 + (dN x)) y) (2000 + (2 + dN x)) 0) 2000 (dN x) 0 0 0 0) 2000 (dN x) 1 0 0 0) (d := (dN x)) (cc := 2) ⟨dN_lt x, by decide⟩ (x := x) (y := 2) (dN_nI h_d) (by decide) 0 0 0) sh_145 rfl (cwV 5 C.1.2.2.2.2 gX9_columns_X9_setsCell rfl rfl rfl (by decide +kernel) ⟨Nat.le_of_ble_eq_true rfl, Nat.le_of_ble_eq_true rfl⟩) rfl rfl rfl (Nat.le_of_ble_eq_true rfl) dX9_columns_66 ⟨Nat.le_refl _, Nat.le_refl _⟩ ?_
      refine vv_iinc (v := 3) (ls2 := [some (.ref (G.1 145)), some (.int x), some (.int y), some (.int (V (2 + dN x))), some (.int 3)]) C 4 dX9_columns_69 rfl (by decide) rfl ?_
      refine vv_goto C 53 dX9_columns_72 (by decide) ?_
      refine vv_iload C 4 dX9_columns_53 rfl ?_
      refine vv_iconst (v := 4) C dX9_columns_55 (by decide) ?_
      refine vv_icmp_ge C 75 dX9_columns_56 (by decide) (fun h_13 => absurd h_13 (by decide)) (fun h_14 => ?_)
      refine vv_aload_n C 0 dX9_columns_59 rfl rfl ?_
      refine vv_iload_n C 1 dX9_columns_60 rfl rfl ?_
      refine vv_iload C 4 dX9_columns_61 rfl ?_
      refine vv_iconst (v := 0) C dX9_columns_63 (by decide) ?_
      refine vv_iconst (v := 0) C dX9_columns_64 (by decide) ?_
      refine vv_iconst (v := 0) C dX9_columns_65 (by decide) ?_
      refine vv_callVV C [.int x, .int 3, .int 0, .int 0, .int 0] (c_X9_setsCell (s_cl (s_cl (s_cl (upd (upd M_5 (2000 + (dN x)) y) (2000 + (2 + dN x)) 0) 2000 (dN x) 0 0 0 0) 2000 (dN x) 1 0 0 0) 2000 (dN x) 2 0 0 0) (d := (dN x)) (cc := 3) ⟨dN_lt x, by decide⟩ (x := x) (y := 3) (dN_nI h_d) (by decide) 0 0 0) sh_145 rfl (cwV 5 C.1.2.2.2.2 gX9_columns_X9_setsCell rfl rfl rfl (by decide +kernel) ⟨Nat.le_of_ble_eq_true rfl, Nat.le_of_ble_eq_true rfl⟩) rfl rfl rfl (Nat.le_of_ble_eq_true rfl) dX9_columns_66 ⟨Nat.le_refl _, Nat.le_refl _⟩ ?_
      refine vv_iinc (v := 4) (ls2 := [some (.ref (G.1 145)), some (.int x), some (.int y), some (.int (V (2 + dN x))), some (.int 4)]) C 4 dX9_columns_69 rfl (by decide) rfl ?_
      refine vv_goto C 53 dX9_columns_72 (by decide) ?_
      refine vv_iload C 4 dX9_columns_53 rfl ?_
      refine vv_iconst (v := 4) C dX9_columns_55 (by decide) ?_
      refine vv_icmp_ge C 75 dX9_columns_56 (by decide) (fun h_16 => ?_) (fun h_15 => absurd h_15 (by decide))
      refine vv_iload_n C 3 dX9_columns_75 rfl rfl ?_
      exact vv_iret C hR dX9_columns_76 (qIP_of (by rw [show op_columns V x y = (V (2 + dN x), s_zero (upd (upd (kpS V) (dN x) y) (2 + dN x) 0) (100 + 12 * dN x)) from if_pos ⟨h_d, h_in⟩]; exact ⟨rfl, ((((((hC.1.u (k := dN x) (x := y) (by omega)).u (k := 2 + dN x) (x := 0) (by omega)).cl (c := 0) hdx (by decide)).cl (c := 1) hdx (by decide)).cl (c := 2) hdx (by decide)).cl (c := 3) hdx (by decide)).to cl_zero, ((hC.2.u (by omega)).u (by omega)).cl.cl.cl.cl⟩))
    · refine vv_bipush (v := (-11)) C dX9_columns_16 (by decide) ?_
      exact vv_iret C hR dX9_columns_18 (qIP_of (by rw [show op_columns V x y = (-11, V) from if_neg (fun z => h_nin z.2)]; exact ⟨rfl, hV, rfO.rf⟩))
theorem iX9_card_X9 : ∀ w ∈ u_ws RX9 TX9 13, w ∈ wsX9_card := fun w hw => (List.mem_cons_of_mem _ (List.mem_append_right _ hw))
set_option maxRecDepth 100000 in
set_option maxHeartbeats 4000000 in
theorem c_X9_card {l : Launch} {G : mw_GG} (M V : mw_M) (hV : relO M V) (hw : wfV V) (hh : hiV V) (ht : txV V) (x a b g d : Int32) : mw_Met l yX9_card wsX9_card ({ frames := 2, cells := 0, slots := 0, locals := 42 } : Room) G [.ref (G.1 145), .int x, .int a, .int b, .int g, .int d] M (qIP (fun r M2 => r = (op_card V x a b g d).1 ∧ relO M2 (op_card V x a b g d).2 ∧ rfO M M2)) := by
  refine mw_ofV (cc := cX9_card) 8 (by decide) rfl rfl (Nat.le_of_ble_eq_true rfl) ?_
  intro p e s m args below meth c C hR hN0
  refine vv_loc (ls2 := [some (.ref (G.1 145)), some (.int x), some (.int a), some (.int b), some (.int g), some (.int d), none, none]) rfl ?_
  have hR0 := hw.wfR
  have hdx := dN_lt x
  have hz : szP V (dN x) := szD hw x
  refine vv_iload_n C 1 dX9_card_0 rfl rfl ?_
  refine vv_callSI C [.int x] (c_X9_isDrawer M x) (cwS 1 C.1.2.2.2.2 gX9_card_X9_isDrawer rfl rfl rfl (by decide +kernel) ⟨Nat.le_of_ble_eq_true rfl, Nat.le_of_ble_eq_true rfl⟩) rfl rfl rfl (Nat.le_of_ble_eq_true rfl) dX9_card_1 ⟨Nat.le_refl _, Nat.le_refl _⟩ ?_
  refine vv_bif_eq C 49 dX9_card_4 (by decide) (fun h_nd => ?_) (fun h_d => ?_)
  · refine vv_bipush (v := (-11)) C dX9_card_49 (by decide) ?_
    exact vv_iret C hR dX9_card_51 (qIP_of (by rw [show op_card V x a b g d = (-11, V) from if_neg (fun z => h_nd z.1)]; exact ⟨rfl, hV, rfO.rf⟩))
  · refine vv_iload_n C 2 dX9_card_7 rfl rfl ?_
    refine vv_iconst (v := (-1)) C dX9_card_8 (by decide) ?_
    refine vv_bipush (v := 99) C dX9_card_9 (by decide) ?_
    refine vv_callSI C [.int a, .int (-1), .int 99] (c_X9_in M a (-1) 99) (cwS 3 C.1.2.2.2.2 gX9_card_X9_in rfl rfl rfl (by decide +kernel) ⟨Nat.le_of_ble_eq_true rfl, Nat.le_of_ble_eq_true rfl⟩) rfl rfl rfl (Nat.le_of_ble_eq_true rfl) dX9_card_11 ⟨Nat.le_refl _, Nat.le_refl _⟩ ?_
    refine vv_bif_eq C 49 dX9_card_14 (by decide) (fun h_na => ?_) (fun h_a => ?_)
    · refine vv_bipush (v := (-11)) C dX9_card_49 (by decide) ?_
      exact vv_iret C hR dX9_card_51 (qIP_of (by rw [show op_card V x a b g d = (-11, V) from if_neg (fun z => h_na z.2.1)]; exact ⟨rfl, hV, rfO.rf⟩))
    · refine vv_iload_n C 3 dX9_card_17 rfl rfl ?_
      refine vv_iconst (v := (-1)) C dX9_card_18 (by decide) ?_
      refine vv_bipush (v := 99) C dX9_card_19 (by decide) ?_
      refine vv_callSI C [.int b, .int (-1), .int 99] (c_X9_in M b (-1) 99) (cwS 3 C.1.2.2.2.2 gX9_card_X9_in rfl rfl rfl (by decide +kernel) ⟨Nat.le_of_ble_eq_true rfl, Nat.le_of_ble_eq_true rfl⟩) rfl rfl rfl (Nat.le_of_ble_eq_true rfl) dX9_card_21 ⟨Nat.le_refl _, Nat.le_refl _⟩ ?_
      refine vv_bif_eq C 49 dX9_card_24 (by decide) (fun h_nb => ?_) (fun h_b => ?_)
      · refine vv_bipush (v := (-11)) C dX9_card_49 (by decide) ?_
        exact vv_iret C hR dX9_card_51 (qIP_of (by rw [show op_card V x a b g d = (-11, V) from if_neg (fun z => h_nb z.2.2.1)]; exact ⟨rfl, hV, rfO.rf⟩))
      · refine vv_iload C 4 dX9_card_27 rfl ?_
        refine vv_iconst (v := (-1)) C dX9_card_29 (by decide) ?_
        refine vv_bipush (v := 99) C dX9_card_30 (by decide) ?_
        refine vv_callSI C [.int g, .int (-1), .int 99] (c_X9_in M g (-1) 99) (cwS 3 C.1.2.2.2.2 gX9_card_X9_in rfl rfl rfl (by decide +kernel) ⟨Nat.le_of_ble_eq_true rfl, Nat.le_of_ble_eq_true rfl⟩) rfl rfl rfl (Nat.le_of_ble_eq_true rfl) dX9_card_32 ⟨Nat.le_refl _, Nat.le_refl _⟩ ?_
        refine vv_bif_eq C 49 dX9_card_35 (by decide) (fun h_ng => ?_) (fun h_g => ?_)
        · refine vv_bipush (v := (-11)) C dX9_card_49 (by decide) ?_
          exact vv_iret C hR dX9_card_51 (qIP_of (by rw [show op_card V x a b g d = (-11, V) from if_neg (fun z => h_ng z.2.2.2.1)]; exact ⟨rfl, hV, rfO.rf⟩))
        · refine vv_iload C 5 dX9_card_38 rfl ?_
          refine vv_iconst (v := (-1)) C dX9_card_40 (by decide) ?_
          refine vv_bipush (v := 99) C dX9_card_41 (by decide) ?_
          refine vv_callSI C [.int d, .int (-1), .int 99] (c_X9_in M d (-1) 99) (cwS 3 C.1.2.2.2.2 gX9_card_X9_in rfl rfl rfl (by decide +kernel) ⟨Nat.le_of_ble_eq_true rfl, Nat.le_of_ble_eq_true rfl⟩) rfl rfl rfl (Nat.le_of_ble_eq_true rfl) dX9_card_43 ⟨Nat.le_refl _, Nat.le_refl _⟩ ?_
          refine vv_bif_ne C 52 dX9_card_46 (by decide) (fun h_e => ?_) (fun h_ne => ?_)
          · refine vv_aload_n C 0 dX9_card_52 rfl rfl ?_
            refine vv_getr C (Cn := RX9) (T := TX9) (N := 13) sh_145 0 rfl rfl (by decide) iX9_card_X9 (List.mem_of_getElem? (i := 1) rfl) rfl dX9_card_53 ?_
            refine vv_iconst (v := 2) C dX9_card_56 (by decide) ?_
            refine vv_iload_n C 1 dX9_card_57 rfl rfl ?_
            refine vv_iadd C dX9_card_58 ?_
            refine vv_ald (j := 2 + dN x) (q := 2000 + (2 + dN x)) C sh_146 (ix_2x (dN_nI h_d)) (by omega) (by omega) dX9_card_59 ?_
            refine vv_top (y := V (2 + dN x)) (hV.1 _ (by omega)) ?_
            refine vv_istore (ls2 := [some (.ref (G.1 145)), some (.int x), some (.int a), some (.int b), some (.int g), some (.int d), some (.int (V (2 + dN x))), none]) C 6 dX9_card_60 (Nat.le_of_ble_eq_true rfl) rfl ?_
            refine vv_iload C 6 dX9_card_62 rfl ?_
            refine vv_bipush (v := 12) C dX9_card_64 (by decide) ?_
            refine vv_icmp_ne C 72 dX9_card_66 (by decide) (fun h_n12 => ?_) (fun h_12 => ?_)
            · have hn12 : nN V (dN x) < 12 := by
                rcases Nat.lt_or_ge (nN V (dN x)) 12 with z | z
                · exact z
                · exact absurd (by rw [hz.n.1, show nN V (dN x) = 12 by have := hz.n.2; omega]; rfl) h_n12
              refine vv_aload_n C 0 dX9_card_72 rfl rfl ?_
              refine vv_callVVP C [] (c_X9_changes M V hV hh) sh_145 rfl (cwV 0 C.1.2.2.2.2 gX9_card_X9_changes rfl rfl rfl (by decide +kernel) ⟨Nat.le_of_ble_eq_true rfl, Nat.le_of_ble_eq_true rfl⟩) rfl rfl rfl (Nat.le_of_ble_eq_true rfl) dX9_card_73 ⟨Nat.le_refl _, Nat.le_refl _⟩ (fun M_13 h_14 => ?_)
              have hC := h_14
              refine vv_iload_n C 1 dX9_card_76 rfl rfl ?_
              refine vv_iload C 6 dX9_card_77 rfl ?_
              refine vv_iconst (v := 0) C dX9_card_79 (by decide) ?_
              refine vv_callSI C [.int x, .int (V (2 + dN x)), .int 0] (c_X9_valueAt M_13 x (V (2 + dN x)) 0) (cwS 3 C.1.2.2.2.2 gX9_card_X9_valueAt rfl rfl rfl (by decide +kernel) ⟨Nat.le_of_ble_eq_true rfl, Nat.le_of_ble_eq_true rfl⟩) rfl rfl rfl (Nat.le_of_ble_eq_true rfl) dX9_card_80 ⟨Nat.le_refl _, Nat.le_refl _⟩ ?_
              refine vv_top (y := nI (4 + 48 * dN x + (4 * nN V (dN x) + 0))) (ix_v3 (dN_nI h_d) hz.n.1 rfl) ?_
              refine vv_istore (ls2 := [some (.ref (G.1 145)), some (.int x), some (.int a), some (.int b), some (.int g), some (.int d), some (.int (V (2 + dN x))), some (.int (nI (4 + 48 * dN x + (4 * nN V (dN x) + 0))))]) C 7 dX9_card_83 (Nat.le_of_ble_eq_true rfl) rfl ?_
              refine vv_aload_n C 0 dX9_card_85 rfl rfl ?_
              refine vv_getr C (Cn := RX9) (T := TX9) (N := 13) sh_145 0 rfl rfl (by decide) iX9_card_X9 (List.mem_of_getElem? (i := 1) rfl) rfl dX9_card_86 ?_
              refine vv_iload C 7 dX9_card_89 rfl ?_
              refine vv_iload_n C 2 dX9_card_91 rfl rfl ?_
              refine vv_ast (j := 4 + 48 * dN x + 4 * nN V (dN x)) (q := 2000 + (4 + 48 * dN x + 4 * nN V (dN x))) C sh_146 rfl (by omega) (by omega) dX9_card_92 ?_
              refine vv_aload_n C 0 dX9_card_93 rfl rfl ?_
              refine vv_getr C (Cn := RX9) (T := TX9) (N := 13) sh_145 0 rfl rfl (by decide) iX9_card_X9 (List.mem_of_getElem? (i := 1) rfl) rfl dX9_card_94 ?_
              refine vv_iload C 7 dX9_card_97 rfl ?_
              refine vv_iconst (v := 1) C dX9_card_99 (by decide) ?_
              refine vv_iadd C dX9_card_100 ?_
              refine vv_iload_n C 3 dX9_card_101 rfl rfl ?_
              refine vv_ast (j := 4 + 48 * dN x + (4 * nN V (dN x) + 1)) (q := 2000 + (4 + 48 * dN x + (4 * nN V (dN x) + 1))) C sh_146 (nI_add _ 1) (by omega) (by omega) dX9_card_102 ?_
              refine vv_aload_n C 0 dX9_card_103 rfl rfl ?_
              refine vv_getr C (Cn := RX9) (T := TX9) (N := 13) sh_145 0 rfl rfl (by decide) iX9_card_X9 (List.mem_of_getElem? (i := 1) rfl) rfl dX9_card_104 ?_
              refine vv_iload C 7 dX9_card_107 rfl ?_
              refine vv_iconst (v := 2) C dX9_card_109 (by decide) ?_
              refine vv_iadd C dX9_card_110 ?_
              refine vv_iload C 4 dX9_card_111 rfl ?_
              refine vv_ast (j := 4 + 48 * dN x + (4 * nN V (dN x) + 2)) (q := 2000 + (4 + 48 * dN x + (4 * nN V (dN x) + 2))) C sh_146 (nI_add _ 2) (by omega) (by omega) dX9_card_113 ?_
              refine vv_aload_n C 0 dX9_card_114 rfl rfl ?_
              refine vv_getr C (Cn := RX9) (T := TX9) (N := 13) sh_145 0 rfl rfl (by decide) iX9_card_X9 (List.mem_of_getElem? (i := 1) rfl) rfl dX9_card_115 ?_
              refine vv_iload C 7 dX9_card_118 rfl ?_
              refine vv_iconst (v := 3) C dX9_card_120 (by decide) ?_
              refine vv_iadd C dX9_card_121 ?_
              refine vv_iload C 5 dX9_card_122 rfl ?_
              refine vv_ast (j := 4 + 48 * dN x + (4 * nN V (dN x) + 3)) (q := 2000 + (4 + 48 * dN x + (4 * nN V (dN x) + 3))) C sh_146 (nI_add _ 3) (by omega) (by omega) dX9_card_124 ?_
              refine vv_aload_n C 0 dX9_card_125 rfl rfl ?_
              refine vv_getr C (Cn := RX9) (T := TX9) (N := 13) sh_145 0 rfl rfl (by decide) iX9_card_X9 (List.mem_of_getElem? (i := 1) rfl) rfl dX9_card_126 ?_
              refine vv_iconst (v := 2) C dX9_card_129 (by decide) ?_
              refine vv_iload_n C 1 dX9_card_130 rfl rfl ?_
              refine vv_iadd C dX9_card_131 ?_
              refine vv_dup2 C dX9_card_132 rfl rfl ?_
              refine vv_ald (j := 2 + dN x) (q := 2000 + (2 + dN x)) C sh_146 (ix_2x (dN_nI h_d)) (by omega) (by omega) dX9_card_133 ?_
              refine vv_top (y := nI (nN V (dN x))) (by rw [upd_o (by omega), upd_o (by omega), upd_o (by omega), upd_o (by omega), hC.1.1 _ (by omega), kpS_lo (by omega)]; exact hz.n.1) ?_
              refine vv_iconst (v := 1) C dX9_card_134 (by decide) ?_
              refine vv_iadd C dX9_card_135 ?_
              refine vv_top (y := nI (nN V (dN x) + 1)) (nI_1 _) ?_
              refine vv_ast (j := 2 + dN x) (q := 2000 + (2 + dN x)) C sh_146 (ix_2x (dN_nI h_d)) (by omega) (by omega) dX9_card_136 ?_
              refine vv_iload C 6 dX9_card_137 rfl ?_
              exact vv_iret C hR dX9_card_139 (qIP_of (by rw [show op_card V x a b g d = (V (2 + dN x), s_add (kpS V) (dN x) (nN V (dN x)) a b g d) from (if_pos ⟨h_d, h_a, h_b, h_g, h_e⟩).trans (if_pos (by rw [hz.n.1]; exact (n12_lt hz.n.2).mpr (by rw [← hz.n.1]; exact h_n12)))]; exact ⟨rfl, ((((hC.1.u (x := a) (by omega)).u (x := b) (by omega)).u (x := g) (by omega)).u (x := d) (by omega)).u (x := nI (nN V (dN x) + 1)) (by omega), ((((hC.2.u (by omega)).u (by omega)).u (by omega)).u (by omega)).u (by omega)⟩))
            · refine vv_bipush (v := (-13)) C dX9_card_69 (by decide) ?_
              exact vv_iret C hR dX9_card_71 (qIP_of (by rw [show op_card V x a b g d = (-13, V) from (if_pos ⟨h_d, h_a, h_b, h_g, h_e⟩).trans (if_neg (fun z => (n12_lt hz.n.2).mp (by rw [← hz.n.1]; exact z) (by rw [← hz.n.1]; exact h_12)))]; exact ⟨rfl, hV, rfO.rf⟩))
          · refine vv_bipush (v := (-11)) C dX9_card_49 (by decide) ?_
            exact vv_iret C hR dX9_card_51 (qIP_of (by rw [show op_card V x a b g d = (-11, V) from if_neg (fun z => h_ne z.2.2.2.2)]; exact ⟨rfl, hV, rfO.rf⟩))
theorem iX9_put_X9 : ∀ w ∈ u_ws RX9 TX9 13, w ∈ wsX9_put := fun w hw => (List.mem_cons_of_mem _ (List.mem_append_right _ hw))
set_option maxRecDepth 100000 in
set_option maxHeartbeats 4000000 in
theorem c_X9_put {l : Launch} {G : mw_GG} (M V : mw_M) (hV : relO M V) (hw : wfV V) (hh : hiV V) (ht : txV V) (x k g v : Int32) : mw_Met l yX9_put wsX9_put ({ frames := 2, cells := 0, slots := 0, locals := 42 } : Room) G [.ref (G.1 145), .int x, .int k, .int g, .int v] M (qIP (fun r M2 => r = (op_put V x k g v).1 ∧ relO M2 (op_put V x k g v).2 ∧ rfO M M2)) := by
  refine mw_ofV (cc := cX9_put) 6 (by decide) rfl rfl (Nat.le_of_ble_eq_true rfl) ?_
  intro p e s m args below meth c C hR hN0
  refine vv_loc (ls2 := [some (.ref (G.1 145)), some (.int x), some (.int k), some (.int g), some (.int v), none]) rfl ?_
  have hR0 := hw.wfR
  have hdx := dN_lt x
  have hz : szP V (dN x) := szD hw x
  refine vv_iload_n C 1 dX9_put_0 rfl rfl ?_
  refine vv_callSI C [.int x] (c_X9_isDrawer M x) (cwS 1 C.1.2.2.2.2 gX9_put_X9_isDrawer rfl rfl rfl (by decide +kernel) ⟨Nat.le_of_ble_eq_true rfl, Nat.le_of_ble_eq_true rfl⟩) rfl rfl rfl (Nat.le_of_ble_eq_true rfl) dX9_put_1 ⟨Nat.le_refl _, Nat.le_refl _⟩ ?_
  refine vv_bif_eq C 36 dX9_put_4 (by decide) (fun h_nd => ?_) (fun h_d => ?_)
  · refine vv_bipush (v := (-11)) C dX9_put_36 (by decide) ?_
    exact vv_iret C hR dX9_put_38 (qIP_of (by rw [show op_put V x k g v = (-11, V) from if_neg (fun z => h_nd z.1.1.1)]; exact ⟨rfl, hV, rfO.rf⟩))
  · refine vv_aload_n C 0 dX9_put_7 rfl rfl ?_
    refine vv_iload_n C 1 dX9_put_8 rfl rfl ?_
    refine vv_iload_n C 2 dX9_put_9 rfl rfl ?_
    refine vv_callVI C [.int x, .int k] (c_X9_isCard M V hV.1 (d := (dN x)) (dN_lt x) (x := x) (dN_nI h_d) k) sh_145 rfl (cwV 2 C.1.2.2.2.2 gX9_put_X9_isCard rfl rfl rfl (by decide +kernel) ⟨Nat.le_of_ble_eq_true rfl, Nat.le_of_ble_eq_true rfl⟩) rfl rfl rfl (Nat.le_of_ble_eq_true rfl) dX9_put_10 ⟨Nat.le_refl _, Nat.le_refl _⟩ ?_
    refine vv_bif_eq C 36 dX9_put_13 (by decide) (fun h_nk => ?_) (fun h_k => ?_)
    · refine vv_bipush (v := (-11)) C dX9_put_36 (by decide) ?_
      exact vv_iret C hR dX9_put_38 (qIP_of (by rw [show op_put V x k g v = (-11, V) from if_neg (fun z => h_nk z.1.2)]; exact ⟨rfl, hV, rfO.rf⟩))
    · refine vv_aload_n C 0 dX9_put_16 rfl rfl ?_
      refine vv_iload_n C 1 dX9_put_17 rfl rfl ?_
      refine vv_iload_n C 3 dX9_put_18 rfl rfl ?_
      refine vv_callVI C [.int x, .int g] (c_X9_isColumn M V hV.1 (d := (dN x)) (dN_lt x) (x := x) (dN_nI h_d) g) sh_145 rfl (cwV 2 C.1.2.2.2.2 gX9_put_X9_isColumn rfl rfl rfl (by decide +kernel) ⟨Nat.le_of_ble_eq_true rfl, Nat.le_of_ble_eq_true rfl⟩) rfl rfl rfl (Nat.le_of_ble_eq_true rfl) dX9_put_19 ⟨Nat.le_refl _, Nat.le_refl _⟩ ?_
      refine vv_bif_eq C 36 dX9_put_22 (by decide) (fun h_ng => ?_) (fun h_g => ?_)
      · refine vv_bipush (v := (-11)) C dX9_put_36 (by decide) ?_
        exact vv_iret C hR dX9_put_38 (qIP_of (by rw [show op_put V x k g v = (-11, V) from if_neg (fun z => h_ng z.1.1.2)]; exact ⟨rfl, hV, rfO.rf⟩))
      · refine vv_iload C 4 dX9_put_25 rfl ?_
        refine vv_iconst (v := (-1)) C dX9_put_27 (by decide) ?_
        refine vv_bipush (v := 99) C dX9_put_28 (by decide) ?_
        refine vv_callSI C [.int v, .int (-1), .int 99] (c_X9_in M v (-1) 99) (cwS 3 C.1.2.2.2.2 gX9_put_X9_in rfl rfl rfl (by decide +kernel) ⟨Nat.le_of_ble_eq_true rfl, Nat.le_of_ble_eq_true rfl⟩) rfl rfl rfl (Nat.le_of_ble_eq_true rfl) dX9_put_30 ⟨Nat.le_refl _, Nat.le_refl _⟩ ?_
        refine vv_bif_ne C 39 dX9_put_33 (by decide) (fun h_in => ?_) (fun h_nin => ?_)
        · have hkn := hk_nI hz h_k
          have hgn := hc_nI hz h_g
          refine vv_aload_n C 0 dX9_put_39 rfl rfl ?_
          refine vv_callVVP C [] (c_X9_changes M V hV hh) sh_145 rfl (cwV 0 C.1.2.2.2.2 gX9_put_X9_changes rfl rfl rfl (by decide +kernel) ⟨Nat.le_of_ble_eq_true rfl, Nat.le_of_ble_eq_true rfl⟩) rfl rfl rfl (Nat.le_of_ble_eq_true rfl) dX9_put_40 ⟨Nat.le_refl _, Nat.le_refl _⟩ (fun M_9 h_10 => ?_)
          have hC := h_10
          refine vv_aload_n C 0 dX9_put_43 rfl rfl ?_
          refine vv_getr C (Cn := RX9) (T := TX9) (N := 13) sh_145 0 rfl rfl (by decide) iX9_put_X9 (List.mem_of_getElem? (i := 1) rfl) rfl dX9_put_44 ?_
          refine vv_iload_n C 1 dX9_put_47 rfl rfl ?_
          refine vv_iload_n C 2 dX9_put_48 rfl rfl ?_
          refine vv_iload_n C 3 dX9_put_49 rfl rfl ?_
          refine vv_callSI C [.int x, .int k, .int g] (c_X9_valueAt M_9 x k g) (cwS 3 C.1.2.2.2.2 gX9_put_X9_valueAt rfl rfl rfl (by decide +kernel) ⟨Nat.le_of_ble_eq_true rfl, Nat.le_of_ble_eq_true rfl⟩) rfl rfl rfl (Nat.le_of_ble_eq_true rfl) dX9_put_50 ⟨Nat.le_refl _, Nat.le_refl _⟩ ?_
          refine vv_ald (j := 4 + 48 * dN x + (4 * k.toNatClampNeg + g.toNatClampNeg)) (q := 2000 + (4 + 48 * dN x + (4 * k.toNatClampNeg + g.toNatClampNeg))) C sh_146 (ix_v3 (dN_nI h_d) hkn.1 hgn.1) (by omega) (by omega) dX9_put_53 ?_
          refine vv_top (y := V (posS x k g)) ((hC.1.1 _ (by omega)).trans (kpS_lo (by omega))) ?_
          refine vv_istore (ls2 := [some (.ref (G.1 145)), some (.int x), some (.int k), some (.int g), some (.int v), some (.int (V (posS x k g)))]) C 5 dX9_put_54 (Nat.le_of_ble_eq_true rfl) rfl ?_
          refine vv_aload_n C 0 dX9_put_56 rfl rfl ?_
          refine vv_getr C (Cn := RX9) (T := TX9) (N := 13) sh_145 0 rfl rfl (by decide) iX9_put_X9 (List.mem_of_getElem? (i := 1) rfl) rfl dX9_put_57 ?_
          refine vv_iload_n C 1 dX9_put_60 rfl rfl ?_
          refine vv_iload_n C 2 dX9_put_61 rfl rfl ?_
          refine vv_iload_n C 3 dX9_put_62 rfl rfl ?_
          refine vv_callSI C [.int x, .int k, .int g] (c_X9_valueAt M_9 x k g) (cwS 3 C.1.2.2.2.2 gX9_put_X9_valueAt rfl rfl rfl (by decide +kernel) ⟨Nat.le_of_ble_eq_true rfl, Nat.le_of_ble_eq_true rfl⟩) rfl rfl rfl (Nat.le_of_ble_eq_true rfl) dX9_put_63 ⟨Nat.le_refl _, Nat.le_refl _⟩ ?_
          refine vv_iload C 4 dX9_put_66 rfl ?_
          refine vv_ast (j := 4 + 48 * dN x + (4 * k.toNatClampNeg + g.toNatClampNeg)) (q := 2000 + (4 + 48 * dN x + (4 * k.toNatClampNeg + g.toNatClampNeg))) C sh_146 (ix_v3 (dN_nI h_d) hkn.1 hgn.1) (by omega) (by omega) dX9_put_68 ?_
          refine vv_iload C 5 dX9_put_69 rfl ?_
          exact vv_iret C hR dX9_put_71 (qIP_of (by rw [show op_put V x k g v = (V (posS x k g), upd (kpS V) (posS x k g) v) from if_pos ⟨⟨⟨h_d, h_g⟩, h_k⟩, h_in⟩]; exact ⟨rfl, hC.1.u (by omega), hC.2.u (by omega)⟩))
        · refine vv_bipush (v := (-11)) C dX9_put_36 (by decide) ?_
          exact vv_iret C hR dX9_put_38 (qIP_of (by rw [show op_put V x k g v = (-11, V) from if_neg (fun z => h_nin z.2)]; exact ⟨rfl, hV, rfO.rf⟩))
theorem iX9_valueOf_X9 : ∀ w ∈ u_ws RX9 TX9 13, w ∈ wsX9_valueOf := fun w hw => (List.mem_cons_of_mem _ (List.mem_append_right _ hw))
set_option maxRecDepth 100000 in
set_option maxHeartbeats 4000000 in
theorem c_X9_valueOf {l : Launch} {G : mw_GG} (M V : mw_M) (hV : relO M V) (hw : wfV V) (hh : hiV V) (ht : txV V) (x k g : Int32) : mw_Met l yX9_valueOf wsX9_valueOf ({ frames := 2, cells := 0, slots := 0, locals := 42 } : Room) G [.ref (G.1 145), .int x, .int k, .int g] M (qIP (fun r M2 => r = (op_valueOf V x k g).1 ∧ relO M2 (op_valueOf V x k g).2 ∧ rfO M M2)) := by
  refine mw_ofV (cc := cX9_valueOf) 4 (by decide) rfl rfl (Nat.le_of_ble_eq_true rfl) ?_
  intro p e s m args below meth c C hR hN0
  refine vv_loc (ls2 := [some (.ref (G.1 145)), some (.int x), some (.int k), some (.int g)]) rfl ?_
  have hR0 := hw.wfR
  have hdx := dN_lt x
  have hz : szP V (dN x) := szD hw x
  refine vv_iload_n C 1 dX9_valueOf_0 rfl rfl ?_
  refine vv_callSI C [.int x] (c_X9_isDrawer M x) (cwS 1 C.1.2.2.2.2 gX9_valueOf_X9_isDrawer rfl rfl rfl (by decide +kernel) ⟨Nat.le_of_ble_eq_true rfl, Nat.le_of_ble_eq_true rfl⟩) rfl rfl rfl (Nat.le_of_ble_eq_true rfl) dX9_valueOf_1 ⟨Nat.le_refl _, Nat.le_refl _⟩ ?_
  refine vv_bif_eq C 25 dX9_valueOf_4 (by decide) (fun h_nd => ?_) (fun h_d => ?_)
  · refine vv_bipush (v := (-11)) C dX9_valueOf_25 (by decide) ?_
    exact vv_iret C hR dX9_valueOf_27 (qIP_of (by rw [show op_valueOf V x k g = (-11, V) from if_neg (fun z => h_nd z.1.1)]; exact ⟨rfl, hV, rfO.rf⟩))
  · refine vv_aload_n C 0 dX9_valueOf_7 rfl rfl ?_
    refine vv_iload_n C 1 dX9_valueOf_8 rfl rfl ?_
    refine vv_iload_n C 2 dX9_valueOf_9 rfl rfl ?_
    refine vv_callVI C [.int x, .int k] (c_X9_isCard M V hV.1 (d := (dN x)) (dN_lt x) (x := x) (dN_nI h_d) k) sh_145 rfl (cwV 2 C.1.2.2.2.2 gX9_valueOf_X9_isCard rfl rfl rfl (by decide +kernel) ⟨Nat.le_of_ble_eq_true rfl, Nat.le_of_ble_eq_true rfl⟩) rfl rfl rfl (Nat.le_of_ble_eq_true rfl) dX9_valueOf_10 ⟨Nat.le_refl _, Nat.le_refl _⟩ ?_
    refine vv_bif_eq C 25 dX9_valueOf_13 (by decide) (fun h_nk => ?_) (fun h_k => ?_)
    · refine vv_bipush (v := (-11)) C dX9_valueOf_25 (by decide) ?_
      exact vv_iret C hR dX9_valueOf_27 (qIP_of (by rw [show op_valueOf V x k g = (-11, V) from if_neg (fun z => h_nk z.2)]; exact ⟨rfl, hV, rfO.rf⟩))
    · refine vv_aload_n C 0 dX9_valueOf_16 rfl rfl ?_
      refine vv_iload_n C 1 dX9_valueOf_17 rfl rfl ?_
      refine vv_iload_n C 3 dX9_valueOf_18 rfl rfl ?_
      refine vv_callVI C [.int x, .int g] (c_X9_isColumn M V hV.1 (d := (dN x)) (dN_lt x) (x := x) (dN_nI h_d) g) sh_145 rfl (cwV 2 C.1.2.2.2.2 gX9_valueOf_X9_isColumn rfl rfl rfl (by decide +kernel) ⟨Nat.le_of_ble_eq_true rfl, Nat.le_of_ble_eq_true rfl⟩) rfl rfl rfl (Nat.le_of_ble_eq_true rfl) dX9_valueOf_19 ⟨Nat.le_refl _, Nat.le_refl _⟩ ?_
      refine vv_bif_ne C 28 dX9_valueOf_22 (by decide) (fun h_g => ?_) (fun h_ng => ?_)
      · have hkn := hk_nI hz h_k
        have hgn := hc_nI hz h_g
        refine vv_aload_n C 0 dX9_valueOf_28 rfl rfl ?_
        refine vv_getr C (Cn := RX9) (T := TX9) (N := 13) sh_145 0 rfl rfl (by decide) iX9_valueOf_X9 (List.mem_of_getElem? (i := 1) rfl) rfl dX9_valueOf_29 ?_
        refine vv_iload_n C 1 dX9_valueOf_32 rfl rfl ?_
        refine vv_iload_n C 2 dX9_valueOf_33 rfl rfl ?_
        refine vv_iload_n C 3 dX9_valueOf_34 rfl rfl ?_
        refine vv_callSI C [.int x, .int k, .int g] (c_X9_valueAt M x k g) (cwS 3 C.1.2.2.2.2 gX9_valueOf_X9_valueAt rfl rfl rfl (by decide +kernel) ⟨Nat.le_of_ble_eq_true rfl, Nat.le_of_ble_eq_true rfl⟩) rfl rfl rfl (Nat.le_of_ble_eq_true rfl) dX9_valueOf_35 ⟨Nat.le_refl _, Nat.le_refl _⟩ ?_
        refine vv_ald (j := 4 + 48 * dN x + (4 * k.toNatClampNeg + g.toNatClampNeg)) (q := 2000 + (4 + 48 * dN x + (4 * k.toNatClampNeg + g.toNatClampNeg))) C sh_146 (ix_v3 (dN_nI h_d) hkn.1 hgn.1) (by omega) (by omega) dX9_valueOf_38 ?_
        refine vv_top (y := V (posS x k g)) (hV.1 _ (by omega)) ?_
        exact vv_iret C hR dX9_valueOf_39 (qIP_of (by rw [show op_valueOf V x k g = (V (posS x k g), V) from if_pos ⟨⟨h_d, h_g⟩, h_k⟩]; exact ⟨rfl, hV, rfO.rf⟩))
      · refine vv_bipush (v := (-11)) C dX9_valueOf_25 (by decide) ?_
        exact vv_iret C hR dX9_valueOf_27 (qIP_of (by rw [show op_valueOf V x k g = (-11, V) from if_neg (fun z => h_ng z.1.2)]; exact ⟨rfl, hV, rfO.rf⟩))
set_option maxRecDepth 100000 in
set_option maxHeartbeats 4000000 in
theorem c_X9_isCell {l : Launch} {G : mw_GG} (M : mw_M) (x y z : Int32) : mw_Met l yX9_isCell wsX9_isCell ({ frames := 1, cells := 0, slots := 0, locals := 22 } : Room) G [.int x, .int y, .int z] M (qI (bI (conB x y z = true)) M) := by
  refine mw_ofV (cc := cX9_isCell) 4 (by decide) rfl rfl (Nat.le_of_ble_eq_true rfl) ?_
  intro p e s m args below meth c C hR hN0
  refine vv_loc (ls2 := [some (.int x), some (.int y), some (.int z), none]) rfl ?_
  refine vv_iload_n C 0 dX9_isCell_0 rfl rfl ?_
  refine vv_bipush (v := 8) C dX9_isCell_1 (by decide) ?_
  refine vv_icmp_lt C 10 dX9_isCell_3 (by decide) (fun h_l8 => ?_) (fun h_g8 => ?_)
  · refine vv_iload_n C 0 dX9_isCell_10 rfl rfl ?_
    refine vv_iconst (v := 3) C dX9_isCell_11 (by decide) ?_
    refine vv_icmp_lt C 20 dX9_isCell_12 (by decide) (fun h_l3 => ?_) (fun h_g3 => ?_)
    · refine vv_iconst (v := 0) C dX9_isCell_20 (by decide) ?_
      refine vv_istore_n (ls2 := [some (.int x), some (.int y), some (.int z), some (.int 0)]) C 3 dX9_isCell_21 rfl (Nat.le_of_ble_eq_true rfl) rfl ?_
      have hgf : 0 = gfI x := by unfold gfI; rw [if_pos (Int32.not_le.mpr h_l3)]
      refine vv_loc (ls2 := [some (.int x), some (.int y), some (.int z), some (.int (gfI x))]) (by rw [hgf]) ?_
      refine vv_iload_n C 0 dX9_isCell_22 rfl rfl ?_
      refine vv_iconst (v := 0) C dX9_isCell_23 (by decide) ?_
      refine vv_bipush (v := 10) C dX9_isCell_24 (by decide) ?_
      refine vv_callSI C [.int x, .int 0, .int 10] (c_X9_in M x 0 10) (cwS 3 C.1.2.2.2.2 gX9_isCell_X9_in rfl rfl rfl (by decide +kernel) ⟨Nat.le_of_ble_eq_true rfl, Nat.le_of_ble_eq_true rfl⟩) rfl rfl rfl (Nat.le_of_ble_eq_true rfl) dX9_isCell_26 ⟨Nat.le_refl _, Nat.le_refl _⟩ ?_
      refine vv_bif_eq C 75 dX9_isCell_29 (by decide) (fun h_5 => ?_) (fun h_6 => ?_)
      · refine vv_iconst (v := 0) C dX9_isCell_75 (by decide) ?_
        exact vv_zret0 C hR dX9_isCell_76 (qI_of (by (try rw [in00] at h_z); (try rw [in00] at h_nz); first | (simp [bI, conB, h_5]; done) | (clear C hR hgf; simp_all [bI, conB]; done)) (rfl))
      · refine vv_iload_n C 1 dX9_isCell_32 rfl rfl ?_
        refine vv_iconst (v := 0) C dX9_isCell_33 (by decide) ?_
        refine vv_iload_n C 3 dX9_isCell_34 rfl rfl ?_
        refine vv_callSI C [.int y, .int 0, .int (gfI x)] (c_X9_in M y 0 (gfI x)) (cwS 3 C.1.2.2.2.2 gX9_isCell_X9_in rfl rfl rfl (by decide +kernel) ⟨Nat.le_of_ble_eq_true rfl, Nat.le_of_ble_eq_true rfl⟩) rfl rfl rfl (Nat.le_of_ble_eq_true rfl) dX9_isCell_35 ⟨Nat.le_refl _, Nat.le_refl _⟩ ?_
        refine vv_bif_eq C 75 dX9_isCell_38 (by decide) (fun h_7 => ?_) (fun h_8 => ?_)
        · refine vv_iconst (v := 0) C dX9_isCell_75 (by decide) ?_
          exact vv_zret0 C hR dX9_isCell_76 (qI_of (by (try rw [in00] at h_z); (try rw [in00] at h_nz); first | (simp [bI, conB, h_6, h_7]; done) | (clear C hR hgf; simp_all [bI, conB]; done)) (rfl))
        · refine vv_iload_n C 2 dX9_isCell_41 rfl rfl ?_
          refine vv_iload_n C 0 dX9_isCell_42 rfl rfl ?_
          refine vv_bipush (v := 7) C dX9_isCell_43 (by decide) ?_
          refine vv_icmp_ne C 52 dX9_isCell_45 (by decide) (fun h_9 => ?_) (fun h_10 => ?_)
          · refine vv_iconst (v := 0) C dX9_isCell_52 (by decide) ?_
            refine vv_iload_n C 0 dX9_isCell_53 rfl rfl ?_
            refine vv_bipush (v := 7) C dX9_isCell_54 (by decide) ?_
            refine vv_icmp_ne C 64 dX9_isCell_56 (by decide) (fun h_11 => ?_) (fun h_12 => ?_)
            · refine vv_iconst (v := 0) C dX9_isCell_64 (by decide) ?_
              refine vv_callSI C [.int z, .int 0, .int 0] (c_X9_in M z 0 0) (cwS 3 C.1.2.2.2.2 gX9_isCell_X9_in rfl rfl rfl (by decide +kernel) ⟨Nat.le_of_ble_eq_true rfl, Nat.le_of_ble_eq_true rfl⟩) rfl rfl rfl (Nat.le_of_ble_eq_true rfl) dX9_isCell_65 ⟨Nat.le_refl _, Nat.le_refl _⟩ ?_
              refine vv_bif_eq C 75 dX9_isCell_68 (by decide) (fun h_nz => ?_) (fun h_z => ?_)
              · refine vv_iconst (v := 0) C dX9_isCell_75 (by decide) ?_
                exact vv_zret0 C hR dX9_isCell_76 (qI_of (by (try rw [in00] at h_z); (try rw [in00] at h_nz); first | (simp [bI, conB, h_6, h_8, h_9, h_11, h_nz]; done) | (clear C hR hgf; simp_all [bI, conB]; done)) (rfl))
              · refine vv_iconst (v := 1) C dX9_isCell_71 (by decide) ?_
                refine vv_goto C 76 dX9_isCell_72 (by decide) ?_
                exact vv_zret1 C hR dX9_isCell_76 (qI_of (by (try rw [in00] at h_z); (try rw [in00] at h_nz); first | (simp [bI, conB, h_6, h_8, h_9, h_11, h_z]; done) | (clear C hR hgf; simp_all [bI, conB]; done)) (rfl))
            · refine vv_bipush (v := 99) C dX9_isCell_59 (by decide) ?_
              refine vv_goto C 65 dX9_isCell_61 (by decide) ?_
              refine vv_callSI C [.int z, .int 0, .int 99] (c_X9_in M z 0 99) (cwS 3 C.1.2.2.2.2 gX9_isCell_X9_in rfl rfl rfl (by decide +kernel) ⟨Nat.le_of_ble_eq_true rfl, Nat.le_of_ble_eq_true rfl⟩) rfl rfl rfl (Nat.le_of_ble_eq_true rfl) dX9_isCell_65 ⟨Nat.le_refl _, Nat.le_refl _⟩ ?_
              refine vv_bif_eq C 75 dX9_isCell_68 (by decide) (fun h_nz => ?_) (fun h_z => ?_)
              · refine vv_iconst (v := 0) C dX9_isCell_75 (by decide) ?_
                exact vv_zret0 C hR dX9_isCell_76 (qI_of (by (try rw [in00] at h_z); (try rw [in00] at h_nz); first | (simp [bI, conB, h_6, h_8, h_9, h_12, h_nz]; done) | (clear C hR hgf; simp_all [bI, conB]; done)) (rfl))
              · refine vv_iconst (v := 1) C dX9_isCell_71 (by decide) ?_
                refine vv_goto C 76 dX9_isCell_72 (by decide) ?_
                exact vv_zret1 C hR dX9_isCell_76 (qI_of (by (try rw [in00] at h_z); (try rw [in00] at h_nz); first | (simp [bI, conB, h_6, h_8, h_9, h_12, h_z]; done) | (clear C hR hgf; simp_all [bI, conB]; done)) (rfl))
          · refine vv_iload_n C 1 dX9_isCell_48 rfl rfl ?_
            refine vv_goto C 53 dX9_isCell_49 (by decide) ?_
            refine vv_iload_n C 0 dX9_isCell_53 rfl rfl ?_
            refine vv_bipush (v := 7) C dX9_isCell_54 (by decide) ?_
            refine vv_icmp_ne C 64 dX9_isCell_56 (by decide) (fun h_17 => ?_) (fun h_18 => ?_)
            · refine vv_iconst (v := 0) C dX9_isCell_64 (by decide) ?_
              refine vv_callSI C [.int z, .int y, .int 0] (c_X9_in M z y 0) (cwS 3 C.1.2.2.2.2 gX9_isCell_X9_in rfl rfl rfl (by decide +kernel) ⟨Nat.le_of_ble_eq_true rfl, Nat.le_of_ble_eq_true rfl⟩) rfl rfl rfl (Nat.le_of_ble_eq_true rfl) dX9_isCell_65 ⟨Nat.le_refl _, Nat.le_refl _⟩ ?_
              refine vv_bif_eq C 75 dX9_isCell_68 (by decide) (fun h_nz => ?_) (fun h_z => ?_)
              · refine vv_iconst (v := 0) C dX9_isCell_75 (by decide) ?_
                exact vv_zret0 C hR dX9_isCell_76 (qI_of (by (try rw [in00] at h_z); (try rw [in00] at h_nz); first | (simp [bI, conB, h_6, h_8, h_10, h_17, h_nz]; done) | (clear C hR hgf; simp_all [bI, conB]; done)) (rfl))
              · refine vv_iconst (v := 1) C dX9_isCell_71 (by decide) ?_
                refine vv_goto C 76 dX9_isCell_72 (by decide) ?_
                exact vv_zret1 C hR dX9_isCell_76 (qI_of (by (try rw [in00] at h_z); (try rw [in00] at h_nz); first | (simp [bI, conB, h_6, h_8, h_10, h_17, h_z]; done) | (clear C hR hgf; simp_all [bI, conB]; done)) (rfl))
            · refine vv_bipush (v := 99) C dX9_isCell_59 (by decide) ?_
              refine vv_goto C 65 dX9_isCell_61 (by decide) ?_
              refine vv_callSI C [.int z, .int y, .int 99] (c_X9_in M z y 99) (cwS 3 C.1.2.2.2.2 gX9_isCell_X9_in rfl rfl rfl (by decide +kernel) ⟨Nat.le_of_ble_eq_true rfl, Nat.le_of_ble_eq_true rfl⟩) rfl rfl rfl (Nat.le_of_ble_eq_true rfl) dX9_isCell_65 ⟨Nat.le_refl _, Nat.le_refl _⟩ ?_
              refine vv_bif_eq C 75 dX9_isCell_68 (by decide) (fun h_nz => ?_) (fun h_z => ?_)
              · refine vv_iconst (v := 0) C dX9_isCell_75 (by decide) ?_
                exact vv_zret0 C hR dX9_isCell_76 (qI_of (by (try rw [in00] at h_z); (try rw [in00] at h_nz); first | (simp [bI, conB, h_6, h_8, h_10, h_18, h_nz]; done) | (clear C hR hgf; simp_all [bI, conB]; done)) (rfl))
              · refine vv_iconst (v := 1) C dX9_isCell_71 (by decide) ?_
                refine vv_goto C 76 dX9_isCell_72 (by decide) ?_
                exact vv_zret1 C hR dX9_isCell_76 (qI_of (by (try rw [in00] at h_z); (try rw [in00] at h_nz); first | (simp [bI, conB, h_6, h_8, h_10, h_18, h_z]; done) | (clear C hR hgf; simp_all [bI, conB]; done)) (rfl))
    · refine vv_bipush (v := 99) C dX9_isCell_15 (by decide) ?_
      refine vv_goto C 21 dX9_isCell_17 (by decide) ?_
      refine vv_istore_n (ls2 := [some (.int x), some (.int y), some (.int z), some (.int 99)]) C 3 dX9_isCell_21 rfl (Nat.le_of_ble_eq_true rfl) rfl ?_
      have hgf : 99 = gfI x := by unfold gfI; rw [if_neg (fun z => z (Int32.not_lt.mp h_g3)), if_pos (Int32.not_le.mpr h_l8)]
      refine vv_loc (ls2 := [some (.int x), some (.int y), some (.int z), some (.int (gfI x))]) (by rw [hgf]) ?_
      refine vv_iload_n C 0 dX9_isCell_22 rfl rfl ?_
      refine vv_iconst (v := 0) C dX9_isCell_23 (by decide) ?_
      refine vv_bipush (v := 10) C dX9_isCell_24 (by decide) ?_
      refine vv_callSI C [.int x, .int 0, .int 10] (c_X9_in M x 0 10) (cwS 3 C.1.2.2.2.2 gX9_isCell_X9_in rfl rfl rfl (by decide +kernel) ⟨Nat.le_of_ble_eq_true rfl, Nat.le_of_ble_eq_true rfl⟩) rfl rfl rfl (Nat.le_of_ble_eq_true rfl) dX9_isCell_26 ⟨Nat.le_refl _, Nat.le_refl _⟩ ?_
      refine vv_bif_eq C 75 dX9_isCell_29 (by decide) (fun h_23 => ?_) (fun h_24 => ?_)
      · refine vv_iconst (v := 0) C dX9_isCell_75 (by decide) ?_
        exact vv_zret0 C hR dX9_isCell_76 (qI_of (by (try rw [in00] at h_z); (try rw [in00] at h_nz); first | (simp [bI, conB, h_23]; done) | (clear C hR hgf; simp_all [bI, conB]; done)) (rfl))
      · refine vv_iload_n C 1 dX9_isCell_32 rfl rfl ?_
        refine vv_iconst (v := 0) C dX9_isCell_33 (by decide) ?_
        refine vv_iload_n C 3 dX9_isCell_34 rfl rfl ?_
        refine vv_callSI C [.int y, .int 0, .int (gfI x)] (c_X9_in M y 0 (gfI x)) (cwS 3 C.1.2.2.2.2 gX9_isCell_X9_in rfl rfl rfl (by decide +kernel) ⟨Nat.le_of_ble_eq_true rfl, Nat.le_of_ble_eq_true rfl⟩) rfl rfl rfl (Nat.le_of_ble_eq_true rfl) dX9_isCell_35 ⟨Nat.le_refl _, Nat.le_refl _⟩ ?_
        refine vv_bif_eq C 75 dX9_isCell_38 (by decide) (fun h_25 => ?_) (fun h_26 => ?_)
        · refine vv_iconst (v := 0) C dX9_isCell_75 (by decide) ?_
          exact vv_zret0 C hR dX9_isCell_76 (qI_of (by (try rw [in00] at h_z); (try rw [in00] at h_nz); first | (simp [bI, conB, h_24, h_25]; done) | (clear C hR hgf; simp_all [bI, conB]; done)) (rfl))
        · refine vv_iload_n C 2 dX9_isCell_41 rfl rfl ?_
          refine vv_iload_n C 0 dX9_isCell_42 rfl rfl ?_
          refine vv_bipush (v := 7) C dX9_isCell_43 (by decide) ?_
          refine vv_icmp_ne C 52 dX9_isCell_45 (by decide) (fun h_27 => ?_) (fun h_28 => ?_)
          · refine vv_iconst (v := 0) C dX9_isCell_52 (by decide) ?_
            refine vv_iload_n C 0 dX9_isCell_53 rfl rfl ?_
            refine vv_bipush (v := 7) C dX9_isCell_54 (by decide) ?_
            refine vv_icmp_ne C 64 dX9_isCell_56 (by decide) (fun h_29 => ?_) (fun h_30 => ?_)
            · refine vv_iconst (v := 0) C dX9_isCell_64 (by decide) ?_
              refine vv_callSI C [.int z, .int 0, .int 0] (c_X9_in M z 0 0) (cwS 3 C.1.2.2.2.2 gX9_isCell_X9_in rfl rfl rfl (by decide +kernel) ⟨Nat.le_of_ble_eq_true rfl, Nat.le_of_ble_eq_true rfl⟩) rfl rfl rfl (Nat.le_of_ble_eq_true rfl) dX9_isCell_65 ⟨Nat.le_refl _, Nat.le_refl _⟩ ?_
              refine vv_bif_eq C 75 dX9_isCell_68 (by decide) (fun h_nz => ?_) (fun h_z => ?_)
              · refine vv_iconst (v := 0) C dX9_isCell_75 (by decide) ?_
                exact vv_zret0 C hR dX9_isCell_76 (qI_of (by (try rw [in00] at h_z); (try rw [in00] at h_nz); first | (simp [bI, conB, h_24, h_26, h_27, h_29, h_nz]; done) | (clear C hR hgf; simp_all [bI, conB]; done)) (rfl))
              · refine vv_iconst (v := 1) C dX9_isCell_71 (by decide) ?_
                refine vv_goto C 76 dX9_isCell_72 (by decide) ?_
                exact vv_zret1 C hR dX9_isCell_76 (qI_of (by (try rw [in00] at h_z); (try rw [in00] at h_nz); first | (simp [bI, conB, h_24, h_26, h_27, h_29, h_z]; done) | (clear C hR hgf; simp_all [bI, conB]; done)) (rfl))
            · refine vv_bipush (v := 99) C dX9_isCell_59 (by decide) ?_
              refine vv_goto C 65 dX9_isCell_61 (by decide) ?_
              refine vv_callSI C [.int z, .int 0, .int 99] (c_X9_in M z 0 99) (cwS 3 C.1.2.2.2.2 gX9_isCell_X9_in rfl rfl rfl (by decide +kernel) ⟨Nat.le_of_ble_eq_true rfl, Nat.le_of_ble_eq_true rfl⟩) rfl rfl rfl (Nat.le_of_ble_eq_true rfl) dX9_isCell_65 ⟨Nat.le_refl _, Nat.le_refl _⟩ ?_
              refine vv_bif_eq C 75 dX9_isCell_68 (by decide) (fun h_nz => ?_) (fun h_z => ?_)
              · refine vv_iconst (v := 0) C dX9_isCell_75 (by decide) ?_
                exact vv_zret0 C hR dX9_isCell_76 (qI_of (by (try rw [in00] at h_z); (try rw [in00] at h_nz); first | (simp [bI, conB, h_24, h_26, h_27, h_30, h_nz]; done) | (clear C hR hgf; simp_all [bI, conB]; done)) (rfl))
              · refine vv_iconst (v := 1) C dX9_isCell_71 (by decide) ?_
                refine vv_goto C 76 dX9_isCell_72 (by decide) ?_
                exact vv_zret1 C hR dX9_isCell_76 (qI_of (by (try rw [in00] at h_z); (try rw [in00] at h_nz); first | (simp [bI, conB, h_24, h_26, h_27, h_30, h_z]; done) | (clear C hR hgf; simp_all [bI, conB]; done)) (rfl))
          · refine vv_iload_n C 1 dX9_isCell_48 rfl rfl ?_
            refine vv_goto C 53 dX9_isCell_49 (by decide) ?_
            refine vv_iload_n C 0 dX9_isCell_53 rfl rfl ?_
            refine vv_bipush (v := 7) C dX9_isCell_54 (by decide) ?_
            refine vv_icmp_ne C 64 dX9_isCell_56 (by decide) (fun h_35 => ?_) (fun h_36 => ?_)
            · refine vv_iconst (v := 0) C dX9_isCell_64 (by decide) ?_
              refine vv_callSI C [.int z, .int y, .int 0] (c_X9_in M z y 0) (cwS 3 C.1.2.2.2.2 gX9_isCell_X9_in rfl rfl rfl (by decide +kernel) ⟨Nat.le_of_ble_eq_true rfl, Nat.le_of_ble_eq_true rfl⟩) rfl rfl rfl (Nat.le_of_ble_eq_true rfl) dX9_isCell_65 ⟨Nat.le_refl _, Nat.le_refl _⟩ ?_
              refine vv_bif_eq C 75 dX9_isCell_68 (by decide) (fun h_nz => ?_) (fun h_z => ?_)
              · refine vv_iconst (v := 0) C dX9_isCell_75 (by decide) ?_
                exact vv_zret0 C hR dX9_isCell_76 (qI_of (by (try rw [in00] at h_z); (try rw [in00] at h_nz); first | (simp [bI, conB, h_24, h_26, h_28, h_35, h_nz]; done) | (clear C hR hgf; simp_all [bI, conB]; done)) (rfl))
              · refine vv_iconst (v := 1) C dX9_isCell_71 (by decide) ?_
                refine vv_goto C 76 dX9_isCell_72 (by decide) ?_
                exact vv_zret1 C hR dX9_isCell_76 (qI_of (by (try rw [in00] at h_z); (try rw [in00] at h_nz); first | (simp [bI, conB, h_24, h_26, h_28, h_35, h_z]; done) | (clear C hR hgf; simp_all [bI, conB]; done)) (rfl))
            · refine vv_bipush (v := 99) C dX9_isCell_59 (by decide) ?_
              refine vv_goto C 65 dX9_isCell_61 (by decide) ?_
              refine vv_callSI C [.int z, .int y, .int 99] (c_X9_in M z y 99) (cwS 3 C.1.2.2.2.2 gX9_isCell_X9_in rfl rfl rfl (by decide +kernel) ⟨Nat.le_of_ble_eq_true rfl, Nat.le_of_ble_eq_true rfl⟩) rfl rfl rfl (Nat.le_of_ble_eq_true rfl) dX9_isCell_65 ⟨Nat.le_refl _, Nat.le_refl _⟩ ?_
              refine vv_bif_eq C 75 dX9_isCell_68 (by decide) (fun h_nz => ?_) (fun h_z => ?_)
              · refine vv_iconst (v := 0) C dX9_isCell_75 (by decide) ?_
                exact vv_zret0 C hR dX9_isCell_76 (qI_of (by (try rw [in00] at h_z); (try rw [in00] at h_nz); first | (simp [bI, conB, h_24, h_26, h_28, h_36, h_nz]; done) | (clear C hR hgf; simp_all [bI, conB]; done)) (rfl))
              · refine vv_iconst (v := 1) C dX9_isCell_71 (by decide) ?_
                refine vv_goto C 76 dX9_isCell_72 (by decide) ?_
                exact vv_zret1 C hR dX9_isCell_76 (qI_of (by (try rw [in00] at h_z); (try rw [in00] at h_nz); first | (simp [bI, conB, h_24, h_26, h_28, h_36, h_z]; done) | (clear C hR hgf; simp_all [bI, conB]; done)) (rfl))
  · refine vv_iconst (v := 3) C dX9_isCell_6 (by decide) ?_
    refine vv_goto C 21 dX9_isCell_7 (by decide) ?_
    refine vv_istore_n (ls2 := [some (.int x), some (.int y), some (.int z), some (.int 3)]) C 3 dX9_isCell_21 rfl (Nat.le_of_ble_eq_true rfl) rfl ?_
    have hgf : 3 = gfI x := by unfold gfI; rw [if_neg (fun z => z (le_t38 h_g8)), if_neg (fun z => z (Int32.not_lt.mp h_g8))]
    refine vv_loc (ls2 := [some (.int x), some (.int y), some (.int z), some (.int (gfI x))]) (by rw [hgf]) ?_
    refine vv_iload_n C 0 dX9_isCell_22 rfl rfl ?_
    refine vv_iconst (v := 0) C dX9_isCell_23 (by decide) ?_
    refine vv_bipush (v := 10) C dX9_isCell_24 (by decide) ?_
    refine vv_callSI C [.int x, .int 0, .int 10] (c_X9_in M x 0 10) (cwS 3 C.1.2.2.2.2 gX9_isCell_X9_in rfl rfl rfl (by decide +kernel) ⟨Nat.le_of_ble_eq_true rfl, Nat.le_of_ble_eq_true rfl⟩) rfl rfl rfl (Nat.le_of_ble_eq_true rfl) dX9_isCell_26 ⟨Nat.le_refl _, Nat.le_refl _⟩ ?_
    refine vv_bif_eq C 75 dX9_isCell_29 (by decide) (fun h_41 => ?_) (fun h_42 => ?_)
    · refine vv_iconst (v := 0) C dX9_isCell_75 (by decide) ?_
      exact vv_zret0 C hR dX9_isCell_76 (qI_of (by (try rw [in00] at h_z); (try rw [in00] at h_nz); first | (simp [bI, conB, h_41]; done) | (clear C hR hgf; simp_all [bI, conB]; done)) (rfl))
    · refine vv_iload_n C 1 dX9_isCell_32 rfl rfl ?_
      refine vv_iconst (v := 0) C dX9_isCell_33 (by decide) ?_
      refine vv_iload_n C 3 dX9_isCell_34 rfl rfl ?_
      refine vv_callSI C [.int y, .int 0, .int (gfI x)] (c_X9_in M y 0 (gfI x)) (cwS 3 C.1.2.2.2.2 gX9_isCell_X9_in rfl rfl rfl (by decide +kernel) ⟨Nat.le_of_ble_eq_true rfl, Nat.le_of_ble_eq_true rfl⟩) rfl rfl rfl (Nat.le_of_ble_eq_true rfl) dX9_isCell_35 ⟨Nat.le_refl _, Nat.le_refl _⟩ ?_
      refine vv_bif_eq C 75 dX9_isCell_38 (by decide) (fun h_43 => ?_) (fun h_44 => ?_)
      · refine vv_iconst (v := 0) C dX9_isCell_75 (by decide) ?_
        exact vv_zret0 C hR dX9_isCell_76 (qI_of (by (try rw [in00] at h_z); (try rw [in00] at h_nz); first | (simp [bI, conB, h_42, h_43]; done) | (clear C hR hgf; simp_all [bI, conB]; done)) (rfl))
      · refine vv_iload_n C 2 dX9_isCell_41 rfl rfl ?_
        refine vv_iload_n C 0 dX9_isCell_42 rfl rfl ?_
        refine vv_bipush (v := 7) C dX9_isCell_43 (by decide) ?_
        refine vv_icmp_ne C 52 dX9_isCell_45 (by decide) (fun h_45 => ?_) (fun h_46 => ?_)
        · refine vv_iconst (v := 0) C dX9_isCell_52 (by decide) ?_
          refine vv_iload_n C 0 dX9_isCell_53 rfl rfl ?_
          refine vv_bipush (v := 7) C dX9_isCell_54 (by decide) ?_
          refine vv_icmp_ne C 64 dX9_isCell_56 (by decide) (fun h_47 => ?_) (fun h_48 => ?_)
          · refine vv_iconst (v := 0) C dX9_isCell_64 (by decide) ?_
            refine vv_callSI C [.int z, .int 0, .int 0] (c_X9_in M z 0 0) (cwS 3 C.1.2.2.2.2 gX9_isCell_X9_in rfl rfl rfl (by decide +kernel) ⟨Nat.le_of_ble_eq_true rfl, Nat.le_of_ble_eq_true rfl⟩) rfl rfl rfl (Nat.le_of_ble_eq_true rfl) dX9_isCell_65 ⟨Nat.le_refl _, Nat.le_refl _⟩ ?_
            refine vv_bif_eq C 75 dX9_isCell_68 (by decide) (fun h_nz => ?_) (fun h_z => ?_)
            · refine vv_iconst (v := 0) C dX9_isCell_75 (by decide) ?_
              exact vv_zret0 C hR dX9_isCell_76 (qI_of (by (try rw [in00] at h_z); (try rw [in00] at h_nz); first | (simp [bI, conB, h_42, h_44, h_45, h_47, h_nz]; done) | (clear C hR hgf; simp_all [bI, conB]; done)) (rfl))
            · refine vv_iconst (v := 1) C dX9_isCell_71 (by decide) ?_
              refine vv_goto C 76 dX9_isCell_72 (by decide) ?_
              exact vv_zret1 C hR dX9_isCell_76 (qI_of (by (try rw [in00] at h_z); (try rw [in00] at h_nz); first | (simp [bI, conB, h_42, h_44, h_45, h_47, h_z]; done) | (clear C hR hgf; simp_all [bI, conB]; done)) (rfl))
          · refine vv_bipush (v := 99) C dX9_isCell_59 (by decide) ?_
            refine vv_goto C 65 dX9_isCell_61 (by decide) ?_
            refine vv_callSI C [.int z, .int 0, .int 99] (c_X9_in M z 0 99) (cwS 3 C.1.2.2.2.2 gX9_isCell_X9_in rfl rfl rfl (by decide +kernel) ⟨Nat.le_of_ble_eq_true rfl, Nat.le_of_ble_eq_true rfl⟩) rfl rfl rfl (Nat.le_of_ble_eq_true rfl) dX9_isCell_65 ⟨Nat.le_refl _, Nat.le_refl _⟩ ?_
            refine vv_bif_eq C 75 dX9_isCell_68 (by decide) (fun h_nz => ?_) (fun h_z => ?_)
            · refine vv_iconst (v := 0) C dX9_isCell_75 (by decide) ?_
              exact vv_zret0 C hR dX9_isCell_76 (qI_of (by (try rw [in00] at h_z); (try rw [in00] at h_nz); first | (simp [bI, conB, h_42, h_44, h_45, h_48, h_nz]; done) | (clear C hR hgf; simp_all [bI, conB]; done)) (rfl))
            · refine vv_iconst (v := 1) C dX9_isCell_71 (by decide) ?_
              refine vv_goto C 76 dX9_isCell_72 (by decide) ?_
              exact vv_zret1 C hR dX9_isCell_76 (qI_of (by (try rw [in00] at h_z); (try rw [in00] at h_nz); first | (simp [bI, conB, h_42, h_44, h_45, h_48, h_z]; done) | (clear C hR hgf; simp_all [bI, conB]; done)) (rfl))
        · refine vv_iload_n C 1 dX9_isCell_48 rfl rfl ?_
          refine vv_goto C 53 dX9_isCell_49 (by decide) ?_
          refine vv_iload_n C 0 dX9_isCell_53 rfl rfl ?_
          refine vv_bipush (v := 7) C dX9_isCell_54 (by decide) ?_
          refine vv_icmp_ne C 64 dX9_isCell_56 (by decide) (fun h_53 => ?_) (fun h_54 => ?_)
          · refine vv_iconst (v := 0) C dX9_isCell_64 (by decide) ?_
            refine vv_callSI C [.int z, .int y, .int 0] (c_X9_in M z y 0) (cwS 3 C.1.2.2.2.2 gX9_isCell_X9_in rfl rfl rfl (by decide +kernel) ⟨Nat.le_of_ble_eq_true rfl, Nat.le_of_ble_eq_true rfl⟩) rfl rfl rfl (Nat.le_of_ble_eq_true rfl) dX9_isCell_65 ⟨Nat.le_refl _, Nat.le_refl _⟩ ?_
            refine vv_bif_eq C 75 dX9_isCell_68 (by decide) (fun h_nz => ?_) (fun h_z => ?_)
            · refine vv_iconst (v := 0) C dX9_isCell_75 (by decide) ?_
              exact vv_zret0 C hR dX9_isCell_76 (qI_of (by (try rw [in00] at h_z); (try rw [in00] at h_nz); first | (simp [bI, conB, h_42, h_44, h_46, h_53, h_nz]; done) | (clear C hR hgf; simp_all [bI, conB]; done)) (rfl))
            · refine vv_iconst (v := 1) C dX9_isCell_71 (by decide) ?_
              refine vv_goto C 76 dX9_isCell_72 (by decide) ?_
              exact vv_zret1 C hR dX9_isCell_76 (qI_of (by (try rw [in00] at h_z); (try rw [in00] at h_nz); first | (simp [bI, conB, h_42, h_44, h_46, h_53, h_z]; done) | (clear C hR hgf; simp_all [bI, conB]; done)) (rfl))
          · refine vv_bipush (v := 99) C dX9_isCell_59 (by decide) ?_
            refine vv_goto C 65 dX9_isCell_61 (by decide) ?_
            refine vv_callSI C [.int z, .int y, .int 99] (c_X9_in M z y 99) (cwS 3 C.1.2.2.2.2 gX9_isCell_X9_in rfl rfl rfl (by decide +kernel) ⟨Nat.le_of_ble_eq_true rfl, Nat.le_of_ble_eq_true rfl⟩) rfl rfl rfl (Nat.le_of_ble_eq_true rfl) dX9_isCell_65 ⟨Nat.le_refl _, Nat.le_refl _⟩ ?_
            refine vv_bif_eq C 75 dX9_isCell_68 (by decide) (fun h_nz => ?_) (fun h_z => ?_)
            · refine vv_iconst (v := 0) C dX9_isCell_75 (by decide) ?_
              exact vv_zret0 C hR dX9_isCell_76 (qI_of (by (try rw [in00] at h_z); (try rw [in00] at h_nz); first | (simp [bI, conB, h_42, h_44, h_46, h_54, h_nz]; done) | (clear C hR hgf; simp_all [bI, conB]; done)) (rfl))
            · refine vv_iconst (v := 1) C dX9_isCell_71 (by decide) ?_
              refine vv_goto C 76 dX9_isCell_72 (by decide) ?_
              exact vv_zret1 C hR dX9_isCell_76 (qI_of (by (try rw [in00] at h_z); (try rw [in00] at h_nz); first | (simp [bI, conB, h_42, h_44, h_46, h_54, h_z]; done) | (clear C hR hgf; simp_all [bI, conB]; done)) (rfl))
set_option maxRecDepth 100000 in
set_option maxHeartbeats 4000000 in
theorem c_X9_cell {l : Launch} {G : mw_GG} (M V : mw_M) (hV : relO M V) (hw : wfV V) (hh : hiV V) (ht : txV V) (x g k a b : Int32) : mw_Met l yX9_cell wsX9_cell ({ frames := 2, cells := 0, slots := 0, locals := 45 } : Room) G [.ref (G.1 145), .int x, .int g, .int k, .int a, .int b] M (qIP (fun r M2 => r = (op_cell V x g k a b).1 ∧ relO M2 (op_cell V x g k a b).2 ∧ rfO M M2)) := by
  refine mw_ofV (cc := cX9_cell) 7 (by decide) rfl rfl (Nat.le_of_ble_eq_true rfl) ?_
  intro p e s m args below meth c C hR hN0
  refine vv_loc (ls2 := [some (.ref (G.1 145)), some (.int x), some (.int g), some (.int k), some (.int a), some (.int b), none]) rfl ?_
  have hR0 := hw.wfR
  have hdx := dN_lt x
  have hz : szP V (dN x) := szD hw x
  refine vv_iload_n C 1 dX9_cell_0 rfl rfl ?_
  refine vv_callSI C [.int x] (c_X9_isDrawer M x) (cwS 1 C.1.2.2.2.2 gX9_cell_X9_isDrawer rfl rfl rfl (by decide +kernel) ⟨Nat.le_of_ble_eq_true rfl, Nat.le_of_ble_eq_true rfl⟩) rfl rfl rfl (Nat.le_of_ble_eq_true rfl) dX9_cell_1 ⟨Nat.le_refl _, Nat.le_refl _⟩ ?_
  refine vv_bif_eq C 27 dX9_cell_4 (by decide) (fun h_nd => ?_) (fun h_d => ?_)
  · refine vv_bipush (v := (-11)) C dX9_cell_27 (by decide) ?_
    exact vv_iret C hR dX9_cell_29 (qIP_of (by rw [show op_cell V x g k a b = (-11, V) from if_neg (fun z => h_nd z.1.1)]; exact ⟨rfl, hV, rfO.rf⟩))
  · refine vv_aload_n C 0 dX9_cell_7 rfl rfl ?_
    refine vv_iload_n C 1 dX9_cell_8 rfl rfl ?_
    refine vv_iload_n C 2 dX9_cell_9 rfl rfl ?_
    refine vv_callVI C [.int x, .int g] (c_X9_isColumn M V hV.1 (d := (dN x)) (dN_lt x) (x := x) (dN_nI h_d) g) sh_145 rfl (cwV 2 C.1.2.2.2.2 gX9_cell_X9_isColumn rfl rfl rfl (by decide +kernel) ⟨Nat.le_of_ble_eq_true rfl, Nat.le_of_ble_eq_true rfl⟩) rfl rfl rfl (Nat.le_of_ble_eq_true rfl) dX9_cell_10 ⟨Nat.le_refl _, Nat.le_refl _⟩ ?_
    refine vv_bif_eq C 27 dX9_cell_13 (by decide) (fun h_ng => ?_) (fun h_g => ?_)
    · refine vv_bipush (v := (-11)) C dX9_cell_27 (by decide) ?_
      exact vv_iret C hR dX9_cell_29 (qIP_of (by rw [show op_cell V x g k a b = (-11, V) from if_neg (fun z => h_ng z.1.2)]; exact ⟨rfl, hV, rfO.rf⟩))
    · refine vv_iload_n C 3 dX9_cell_16 rfl rfl ?_
      refine vv_iload C 4 dX9_cell_17 rfl ?_
      refine vv_iload C 5 dX9_cell_19 rfl ?_
      refine vv_callSI C [.int k, .int a, .int b] (c_X9_isCell M k a b) (cwS 3 C.1.2.2.2.2 gX9_cell_X9_isCell rfl rfl rfl (by decide +kernel) ⟨Nat.le_of_ble_eq_true rfl, Nat.le_of_ble_eq_true rfl⟩) rfl rfl rfl (Nat.le_of_ble_eq_true rfl) dX9_cell_21 ⟨Nat.le_refl _, Nat.le_refl _⟩ ?_
      refine vv_bif_ne C 30 dX9_cell_24 (by decide) (fun h_c => ?_) (fun h_nc => ?_)
      · have hgn := hc_nI hz h_g
        refine vv_aload_n C 0 dX9_cell_30 rfl rfl ?_
        refine vv_callVVP C [] (c_X9_changes M V hV hh) sh_145 rfl (cwV 0 C.1.2.2.2.2 gX9_cell_X9_changes rfl rfl rfl (by decide +kernel) ⟨Nat.le_of_ble_eq_true rfl, Nat.le_of_ble_eq_true rfl⟩) rfl rfl rfl (Nat.le_of_ble_eq_true rfl) dX9_cell_31 ⟨Nat.le_refl _, Nat.le_refl _⟩ (fun M_7 h_8 => ?_)
        have hC := h_8
        refine vv_aload_n C 0 dX9_cell_34 rfl rfl ?_
        refine vv_iload_n C 1 dX9_cell_35 rfl rfl ?_
        refine vv_iload_n C 2 dX9_cell_36 rfl rfl ?_
        refine vv_iconst (v := 0) C dX9_cell_37 (by decide) ?_
        refine vv_callVI C [.int x, .int g, .int 0] (c_X9_cellAt M_7 (kpS V) hC.1.1 (d := (dN x)) (cc := g.toNatClampNeg) (w := 0) ⟨dN_lt x, hgn.2, by decide⟩ (x := x) (y := g) (z := 0) (dN_nI h_d) hgn.1 (by decide)) sh_145 rfl (cwV 3 C.1.2.2.2.2 gX9_cell_X9_cellAt rfl rfl rfl (by decide +kernel) ⟨Nat.le_of_ble_eq_true rfl, Nat.le_of_ble_eq_true rfl⟩) rfl rfl rfl (Nat.le_of_ble_eq_true rfl) dX9_cell_38 ⟨Nat.le_refl _, Nat.le_refl _⟩ ?_
        refine vv_top (y := V (100 + 12 * dN x + 3 * g.toNatClampNeg)) (kpS_lo (by omega)) ?_
        refine vv_istore (ls2 := [some (.ref (G.1 145)), some (.int x), some (.int g), some (.int k), some (.int a), some (.int b), some (.int (V (100 + 12 * dN x + 3 * g.toNatClampNeg)))]) C 6 dX9_cell_41 (Nat.le_of_ble_eq_true rfl) rfl ?_
        refine vv_aload_n C 0 dX9_cell_43 rfl rfl ?_
        refine vv_iload_n C 1 dX9_cell_44 rfl rfl ?_
        refine vv_iload_n C 2 dX9_cell_45 rfl rfl ?_
        refine vv_iload_n C 3 dX9_cell_46 rfl rfl ?_
        refine vv_iload C 4 dX9_cell_47 rfl ?_
        refine vv_iload C 5 dX9_cell_49 rfl ?_
        refine vv_callVV C [.int x, .int g, .int k, .int a, .int b] (c_X9_setsCell M_7 (d := (dN x)) (cc := g.toNatClampNeg) ⟨dN_lt x, hgn.2⟩ (x := x) (y := g) (dN_nI h_d) hgn.1 k a b) sh_145 rfl (cwV 5 C.1.2.2.2.2 gX9_cell_X9_setsCell rfl rfl rfl (by decide +kernel) ⟨Nat.le_of_ble_eq_true rfl, Nat.le_of_ble_eq_true rfl⟩) rfl rfl rfl (Nat.le_of_ble_eq_true rfl) dX9_cell_51 ⟨Nat.le_refl _, Nat.le_refl _⟩ ?_
        refine vv_iload C 6 dX9_cell_54 rfl ?_
        exact vv_iret C hR dX9_cell_56 (qIP_of (by rw [show op_cell V x g k a b = (V (100 + 12 * dN x + 3 * g.toNatClampNeg), upd (upd (upd (kpS V) (100 + 12 * dN x + 3 * g.toNatClampNeg) k) (100 + 12 * dN x + 1 + 3 * g.toNatClampNeg) a) (100 + 12 * dN x + 2 + 3 * g.toNatClampNeg) b) from if_pos ⟨⟨h_d, h_g⟩, h_c⟩]; exact ⟨rfl, (hC.1.cl hdx hgn.2).to cl_set, hC.2.cl⟩))
      · refine vv_bipush (v := (-11)) C dX9_cell_27 (by decide) ?_
        exact vv_iret C hR dX9_cell_29 (qIP_of (by rw [show op_cell V x g k a b = (-11, V) from if_neg (fun z => h_nc z.2)]; exact ⟨rfl, hV, rfO.rf⟩))
theorem iX9_both_X9 : ∀ w ∈ u_ws RX9 TX9 13, w ∈ wsX9_both := fun w hw => (List.mem_cons_of_mem _ (List.mem_append_right _ hw))
set_option maxRecDepth 100000 in
set_option maxHeartbeats 4000000 in
theorem c_X9_both {l : Launch} {G : mw_GG} (M V : mw_M) (hV : relO M V) (hw : wfV V) (hh : hiV V) (ht : txV V) (x : Int32) : mw_Met l yX9_both wsX9_both ({ frames := 1, cells := 0, slots := 0, locals := 22 } : Room) G [.ref (G.1 145), .int x] M (qIP (fun r M2 => r = (op_both V x).1 ∧ relO M2 (op_both V x).2 ∧ rfO M M2)) := by
  refine mw_ofV (cc := cX9_both) 3 (by decide) rfl rfl (Nat.le_of_ble_eq_true rfl) ?_
  intro p e s m args below meth c C hR hN0
  refine vv_loc (ls2 := [some (.ref (G.1 145)), some (.int x), none]) rfl ?_
  have hR0 := hw.wfR
  refine vv_iload_n C 1 dX9_both_0 rfl rfl ?_
  refine vv_iconst (v := 0) C dX9_both_1 (by decide) ?_
  refine vv_iconst (v := 1) C dX9_both_2 (by decide) ?_
  refine vv_callSI C [.int x, .int 0, .int 1] (c_X9_in M x 0 1) (cwS 3 C.1.2.2.2.2 gX9_both_X9_in rfl rfl rfl (by decide +kernel) ⟨Nat.le_of_ble_eq_true rfl, Nat.le_of_ble_eq_true rfl⟩) rfl rfl rfl (Nat.le_of_ble_eq_true rfl) dX9_both_3 ⟨Nat.le_refl _, Nat.le_refl _⟩ ?_
  refine vv_bif_ne C 12 dX9_both_6 (by decide) (fun h_b => ?_) (fun h_nb => ?_)
  · refine vv_aload_n C 0 dX9_both_12 rfl rfl ?_
    refine vv_callVVP C [] (c_X9_changes M V hV hh) sh_145 rfl (cwV 0 C.1.2.2.2.2 gX9_both_X9_changes rfl rfl rfl (by decide +kernel) ⟨Nat.le_of_ble_eq_true rfl, Nat.le_of_ble_eq_true rfl⟩) rfl rfl rfl (Nat.le_of_ble_eq_true rfl) dX9_both_13 ⟨Nat.le_refl _, Nat.le_refl _⟩ (fun M_3 h_4 => ?_)
    have hC := h_4
    refine vv_aload_n C 0 dX9_both_16 rfl rfl ?_
    refine vv_getr C (Cn := RX9) (T := TX9) (N := 13) sh_145 0 rfl rfl (by decide) iX9_both_X9 (List.mem_of_getElem? (i := 1) rfl) rfl dX9_both_17 ?_
    refine vv_bipush (v := 124) C dX9_both_20 (by decide) ?_
    refine vv_ald (j := 124) (q := 2124) C sh_146 (by decide) (by decide) rfl dX9_both_22 ?_
    refine vv_top (y := V 124) ((hC.1.1 124 (by omega)).trans (kpS_lo (by omega))) ?_
    refine vv_istore_n (ls2 := [some (.ref (G.1 145)), some (.int x), some (.int (V 124))]) C 2 dX9_both_23 rfl (Nat.le_of_ble_eq_true rfl) rfl ?_
    refine vv_aload_n C 0 dX9_both_24 rfl rfl ?_
    refine vv_getr C (Cn := RX9) (T := TX9) (N := 13) sh_145 0 rfl rfl (by decide) iX9_both_X9 (List.mem_of_getElem? (i := 1) rfl) rfl dX9_both_25 ?_
    refine vv_bipush (v := 124) C dX9_both_28 (by decide) ?_
    refine vv_iload_n C 1 dX9_both_30 rfl rfl ?_
    refine vv_ast (j := 124) (q := 2124) C sh_146 (by decide) (by decide) rfl dX9_both_31 ?_
    refine vv_iload_n C 2 dX9_both_32 rfl rfl ?_
    exact vv_iret C hR dX9_both_33 (qIP_of (by rw [show op_both V x = (V 124, upd (kpS V) 124 x) from if_pos (in_bit.mp h_b)]; exact ⟨rfl, hC.1.u (k := 124) (by omega), hC.2.u (k := 2124) (by omega)⟩))
  · refine vv_bipush (v := (-11)) C dX9_both_9 (by decide) ?_
    exact vv_iret C hR dX9_both_11 (qIP_of (by rw [show op_both V x = (-11, V) from if_neg (fun z => h_nb (in_bit.mpr z))]; exact ⟨rfl, hV, rfO.rf⟩))
theorem iX9_type_X9 : ∀ w ∈ u_ws RX9 TX9 13, w ∈ wsX9_type := fun w hw => (List.mem_cons_of_mem _ (List.mem_append_right _ hw))
set_option maxRecDepth 100000 in
set_option maxHeartbeats 4000000 in
theorem c_X9_type {l : Launch} {G : mw_GG} (M V : mw_M) (hV : relO M V) (hw : wfV V) (hh : hiV V) (ht : txV V) (x : Int32) : mw_Met l yX9_type wsX9_type ({ frames := 1, cells := 0, slots := 0, locals := 22 } : Room) G [.ref (G.1 145), .int x] M (qIP (fun r M2 => r = (op_type V x).1 ∧ relO M2 (op_type V x).2 ∧ rfO M M2)) := by
  refine mw_ofV (cc := cX9_type) 2 (by decide) rfl rfl (Nat.le_of_ble_eq_true rfl) ?_
  intro p e s m args below meth c C hR hN0
  refine vv_loc (ls2 := [some (.ref (G.1 145)), some (.int x)]) rfl ?_
  have hR0 := hw.wfR
  refine vv_iload_n C 1 dX9_type_0 rfl rfl ?_
  refine vv_bipush (v := 32) C dX9_type_1 (by decide) ?_
  refine vv_bipush (v := 126) C dX9_type_3 (by decide) ?_
  refine vv_callSI C [.int x, .int 32, .int 126] (c_X9_in M x 32 126) (cwS 3 C.1.2.2.2.2 gX9_type_X9_in rfl rfl rfl (by decide +kernel) ⟨Nat.le_of_ble_eq_true rfl, Nat.le_of_ble_eq_true rfl⟩) rfl rfl rfl (Nat.le_of_ble_eq_true rfl) dX9_type_5 ⟨Nat.le_refl _, Nat.le_refl _⟩ ?_
  refine vv_bif_ne C 14 dX9_type_8 (by decide) (fun h_in => ?_) (fun h_nin => ?_)
  · refine vv_aload_n C 0 dX9_type_14 rfl rfl ?_
    refine vv_geti C (Cn := RX9) (T := TX9) (N := 13) sh_145 4 rfl rfl (by decide) iX9_type_X9 (List.mem_of_getElem? (i := 1) rfl) rfl dX9_type_15 ?_
    refine vv_top (y := V 653) hV.2.2.1 ?_
    refine vv_bipush (v := 60) C dX9_type_18 (by decide) ?_
    refine vv_icmp_ne C 26 dX9_type_20 (by decide) (fun h_n60 => ?_) (fun h_60 => ?_)
    · have ht60 : tN V < 60 := by
        rcases Nat.lt_or_ge (tN V) 60 with z | z
        · exact z
        · exact absurd (by rw [ht.1, show tN V = 60 by have := ht.2; omega]; rfl) h_n60
      refine vv_aload_n C 0 dX9_type_26 rfl rfl ?_
      refine vv_getr C (Cn := RX9) (T := TX9) (N := 13) sh_145 3 rfl rfl (by decide) iX9_type_X9 (List.mem_of_getElem? (i := 2) rfl) rfl dX9_type_27 ?_
      refine vv_aload_n C 0 dX9_type_30 rfl rfl ?_
      refine vv_geti C (Cn := RX9) (T := TX9) (N := 13) sh_145 4 rfl rfl (by decide) iX9_type_X9 (List.mem_of_getElem? (i := 1) rfl) rfl dX9_type_31 ?_
      refine vv_iload_n C 1 dX9_type_34 rfl rfl ?_
      refine vv_ast (j := tN V) (q := 1200 + (tN V)) C sh_148 (hV.2.2.1.trans ht.1) ht60 (by omega) dX9_type_35 ?_
      refine vv_aload_n C 0 dX9_type_36 rfl rfl ?_
      refine vv_dup C dX9_type_37 rfl ?_
      refine vv_geti C (Cn := RX9) (T := TX9) (N := 13) sh_145 4 rfl rfl (by decide) iX9_type_X9 (List.mem_of_getElem? (i := 1) rfl) rfl dX9_type_38 ?_
      refine vv_top (y := nI (tN V)) (by rw [upd_o (by omega)]; exact hV.2.2.1.trans ht.1) ?_
      refine vv_iconst (v := 1) C dX9_type_41 (by decide) ?_
      refine vv_iadd C dX9_type_42 ?_
      refine vv_top (y := nI (tN V + 1)) (nI_1 _) ?_
      refine vv_putf C (Cn := RX9) (T := TX9) (N := 13) sh_145 4 rfl rfl (by decide) iX9_type_X9 (List.mem_of_getElem? (i := 1) rfl) rfl tyX9_ok nmX9 rfl rfl dX9_type_43 ?_
      refine vv_aload_n C 0 dX9_type_46 rfl rfl ?_
      refine vv_geti C (Cn := RX9) (T := TX9) (N := 13) sh_145 4 rfl rfl (by decide) iX9_type_X9 (List.mem_of_getElem? (i := 1) rfl) rfl dX9_type_47 ?_
      refine vv_top (y := nI (tN V + 1)) upd_s ?_
      exact vv_iret C hR dX9_type_50 (qIP_of (by rw [show op_type V x = (nI (tN V + 1), upd (upd V (1000 + tN V) x) 653 (nI (tN V + 1))) from (if_pos h_in).trans (if_pos (by rw [ht.1]; exact (t60_lt ht.2).mpr (by rw [← ht.1]; exact h_n60)))]; exact ⟨rfl, hV.ty hh ht60, (rfO.rf.u (by omega)).u (by omega)⟩))
    · refine vv_bipush (v := (-13)) C dX9_type_23 (by decide) ?_
      exact vv_iret C hR dX9_type_25 (qIP_of (by rw [show op_type V x = (-13, V) from (if_pos h_in).trans (if_neg (fun z => (t60_lt ht.2).mp (by rw [← ht.1]; exact z) (by rw [← ht.1]; exact h_60)))]; exact ⟨rfl, hV, rfO.rf⟩))
  · refine vv_bipush (v := (-11)) C dX9_type_11 (by decide) ?_
    exact vv_iret C hR dX9_type_13 (qIP_of (by rw [show op_type V x = (-11, V) from if_neg h_nin]; exact ⟨rfl, hV, rfO.rf⟩))
theorem iX9_clearText_X9 : ∀ w ∈ u_ws RX9 TX9 13, w ∈ wsX9_clearText := fun w hw => (List.mem_cons_of_mem _ (List.mem_append_right _ hw))
set_option maxRecDepth 100000 in
set_option maxHeartbeats 4000000 in
theorem c_X9_clearText {l : Launch} {G : mw_GG} (M V : mw_M) (hV : relO M V) (hw : wfV V) (hh : hiV V) (ht : txV V) : mw_Met l yX9_clearText wsX9_clearText ({ frames := 0, cells := 0, slots := 0, locals := 0 } : Room) G [.ref (G.1 145)] M (qIP (fun r M2 => r = (op_clearText V).1 ∧ relO M2 (op_clearText V).2 ∧ rfO M M2)) := by
  refine mw_ofV (cc := cX9_clearText) 2 (by decide) rfl rfl (Nat.le_of_ble_eq_true rfl) ?_
  intro p e s m args below meth c C hR hN0
  refine vv_loc (ls2 := [some (.ref (G.1 145)), none]) rfl ?_
  have hR0 := hw.wfR
  refine vv_aload_n C 0 dX9_clearText_0 rfl rfl ?_
  refine vv_geti C (Cn := RX9) (T := TX9) (N := 13) sh_145 4 rfl rfl (by decide) iX9_clearText_X9 (List.mem_of_getElem? (i := 1) rfl) rfl dX9_clearText_1 ?_
  refine vv_istore_n (ls2 := [some (.ref (G.1 145)), some (.int (M 1101))]) C 1 dX9_clearText_4 rfl (Nat.le_of_ble_eq_true rfl) rfl ?_
  refine vv_aload_n C 0 dX9_clearText_5 rfl rfl ?_
  refine vv_iconst (v := 0) C dX9_clearText_6 (by decide) ?_
  refine vv_putf C (Cn := RX9) (T := TX9) (N := 13) sh_145 4 rfl rfl (by decide) iX9_clearText_X9 (List.mem_of_getElem? (i := 1) rfl) rfl tyX9_ok nmX9 rfl rfl dX9_clearText_7 ?_
  refine vv_iload_n C 1 dX9_clearText_10 rfl rfl ?_
  exact vv_iret C hR dX9_clearText_11 (qIP_of ⟨hV.2.2.1, hV.ct hh, rfO.rf.u (by omega)⟩)
