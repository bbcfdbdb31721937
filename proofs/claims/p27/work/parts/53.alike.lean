theorem xs_at {X : va_W} {k : Nat} {x : Nat × va_E} (h : k < X.length) : (X.set k x)[k]? = some x := List.getElem?_set_self h
theorem xa_at {X Y : va_W} {x : Nat × va_E} : (X ++ x :: Y)[X.length]? = some x := by rw [List.getElem?_append_right (Nat.le_refl _), Nat.sub_self]; rfl
theorem xl_at {X Y : va_W} {k : Nat} {x : Nat × va_E} (h : X[k]? = some x) : (X ++ Y)[k]? = some x := by rw [List.getElem?_append_left (List.getElem?_eq_some_iff.mp h).1]; exact h
theorem xs_same {X : va_W} {k : Nat} {x : Nat × va_E} (h : X[k]? = some x) : X.set k x = X := by
  apply List.ext_getElem?
  intro i
  have hl := (List.getElem?_eq_some_iff.mp h).1
  by_cases e : i = k
  · subst e
    rw [List.getElem?_set_self hl, h]
  · rw [List.getElem?_set_ne (fun z => e z.symm)]
theorem xa_set {X : va_W} {x y : Nat × va_E} : (X ++ [x]).set X.length y = X ++ [y] := by
  rw [List.set_append_right _ _ (Nat.le_refl _), Nat.sub_self]
  rfl
theorem xl_set {X Y : va_W} {k : Nat} {y : Nat × va_E} (h : k < X.length) : (X ++ Y).set k y = X.set k y ++ Y := List.set_append_left _ _ h
theorem ord_nn {S : mw_M} (hw : wfV S) {w : Nat} (h2 : w < 2) (h : ¬ S (125 + 2 * w) < 0) : ∃ c, c < 8 ∧ S (125 + 2 * w) = nI c := by
  obtain ⟨z, -⟩ := hw.2.2.2.2.2.2 w h2
  rcases z with z | z
  · exact absurd (by rw [z]; decide) h
  · exact z
theorem shw_f {S : mw_M} {r q i : Nat} (h : ¬ ((S 129 >>> (nI i &&& 31)) &&& 1) = 1) : alqC S r q i = true := alqC_h (fun z => h z.2)
theorem alqC_e {S : mw_M} {r q i : Nat} (h : vS S i (r / 12) (r % 12) = vS S i (q / 12) (q % 12)) : alqC S r q i = true := by
  unfold alqC
  rw [decide_eq_true h, Bool.true_or]
theorem alqC_n {S : mw_M} {r q i : Nat} (h : ¬ vS S i (r / 12) (r % 12) = vS S i (q / 12) (q % 12)) (ha : askP S (nI i)) (hs : ((S 129 >>> (nI i &&& 31)) &&& 1) = 1) : ¬ alqC S r q i = true := by
  unfold alqC
  rw [decide_eq_false h, decide_eq_false (fun z => z ⟨ha, hs⟩)]
  decide
/-- what a letter stands for in a row, -14 if no cell tells it -/
def tlC (S : mw_M) (x f g n : Nat) : Int32 := if tlD (telP S 8 x) n < 8 then vS S (tlD (telP S 8 x) n) f g else -14
def tlV (S : mw_M) (x f g : Nat) : Int32 := tlC S x f g 8
def dcI : Nat → Int32
  | 0 => -1
  | n + 1 => nI n
theorem dcI_dec : ∀ i, nI i + Int32.ofInt (-1) = dcI i
  | 0 => by decide
  | i + 1 => pk_m1 i
theorem tlC_skip {S : mw_M} {x f g i : Nat} (hi : i < 8) (h : telP S 8 x i = false) : tlC S x f g (8 - i) = tlC S x f g (7 - i) := by
  unfold tlC
  rw [tlD_step _ hi, h]
  rfl
theorem tlC_hit {S : mw_M} {x f g i : Nat} (hi : i < 8) (h : telP S 8 x i = true) : tlC S x f g (8 - i) = vS S i f g := by
  unfold tlC
  rw [tlD_step _ hi, h]
  simp [hi]
theorem letter {S : mw_M} (hw : wfV S) {i : Nat} (hi : i < 8) (h : ¬ S (100 + 3 * i) < 8) : ∃ a, a < 4 ∧ S (101 + 3 * i) = nI a := hw.wfR.2.2 i hi h
theorem wS_tl {S : mw_M} (hw : wfV S) {x f g : Nat} (hf : f < 12) (hg : g < 12) : (tlV S x f g < 0 → wS S x f g = -1) ∧ (¬ tlV S x f g < 0 → wS S x f g = tlV S x f g ∧ ¬ wS S x f g = -1) := by
  unfold tlV tlC wS telS
  by_cases h : tlD (telP S 8 x) 8 < 8
  · have hv := vlP_vS hw h hf hg
    rw [if_pos h, if_pos h]
    exact ⟨fun z => (vl_neg hv).mp z, fun z => ⟨rfl, fun y => z ((vl_neg hv).mpr y)⟩⟩
  · rw [if_neg h, if_neg h]
    exact ⟨fun _ => rfl, fun z => absurd (by decide) z⟩
theorem fit_ge {S : mw_M} (hw : wfV S) {i f g a : Nat} (hi : i < 8) (h : ¬ S (100 + 3 * i) < 8) (ha : S (101 + 3 * i) = nI a) (ha4 : a < 4) (hf : f < 12) (hg : g < 12) : fitS S 8 i f g = true ↔ (¬ vS S i f g < 0 ∧ ¬ tlV S a f g < 0 ∧ (S (100 + 3 * i) = 8 → vS S i f g = tlV S a f g) ∧ (S (100 + 3 * i) = 9 → vS S i f g < tlV S a f g) ∧ (¬ S (100 + 3 * i) = 8 → ¬ S (100 + 3 * i) = 9 → tlV S a f g < vS S i f g)) := by
  have hv := vlP_vS hw hi hf hg
  have ht := wS_tl hw (x := a) hf hg
  rw [fit_hi h ha ha4, vl_neg hv]
  by_cases z : tlV S a f g < 0
  · rw [ht.1 z]
    constructor
    · intro y
      simp at y
    · rintro ⟨-, y, -⟩
      exact absurd z y
  · obtain ⟨e1, e2⟩ := ht.2 z
    rw [← e1]
    rw [← e1] at z
    simp only [Bool.and_eq_true, decide_eq_true_eq, e2, not_false_eq_true, true_and]
    by_cases k8 : S (100 + 3 * i) = 8
    · rw [k8]
      simp [z]
    · by_cases k9 : S (100 + 3 * i) = 9
      · rw [k9]
        simp [z, ← Int32.not_le]
      · rw [if_neg k8, if_neg k9]
        simp [z, k8, k9, ← Int32.not_le]
theorem fit_lt {S : mw_M} {lo i f g : Nat} (h : S (100 + 3 * i) < 8) : fitS S lo i f g = tkB (S (100 + 3 * i)) (S (101 + 3 * i)) (S (102 + 3 * i)) (vS S i f g) := by
  unfold fitS
  rw [if_pos h]

set_option maxRecDepth 100000 in
set_option maxHeartbeats 4000000 in
theorem c_L_ahead {l : Launch} {G : mw_GG} (M S : mw_M) (hr : lrel M S) (hw : wfV S) {p0 q0 : Nat} (hp : p0 < 144) (hq : q0 < 144) (hv : valP S (p0 / 12) (p0 % 12)) (hv2 : valP S (q0 / 12) (q0 % 12)) : mw_Met l yL_ahead wsL_ahead ({ frames := 2, cells := 0, slots := 0, locals := 46 } : Room) G [.ref (G.1 145), .ref (G.1 146), .int (nI p0), .int (nI q0)] M (qI (bI (ahL S p0 q0 = true)) M) := by
  refine mw_ofV (cc := cL_ahead) 6 (by decide) rfl rfl (Nat.le_of_ble_eq_true rfl) ?_
  intro p e s m args below meth c C hR hN0
  refine vv_loc (ls2 := [some (.ref (G.1 145)), some (.ref (G.1 146)), some (.int (nI p0)), some (.int (nI q0)), none, none]) rfl ?_
  refine vv_iconst (v := 5) C dL_ahead_0 (by decide) ?_
  refine vv_istore (ls2 := [some (.ref (G.1 145)), some (.ref (G.1 146)), some (.int (nI p0)), some (.int (nI q0)), some (.int 5), none]) C 4 dL_ahead_1 (Nat.le_of_ble_eq_true rfl) rfl ?_
  refine vv_iload C 4 dL_ahead_3 rfl ?_
  refine vv_bipush (v := 9) C dL_ahead_5 (by decide) ?_
  refine vv_ncmp_ge C 5 9 108 dL_ahead_7 (by decide) (by decide) (by decide) (fun h_1 => absurd h_1 (by decide)) (fun h_2 => ?_)
  refine vv_aload_n C 0 dL_ahead_10 rfl rfl ?_
  refine vv_iload C 4 dL_ahead_11 rfl ?_
  refine vv_ald (j := 5) (q := 1105) C sh_145 rfl (by decide) rfl dL_ahead_13 ?_
  refine vv_top (y := S 125) (hr.1.2.2.1 0 (by omega)) ?_
  refine vv_if_lt C 102 dL_ahead_14 (by decide) (fun h_neg0 => ?_) (fun h_nn0 => ?_)
  · have hz0 : byS S 0 (p0 / 12) (p0 % 12) (q0 / 12) (q0 % 12) = 0 := by_na (ask_neg h_neg0)
    refine vv_iinc (v := 7) (ls2 := [some (.ref (G.1 145)), some (.ref (G.1 146)), some (.int (nI p0)), some (.int (nI q0)), some (.int 7), none]) C 4 dL_ahead_102 rfl (by decide) rfl ?_
    refine vv_goto C 3 dL_ahead_105 (by decide) ?_
    refine vv_iload C 4 dL_ahead_3 rfl ?_
    refine vv_bipush (v := 9) C dL_ahead_5 (by decide) ?_
    refine vv_ncmp_ge C 7 9 108 dL_ahead_7 (by decide) (by decide) (by decide) (fun h_5 => absurd h_5 (by decide)) (fun h_6 => ?_)
    refine vv_aload_n C 0 dL_ahead_10 rfl rfl ?_
    refine vv_iload C 4 dL_ahead_11 rfl ?_
    refine vv_ald (j := 7) (q := 1107) C sh_145 rfl (by decide) rfl dL_ahead_13 ?_
    refine vv_top (y := S 127) (hr.1.2.2.1 2 (by omega)) ?_
    refine vv_if_lt C 102 dL_ahead_14 (by decide) (fun h_neg1 => ?_) (fun h_nn1 => ?_)
    · have hz1 : byS S 1 (p0 / 12) (p0 % 12) (q0 / 12) (q0 % 12) = 0 := by_na (ask_neg h_neg1)
      refine vv_iinc (v := 9) (ls2 := [some (.ref (G.1 145)), some (.ref (G.1 146)), some (.int (nI p0)), some (.int (nI q0)), some (.int 9), none]) C 4 dL_ahead_102 rfl (by decide) rfl ?_
      refine vv_goto C 3 dL_ahead_105 (by decide) ?_
      refine vv_iload C 4 dL_ahead_3 rfl ?_
      refine vv_bipush (v := 9) C dL_ahead_5 (by decide) ?_
      refine vv_ncmp_ge C 9 9 108 dL_ahead_7 (by decide) (by decide) (by decide) (fun h_10 => ?_) (fun h_9 => absurd h_9 (by decide))
      refine vv_iload_n C 2 dL_ahead_108 rfl rfl ?_
      refine vv_iload_n C 3 dL_ahead_109 rfl rfl ?_
      refine vv_ncmp_ge C p0 q0 117 dL_ahead_110 (by decide) (by omega) (by omega) (fun h_qp => ?_) (fun h_pq => ?_)
      · refine vv_iconst (v := 0) C dL_ahead_117 (by decide) ?_
        exact vv_zret0 C hR dL_ahead_118 (qI_of (by unfold ahL; rw [if_pos hz0, if_pos hz1]; exact (bI_f (fun z => absurd (z.symm.trans (decide_eq_false (by omega))) (by decide))).symm) rfl)
      · refine vv_iconst (v := 1) C dL_ahead_113 (by decide) ?_
        refine vv_goto C 118 dL_ahead_114 (by decide) ?_
        exact vv_zret1 C hR dL_ahead_118 (qI_of (by unfold ahL; rw [if_pos hz0, if_pos hz1]; exact (bI_t (decide_eq_true h_pq)).symm) rfl)
    · obtain ⟨k1, hk1, e1⟩ := ord_nn hw (w := 1) (by omega) h_nn1
      refine vv_aload_n C 0 dL_ahead_17 rfl rfl ?_
      refine vv_aload_n C 0 dL_ahead_18 rfl rfl ?_
      refine vv_iload C 4 dL_ahead_19 rfl ?_
      refine vv_ald (j := 7) (q := 1107) C sh_145 rfl (by decide) rfl dL_ahead_21 ?_
      refine vv_top (y := nI k1) ((hr.1.2.2.1 2 (by omega)).trans e1) ?_
      refine vv_callSI C [.ref (G.1 145), .int (nI k1)] (c_L_asked M S hr (i := k1) (by omega)) (cwS 2 C.1.2.2.2.2 gL_ahead_L_asked rfl rfl rfl (by decide +kernel) ⟨Nat.le_of_ble_eq_true rfl, Nat.le_of_ble_eq_true rfl⟩) rfl rfl rfl (Nat.le_of_ble_eq_true rfl) dL_ahead_22 ⟨Nat.le_refl _, Nat.le_refl _⟩ ?_
      refine vv_bif_eq C 102 dL_ahead_25 (by decide) (fun h_na1 => ?_) (fun h_a1 => ?_)
      · have hz1 : byS S 1 (p0 / 12) (p0 % 12) (q0 / 12) (q0 % 12) = 0 := by_na (fun z => h_na1 (e1 ▸ z))
        refine vv_iinc (v := 9) (ls2 := [some (.ref (G.1 145)), some (.ref (G.1 146)), some (.int (nI p0)), some (.int (nI q0)), some (.int 9), none]) C 4 dL_ahead_102 rfl (by decide) rfl ?_
        refine vv_goto C 3 dL_ahead_105 (by decide) ?_
        refine vv_iload C 4 dL_ahead_3 rfl ?_
        refine vv_bipush (v := 9) C dL_ahead_5 (by decide) ?_
        refine vv_ncmp_ge C 9 9 108 dL_ahead_7 (by decide) (by decide) (by decide) (fun h_16 => ?_) (fun h_15 => absurd h_15 (by decide))
        refine vv_iload_n C 2 dL_ahead_108 rfl rfl ?_
        refine vv_iload_n C 3 dL_ahead_109 rfl rfl ?_
        refine vv_ncmp_ge C p0 q0 117 dL_ahead_110 (by decide) (by omega) (by omega) (fun h_qp => ?_) (fun h_pq => ?_)
        · refine vv_iconst (v := 0) C dL_ahead_117 (by decide) ?_
          exact vv_zret0 C hR dL_ahead_118 (qI_of (by unfold ahL; rw [if_pos hz0, if_pos hz1]; exact (bI_f (fun z => absurd (z.symm.trans (decide_eq_false (by omega))) (by decide))).symm) rfl)
        · refine vv_iconst (v := 1) C dL_ahead_113 (by decide) ?_
          refine vv_goto C 118 dL_ahead_114 (by decide) ?_
          exact vv_zret1 C hR dL_ahead_118 (qI_of (by unfold ahL; rw [if_pos hz0, if_pos hz1]; exact (bI_t (decide_eq_true h_pq)).symm) rfl)
      · refine vv_aload_n C 1 dL_ahead_28 rfl rfl ?_
        refine vv_iload_n C 2 dL_ahead_29 rfl rfl ?_
        refine vv_bipush (v := 12) C dL_ahead_30 (by decide) ?_
        refine vv_idiv C dL_ahead_32 (by decide) ?_
        refine vv_top (y := nI (p0 / 12)) (pk_div (a := p0) (d := 12) (by omega) (by omega) (by omega)) ?_
        refine vv_iload_n C 2 dL_ahead_33 rfl rfl ?_
        refine vv_bipush (v := 12) C dL_ahead_34 (by decide) ?_
        refine vv_irem C dL_ahead_36 (by decide) ?_
        refine vv_top (y := nI (p0 % 12)) (pk_rem (a := p0) (d := 12) (by omega) (by omega) (by omega)) ?_
        refine vv_aload_n C 0 dL_ahead_37 rfl rfl ?_
        refine vv_iload C 4 dL_ahead_38 rfl ?_
        refine vv_ald (j := 7) (q := 1107) C sh_145 rfl (by decide) rfl dL_ahead_40 ?_
        refine vv_top (y := nI k1) ((hr.1.2.2.1 2 (by omega)).trans e1) ?_
        refine vv_callSI C [.ref (G.1 146), .int (nI (p0 / 12)), .int (nI (p0 % 12)), .int (nI k1)] (c_L_of M S hr (i := k1) (f := p0 / 12) (g := p0 % 12) (by omega) (hv.cd h_a1 hk1)) (cwS 4 C.1.2.2.2.2 gL_ahead_L_of rfl rfl rfl (by decide +kernel) ⟨Nat.le_of_ble_eq_true rfl, Nat.le_of_ble_eq_true rfl⟩) rfl rfl rfl (Nat.le_of_ble_eq_true rfl) dL_ahead_41 ⟨Nat.le_refl _, Nat.le_refl _⟩ ?_
        refine vv_aload_n C 1 dL_ahead_44 rfl rfl ?_
        refine vv_iload_n C 3 dL_ahead_45 rfl rfl ?_
        refine vv_bipush (v := 12) C dL_ahead_46 (by decide) ?_
        refine vv_idiv C dL_ahead_48 (by decide) ?_
        refine vv_top (y := nI (q0 / 12)) (pk_div (a := q0) (d := 12) (by omega) (by omega) (by omega)) ?_
        refine vv_iload_n C 3 dL_ahead_49 rfl rfl ?_
        refine vv_bipush (v := 12) C dL_ahead_50 (by decide) ?_
        refine vv_irem C dL_ahead_52 (by decide) ?_
        refine vv_top (y := nI (q0 % 12)) (pk_rem (a := q0) (d := 12) (by omega) (by omega) (by omega)) ?_
        refine vv_aload_n C 0 dL_ahead_53 rfl rfl ?_
        refine vv_iload C 4 dL_ahead_54 rfl ?_
        refine vv_ald (j := 7) (q := 1107) C sh_145 rfl (by decide) rfl dL_ahead_56 ?_
        refine vv_top (y := nI k1) ((hr.1.2.2.1 2 (by omega)).trans e1) ?_
        refine vv_callSI C [.ref (G.1 146), .int (nI (q0 / 12)), .int (nI (q0 % 12)), .int (nI k1)] (c_L_of M S hr (i := k1) (f := q0 / 12) (g := q0 % 12) (by omega) (hv2.cd h_a1 hk1)) (cwS 4 C.1.2.2.2.2 gL_ahead_L_of rfl rfl rfl (by decide +kernel) ⟨Nat.le_of_ble_eq_true rfl, Nat.le_of_ble_eq_true rfl⟩) rfl rfl rfl (Nat.le_of_ble_eq_true rfl) dL_ahead_57 ⟨Nat.le_refl _, Nat.le_refl _⟩ ?_
        refine vv_isub C dL_ahead_60 ?_
        refine vv_top (y := byS S 1 (p0 / 12) (p0 % 12) (q0 / 12) (q0 % 12)) ((by_a e1 hk1 h_a1).symm) ?_
        refine vv_istore (ls2 := [some (.ref (G.1 145)), some (.ref (G.1 146)), some (.int (nI p0)), some (.int (nI q0)), some (.int 7), some (.int (byS S 1 (p0 / 12) (p0 % 12) (q0 / 12) (q0 % 12)))]) C 5 dL_ahead_61 (Nat.le_of_ble_eq_true rfl) rfl ?_
        refine vv_iload C 5 dL_ahead_63 rfl ?_
        refine vv_if_eq C 102 dL_ahead_65 (by decide) (fun h_z1 => ?_) (fun h_by1 => ?_)
        · have hz1 : byS S 1 (p0 / 12) (p0 % 12) (q0 / 12) (q0 % 12) = 0 := h_z1
          refine vv_iinc (v := 9) (ls2 := [some (.ref (G.1 145)), some (.ref (G.1 146)), some (.int (nI p0)), some (.int (nI q0)), some (.int 9), some (.int (byS S 1 (p0 / 12) (p0 % 12) (q0 / 12) (q0 % 12)))]) C 4 dL_ahead_102 rfl (by decide) rfl ?_
          refine vv_goto C 3 dL_ahead_105 (by decide) ?_
          refine vv_iload C 4 dL_ahead_3 rfl ?_
          refine vv_bipush (v := 9) C dL_ahead_5 (by decide) ?_
          refine vv_ncmp_ge C 9 9 108 dL_ahead_7 (by decide) (by decide) (by decide) (fun h_22 => ?_) (fun h_21 => absurd h_21 (by decide))
          refine vv_iload_n C 2 dL_ahead_108 rfl rfl ?_
          refine vv_iload_n C 3 dL_ahead_109 rfl rfl ?_
          refine vv_ncmp_ge C p0 q0 117 dL_ahead_110 (by decide) (by omega) (by omega) (fun h_qp => ?_) (fun h_pq => ?_)
          · refine vv_iconst (v := 0) C dL_ahead_117 (by decide) ?_
            exact vv_zret0 C hR dL_ahead_118 (qI_of (by unfold ahL; rw [if_pos hz0, if_pos hz1]; exact (bI_f (fun z => absurd (z.symm.trans (decide_eq_false (by omega))) (by decide))).symm) rfl)
          · refine vv_iconst (v := 1) C dL_ahead_113 (by decide) ?_
            refine vv_goto C 118 dL_ahead_114 (by decide) ?_
            exact vv_zret1 C hR dL_ahead_118 (qI_of (by unfold ahL; rw [if_pos hz0, if_pos hz1]; exact (bI_t (decide_eq_true h_pq)).symm) rfl)
        · refine vv_aload_n C 0 dL_ahead_68 rfl rfl ?_
          refine vv_iload C 4 dL_ahead_69 rfl ?_
          refine vv_iconst (v := 1) C dL_ahead_71 (by decide) ?_
          refine vv_iadd C dL_ahead_72 ?_
          refine vv_top (y := 8) (by decide) ?_
          refine vv_ald (j := 8) (q := 1108) C sh_145 rfl (by decide) rfl dL_ahead_73 ?_
          refine vv_top (y := S 128) (hr.1.2.2.1 3 (by omega)) ?_
          refine vv_iconst (v := 1) C dL_ahead_74 (by decide) ?_
          refine vv_icmp_ne C 91 dL_ahead_75 (by decide) (fun h_up1 => ?_) (fun h_dn1 => ?_)
          · refine vv_iload C 5 dL_ahead_91 rfl ?_
            refine vv_if_ge C 100 dL_ahead_93 (by decide) (fun h_27 => ?_) (fun h_28 => ?_)
            · refine vv_iconst (v := 0) C dL_ahead_100 (by decide) ?_
              exact vv_zret0 C hR dL_ahead_101 (qI_of (by unfold ahL; rw [if_pos hz0, if_neg h_by1]; exact (bI_f (fun z => absurd (z.symm.trans ((if_neg h_up1).trans (decide_eq_false (fun z => z h_27)))) (by decide))).symm) rfl)
            · refine vv_iconst (v := 1) C dL_ahead_96 (by decide) ?_
              refine vv_goto C 101 dL_ahead_97 (by decide) ?_
              exact vv_zret1 C hR dL_ahead_101 (qI_of (by unfold ahL; rw [if_pos hz0, if_neg h_by1]; exact (bI_t ((if_neg h_up1).trans (decide_eq_true h_28))).symm) rfl)
          · refine vv_iload C 5 dL_ahead_78 rfl ?_
            refine vv_if_le C 87 dL_ahead_80 (by decide) (fun h_29 => ?_) (fun h_30 => ?_)
            · refine vv_iconst (v := 0) C dL_ahead_87 (by decide) ?_
              refine vv_goto C 101 dL_ahead_88 (by decide) ?_
              exact vv_zret0 C hR dL_ahead_101 (qI_of (by unfold ahL; rw [if_pos hz0, if_neg h_by1]; exact (bI_f (fun z => absurd (z.symm.trans ((if_pos h_dn1).trans (decide_eq_false (fun z => z h_29)))) (by decide))).symm) rfl)
            · refine vv_iconst (v := 1) C dL_ahead_83 (by decide) ?_
              refine vv_goto C 101 dL_ahead_84 (by decide) ?_
              exact vv_zret1 C hR dL_ahead_101 (qI_of (by unfold ahL; rw [if_pos hz0, if_neg h_by1]; exact (bI_t ((if_pos h_dn1).trans (decide_eq_true h_30))).symm) rfl)
  · obtain ⟨k0, hk0, e0⟩ := ord_nn hw (w := 0) (by omega) h_nn0
    refine vv_aload_n C 0 dL_ahead_17 rfl rfl ?_
    refine vv_aload_n C 0 dL_ahead_18 rfl rfl ?_
    refine vv_iload C 4 dL_ahead_19 rfl ?_
    refine vv_ald (j := 5) (q := 1105) C sh_145 rfl (by decide) rfl dL_ahead_21 ?_
    refine vv_top (y := nI k0) ((hr.1.2.2.1 0 (by omega)).trans e0) ?_
    refine vv_callSI C [.ref (G.1 145), .int (nI k0)] (c_L_asked M S hr (i := k0) (by omega)) (cwS 2 C.1.2.2.2.2 gL_ahead_L_asked rfl rfl rfl (by decide +kernel) ⟨Nat.le_of_ble_eq_true rfl, Nat.le_of_ble_eq_true rfl⟩) rfl rfl rfl (Nat.le_of_ble_eq_true rfl) dL_ahead_22 ⟨Nat.le_refl _, Nat.le_refl _⟩ ?_
    refine vv_bif_eq C 102 dL_ahead_25 (by decide) (fun h_na0 => ?_) (fun h_a0 => ?_)
    · have hz0 : byS S 0 (p0 / 12) (p0 % 12) (q0 / 12) (q0 % 12) = 0 := by_na (fun z => h_na0 (e0 ▸ z))
      refine vv_iinc (v := 7) (ls2 := [some (.ref (G.1 145)), some (.ref (G.1 146)), some (.int (nI p0)), some (.int (nI q0)), some (.int 7), none]) C 4 dL_ahead_102 rfl (by decide) rfl ?_
      refine vv_goto C 3 dL_ahead_105 (by decide) ?_
      refine vv_iload C 4 dL_ahead_3 rfl ?_
      refine vv_bipush (v := 9) C dL_ahead_5 (by decide) ?_
      refine vv_ncmp_ge C 7 9 108 dL_ahead_7 (by decide) (by decide) (by decide) (fun h_33 => absurd h_33 (by decide)) (fun h_34 => ?_)
      refine vv_aload_n C 0 dL_ahead_10 rfl rfl ?_
      refine vv_iload C 4 dL_ahead_11 rfl ?_
      refine vv_ald (j := 7) (q := 1107) C sh_145 rfl (by decide) rfl dL_ahead_13 ?_
      refine vv_top (y := S 127) (hr.1.2.2.1 2 (by omega)) ?_
      refine vv_if_lt C 102 dL_ahead_14 (by decide) (fun h_neg1 => ?_) (fun h_nn1 => ?_)
      · have hz1 : byS S 1 (p0 / 12) (p0 % 12) (q0 / 12) (q0 % 12) = 0 := by_na (ask_neg h_neg1)
        refine vv_iinc (v := 9) (ls2 := [some (.ref (G.1 145)), some (.ref (G.1 146)), some (.int (nI p0)), some (.int (nI q0)), some (.int 9), none]) C 4 dL_ahead_102 rfl (by decide) rfl ?_
        refine vv_goto C 3 dL_ahead_105 (by decide) ?_
        refine vv_iload C 4 dL_ahead_3 rfl ?_
        refine vv_bipush (v := 9) C dL_ahead_5 (by decide) ?_
        refine vv_ncmp_ge C 9 9 108 dL_ahead_7 (by decide) (by decide) (by decide) (fun h_38 => ?_) (fun h_37 => absurd h_37 (by decide))
        refine vv_iload_n C 2 dL_ahead_108 rfl rfl ?_
        refine vv_iload_n C 3 dL_ahead_109 rfl rfl ?_
        refine vv_ncmp_ge C p0 q0 117 dL_ahead_110 (by decide) (by omega) (by omega) (fun h_qp => ?_) (fun h_pq => ?_)
        · refine vv_iconst (v := 0) C dL_ahead_117 (by decide) ?_
          exact vv_zret0 C hR dL_ahead_118 (qI_of (by unfold ahL; rw [if_pos hz0, if_pos hz1]; exact (bI_f (fun z => absurd (z.symm.trans (decide_eq_false (by omega))) (by decide))).symm) rfl)
        · refine vv_iconst (v := 1) C dL_ahead_113 (by decide) ?_
          refine vv_goto C 118 dL_ahead_114 (by decide) ?_
          exact vv_zret1 C hR dL_ahead_118 (qI_of (by unfold ahL; rw [if_pos hz0, if_pos hz1]; exact (bI_t (decide_eq_true h_pq)).symm) rfl)
      · obtain ⟨k1, hk1, e1⟩ := ord_nn hw (w := 1) (by omega) h_nn1
        refine vv_aload_n C 0 dL_ahead_17 rfl rfl ?_
        refine vv_aload_n C 0 dL_ahead_18 rfl rfl ?_
        refine vv_iload C 4 dL_ahead_19 rfl ?_
        refine vv_ald (j := 7) (q := 1107) C sh_145 rfl (by decide) rfl dL_ahead_21 ?_
        refine vv_top (y := nI k1) ((hr.1.2.2.1 2 (by omega)).trans e1) ?_
        refine vv_callSI C [.ref (G.1 145), .int (nI k1)] (c_L_asked M S hr (i := k1) (by omega)) (cwS 2 C.1.2.2.2.2 gL_ahead_L_asked rfl rfl rfl (by decide +kernel) ⟨Nat.le_of_ble_eq_true rfl, Nat.le_of_ble_eq_true rfl⟩) rfl rfl rfl (Nat.le_of_ble_eq_true rfl) dL_ahead_22 ⟨Nat.le_refl _, Nat.le_refl _⟩ ?_
        refine vv_bif_eq C 102 dL_ahead_25 (by decide) (fun h_na1 => ?_) (fun h_a1 => ?_)
        · have hz1 : byS S 1 (p0 / 12) (p0 % 12) (q0 / 12) (q0 % 12) = 0 := by_na (fun z => h_na1 (e1 ▸ z))
          refine vv_iinc (v := 9) (ls2 := [some (.ref (G.1 145)), some (.ref (G.1 146)), some (.int (nI p0)), some (.int (nI q0)), some (.int 9), none]) C 4 dL_ahead_102 rfl (by decide) rfl ?_
          refine vv_goto C 3 dL_ahead_105 (by decide) ?_
          refine vv_iload C 4 dL_ahead_3 rfl ?_
          refine vv_bipush (v := 9) C dL_ahead_5 (by decide) ?_
          refine vv_ncmp_ge C 9 9 108 dL_ahead_7 (by decide) (by decide) (by decide) (fun h_44 => ?_) (fun h_43 => absurd h_43 (by decide))
          refine vv_iload_n C 2 dL_ahead_108 rfl rfl ?_
          refine vv_iload_n C 3 dL_ahead_109 rfl rfl ?_
          refine vv_ncmp_ge C p0 q0 117 dL_ahead_110 (by decide) (by omega) (by omega) (fun h_qp => ?_) (fun h_pq => ?_)
          · refine vv_iconst (v := 0) C dL_ahead_117 (by decide) ?_
            exact vv_zret0 C hR dL_ahead_118 (qI_of (by unfold ahL; rw [if_pos hz0, if_pos hz1]; exact (bI_f (fun z => absurd (z.symm.trans (decide_eq_false (by omega))) (by decide))).symm) rfl)
          · refine vv_iconst (v := 1) C dL_ahead_113 (by decide) ?_
            refine vv_goto C 118 dL_ahead_114 (by decide) ?_
            exact vv_zret1 C hR dL_ahead_118 (qI_of (by unfold ahL; rw [if_pos hz0, if_pos hz1]; exact (bI_t (decide_eq_true h_pq)).symm) rfl)
        · refine vv_aload_n C 1 dL_ahead_28 rfl rfl ?_
          refine vv_iload_n C 2 dL_ahead_29 rfl rfl ?_
          refine vv_bipush (v := 12) C dL_ahead_30 (by decide) ?_
          refine vv_idiv C dL_ahead_32 (by decide) ?_
          refine vv_top (y := nI (p0 / 12)) (pk_div (a := p0) (d := 12) (by omega) (by omega) (by omega)) ?_
          refine vv_iload_n C 2 dL_ahead_33 rfl rfl ?_
          refine vv_bipush (v := 12) C dL_ahead_34 (by decide) ?_
          refine vv_irem C dL_ahead_36 (by decide) ?_
          refine vv_top (y := nI (p0 % 12)) (pk_rem (a := p0) (d := 12) (by omega) (by omega) (by omega)) ?_
          refine vv_aload_n C 0 dL_ahead_37 rfl rfl ?_
          refine vv_iload C 4 dL_ahead_38 rfl ?_
          refine vv_ald (j := 7) (q := 1107) C sh_145 rfl (by decide) rfl dL_ahead_40 ?_
          refine vv_top (y := nI k1) ((hr.1.2.2.1 2 (by omega)).trans e1) ?_
          refine vv_callSI C [.ref (G.1 146), .int (nI (p0 / 12)), .int (nI (p0 % 12)), .int (nI k1)] (c_L_of M S hr (i := k1) (f := p0 / 12) (g := p0 % 12) (by omega) (hv.cd h_a1 hk1)) (cwS 4 C.1.2.2.2.2 gL_ahead_L_of rfl rfl rfl (by decide +kernel) ⟨Nat.le_of_ble_eq_true rfl, Nat.le_of_ble_eq_true rfl⟩) rfl rfl rfl (Nat.le_of_ble_eq_true rfl) dL_ahead_41 ⟨Nat.le_refl _, Nat.le_refl _⟩ ?_
          refine vv_aload_n C 1 dL_ahead_44 rfl rfl ?_
          refine vv_iload_n C 3 dL_ahead_45 rfl rfl ?_
          refine vv_bipush (v := 12) C dL_ahead_46 (by decide) ?_
          refine vv_idiv C dL_ahead_48 (by decide) ?_
          refine vv_top (y := nI (q0 / 12)) (pk_div (a := q0) (d := 12) (by omega) (by omega) (by omega)) ?_
          refine vv_iload_n C 3 dL_ahead_49 rfl rfl ?_
          refine vv_bipush (v := 12) C dL_ahead_50 (by decide) ?_
          refine vv_irem C dL_ahead_52 (by decide) ?_
          refine vv_top (y := nI (q0 % 12)) (pk_rem (a := q0) (d := 12) (by omega) (by omega) (by omega)) ?_
          refine vv_aload_n C 0 dL_ahead_53 rfl rfl ?_
          refine vv_iload C 4 dL_ahead_54 rfl ?_
          refine vv_ald (j := 7) (q := 1107) C sh_145 rfl (by decide) rfl dL_ahead_56 ?_
          refine vv_top (y := nI k1) ((hr.1.2.2.1 2 (by omega)).trans e1) ?_
          refine vv_callSI C [.ref (G.1 146), .int (nI (q0 / 12)), .int (nI (q0 % 12)), .int (nI k1)] (c_L_of M S hr (i := k1) (f := q0 / 12) (g := q0 % 12) (by omega) (hv2.cd h_a1 hk1)) (cwS 4 C.1.2.2.2.2 gL_ahead_L_of rfl rfl rfl (by decide +kernel) ⟨Nat.le_of_ble_eq_true rfl, Nat.le_of_ble_eq_true rfl⟩) rfl rfl rfl (Nat.le_of_ble_eq_true rfl) dL_ahead_57 ⟨Nat.le_refl _, Nat.le_refl _⟩ ?_
          refine vv_isub C dL_ahead_60 ?_
          refine vv_top (y := byS S 1 (p0 / 12) (p0 % 12) (q0 / 12) (q0 % 12)) ((by_a e1 hk1 h_a1).symm) ?_
          refine vv_istore (ls2 := [some (.ref (G.1 145)), some (.ref (G.1 146)), some (.int (nI p0)), some (.int (nI q0)), some (.int 7), some (.int (byS S 1 (p0 / 12) (p0 % 12) (q0 / 12) (q0 % 12)))]) C 5 dL_ahead_61 (Nat.le_of_ble_eq_true rfl) rfl ?_
          refine vv_iload C 5 dL_ahead_63 rfl ?_
          refine vv_if_eq C 102 dL_ahead_65 (by decide) (fun h_z1 => ?_) (fun h_by1 => ?_)
          · have hz1 : byS S 1 (p0 / 12) (p0 % 12) (q0 / 12) (q0 % 12) = 0 := h_z1
            refine vv_iinc (v := 9) (ls2 := [some (.ref (G.1 145)), some (.ref (G.1 146)), some (.int (nI p0)), some (.int (nI q0)), some (.int 9), some (.int (byS S 1 (p0 / 12) (p0 % 12) (q0 / 12) (q0 % 12)))]) C 4 dL_ahead_102 rfl (by decide) rfl ?_
            refine vv_goto C 3 dL_ahead_105 (by decide) ?_
            refine vv_iload C 4 dL_ahead_3 rfl ?_
            refine vv_bipush (v := 9) C dL_ahead_5 (by decide) ?_
            refine vv_ncmp_ge C 9 9 108 dL_ahead_7 (by decide) (by decide) (by decide) (fun h_50 => ?_) (fun h_49 => absurd h_49 (by decide))
            refine vv_iload_n C 2 dL_ahead_108 rfl rfl ?_
            refine vv_iload_n C 3 dL_ahead_109 rfl rfl ?_
            refine vv_ncmp_ge C p0 q0 117 dL_ahead_110 (by decide) (by omega) (by omega) (fun h_qp => ?_) (fun h_pq => ?_)
            · refine vv_iconst (v := 0) C dL_ahead_117 (by decide) ?_
              exact vv_zret0 C hR dL_ahead_118 (qI_of (by unfold ahL; rw [if_pos hz0, if_pos hz1]; exact (bI_f (fun z => absurd (z.symm.trans (decide_eq_false (by omega))) (by decide))).symm) rfl)
            · refine vv_iconst (v := 1) C dL_ahead_113 (by decide) ?_
              refine vv_goto C 118 dL_ahead_114 (by decide) ?_
              exact vv_zret1 C hR dL_ahead_118 (qI_of (by unfold ahL; rw [if_pos hz0, if_pos hz1]; exact (bI_t (decide_eq_true h_pq)).symm) rfl)
          · refine vv_aload_n C 0 dL_ahead_68 rfl rfl ?_
            refine vv_iload C 4 dL_ahead_69 rfl ?_
            refine vv_iconst (v := 1) C dL_ahead_71 (by decide) ?_
            refine vv_iadd C dL_ahead_72 ?_
            refine vv_top (y := 8) (by decide) ?_
            refine vv_ald (j := 8) (q := 1108) C sh_145 rfl (by decide) rfl dL_ahead_73 ?_
            refine vv_top (y := S 128) (hr.1.2.2.1 3 (by omega)) ?_
            refine vv_iconst (v := 1) C dL_ahead_74 (by decide) ?_
            refine vv_icmp_ne C 91 dL_ahead_75 (by decide) (fun h_up1 => ?_) (fun h_dn1 => ?_)
            · refine vv_iload C 5 dL_ahead_91 rfl ?_
              refine vv_if_ge C 100 dL_ahead_93 (by decide) (fun h_55 => ?_) (fun h_56 => ?_)
              · refine vv_iconst (v := 0) C dL_ahead_100 (by decide) ?_
                exact vv_zret0 C hR dL_ahead_101 (qI_of (by unfold ahL; rw [if_pos hz0, if_neg h_by1]; exact (bI_f (fun z => absurd (z.symm.trans ((if_neg h_up1).trans (decide_eq_false (fun z => z h_55)))) (by decide))).symm) rfl)
              · refine vv_iconst (v := 1) C dL_ahead_96 (by decide) ?_
                refine vv_goto C 101 dL_ahead_97 (by decide) ?_
                exact vv_zret1 C hR dL_ahead_101 (qI_of (by unfold ahL; rw [if_pos hz0, if_neg h_by1]; exact (bI_t ((if_neg h_up1).trans (decide_eq_true h_56))).symm) rfl)
            · refine vv_iload C 5 dL_ahead_78 rfl ?_
              refine vv_if_le C 87 dL_ahead_80 (by decide) (fun h_57 => ?_) (fun h_58 => ?_)
              · refine vv_iconst (v := 0) C dL_ahead_87 (by decide) ?_
                refine vv_goto C 101 dL_ahead_88 (by decide) ?_
                exact vv_zret0 C hR dL_ahead_101 (qI_of (by unfold ahL; rw [if_pos hz0, if_neg h_by1]; exact (bI_f (fun z => absurd (z.symm.trans ((if_pos h_dn1).trans (decide_eq_false (fun z => z h_57)))) (by decide))).symm) rfl)
              · refine vv_iconst (v := 1) C dL_ahead_83 (by decide) ?_
                refine vv_goto C 101 dL_ahead_84 (by decide) ?_
                exact vv_zret1 C hR dL_ahead_101 (qI_of (by unfold ahL; rw [if_pos hz0, if_neg h_by1]; exact (bI_t ((if_pos h_dn1).trans (decide_eq_true h_58))).symm) rfl)
    · refine vv_aload_n C 1 dL_ahead_28 rfl rfl ?_
      refine vv_iload_n C 2 dL_ahead_29 rfl rfl ?_
      refine vv_bipush (v := 12) C dL_ahead_30 (by decide) ?_
      refine vv_idiv C dL_ahead_32 (by decide) ?_
      refine vv_top (y := nI (p0 / 12)) (pk_div (a := p0) (d := 12) (by omega) (by omega) (by omega)) ?_
      refine vv_iload_n C 2 dL_ahead_33 rfl rfl ?_
      refine vv_bipush (v := 12) C dL_ahead_34 (by decide) ?_
      refine vv_irem C dL_ahead_36 (by decide) ?_
      refine vv_top (y := nI (p0 % 12)) (pk_rem (a := p0) (d := 12) (by omega) (by omega) (by omega)) ?_
      refine vv_aload_n C 0 dL_ahead_37 rfl rfl ?_
      refine vv_iload C 4 dL_ahead_38 rfl ?_
      refine vv_ald (j := 5) (q := 1105) C sh_145 rfl (by decide) rfl dL_ahead_40 ?_
      refine vv_top (y := nI k0) ((hr.1.2.2.1 0 (by omega)).trans e0) ?_
      refine vv_callSI C [.ref (G.1 146), .int (nI (p0 / 12)), .int (nI (p0 % 12)), .int (nI k0)] (c_L_of M S hr (i := k0) (f := p0 / 12) (g := p0 % 12) (by omega) (hv.cd h_a0 hk0)) (cwS 4 C.1.2.2.2.2 gL_ahead_L_of rfl rfl rfl (by decide +kernel) ⟨Nat.le_of_ble_eq_true rfl, Nat.le_of_ble_eq_true rfl⟩) rfl rfl rfl (Nat.le_of_ble_eq_true rfl) dL_ahead_41 ⟨Nat.le_refl _, Nat.le_refl _⟩ ?_
      refine vv_aload_n C 1 dL_ahead_44 rfl rfl ?_
      refine vv_iload_n C 3 dL_ahead_45 rfl rfl ?_
      refine vv_bipush (v := 12) C dL_ahead_46 (by decide) ?_
      refine vv_idiv C dL_ahead_48 (by decide) ?_
      refine vv_top (y := nI (q0 / 12)) (pk_div (a := q0) (d := 12) (by omega) (by omega) (by omega)) ?_
      refine vv_iload_n C 3 dL_ahead_49 rfl rfl ?_
      refine vv_bipush (v := 12) C dL_ahead_50 (by decide) ?_
      refine vv_irem C dL_ahead_52 (by decide) ?_
      refine vv_top (y := nI (q0 % 12)) (pk_rem (a := q0) (d := 12) (by omega) (by omega) (by omega)) ?_
      refine vv_aload_n C 0 dL_ahead_53 rfl rfl ?_
      refine vv_iload C 4 dL_ahead_54 rfl ?_
      refine vv_ald (j := 5) (q := 1105) C sh_145 rfl (by decide) rfl dL_ahead_56 ?_
      refine vv_top (y := nI k0) ((hr.1.2.2.1 0 (by omega)).trans e0) ?_
      refine vv_callSI C [.ref (G.1 146), .int (nI (q0 / 12)), .int (nI (q0 % 12)), .int (nI k0)] (c_L_of M S hr (i := k0) (f := q0 / 12) (g := q0 % 12) (by omega) (hv2.cd h_a0 hk0)) (cwS 4 C.1.2.2.2.2 gL_ahead_L_of rfl rfl rfl (by decide +kernel) ⟨Nat.le_of_ble_eq_true rfl, Nat.le_of_ble_eq_true rfl⟩) rfl rfl rfl (Nat.le_of_ble_eq_true rfl) dL_ahead_57 ⟨Nat.le_refl _, Nat.le_refl _⟩ ?_
      refine vv_isub C dL_ahead_60 ?_
      refine vv_top (y := byS S 0 (p0 / 12) (p0 % 12) (q0 / 12) (q0 % 12)) ((by_a e0 hk0 h_a0).symm) ?_
      refine vv_istore (ls2 := [some (.ref (G.1 145)), some (.ref (G.1 146)), some (.int (nI p0)), some (.int (nI q0)), some (.int 5), some (.int (byS S 0 (p0 / 12) (p0 % 12) (q0 / 12) (q0 % 12)))]) C 5 dL_ahead_61 (Nat.le_of_ble_eq_true rfl) rfl ?_
      refine vv_iload C 5 dL_ahead_63 rfl ?_
      refine vv_if_eq C 102 dL_ahead_65 (by decide) (fun h_z0 => ?_) (fun h_by0 => ?_)
      · have hz0 : byS S 0 (p0 / 12) (p0 % 12) (q0 / 12) (q0 % 12) = 0 := h_z0
        refine vv_iinc (v := 7) (ls2 := [some (.ref (G.1 145)), some (.ref (G.1 146)), some (.int (nI p0)), some (.int (nI q0)), some (.int 7), some (.int (byS S 0 (p0 / 12) (p0 % 12) (q0 / 12) (q0 % 12)))]) C 4 dL_ahead_102 rfl (by decide) rfl ?_
        refine vv_goto C 3 dL_ahead_105 (by decide) ?_
        refine vv_iload C 4 dL_ahead_3 rfl ?_
        refine vv_bipush (v := 9) C dL_ahead_5 (by decide) ?_
        refine vv_ncmp_ge C 7 9 108 dL_ahead_7 (by decide) (by decide) (by decide) (fun h_61 => absurd h_61 (by decide)) (fun h_62 => ?_)
        refine vv_aload_n C 0 dL_ahead_10 rfl rfl ?_
        refine vv_iload C 4 dL_ahead_11 rfl ?_
        refine vv_ald (j := 7) (q := 1107) C sh_145 rfl (by decide) rfl dL_ahead_13 ?_
        refine vv_top (y := S 127) (hr.1.2.2.1 2 (by omega)) ?_
        refine vv_if_lt C 102 dL_ahead_14 (by decide) (fun h_neg1 => ?_) (fun h_nn1 => ?_)
        · have hz1 : byS S 1 (p0 / 12) (p0 % 12) (q0 / 12) (q0 % 12) = 0 := by_na (ask_neg h_neg1)
          refine vv_iinc (v := 9) (ls2 := [some (.ref (G.1 145)), some (.ref (G.1 146)), some (.int (nI p0)), some (.int (nI q0)), some (.int 9), some (.int (byS S 0 (p0 / 12) (p0 % 12) (q0 / 12) (q0 % 12)))]) C 4 dL_ahead_102 rfl (by decide) rfl ?_
          refine vv_goto C 3 dL_ahead_105 (by decide) ?_
          refine vv_iload C 4 dL_ahead_3 rfl ?_
          refine vv_bipush (v := 9) C dL_ahead_5 (by decide) ?_
          refine vv_ncmp_ge C 9 9 108 dL_ahead_7 (by decide) (by decide) (by decide) (fun h_66 => ?_) (fun h_65 => absurd h_65 (by decide))
          refine vv_iload_n C 2 dL_ahead_108 rfl rfl ?_
          refine vv_iload_n C 3 dL_ahead_109 rfl rfl ?_
          refine vv_ncmp_ge C p0 q0 117 dL_ahead_110 (by decide) (by omega) (by omega) (fun h_qp => ?_) (fun h_pq => ?_)
          · refine vv_iconst (v := 0) C dL_ahead_117 (by decide) ?_
            exact vv_zret0 C hR dL_ahead_118 (qI_of (by unfold ahL; rw [if_pos hz0, if_pos hz1]; exact (bI_f (fun z => absurd (z.symm.trans (decide_eq_false (by omega))) (by decide))).symm) rfl)
          · refine vv_iconst (v := 1) C dL_ahead_113 (by decide) ?_
            refine vv_goto C 118 dL_ahead_114 (by decide) ?_
            exact vv_zret1 C hR dL_ahead_118 (qI_of (by unfold ahL; rw [if_pos hz0, if_pos hz1]; exact (bI_t (decide_eq_true h_pq)).symm) rfl)
        · obtain ⟨k1, hk1, e1⟩ := ord_nn hw (w := 1) (by omega) h_nn1
          refine vv_aload_n C 0 dL_ahead_17 rfl rfl ?_
          refine vv_aload_n C 0 dL_ahead_18 rfl rfl ?_
          refine vv_iload C 4 dL_ahead_19 rfl ?_
          refine vv_ald (j := 7) (q := 1107) C sh_145 rfl (by decide) rfl dL_ahead_21 ?_
          refine vv_top (y := nI k1) ((hr.1.2.2.1 2 (by omega)).trans e1) ?_
          refine vv_callSI C [.ref (G.1 145), .int (nI k1)] (c_L_asked M S hr (i := k1) (by omega)) (cwS 2 C.1.2.2.2.2 gL_ahead_L_asked rfl rfl rfl (by decide +kernel) ⟨Nat.le_of_ble_eq_true rfl, Nat.le_of_ble_eq_true rfl⟩) rfl rfl rfl (Nat.le_of_ble_eq_true rfl) dL_ahead_22 ⟨Nat.le_refl _, Nat.le_refl _⟩ ?_
          refine vv_bif_eq C 102 dL_ahead_25 (by decide) (fun h_na1 => ?_) (fun h_a1 => ?_)
          · have hz1 : byS S 1 (p0 / 12) (p0 % 12) (q0 / 12) (q0 % 12) = 0 := by_na (fun z => h_na1 (e1 ▸ z))
            refine vv_iinc (v := 9) (ls2 := [some (.ref (G.1 145)), some (.ref (G.1 146)), some (.int (nI p0)), some (.int (nI q0)), some (.int 9), some (.int (byS S 0 (p0 / 12) (p0 % 12) (q0 / 12) (q0 % 12)))]) C 4 dL_ahead_102 rfl (by decide) rfl ?_
            refine vv_goto C 3 dL_ahead_105 (by decide) ?_
            refine vv_iload C 4 dL_ahead_3 rfl ?_
            refine vv_bipush (v := 9) C dL_ahead_5 (by decide) ?_
            refine vv_ncmp_ge C 9 9 108 dL_ahead_7 (by decide) (by decide) (by decide) (fun h_72 => ?_) (fun h_71 => absurd h_71 (by decide))
            refine vv_iload_n C 2 dL_ahead_108 rfl rfl ?_
            refine vv_iload_n C 3 dL_ahead_109 rfl rfl ?_
            refine vv_ncmp_ge C p0 q0 117 dL_ahead_110 (by decide) (by omega) (by omega) (fun h_qp => ?_) (fun h_pq => ?_)
            · refine vv_iconst (v := 0) C dL_ahead_117 (by decide) ?_
              exact vv_zret0 C hR dL_ahead_118 (qI_of (by unfold ahL; rw [if_pos hz0, if_pos hz1]; exact (bI_f (fun z => absurd (z.symm.trans (decide_eq_false (by omega))) (by decide))).symm) rfl)
            · refine vv_iconst (v := 1) C dL_ahead_113 (by decide) ?_
              refine vv_goto C 118 dL_ahead_114 (by decide) ?_
              exact vv_zret1 C hR dL_ahead_118 (qI_of (by unfold ahL; rw [if_pos hz0, if_pos hz1]; exact (bI_t (decide_eq_true h_pq)).symm) rfl)
          · refine vv_aload_n C 1 dL_ahead_28 rfl rfl ?_
            refine vv_iload_n C 2 dL_ahead_29 rfl rfl ?_
            refine vv_bipush (v := 12) C dL_ahead_30 (by decide) ?_
            refine vv_idiv C dL_ahead_32 (by decide) ?_
            refine vv_top (y := nI (p0 / 12)) (pk_div (a := p0) (d := 12) (by omega) (by omega) (by omega)) ?_
            refine vv_iload_n C 2 dL_ahead_33 rfl rfl ?_
            refine vv_bipush (v := 12) C dL_ahead_34 (by decide) ?_
            refine vv_irem C dL_ahead_36 (by decide) ?_
            refine vv_top (y := nI (p0 % 12)) (pk_rem (a := p0) (d := 12) (by omega) (by omega) (by omega)) ?_
            refine vv_aload_n C 0 dL_ahead_37 rfl rfl ?_
            refine vv_iload C 4 dL_ahead_38 rfl ?_
            refine vv_ald (j := 7) (q := 1107) C sh_145 rfl (by decide) rfl dL_ahead_40 ?_
            refine vv_top (y := nI k1) ((hr.1.2.2.1 2 (by omega)).trans e1) ?_
            refine vv_callSI C [.ref (G.1 146), .int (nI (p0 / 12)), .int (nI (p0 % 12)), .int (nI k1)] (c_L_of M S hr (i := k1) (f := p0 / 12) (g := p0 % 12) (by omega) (hv.cd h_a1 hk1)) (cwS 4 C.1.2.2.2.2 gL_ahead_L_of rfl rfl rfl (by decide +kernel) ⟨Nat.le_of_ble_eq_true rfl, Nat.le_of_ble_eq_true rfl⟩) rfl rfl rfl (Nat.le_of_ble_eq_true rfl) dL_ahead_41 ⟨Nat.le_refl _, Nat.le_refl _⟩ ?_
            refine vv_aload_n C 1 dL_ahead_44 rfl rfl ?_
            refine vv_iload_n C 3 dL_ahead_45 rfl rfl ?_
            refine vv_bipush (v := 12) C dL_ahead_46 (by decide) ?_
            refine vv_idiv C dL_ahead_48 (by decide) ?_
            refine vv_top (y := nI (q0 / 12)) (pk_div (a := q0) (d := 12) (by omega) (by omega) (by omega)) ?_
            refine vv_iload_n C 3 dL_ahead_49 rfl rfl ?_
            refine vv_bipush (v := 12) C dL_ahead_50 (by decide) ?_
            refine vv_irem C dL_ahead_52 (by decide) ?_
            refine vv_top (y := nI (q0 % 12)) (pk_rem (a := q0) (d := 12) (by omega) (by omega) (by omega)) ?_
            refine vv_aload_n C 0 dL_ahead_53 rfl rfl ?_
            refine vv_iload C 4 dL_ahead_54 rfl ?_
            refine vv_ald (j := 7) (q := 1107) C sh_145 rfl (by decide) rfl dL_ahead_56 ?_
            refine vv_top (y := nI k1) ((hr.1.2.2.1 2 (by omega)).trans e1) ?_
            refine vv_callSI C [.ref (G.1 146), .int (nI (q0 / 12)), .int (nI (q0 % 12)), .int (nI k1)] (c_L_of M S hr (i := k1) (f := q0 / 12) (g := q0 % 12) (by omega) (hv2.cd h_a1 hk1)) (cwS 4 C.1.2.2.2.2 gL_ahead_L_of rfl rfl rfl (by decide +kernel) ⟨Nat.le_of_ble_eq_true rfl, Nat.le_of_ble_eq_true rfl⟩) rfl rfl rfl (Nat.le_of_ble_eq_true rfl) dL_ahead_57 ⟨Nat.le_refl _, Nat.le_refl _⟩ ?_
            refine vv_isub C dL_ahead_60 ?_
            refine vv_top (y := byS S 1 (p0 / 12) (p0 % 12) (q0 / 12) (q0 % 12)) ((by_a e1 hk1 h_a1).symm) ?_
            refine vv_istore (ls2 := [some (.ref (G.1 145)), some (.ref (G.1 146)), some (.int (nI p0)), some (.int (nI q0)), some (.int 7), some (.int (byS S 1 (p0 / 12) (p0 % 12) (q0 / 12) (q0 % 12)))]) C 5 dL_ahead_61 (Nat.le_of_ble_eq_true rfl) rfl ?_
            refine vv_iload C 5 dL_ahead_63 rfl ?_
            refine vv_if_eq C 102 dL_ahead_65 (by decide) (fun h_z1 => ?_) (fun h_by1 => ?_)
            · have hz1 : byS S 1 (p0 / 12) (p0 % 12) (q0 / 12) (q0 % 12) = 0 := h_z1
              refine vv_iinc (v := 9) (ls2 := [some (.ref (G.1 145)), some (.ref (G.1 146)), some (.int (nI p0)), some (.int (nI q0)), some (.int 9), some (.int (byS S 1 (p0 / 12) (p0 % 12) (q0 / 12) (q0 % 12)))]) C 4 dL_ahead_102 rfl (by decide) rfl ?_
              refine vv_goto C 3 dL_ahead_105 (by decide) ?_
              refine vv_iload C 4 dL_ahead_3 rfl ?_
              refine vv_bipush (v := 9) C dL_ahead_5 (by decide) ?_
              refine vv_ncmp_ge C 9 9 108 dL_ahead_7 (by decide) (by decide) (by decide) (fun h_78 => ?_) (fun h_77 => absurd h_77 (by decide))
              refine vv_iload_n C 2 dL_ahead_108 rfl rfl ?_
              refine vv_iload_n C 3 dL_ahead_109 rfl rfl ?_
              refine vv_ncmp_ge C p0 q0 117 dL_ahead_110 (by decide) (by omega) (by omega) (fun h_qp => ?_) (fun h_pq => ?_)
              · refine vv_iconst (v := 0) C dL_ahead_117 (by decide) ?_
                exact vv_zret0 C hR dL_ahead_118 (qI_of (by unfold ahL; rw [if_pos hz0, if_pos hz1]; exact (bI_f (fun z => absurd (z.symm.trans (decide_eq_false (by omega))) (by decide))).symm) rfl)
              · refine vv_iconst (v := 1) C dL_ahead_113 (by decide) ?_
                refine vv_goto C 118 dL_ahead_114 (by decide) ?_
                exact vv_zret1 C hR dL_ahead_118 (qI_of (by unfold ahL; rw [if_pos hz0, if_pos hz1]; exact (bI_t (decide_eq_true h_pq)).symm) rfl)
            · refine vv_aload_n C 0 dL_ahead_68 rfl rfl ?_
              refine vv_iload C 4 dL_ahead_69 rfl ?_
              refine vv_iconst (v := 1) C dL_ahead_71 (by decide) ?_
              refine vv_iadd C dL_ahead_72 ?_
              refine vv_top (y := 8) (by decide) ?_
              refine vv_ald (j := 8) (q := 1108) C sh_145 rfl (by decide) rfl dL_ahead_73 ?_
              refine vv_top (y := S 128) (hr.1.2.2.1 3 (by omega)) ?_
              refine vv_iconst (v := 1) C dL_ahead_74 (by decide) ?_
              refine vv_icmp_ne C 91 dL_ahead_75 (by decide) (fun h_up1 => ?_) (fun h_dn1 => ?_)
              · refine vv_iload C 5 dL_ahead_91 rfl ?_
                refine vv_if_ge C 100 dL_ahead_93 (by decide) (fun h_83 => ?_) (fun h_84 => ?_)
                · refine vv_iconst (v := 0) C dL_ahead_100 (by decide) ?_
                  exact vv_zret0 C hR dL_ahead_101 (qI_of (by unfold ahL; rw [if_pos hz0, if_neg h_by1]; exact (bI_f (fun z => absurd (z.symm.trans ((if_neg h_up1).trans (decide_eq_false (fun z => z h_83)))) (by decide))).symm) rfl)
                · refine vv_iconst (v := 1) C dL_ahead_96 (by decide) ?_
                  refine vv_goto C 101 dL_ahead_97 (by decide) ?_
                  exact vv_zret1 C hR dL_ahead_101 (qI_of (by unfold ahL; rw [if_pos hz0, if_neg h_by1]; exact (bI_t ((if_neg h_up1).trans (decide_eq_true h_84))).symm) rfl)
              · refine vv_iload C 5 dL_ahead_78 rfl ?_
                refine vv_if_le C 87 dL_ahead_80 (by decide) (fun h_85 => ?_) (fun h_86 => ?_)
                · refine vv_iconst (v := 0) C dL_ahead_87 (by decide) ?_
                  refine vv_goto C 101 dL_ahead_88 (by decide) ?_
                  exact vv_zret0 C hR dL_ahead_101 (qI_of (by unfold ahL; rw [if_pos hz0, if_neg h_by1]; exact (bI_f (fun z => absurd (z.symm.trans ((if_pos h_dn1).trans (decide_eq_false (fun z => z h_85)))) (by decide))).symm) rfl)
                · refine vv_iconst (v := 1) C dL_ahead_83 (by decide) ?_
                  refine vv_goto C 101 dL_ahead_84 (by decide) ?_
                  exact vv_zret1 C hR dL_ahead_101 (qI_of (by unfold ahL; rw [if_pos hz0, if_neg h_by1]; exact (bI_t ((if_pos h_dn1).trans (decide_eq_true h_86))).symm) rfl)
      · refine vv_aload_n C 0 dL_ahead_68 rfl rfl ?_
        refine vv_iload C 4 dL_ahead_69 rfl ?_
        refine vv_iconst (v := 1) C dL_ahead_71 (by decide) ?_
        refine vv_iadd C dL_ahead_72 ?_
        refine vv_top (y := 6) (by decide) ?_
        refine vv_ald (j := 6) (q := 1106) C sh_145 rfl (by decide) rfl dL_ahead_73 ?_
        refine vv_top (y := S 126) (hr.1.2.2.1 1 (by omega)) ?_
        refine vv_iconst (v := 1) C dL_ahead_74 (by decide) ?_
        refine vv_icmp_ne C 91 dL_ahead_75 (by decide) (fun h_up0 => ?_) (fun h_dn0 => ?_)
        · refine vv_iload C 5 dL_ahead_91 rfl ?_
          refine vv_if_ge C 100 dL_ahead_93 (by decide) (fun h_89 => ?_) (fun h_90 => ?_)
          · refine vv_iconst (v := 0) C dL_ahead_100 (by decide) ?_
            exact vv_zret0 C hR dL_ahead_101 (qI_of (by unfold ahL; rw [if_neg h_by0]; exact (bI_f (fun z => absurd (z.symm.trans ((if_neg h_up0).trans (decide_eq_false (fun z => z h_89)))) (by decide))).symm) rfl)
          · refine vv_iconst (v := 1) C dL_ahead_96 (by decide) ?_
            refine vv_goto C 101 dL_ahead_97 (by decide) ?_
            exact vv_zret1 C hR dL_ahead_101 (qI_of (by unfold ahL; rw [if_neg h_by0]; exact (bI_t ((if_neg h_up0).trans (decide_eq_true h_90))).symm) rfl)
        · refine vv_iload C 5 dL_ahead_78 rfl ?_
          refine vv_if_le C 87 dL_ahead_80 (by decide) (fun h_91 => ?_) (fun h_92 => ?_)
          · refine vv_iconst (v := 0) C dL_ahead_87 (by decide) ?_
            refine vv_goto C 101 dL_ahead_88 (by decide) ?_
            exact vv_zret0 C hR dL_ahead_101 (qI_of (by unfold ahL; rw [if_neg h_by0]; exact (bI_f (fun z => absurd (z.symm.trans ((if_pos h_dn0).trans (decide_eq_false (fun z => z h_91)))) (by decide))).symm) rfl)
          · refine vv_iconst (v := 1) C dL_ahead_83 (by decide) ?_
            refine vv_goto C 101 dL_ahead_84 (by decide) ?_
            exact vv_zret1 C hR dL_ahead_101 (qI_of (by unfold ahL; rw [if_neg h_by0]; exact (bI_t ((if_pos h_dn0).trans (decide_eq_true h_92))).symm) rfl)
set_option maxRecDepth 100000 in
set_option maxHeartbeats 4000000 in
theorem lp_L_alike {p : Program} {l : Launch} {e : Env} {s : State} {m : MethodId} {args : Array Value} {below : List Frame} {meth : Method} {c : Code} {G : mw_GG} (C : vv_C p s m args c G cL_alike 5 wsL_alike RL) (hR : vv_R meth (some .boolean)) (M S : mw_M) (hr : lrel M S) (hw : wfV S) {p0 q0 : Nat} (hp : p0 < 144) (hq : q0 < 144) (hv : valP S (p0 / 12) (p0 % 12)) (hv2 : valP S (q0 / 12) (q0 % 12)) : ∀ (n i : Nat), 9 ≤ i + n → i ≤ 8 → (∀ j, j < i → alqC S p0 q0 j = true) → vv p l e ({ frames := 2, cells := 0, slots := 0, locals := 46 } : Room) s m args below meth c G 0 0 (mw_E below args s G (qI (bI (alqB S p0 q0 8 = true)) M)) M 3 [some (.ref (G.1 145)), some (.ref (G.1 146)), some (.int (nI p0)), some (.int (nI q0)), some (.int (nI i))] [] := by
  intro n
  induction n with
  | zero => intro i h1 h2 _; omega
  | succ n ih =>
    intro i h1 h2 hI
    refine vv_iload C 4 dL_alike_3 rfl ?_
    refine vv_bipush (v := 8) C dL_alike_5 (by decide) ?_
    refine vv_ncmp_ge C i 8 71 dL_alike_7 (by decide) (by omega) (by decide) (fun h_ge => ?_) (fun h_lt => ?_)
    · refine vv_iconst (v := 1) C dL_alike_71 (by decide) ?_
      exact vv_zret1 C hR dL_alike_72 (qI_of ((bI_t ((alB_iff 8).mpr (fun j hj => hI j (by omega)))).symm) rfl)
    · refine vv_aload_n C 0 dL_alike_10 rfl rfl ?_
      refine vv_bipush (v := 9) C dL_alike_11 (by decide) ?_
      refine vv_ald (j := 9) (q := 1109) C sh_145 rfl (by decide) rfl dL_alike_13 ?_
      refine vv_top (y := S 129) (hr.g9) ?_
      refine vv_iload C 4 dL_alike_14 rfl ?_
      refine vv_ishr C dL_alike_16 ?_
      refine vv_iconst (v := 1) C dL_alike_17 (by decide) ?_
      refine vv_iand C dL_alike_18 ?_
      refine vv_iconst (v := 1) C dL_alike_19 (by decide) ?_
      refine vv_icmp_ne C 65 dL_alike_20 (by decide) (fun h_ns => ?_) (fun h_s => ?_)
      · refine vv_iinc (v := nI (i + 1)) (ls2 := [some (.ref (G.1 145)), some (.ref (G.1 146)), some (.int (nI p0)), some (.int (nI q0)), some (.int (nI (i + 1)))]) C 4 dL_alike_65 rfl (nI_add i 1) rfl ?_
        refine vv_goto C 3 dL_alike_68 (by decide) ?_
        refine ih (i + 1) (by omega) (by omega) (fun j hj => ?_)
        rcases Nat.lt_or_ge j i with z | z
        · exact hI j z
        · rw [show j = i by omega]
          exact shw_f h_ns
      · refine vv_aload_n C 0 dL_alike_23 rfl rfl ?_
        refine vv_iload C 4 dL_alike_24 rfl ?_
        refine vv_callSI C [.ref (G.1 145), .int (nI i)] (c_L_asked M S hr (i := i) (by omega)) (cwS 2 C.1.2.2.2.2 gL_alike_L_asked rfl rfl rfl (by decide +kernel) ⟨Nat.le_of_ble_eq_true rfl, Nat.le_of_ble_eq_true rfl⟩) rfl rfl rfl (Nat.le_of_ble_eq_true rfl) dL_alike_26 ⟨Nat.le_refl _, Nat.le_refl _⟩ ?_
        refine vv_bif_eq C 65 dL_alike_29 (by decide) (fun h_na => ?_) (fun h_a => ?_)
        · refine vv_iinc (v := nI (i + 1)) (ls2 := [some (.ref (G.1 145)), some (.ref (G.1 146)), some (.int (nI p0)), some (.int (nI q0)), some (.int (nI (i + 1)))]) C 4 dL_alike_65 rfl (nI_add i 1) rfl ?_
          refine vv_goto C 3 dL_alike_68 (by decide) ?_
          refine ih (i + 1) (by omega) (by omega) (fun j hj => ?_)
          rcases Nat.lt_or_ge j i with z | z
          · exact hI j z
          · rw [show j = i by omega]
            exact alqC_h (fun z => h_na z.1)
        · refine vv_aload_n C 1 dL_alike_32 rfl rfl ?_
          refine vv_iload_n C 2 dL_alike_33 rfl rfl ?_
          refine vv_bipush (v := 12) C dL_alike_34 (by decide) ?_
          refine vv_idiv C dL_alike_36 (by decide) ?_
          refine vv_top (y := nI (p0 / 12)) (pk_div (a := p0) (d := 12) (by omega) (by omega) (by omega)) ?_
          refine vv_iload_n C 2 dL_alike_37 rfl rfl ?_
          refine vv_bipush (v := 12) C dL_alike_38 (by decide) ?_
          refine vv_irem C dL_alike_40 (by decide) ?_
          refine vv_top (y := nI (p0 % 12)) (pk_rem (a := p0) (d := 12) (by omega) (by omega) (by omega)) ?_
          refine vv_iload C 4 dL_alike_41 rfl ?_
          refine vv_callSI C [.ref (G.1 146), .int (nI (p0 / 12)), .int (nI (p0 % 12)), .int (nI i)] (c_L_of M S hr (i := i) (f := p0 / 12) (g := p0 % 12) (by omega) (hv.cd h_a (by omega))) (cwS 4 C.1.2.2.2.2 gL_alike_L_of rfl rfl rfl (by decide +kernel) ⟨Nat.le_of_ble_eq_true rfl, Nat.le_of_ble_eq_true rfl⟩) rfl rfl rfl (Nat.le_of_ble_eq_true rfl) dL_alike_43 ⟨Nat.le_refl _, Nat.le_refl _⟩ ?_
          refine vv_aload_n C 1 dL_alike_46 rfl rfl ?_
          refine vv_iload_n C 3 dL_alike_47 rfl rfl ?_
          refine vv_bipush (v := 12) C dL_alike_48 (by decide) ?_
          refine vv_idiv C dL_alike_50 (by decide) ?_
          refine vv_top (y := nI (q0 / 12)) (pk_div (a := q0) (d := 12) (by omega) (by omega) (by omega)) ?_
          refine vv_iload_n C 3 dL_alike_51 rfl rfl ?_
          refine vv_bipush (v := 12) C dL_alike_52 (by decide) ?_
          refine vv_irem C dL_alike_54 (by decide) ?_
          refine vv_top (y := nI (q0 % 12)) (pk_rem (a := q0) (d := 12) (by omega) (by omega) (by omega)) ?_
          refine vv_iload C 4 dL_alike_55 rfl ?_
          refine vv_callSI C [.ref (G.1 146), .int (nI (q0 / 12)), .int (nI (q0 % 12)), .int (nI i)] (c_L_of M S hr (i := i) (f := q0 / 12) (g := q0 % 12) (by omega) (hv2.cd h_a (by omega))) (cwS 4 C.1.2.2.2.2 gL_alike_L_of rfl rfl rfl (by decide +kernel) ⟨Nat.le_of_ble_eq_true rfl, Nat.le_of_ble_eq_true rfl⟩) rfl rfl rfl (Nat.le_of_ble_eq_true rfl) dL_alike_57 ⟨Nat.le_refl _, Nat.le_refl _⟩ ?_
          refine vv_icmp_eq C 65 dL_alike_60 (by decide) (fun h_e => ?_) (fun h_ne => ?_)
          · refine vv_iinc (v := nI (i + 1)) (ls2 := [some (.ref (G.1 145)), some (.ref (G.1 146)), some (.int (nI p0)), some (.int (nI q0)), some (.int (nI (i + 1)))]) C 4 dL_alike_65 rfl (nI_add i 1) rfl ?_
            refine vv_goto C 3 dL_alike_68 (by decide) ?_
            refine ih (i + 1) (by omega) (by omega) (fun j hj => ?_)
            rcases Nat.lt_or_ge j i with z | z
            · exact hI j z
            · rw [show j = i by omega]
              exact alqC_e h_e
          · refine vv_iconst (v := 0) C dL_alike_63 (by decide) ?_
            exact vv_zret0 C hR dL_alike_64 (qI_of ((bI_f (fun z => alqC_n h_ne h_a h_s ((alB_iff 8).mp z i (by omega)))).symm) rfl)
set_option maxRecDepth 100000 in
set_option maxHeartbeats 4000000 in
theorem c_L_alike {l : Launch} {G : mw_GG} (M S : mw_M) (hr : lrel M S) (hw : wfV S) {p0 q0 : Nat} (hp : p0 < 144) (hq : q0 < 144) (hv : valP S (p0 / 12) (p0 % 12)) (hv2 : valP S (q0 / 12) (q0 % 12)) : mw_Met l yL_alike wsL_alike ({ frames := 2, cells := 0, slots := 0, locals := 46 } : Room) G [.ref (G.1 145), .ref (G.1 146), .int (nI p0), .int (nI q0)] M (qI (bI (alqB S p0 q0 8 = true)) M) := by
  refine mw_ofV (cc := cL_alike) 5 (by decide) rfl rfl (Nat.le_of_ble_eq_true rfl) ?_
  intro p e s m args below meth c C hR hN0
  refine vv_loc (ls2 := [some (.ref (G.1 145)), some (.ref (G.1 146)), some (.int (nI p0)), some (.int (nI q0)), none]) rfl ?_
  refine vv_iconst (v := 0) C dL_alike_0 (by decide) ?_
  refine vv_istore (ls2 := [some (.ref (G.1 145)), some (.ref (G.1 146)), some (.int (nI p0)), some (.int (nI q0)), some (.int 0)]) C 4 dL_alike_1 (Nat.le_of_ble_eq_true rfl) rfl ?_
  exact lp_L_alike C hR M S hr hw hp hq hv hv2 9 0 (by omega) (by omega) (fun j hj => absurd hj (Nat.not_lt_zero j))
