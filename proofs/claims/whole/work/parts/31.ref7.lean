theorem svC_b {f : Nat → Int32} {n : Nat} (h : f n = -1) : svC f (n + 1) = svC f n := cntB_f (decide_eq_false (fun z => z h))
theorem svC_n {f : Nat → Int32} {n : Nat} (h : ¬ f n = -1) : svC f (n + 1) = svC f n + 1 := cntB_t (decide_eq_true h)
theorem svS_b {f : Nat → Int32} {n : Nat} (h : f n = -1) : svS f (n + 1) = svS f n := if_pos h
theorem svS_n {f : Nat → Int32} {n : Nat} (h : ¬ f n = -1) : svS f (n + 1) = svS f n + f n := if_neg h
theorem svL_b {f : Nat → Int32} {n : Nat} (h : f n = -1) : svL f (n + 1) = svL f n := if_pos h
theorem svG_b {f : Nat → Int32} {n : Nat} (h : f n = -1) : svG f (n + 1) = svG f n := if_pos h
theorem dcF_b {f : Nat → Int32} {n : Nat} (h : f n = -1) : dcF f (n + 1) = dcF f n := if_pos h
theorem dcF_y {f : Nat → Int32} {n : Nat} (h : ¬ f n = -1) (h2 : noneB f (f n) n = true) : dcF f (n + 1) = dcF f n + 1 := by
  show (if f n = -1 then dcF f n else dcF f n + (if noneB f (f n) n then 1 else 0)) = _
  rw [if_neg h, if_pos h2]
theorem dcF_n {f : Nat → Int32} {n : Nat} (h : ¬ f n = -1) (h2 : ¬ noneB f (f n) n = true) : dcF f (n + 1) = dcF f n := by
  show (if f n = -1 then dcF f n else dcF f n + (if noneB f (f n) n then 1 else 0)) = _
  rw [if_neg h, if_neg h2, Nat.add_zero]
theorem none_0 {f : Nat → Int32} {x : Int32} : noneB f x 0 = true := by
  unfold noneB
  exact decide_eq_true (fun j hj => absurd hj (by omega))
theorem none_mono {f : Nat → Int32} {x : Int32} {k n : Nat} (h : k ≤ n) (h2 : ¬ noneB f x k = true) : ¬ noneB f x n = true := fun z => h2 (by
  unfold noneB at z ⊢
  rw [decide_eq_true_eq] at z ⊢
  exact fun j hj => z j (by omega))
theorem bI_none_y {f : Nat → Int32} {x : Int32} {k : Nat} (h : noneB f x k = true) (h2 : ¬ f k = x) : (1 : Int32) = bI (noneB f x (k + 1) = true) := (bI_t (by rw [none_s, h, decide_eq_true h2]; rfl)).symm
theorem bI_none_n {f : Nat → Int32} {x : Int32} {k : Nat} (h2 : f k = x) : (0 : Int32) = bI (noneB f x (k + 1) = true) := (bI_f (by rw [none_s, decide_eq_false (fun z => z h2)]; simp)).symm
theorem stL_y {a v : Int32} (h : ¬ v = -1) (h2 : a < 0 ∨ v < a) : stL a v = v := by
  unfold stL
  rw [if_neg h, if_pos h2]
theorem stL_n {a v : Int32} (h : ¬ v = -1) (h2 : ¬ (a < 0 ∨ v < a)) : stL a v = a := by
  unfold stL
  rw [if_neg h, if_neg h2]
theorem stG_y {a v : Int32} (h : ¬ v = -1) (h2 : a < v) : stG a v = v := by
  unfold stG
  rw [if_neg h, if_pos h2]
theorem stG_n {a v : Int32} (h : ¬ v = -1) (h2 : ¬ a < v) : stG a v = a := by
  unfold stG
  rw [if_neg h, if_neg h2]
theorem lst_144 {V : mw_M} (hw : wfR V) : ∀ r, r ∈ lstS V 8 → r < 144 := fun r hr => (valP_row hw hr).1
theorem srt_144 {V : mw_M} (hw : wfR V) : ∀ r, r ∈ srtS V (lstS V 8) → r < 144 := fun r hr => lst_144 hw r (srt_perm.mem_iff.mp hr)
theorem iX9_cards_X9 : ∀ w ∈ u_ws RX9 TX9 13, w ∈ wsX9_cards := fun w hw => (List.mem_cons_of_mem _ (List.mem_append_right _ hw))
set_option maxRecDepth 100000 in
set_option maxHeartbeats 4000000 in
theorem lp_X9_cards {p : Program} {l : Launch} {e : Env} {s : State} {m : MethodId} {args : Array Value} {below : List Frame} {meth : Method} {c : Code} {G : mw_GG} {Q : State → Prop} (C : vv_C p s m args c G cX9_cards 4 wsX9_cards RX9) (M V : mw_M) (hV : vwO M V) {P : List Nat} (hP : arR M P) (h144 : ∀ r, r ∈ P → r < 144) (hl : P.length ≤ 144) {x : Int32} (hxd : ¬ x = 0 → ¬ dN x = 0) (hn : M 1102 = nI P.length) (hk : vv p l e ({ frames := 6, cells := 0, slots := 0, locals := 140 } : Room) s m args below meth c G 0 0 Q M 74 [some (.ref (G.1 145)), some (.int x), some (.int (csF (cdS (dN x) P) P.length)), some (.int (nI P.length))] []) : ∀ (k i : Nat), P.length + 1 ≤ i + k → i ≤ P.length → vv p l e ({ frames := 6, cells := 0, slots := 0, locals := 140 } : Room) s m args below meth c G 0 0 Q M 36 [some (.ref (G.1 145)), some (.int x), some (.int (csF (cdS (dN x) P) i)), some (.int (nI i))] [] := by
  intro k
  induction k with
  | zero => intro i h1 h2; omega
  | succ k ih =>
    intro i h1 h2
    refine vv_iload_n C 3 dX9_cards_36 rfl rfl ?_
    refine vv_aload_n C 0 dX9_cards_37 rfl rfl ?_
    refine vv_geti C (Cn := RX9) (T := TX9) (N := 13) sh_145 7 rfl rfl (by decide) iX9_cards_X9 (List.mem_of_getElem? (i := 2) rfl) rfl dX9_cards_38 ?_
    refine vv_top (y := nI P.length) hn ?_
    refine vv_icmp_ge C 74 dX9_cards_41 (by decide) (fun hge => ?_) (fun hlt => ?_)
    · have hin : i = P.length := by
        rcases Nat.lt_or_ge i P.length with z | z
        · exact absurd hge (nI_ge z (by omega))
        · omega
      rw [hin]
      exact hk
    · have hi4 : i < P.length := by
        rcases Nat.lt_or_ge i P.length with z | z
        · exact z
        · exact absurd (nI_le (a := P.length) z (by omega)) hlt
      refine vv_iload_n C 2 dX9_cards_44 rfl rfl ?_
      refine vv_iconst (v := 1) C dX9_cards_45 (by decide) ?_
      refine vv_iload_n C 1 dX9_cards_46 rfl rfl ?_
      refine vv_if_ne C 59 dX9_cards_47 (by decide) (fun h_xn0 => ?_) (fun h_x0 => ?_)
      · refine vv_aload_n C 0 dX9_cards_59 rfl rfl ?_
        refine vv_getr C (Cn := RX9) (T := TX9) (N := 13) sh_145 6 rfl rfl (by decide) iX9_cards_X9 (List.mem_of_getElem? (i := 4) rfl) rfl dX9_cards_60 ?_
        refine vv_iload_n C 3 dX9_cards_63 rfl rfl ?_
        refine vv_ald (j := i) (q := 1450 + i) C sh_150 rfl (by omega) (by omega) dX9_cards_64 ?_
        refine vv_top (y := nI (P.getD i 0 % 12)) (hP i hi4).2 ?_
        refine vv_ishl C dX9_cards_65 ?_
        refine vv_ior C dX9_cards_66 ?_
        refine vv_top (y := csF (cdS (dN x) P) (i + 1)) (show _ = csF (cdS (dN x) P) i ||| ((1 : Int32) <<< (cdS (dN x) P i &&& 31)) by unfold cdS; rw [if_neg (show ¬ dN x = 0 from hxd h_xn0)]) ?_
        refine vv_istore_n (ls2 := [some (.ref (G.1 145)), some (.int x), some (.int (csF (cdS (dN x) P) (i + 1))), some (.int (nI i))]) C 2 dX9_cards_67 rfl (Nat.le_of_ble_eq_true rfl) rfl ?_
        refine vv_iinc (v := nI (i + 1)) (ls2 := [some (.ref (G.1 145)), some (.int x), some (.int (csF (cdS (dN x) P) (i + 1))), some (.int (nI (i + 1)))]) C 3 dX9_cards_68 rfl (nI_1 _) rfl ?_
        refine vv_goto C 36 dX9_cards_71 (by decide) ?_
        exact ih (i + 1) (by omega) (by omega)
      · refine vv_aload_n C 0 dX9_cards_50 rfl rfl ?_
        refine vv_getr C (Cn := RX9) (T := TX9) (N := 13) sh_145 5 rfl rfl (by decide) iX9_cards_X9 (List.mem_of_getElem? (i := 3) rfl) rfl dX9_cards_51 ?_
        refine vv_iload_n C 3 dX9_cards_54 rfl rfl ?_
        refine vv_ald (j := i) (q := 1300 + i) C sh_149 rfl (by omega) (by omega) dX9_cards_55 ?_
        refine vv_top (y := nI (P.getD i 0 / 12)) (hP i hi4).1 ?_
        refine vv_goto C 65 dX9_cards_56 (by decide) ?_
        refine vv_ishl C dX9_cards_65 ?_
        refine vv_ior C dX9_cards_66 ?_
        refine vv_top (y := csF (cdS (dN x) P) (i + 1)) (show _ = csF (cdS (dN x) P) i ||| ((1 : Int32) <<< (cdS (dN x) P i &&& 31)) by unfold cdS; rw [if_pos (show dN x = 0 by rw [h_x0]; rfl)]) ?_
        refine vv_istore_n (ls2 := [some (.ref (G.1 145)), some (.int x), some (.int (csF (cdS (dN x) P) (i + 1))), some (.int (nI i))]) C 2 dX9_cards_67 rfl (Nat.le_of_ble_eq_true rfl) rfl ?_
        refine vv_iinc (v := nI (i + 1)) (ls2 := [some (.ref (G.1 145)), some (.int x), some (.int (csF (cdS (dN x) P) (i + 1))), some (.int (nI (i + 1)))]) C 3 dX9_cards_68 rfl (nI_1 _) rfl ?_
        refine vv_goto C 36 dX9_cards_71 (by decide) ?_
        exact ih (i + 1) (by omega) (by omega)
set_option maxRecDepth 100000 in
set_option maxHeartbeats 4000000 in
theorem c_X9_cards {l : Launch} {G : mw_GG} (M V : mw_M) (hV : relO M V) (hw : wfV V) (hh : hiV V) (ht : txV V) (x : Int32) : mw_Met l yX9_cards wsX9_cards ({ frames := 6, cells := 0, slots := 0, locals := 140 } : Room) G [.ref (G.1 145), .int x] M (qIP (fun r M2 => r = (op_cards V x).1 ∧ relO M2 (op_cards V x).2 ∧ rfO M M2)) := by
  refine mw_ofV (cc := cX9_cards) 4 (by decide) rfl rfl (Nat.le_of_ble_eq_true rfl) ?_
  intro p e s m args below meth c C hR hN0
  refine vv_loc (ls2 := [some (.ref (G.1 145)), some (.int x), none, none]) rfl ?_
  have hR0 := hw.wfR
  refine vv_iload_n C 1 dX9_cards_0 rfl rfl ?_
  refine vv_callSI C [.int x] (c_X9_isDrawer M x) (cwS 1 C.1.2.2.2.2 gX9_cards_X9_isDrawer rfl rfl rfl (by decide +kernel) ⟨Nat.le_of_ble_eq_true rfl, Nat.le_of_ble_eq_true rfl⟩) rfl rfl rfl (Nat.le_of_ble_eq_true rfl) dX9_cards_1 ⟨Nat.le_refl _, Nat.le_refl _⟩ ?_
  refine vv_bif_ne C 10 dX9_cards_4 (by decide) (fun h_d => ?_) (fun h_nd => ?_)
  · refine vv_iload_n C 1 dX9_cards_10 rfl rfl ?_
    refine vv_iconst (v := 1) C dX9_cards_11 (by decide) ?_
    refine vv_icmp_ne C 28 dX9_cards_12 (by decide) (fun h_xn1 => ?_) (fun h_x1 => ?_)
    · refine vv_aload_n C 0 dX9_cards_28 rfl rfl ?_
      refine vv_callVVP C [] (c_X9_finds M V hV.1 hw) sh_145 rfl (cwV 0 C.1.2.2.2.2 gX9_cards_X9_finds rfl rfl rfl (by decide +kernel) ⟨Nat.le_of_ble_eq_true rfl, Nat.le_of_ble_eq_true rfl⟩) rfl rfl rfl (Nat.le_of_ble_eq_true rfl) dX9_cards_29 ⟨Nat.le_refl _, Nat.le_refl _⟩ (fun M_5 h_6 => ?_)
      have hF := h_6
      refine vv_iconst (v := 0) C dX9_cards_32 (by decide) ?_
      refine vv_istore_n (ls2 := [some (.ref (G.1 145)), some (.int x), some (.int 0), none]) C 2 dX9_cards_33 rfl (Nat.le_of_ble_eq_true rfl) rfl ?_
      refine vv_iconst (v := 0) C dX9_cards_34 (by decide) ?_
      refine vv_istore_n (ls2 := [some (.ref (G.1 145)), some (.int x), some (.int 0), some (.int 0)]) C 3 dX9_cards_35 rfl (Nat.le_of_ble_eq_true rfl) rfl ?_
      have h144 := srt_144 hR0
      have hln := lstS_len (lo := 8) hR0
      refine vv_loc (ls2 := [some (.ref (G.1 145)), some (.int x), some (.int (csF (cdS (dN x) (srtS V (lstS V 8))) 0)), some (.int (nI 0))]) rfl ?_
      refine lp_X9_cards C _ V (hF.vw hV.1) hF.1 h144 (by rw [srt_len]; exact hln) (fun z => by unfold dN; rw [if_neg z]; decide) (by rw [srt_len]; exact hF.2.1) ?_ ((srtS V (lstS V 8)).length + 1) 0 (by omega) (by omega)
      refine vv_iload_n C 2 dX9_cards_74 rfl rfl ?_
      exact vv_iret C hR dX9_cards_75 (qIP_of (by rw [show op_cards V x = _ from if_pos h_d, if_neg (fun z => h_xn1 z.1)]; exact ⟨cs_perm srt_perm, hF.rel hV hh, hF.rf⟩))
    · refine vv_aload_n C 0 dX9_cards_15 rfl rfl ?_
      refine vv_getr C (Cn := RX9) (T := TX9) (N := 13) sh_145 0 rfl rfl (by decide) iX9_cards_X9 (List.mem_of_getElem? (i := 1) rfl) rfl dX9_cards_16 ?_
      refine vv_bipush (v := 124) C dX9_cards_19 (by decide) ?_
      refine vv_ald (j := 124) (q := 2124) C sh_146 (by decide) (by decide) rfl dX9_cards_21 ?_
      refine vv_top (y := V 124) (hV.1 124 (by decide)) ?_
      refine vv_if_ne C 28 dX9_cards_22 (by decide) (fun h_bn0 => ?_) (fun h_b0 => ?_)
      · refine vv_aload_n C 0 dX9_cards_28 rfl rfl ?_
        refine vv_callVVP C [] (c_X9_finds M V hV.1 hw) sh_145 rfl (cwV 0 C.1.2.2.2.2 gX9_cards_X9_finds rfl rfl rfl (by decide +kernel) ⟨Nat.le_of_ble_eq_true rfl, Nat.le_of_ble_eq_true rfl⟩) rfl rfl rfl (Nat.le_of_ble_eq_true rfl) dX9_cards_29 ⟨Nat.le_refl _, Nat.le_refl _⟩ (fun M_9 h_10 => ?_)
        have hF := h_10
        refine vv_iconst (v := 0) C dX9_cards_32 (by decide) ?_
        refine vv_istore_n (ls2 := [some (.ref (G.1 145)), some (.int x), some (.int 0), none]) C 2 dX9_cards_33 rfl (Nat.le_of_ble_eq_true rfl) rfl ?_
        refine vv_iconst (v := 0) C dX9_cards_34 (by decide) ?_
        refine vv_istore_n (ls2 := [some (.ref (G.1 145)), some (.int x), some (.int 0), some (.int 0)]) C 3 dX9_cards_35 rfl (Nat.le_of_ble_eq_true rfl) rfl ?_
        have h144 := srt_144 hR0
        have hln := lstS_len (lo := 8) hR0
        refine vv_loc (ls2 := [some (.ref (G.1 145)), some (.int x), some (.int (csF (cdS (dN x) (srtS V (lstS V 8))) 0)), some (.int (nI 0))]) rfl ?_
        refine lp_X9_cards C _ V (hF.vw hV.1) hF.1 h144 (by rw [srt_len]; exact hln) (fun z => by unfold dN; rw [if_neg z]; decide) (by rw [srt_len]; exact hF.2.1) ?_ ((srtS V (lstS V 8)).length + 1) 0 (by omega) (by omega)
        refine vv_iload_n C 2 dX9_cards_74 rfl rfl ?_
        exact vv_iret C hR dX9_cards_75 (qIP_of (by rw [show op_cards V x = _ from if_pos h_d, if_neg (fun z => z.2 (hw.2.2.2.2.2.1.elim (fun q => absurd q h_bn0) id))]; exact ⟨cs_perm srt_perm, hF.rel hV hh, hF.rf⟩))
      · refine vv_bipush (v := (-12)) C dX9_cards_25 (by decide) ?_
        exact vv_iret C hR dX9_cards_27 (qIP_of (by rw [show op_cards V x = _ from if_pos h_d, if_pos ⟨h_x1, fun z => absurd (z.symm.trans h_b0) (by decide)⟩]; exact ⟨rfl, hV, rfO.rf⟩))
  · refine vv_bipush (v := (-11)) C dX9_cards_7 (by decide) ?_
    exact vv_iret C hR dX9_cards_9 (qIP_of (by rw [show op_cards V x = (-11, V) from if_neg h_nd]; exact ⟨rfl, hV, rfO.rf⟩))
theorem iX9_isFirstOf_X9 : ∀ w ∈ u_ws RX9 TX9 13, w ∈ wsX9_isFirstOf := fun w hw => (List.mem_cons_of_mem _ (List.mem_append_right _ hw))
set_option maxRecDepth 100000 in
set_option maxHeartbeats 4000000 in
theorem lp_X9_isFirstOf {p : Program} {l : Launch} {e : Env} {s : State} {m : MethodId} {args : Array Value} {below : List Frame} {meth : Method} {c : Code} {G : mw_GG} {Q : State → Prop} (C : vv_C p s m args c G cX9_isFirstOf 5 wsX9_isFirstOf RX9) (M V : mw_M) (hV : vwO M V) {P : List Nat} (hP : arR M P) (h144 : ∀ r, r ∈ P → r < 144) (hl : P.length ≤ 144) {cc i : Nat} (hc : cc < 8) (hi : i < P.length) (hk : vv p l e ({ frames := 2, cells := 0, slots := 0, locals := 45 } : Room) s m args below meth c G 0 0 Q M 66 [some (.ref (G.1 145)), some (.int (nI i)), some (.int (nI cc)), some (.int (bI (noneB (vlS V cc P) (vlS V cc P i) i = true))), none] []) : ∀ (n k : Nat), i + 1 ≤ k + n → k ≤ i → vv p l e ({ frames := 2, cells := 0, slots := 0, locals := 45 } : Room) s m args below meth c G 0 0 Q M 5 [some (.ref (G.1 145)), some (.int (nI i)), some (.int (nI cc)), some (.int (bI (noneB (vlS V cc P) (vlS V cc P i) k = true))), some (.int (nI k))] [] := by
  intro n
  induction n with
  | zero => intro k h1 h2; omega
  | succ n ih =>
    intro k h1 h2
    have hr2 := h144 _ (getD_mem hi)
    refine vv_iload C 4 dX9_isFirstOf_5 rfl ?_
    refine vv_iload_n C 1 dX9_isFirstOf_7 rfl rfl ?_
    refine vv_icmp_ge C 66 dX9_isFirstOf_8 (by decide) (fun hge => ?_) (fun hlt => ?_)
    · have hin : k = i := by
        rcases Nat.lt_or_ge k i with z | z
        · exact absurd hge (nI_ge z (by omega))
        · omega
      rw [hin]
      refine vv_keep (ls2 := [some (.ref (G.1 145)), some (.int (nI i)), some (.int (nI cc)), some (.int (bI (noneB (vlS V cc P) (vlS V cc P i) i = true))), none]) ⟨rfl, rfl, rfl, rfl, trivial⟩ ?_
      exact hk
    · have hki : k < i := by
        rcases Nat.lt_or_ge k i with z | z
        · exact z
        · exact absurd (nI_le (a := i) z (by omega)) hlt
      have hr1 := h144 (P.getD k 0) (getD_mem (by omega))
      refine vv_iload_n C 3 dX9_isFirstOf_11 rfl rfl ?_
      refine vv_bif_eq C 66 dX9_isFirstOf_12 (by decide) (fun h_no => ?_) (fun h_yes => ?_)
      · refine vv_loc (ls2 := [some (.ref (G.1 145)), some (.int (nI i)), some (.int (nI cc)), some (.int (bI (noneB (vlS V cc P) (vlS V cc P i) i = true))), some (.int (nI k))]) (by rw [bI_f h_no, bI_f (none_mono h2 h_no)]) ?_
        refine vv_keep (ls2 := [some (.ref (G.1 145)), some (.int (nI i)), some (.int (nI cc)), some (.int (bI (noneB (vlS V cc P) (vlS V cc P i) i = true))), none]) ⟨rfl, rfl, rfl, rfl, trivial⟩ ?_
        exact hk
      · refine vv_aload_n C 0 dX9_isFirstOf_15 rfl rfl ?_
        refine vv_aload_n C 0 dX9_isFirstOf_16 rfl rfl ?_
        refine vv_getr C (Cn := RX9) (T := TX9) (N := 13) sh_145 5 rfl rfl (by decide) iX9_isFirstOf_X9 (List.mem_of_getElem? (i := 1) rfl) rfl dX9_isFirstOf_17 ?_
        refine vv_iload C 4 dX9_isFirstOf_20 rfl ?_
        refine vv_ald (j := k) (q := 1300 + k) C sh_149 rfl (by omega) (by omega) dX9_isFirstOf_22 ?_
        refine vv_top (y := nI (P.getD k 0 / 12)) (hP k (by omega)).1 ?_
        refine vv_aload_n C 0 dX9_isFirstOf_23 rfl rfl ?_
        refine vv_getr C (Cn := RX9) (T := TX9) (N := 13) sh_145 6 rfl rfl (by decide) iX9_isFirstOf_X9 (List.mem_of_getElem? (i := 2) rfl) rfl dX9_isFirstOf_24 ?_
        refine vv_iload C 4 dX9_isFirstOf_27 rfl ?_
        refine vv_ald (j := k) (q := 1450 + k) C sh_150 rfl (by omega) (by omega) dX9_isFirstOf_29 ?_
        refine vv_top (y := nI (P.getD k 0 % 12)) (hP k (by omega)).2 ?_
        refine vv_iload_n C 2 dX9_isFirstOf_30 rfl rfl ?_
        refine vv_callVI C [.int (nI (P.getD k 0 / 12)), .int (nI (P.getD k 0 % 12)), .int (nI cc)] (c_X9_at M V hV (f := (P.getD k 0 / 12)) (g := (P.getD k 0 % 12)) (cc := cc) ⟨by omega, by omega, hc⟩ (x := (nI (P.getD k 0 / 12))) (y := (nI (P.getD k 0 % 12))) (z := (nI cc)) rfl rfl rfl) sh_145 rfl (cwV 3 C.1.2.2.2.2 gX9_isFirstOf_X9_at rfl rfl rfl (by decide +kernel) ⟨Nat.le_of_ble_eq_true rfl, Nat.le_of_ble_eq_true rfl⟩) rfl rfl rfl (Nat.le_of_ble_eq_true rfl) dX9_isFirstOf_31 ⟨Nat.le_refl _, Nat.le_refl _⟩ ?_
        refine vv_aload_n C 0 dX9_isFirstOf_34 rfl rfl ?_
        refine vv_aload_n C 0 dX9_isFirstOf_35 rfl rfl ?_
        refine vv_getr C (Cn := RX9) (T := TX9) (N := 13) sh_145 5 rfl rfl (by decide) iX9_isFirstOf_X9 (List.mem_of_getElem? (i := 1) rfl) rfl dX9_isFirstOf_36 ?_
        refine vv_iload_n C 1 dX9_isFirstOf_39 rfl rfl ?_
        refine vv_ald (j := i) (q := 1300 + i) C sh_149 rfl (by omega) (by omega) dX9_isFirstOf_40 ?_
        refine vv_top (y := nI (P.getD i 0 / 12)) (hP i (by omega)).1 ?_
        refine vv_aload_n C 0 dX9_isFirstOf_41 rfl rfl ?_
        refine vv_getr C (Cn := RX9) (T := TX9) (N := 13) sh_145 6 rfl rfl (by decide) iX9_isFirstOf_X9 (List.mem_of_getElem? (i := 2) rfl) rfl dX9_isFirstOf_42 ?_
        refine vv_iload_n C 1 dX9_isFirstOf_45 rfl rfl ?_
        refine vv_ald (j := i) (q := 1450 + i) C sh_150 rfl (by omega) (by omega) dX9_isFirstOf_46 ?_
        refine vv_top (y := nI (P.getD i 0 % 12)) (hP i (by omega)).2 ?_
        refine vv_iload_n C 2 dX9_isFirstOf_47 rfl rfl ?_
        refine vv_callVI C [.int (nI (P.getD i 0 / 12)), .int (nI (P.getD i 0 % 12)), .int (nI cc)] (c_X9_at M V hV (f := (P.getD i 0 / 12)) (g := (P.getD i 0 % 12)) (cc := cc) ⟨by omega, by omega, hc⟩ (x := (nI (P.getD i 0 / 12))) (y := (nI (P.getD i 0 % 12))) (z := (nI cc)) rfl rfl rfl) sh_145 rfl (cwV 3 C.1.2.2.2.2 gX9_isFirstOf_X9_at rfl rfl rfl (by decide +kernel) ⟨Nat.le_of_ble_eq_true rfl, Nat.le_of_ble_eq_true rfl⟩) rfl rfl rfl (Nat.le_of_ble_eq_true rfl) dX9_isFirstOf_48 ⟨Nat.le_refl _, Nat.le_refl _⟩ ?_
        refine vv_icmp_eq C 58 dX9_isFirstOf_51 (by decide) (fun h_eq => ?_) (fun h_ne => ?_)
        · refine vv_iconst (v := 0) C dX9_isFirstOf_58 (by decide) ?_
          refine vv_istore_n (ls2 := [some (.ref (G.1 145)), some (.int (nI i)), some (.int (nI cc)), some (.int 0), some (.int (nI k))]) C 3 dX9_isFirstOf_59 rfl (Nat.le_of_ble_eq_true rfl) rfl ?_
          refine vv_iinc (v := nI (k + 1)) (ls2 := [some (.ref (G.1 145)), some (.int (nI i)), some (.int (nI cc)), some (.int 0), some (.int (nI (k + 1)))]) C 4 dX9_isFirstOf_60 rfl (nI_1 _) rfl ?_
          refine vv_goto C 5 dX9_isFirstOf_63 (by decide) ?_
          refine vv_loc (ls2 := [some (.ref (G.1 145)), some (.int (nI i)), some (.int (nI cc)), some (.int (bI (noneB (vlS V cc P) (vlS V cc P i) (k + 1) = true))), some (.int (nI (k + 1)))]) (by rw [← bI_none_n (f := vlS V cc P) (x := vlS V cc P i) (k := k) h_eq]) ?_
          exact ih (k + 1) (by omega) (by omega)
        · refine vv_iconst (v := 1) C dX9_isFirstOf_54 (by decide) ?_
          refine vv_goto C 59 dX9_isFirstOf_55 (by decide) ?_
          refine vv_istore_n (ls2 := [some (.ref (G.1 145)), some (.int (nI i)), some (.int (nI cc)), some (.int 1), some (.int (nI k))]) C 3 dX9_isFirstOf_59 rfl (Nat.le_of_ble_eq_true rfl) rfl ?_
          refine vv_iinc (v := nI (k + 1)) (ls2 := [some (.ref (G.1 145)), some (.int (nI i)), some (.int (nI cc)), some (.int 1), some (.int (nI (k + 1)))]) C 4 dX9_isFirstOf_60 rfl (nI_1 _) rfl ?_
          refine vv_goto C 5 dX9_isFirstOf_63 (by decide) ?_
          refine vv_loc (ls2 := [some (.ref (G.1 145)), some (.int (nI i)), some (.int (nI cc)), some (.int (bI (noneB (vlS V cc P) (vlS V cc P i) (k + 1) = true))), some (.int (nI (k + 1)))]) (by rw [← bI_none_y (f := vlS V cc P) (x := vlS V cc P i) (k := k) h_yes h_ne]) ?_
          exact ih (k + 1) (by omega) (by omega)
set_option maxRecDepth 100000 in
set_option maxHeartbeats 4000000 in
theorem c_X9_isFirstOf {l : Launch} {G : mw_GG} (M V : mw_M) (hV : vwO M V) {P : List Nat} (hP : arR M P) (h144 : ∀ r, r ∈ P → r < 144) (hl : P.length ≤ 144) {cc i : Nat} (hc : cc < 8) (hi : i < P.length) {x y : Int32} (hx : x = nI i) (hy : y = nI cc) : mw_Met l yX9_isFirstOf wsX9_isFirstOf ({ frames := 2, cells := 0, slots := 0, locals := 45 } : Room) G [.ref (G.1 145), .int x, .int y] M (qI (bI (noneB (vlS V cc P) (vlS V cc P i) i = true)) M) := by
  refine mw_ofV (cc := cX9_isFirstOf) 5 (by decide) rfl rfl (Nat.le_of_ble_eq_true rfl) ?_
  intro p e s m args below meth c C hR hN0
  subst hx
  subst hy
  refine vv_loc (ls2 := [some (.ref (G.1 145)), some (.int (nI i)), some (.int (nI cc)), none, none]) rfl ?_
  refine vv_iconst (v := 1) C dX9_isFirstOf_0 (by decide) ?_
  refine vv_istore_n (ls2 := [some (.ref (G.1 145)), some (.int (nI i)), some (.int (nI cc)), some (.int 1), none]) C 3 dX9_isFirstOf_1 rfl (Nat.le_of_ble_eq_true rfl) rfl ?_
  refine vv_iconst (v := 0) C dX9_isFirstOf_2 (by decide) ?_
  refine vv_istore (ls2 := [some (.ref (G.1 145)), some (.int (nI i)), some (.int (nI cc)), some (.int 1), some (.int 0)]) C 4 dX9_isFirstOf_3 (Nat.le_of_ble_eq_true rfl) rfl ?_
  refine vv_loc (ls2 := [some (.ref (G.1 145)), some (.int (nI i)), some (.int (nI cc)), some (.int (bI (noneB (vlS V cc P) (vlS V cc P i) 0 = true))), some (.int (nI 0))]) (by rw [bI_t none_0]; rfl) ?_
  refine lp_X9_isFirstOf C M V hV hP h144 hl hc hi ?_ (i + 1) 0 (by omega) (by omega)
  refine vv_iload_n C 3 dX9_isFirstOf_66 rfl rfl ?_
  exact vv_zret C hR dX9_isFirstOf_67 (qI_of rfl rfl)
theorem iX9_total_X9 : ∀ w ∈ u_ws RX9 TX9 13, w ∈ wsX9_total := fun w hw => (List.mem_cons_of_mem _ (List.mem_append_right _ hw))
set_option maxRecDepth 100000 in
set_option maxHeartbeats 4000000 in
theorem lp_X9_total {p : Program} {l : Launch} {e : Env} {s : State} {m : MethodId} {args : Array Value} {below : List Frame} {meth : Method} {c : Code} {G : mw_GG} {Q : State → Prop} (C : vv_C p s m args c G cX9_total 10 wsX9_total RX9) (M V : mw_M) (hV : vwO M V) {P : List Nat} (hP : arR M P) (h144 : ∀ r, r ∈ P → r < 144) (hl : P.length ≤ 144) {cc : Nat} {y : Int32} (hc : cc < 8) (hf : ∀ i, i < P.length → vlP (vlS V cc P i)) (hn : M 1102 = nI P.length) (hk : vv p l e ({ frames := 6, cells := 0, slots := 0, locals := 140 } : Room) s m args below meth c G 0 0 Q M 165 [some (.ref (G.1 145)), some (.int (nI cc)), some (.int y), some (.int (nI (svC (vlS V cc P) P.length))), some (.int (svS (vlS V cc P) P.length)), some (.int (svL (vlS V cc P) P.length)), some (.int (svG (vlS V cc P) P.length)), some (.int (nI (dcF (vlS V cc P) P.length))), some (.int (nI P.length)), none] []) : ∀ (k i : Nat), P.length + 1 ≤ i + k → i ≤ P.length → vv p l e ({ frames := 6, cells := 0, slots := 0, locals := 140 } : Room) s m args below meth c G 0 0 Q M 56 [some (.ref (G.1 145)), some (.int (nI cc)), some (.int y), some (.int (nI (svC (vlS V cc P) i))), some (.int (svS (vlS V cc P) i)), some (.int (svL (vlS V cc P) i)), some (.int (svG (vlS V cc P) i)), some (.int (nI (dcF (vlS V cc P) i))), some (.int (nI i)), none] [] := by
  intro k
  induction k with
  | zero => intro i h1 h2; omega
  | succ k ih =>
    intro i h1 h2
    refine vv_iload C 8 dX9_total_56 rfl ?_
    refine vv_aload_n C 0 dX9_total_58 rfl rfl ?_
    refine vv_geti C (Cn := RX9) (T := TX9) (N := 13) sh_145 7 rfl rfl (by decide) iX9_total_X9 (List.mem_of_getElem? (i := 1) rfl) rfl dX9_total_59 ?_
    refine vv_top (y := nI P.length) hn ?_
    refine vv_icmp_ge C 165 dX9_total_62 (by decide) (fun hge => ?_) (fun hlt => ?_)
    · have hin : i = P.length := by
        rcases Nat.lt_or_ge i P.length with z | z
        · exact absurd hge (nI_ge z (by omega))
        · omega
      refine vv_keep (ls2 := [some (.ref (G.1 145)), some (.int (nI cc)), some (.int y), some (.int (nI (svC (vlS V cc P) i))), some (.int (svS (vlS V cc P) i)), some (.int (svL (vlS V cc P) i)), some (.int (svG (vlS V cc P) i)), some (.int (nI (dcF (vlS V cc P) i))), some (.int (nI i)), none]) ⟨rfl, rfl, rfl, rfl, rfl, rfl, rfl, rfl, rfl, trivial⟩ ?_
      rw [hin]
      exact hk
    · have hi4 : i < P.length := by
        rcases Nat.lt_or_ge i P.length with z | z
        · exact z
        · exact absurd (nI_le (a := P.length) z (by omega)) hlt
      have hr1 := h144 (P.getD i 0) (getD_mem hi4)
      refine vv_aload_n C 0 dX9_total_65 rfl rfl ?_
      refine vv_aload_n C 0 dX9_total_66 rfl rfl ?_
      refine vv_getr C (Cn := RX9) (T := TX9) (N := 13) sh_145 5 rfl rfl (by decide) iX9_total_X9 (List.mem_of_getElem? (i := 2) rfl) rfl dX9_total_67 ?_
      refine vv_iload C 8 dX9_total_70 rfl ?_
      refine vv_ald (j := i) (q := 1300 + i) C sh_149 rfl (by omega) (by omega) dX9_total_72 ?_
      refine vv_top (y := nI (P.getD i 0 / 12)) (hP i hi4).1 ?_
      refine vv_aload_n C 0 dX9_total_73 rfl rfl ?_
      refine vv_getr C (Cn := RX9) (T := TX9) (N := 13) sh_145 6 rfl rfl (by decide) iX9_total_X9 (List.mem_of_getElem? (i := 3) rfl) rfl dX9_total_74 ?_
      refine vv_iload C 8 dX9_total_77 rfl ?_
      refine vv_ald (j := i) (q := 1450 + i) C sh_150 rfl (by omega) (by omega) dX9_total_79 ?_
      refine vv_top (y := nI (P.getD i 0 % 12)) (hP i hi4).2 ?_
      refine vv_iload_n C 1 dX9_total_80 rfl rfl ?_
      refine vv_callVI C [.int (nI (P.getD i 0 / 12)), .int (nI (P.getD i 0 % 12)), .int (nI cc)] (c_X9_at M V hV (f := (P.getD i 0 / 12)) (g := (P.getD i 0 % 12)) (cc := cc) ⟨by omega, by omega, hc⟩ (x := (nI (P.getD i 0 / 12))) (y := (nI (P.getD i 0 % 12))) (z := (nI cc)) rfl rfl rfl) sh_145 rfl (cwV 3 C.1.2.2.2.2 gX9_total_X9_at rfl rfl rfl (by decide +kernel) ⟨Nat.le_of_ble_eq_true rfl, Nat.le_of_ble_eq_true rfl⟩) rfl rfl rfl (Nat.le_of_ble_eq_true rfl) dX9_total_81 ⟨Nat.le_refl _, Nat.le_refl _⟩ ?_
      refine vv_istore (ls2 := [some (.ref (G.1 145)), some (.int (nI cc)), some (.int y), some (.int (nI (svC (vlS V cc P) i))), some (.int (svS (vlS V cc P) i)), some (.int (svL (vlS V cc P) i)), some (.int (svG (vlS V cc P) i)), some (.int (nI (dcF (vlS V cc P) i))), some (.int (nI i)), some (.int (vS V cc (P.getD i 0 / 12) (P.getD i 0 % 12)))]) C 9 dX9_total_84 (Nat.le_of_ble_eq_true rfl) rfl ?_
      refine vv_iload C 9 dX9_total_86 rfl ?_
      refine vv_iconst (v := (-1)) C dX9_total_88 (by decide) ?_
      refine vv_icmp_eq C 159 dX9_total_89 (by decide) (fun h_bl => ?_) (fun h_nbl => ?_)
      · have hbl : vlS V cc P i = -1 := h_bl
        refine vv_iinc (v := nI (i + 1)) (ls2 := [some (.ref (G.1 145)), some (.int (nI cc)), some (.int y), some (.int (nI (svC (vlS V cc P) i))), some (.int (svS (vlS V cc P) i)), some (.int (svL (vlS V cc P) i)), some (.int (svG (vlS V cc P) i)), some (.int (nI (dcF (vlS V cc P) i))), some (.int (nI (i + 1))), some (.int (vS V cc (P.getD i 0 / 12) (P.getD i 0 % 12)))]) C 8 dX9_total_159 rfl (nI_1 _) rfl ?_
        refine vv_goto C 56 dX9_total_162 (by decide) ?_
        refine vv_keep (ls2 := [some (.ref (G.1 145)), some (.int (nI cc)), some (.int y), some (.int (nI (svC (vlS V cc P) i))), some (.int (svS (vlS V cc P) i)), some (.int (svL (vlS V cc P) i)), some (.int (svG (vlS V cc P) i)), some (.int (nI (dcF (vlS V cc P) i))), some (.int (nI (i + 1))), none]) ⟨rfl, rfl, rfl, rfl, rfl, rfl, rfl, rfl, rfl, trivial⟩ ?_
        refine vv_loc (ls2 := [some (.ref (G.1 145)), some (.int (nI cc)), some (.int y), some (.int (nI (svC (vlS V cc P) (i + 1)))), some (.int (svS (vlS V cc P) (i + 1))), some (.int (svL (vlS V cc P) (i + 1))), some (.int (svG (vlS V cc P) (i + 1))), some (.int (nI (dcF (vlS V cc P) (i + 1)))), some (.int (nI (i + 1))), none]) (by rw [svC_b hbl, svS_b hbl, svL_b hbl, svG_b hbl, dcF_b hbl]) ?_
        exact ih (i + 1) (by omega) (by omega)
      · have hnb : ¬ vlS V cc P i = -1 := h_nbl
        refine vv_iinc (v := nI ((svC (vlS V cc P) i) + 1)) (ls2 := [some (.ref (G.1 145)), some (.int (nI cc)), some (.int y), some (.int (nI ((svC (vlS V cc P) i) + 1))), some (.int (svS (vlS V cc P) i)), some (.int (svL (vlS V cc P) i)), some (.int (svG (vlS V cc P) i)), some (.int (nI (dcF (vlS V cc P) i))), some (.int (nI i)), some (.int (vS V cc (P.getD i 0 / 12) (P.getD i 0 % 12)))]) C 3 dX9_total_92 rfl (nI_1 _) rfl ?_
        refine vv_iload C 4 dX9_total_95 rfl ?_
        refine vv_iload C 9 dX9_total_97 rfl ?_
        refine vv_iadd C dX9_total_99 ?_
        refine vv_istore (ls2 := [some (.ref (G.1 145)), some (.int (nI cc)), some (.int y), some (.int (nI ((svC (vlS V cc P) i) + 1))), some (.int ((svS (vlS V cc P) i) + (vS V cc (P.getD i 0 / 12) (P.getD i 0 % 12)))), some (.int (svL (vlS V cc P) i)), some (.int (svG (vlS V cc P) i)), some (.int (nI (dcF (vlS V cc P) i))), some (.int (nI i)), some (.int (vS V cc (P.getD i 0 / 12) (P.getD i 0 % 12)))]) C 4 dX9_total_100 (Nat.le_of_ble_eq_true rfl) rfl ?_
        refine vv_iload C 5 dX9_total_102 rfl ?_
        refine vv_if_lt C 114 dX9_total_104 (by decide) (fun h_l0 => ?_) (fun h_nl0 => ?_)
        · refine vv_iload C 9 dX9_total_114 rfl ?_
          refine vv_goto C 121 dX9_total_116 (by decide) ?_
          refine vv_istore (ls2 := [some (.ref (G.1 145)), some (.int (nI cc)), some (.int y), some (.int (nI ((svC (vlS V cc P) i) + 1))), some (.int ((svS (vlS V cc P) i) + (vS V cc (P.getD i 0 / 12) (P.getD i 0 % 12)))), some (.int (vS V cc (P.getD i 0 / 12) (P.getD i 0 % 12))), some (.int (svG (vlS V cc P) i)), some (.int (nI (dcF (vlS V cc P) i))), some (.int (nI i)), some (.int (vS V cc (P.getD i 0 / 12) (P.getD i 0 % 12)))]) C 5 dX9_total_121 (Nat.le_of_ble_eq_true rfl) rfl ?_
          have hs5 : vS V cc (P.getD i 0 / 12) (P.getD i 0 % 12) = svL (vlS V cc P) (i + 1) := ((svL_st hf hi4).trans (stL_y hnb (Or.inl h_l0))).symm
          refine vv_loc (ls2 := [some (.ref (G.1 145)), some (.int (nI cc)), some (.int y), some (.int (nI ((svC (vlS V cc P) i) + 1))), some (.int ((svS (vlS V cc P) i) + (vS V cc (P.getD i 0 / 12) (P.getD i 0 % 12)))), some (.int (svL (vlS V cc P) (i + 1))), some (.int (svG (vlS V cc P) i)), some (.int (nI (dcF (vlS V cc P) i))), some (.int (nI i)), some (.int (vS V cc (P.getD i 0 / 12) (P.getD i 0 % 12)))]) (by rw [hs5]) ?_
          refine vv_iload C 9 dX9_total_123 rfl ?_
          refine vv_iload C 6 dX9_total_125 rfl ?_
          refine vv_icmp_le C 135 dX9_total_127 (by decide) (fun h_le => ?_) (fun h_g => ?_)
          · refine vv_iload C 6 dX9_total_135 rfl ?_
            refine vv_istore (ls2 := [some (.ref (G.1 145)), some (.int (nI cc)), some (.int y), some (.int (nI ((svC (vlS V cc P) i) + 1))), some (.int ((svS (vlS V cc P) i) + (vS V cc (P.getD i 0 / 12) (P.getD i 0 % 12)))), some (.int (svL (vlS V cc P) (i + 1))), some (.int (svG (vlS V cc P) i)), some (.int (nI (dcF (vlS V cc P) i))), some (.int (nI i)), some (.int (vS V cc (P.getD i 0 / 12) (P.getD i 0 % 12)))]) C 6 dX9_total_137 (Nat.le_of_ble_eq_true rfl) rfl ?_
            have hs6 : svG (vlS V cc P) i = svG (vlS V cc P) (i + 1) := ((svG_st hf hi4).trans (stG_n hnb (Int32.not_lt.mpr h_le))).symm
            refine vv_loc (ls2 := [some (.ref (G.1 145)), some (.int (nI cc)), some (.int y), some (.int (nI ((svC (vlS V cc P) i) + 1))), some (.int ((svS (vlS V cc P) i) + (vS V cc (P.getD i 0 / 12) (P.getD i 0 % 12)))), some (.int (svL (vlS V cc P) (i + 1))), some (.int (svG (vlS V cc P) (i + 1))), some (.int (nI (dcF (vlS V cc P) i))), some (.int (nI i)), some (.int (vS V cc (P.getD i 0 / 12) (P.getD i 0 % 12)))]) (by rw [hs6]) ?_
            refine vv_iload C 7 dX9_total_139 rfl ?_
            refine vv_aload_n C 0 dX9_total_141 rfl rfl ?_
            refine vv_iload C 8 dX9_total_142 rfl ?_
            refine vv_iload_n C 1 dX9_total_144 rfl rfl ?_
            refine vv_callVI C [.int (nI i), .int (nI cc)] (c_X9_isFirstOf M V hV hP h144 hl (cc := cc) (i := i) hc hi4 (x := (nI i)) (y := (nI cc)) rfl rfl) sh_145 rfl (cwV 2 C.1.2.2.2.2 gX9_total_X9_isFirstOf rfl rfl rfl (by decide +kernel) ⟨Nat.le_of_ble_eq_true rfl, Nat.le_of_ble_eq_true rfl⟩) rfl rfl rfl (Nat.le_of_ble_eq_true rfl) dX9_total_145 ⟨Nat.le_refl _, Nat.le_refl _⟩ ?_
            refine vv_bif_eq C 155 dX9_total_148 (by decide) (fun h_nn => ?_) (fun h_none => ?_)
            · refine vv_iconst (v := 0) C dX9_total_155 (by decide) ?_
              refine vv_iadd C dX9_total_156 ?_
              refine vv_top (y := nI (dcF (vlS V cc P) i)) (Int32.add_zero _) ?_
              refine vv_istore (ls2 := [some (.ref (G.1 145)), some (.int (nI cc)), some (.int y), some (.int (nI ((svC (vlS V cc P) i) + 1))), some (.int ((svS (vlS V cc P) i) + (vS V cc (P.getD i 0 / 12) (P.getD i 0 % 12)))), some (.int (svL (vlS V cc P) (i + 1))), some (.int (svG (vlS V cc P) (i + 1))), some (.int (nI (dcF (vlS V cc P) i))), some (.int (nI i)), some (.int (vS V cc (P.getD i 0 / 12) (P.getD i 0 % 12)))]) C 7 dX9_total_157 (Nat.le_of_ble_eq_true rfl) rfl ?_
              refine vv_iinc (v := nI (i + 1)) (ls2 := [some (.ref (G.1 145)), some (.int (nI cc)), some (.int y), some (.int (nI ((svC (vlS V cc P) i) + 1))), some (.int ((svS (vlS V cc P) i) + (vS V cc (P.getD i 0 / 12) (P.getD i 0 % 12)))), some (.int (svL (vlS V cc P) (i + 1))), some (.int (svG (vlS V cc P) (i + 1))), some (.int (nI (dcF (vlS V cc P) i))), some (.int (nI (i + 1))), some (.int (vS V cc (P.getD i 0 / 12) (P.getD i 0 % 12)))]) C 8 dX9_total_159 rfl (nI_1 _) rfl ?_
              refine vv_goto C 56 dX9_total_162 (by decide) ?_
              refine vv_keep (ls2 := [some (.ref (G.1 145)), some (.int (nI cc)), some (.int y), some (.int (nI ((svC (vlS V cc P) i) + 1))), some (.int ((svS (vlS V cc P) i) + (vS V cc (P.getD i 0 / 12) (P.getD i 0 % 12)))), some (.int (svL (vlS V cc P) (i + 1))), some (.int (svG (vlS V cc P) (i + 1))), some (.int (nI (dcF (vlS V cc P) i))), some (.int (nI (i + 1))), none]) ⟨rfl, rfl, rfl, rfl, rfl, rfl, rfl, rfl, rfl, trivial⟩ ?_
              refine vv_loc (ls2 := [some (.ref (G.1 145)), some (.int (nI cc)), some (.int y), some (.int (nI (svC (vlS V cc P) (i + 1)))), some (.int (svS (vlS V cc P) (i + 1))), some (.int (svL (vlS V cc P) (i + 1))), some (.int (svG (vlS V cc P) (i + 1))), some (.int (nI (dcF (vlS V cc P) (i + 1)))), some (.int (nI (i + 1))), none]) (by rw [svC_n hnb, svS_n hnb, dcF_n hnb h_nn]; rfl) ?_
              exact ih (i + 1) (by omega) (by omega)
            · refine vv_iconst (v := 1) C dX9_total_151 (by decide) ?_
              refine vv_goto C 156 dX9_total_152 (by decide) ?_
              refine vv_iadd C dX9_total_156 ?_
              refine vv_top (y := nI (dcF (vlS V cc P) i + 1)) (nI_1 _) ?_
              refine vv_istore (ls2 := [some (.ref (G.1 145)), some (.int (nI cc)), some (.int y), some (.int (nI ((svC (vlS V cc P) i) + 1))), some (.int ((svS (vlS V cc P) i) + (vS V cc (P.getD i 0 / 12) (P.getD i 0 % 12)))), some (.int (svL (vlS V cc P) (i + 1))), some (.int (svG (vlS V cc P) (i + 1))), some (.int (nI (dcF (vlS V cc P) i + 1))), some (.int (nI i)), some (.int (vS V cc (P.getD i 0 / 12) (P.getD i 0 % 12)))]) C 7 dX9_total_157 (Nat.le_of_ble_eq_true rfl) rfl ?_
              refine vv_iinc (v := nI (i + 1)) (ls2 := [some (.ref (G.1 145)), some (.int (nI cc)), some (.int y), some (.int (nI ((svC (vlS V cc P) i) + 1))), some (.int ((svS (vlS V cc P) i) + (vS V cc (P.getD i 0 / 12) (P.getD i 0 % 12)))), some (.int (svL (vlS V cc P) (i + 1))), some (.int (svG (vlS V cc P) (i + 1))), some (.int (nI (dcF (vlS V cc P) i + 1))), some (.int (nI (i + 1))), some (.int (vS V cc (P.getD i 0 / 12) (P.getD i 0 % 12)))]) C 8 dX9_total_159 rfl (nI_1 _) rfl ?_
              refine vv_goto C 56 dX9_total_162 (by decide) ?_
              refine vv_keep (ls2 := [some (.ref (G.1 145)), some (.int (nI cc)), some (.int y), some (.int (nI ((svC (vlS V cc P) i) + 1))), some (.int ((svS (vlS V cc P) i) + (vS V cc (P.getD i 0 / 12) (P.getD i 0 % 12)))), some (.int (svL (vlS V cc P) (i + 1))), some (.int (svG (vlS V cc P) (i + 1))), some (.int (nI (dcF (vlS V cc P) i + 1))), some (.int (nI (i + 1))), none]) ⟨rfl, rfl, rfl, rfl, rfl, rfl, rfl, rfl, rfl, trivial⟩ ?_
              refine vv_loc (ls2 := [some (.ref (G.1 145)), some (.int (nI cc)), some (.int y), some (.int (nI (svC (vlS V cc P) (i + 1)))), some (.int (svS (vlS V cc P) (i + 1))), some (.int (svL (vlS V cc P) (i + 1))), some (.int (svG (vlS V cc P) (i + 1))), some (.int (nI (dcF (vlS V cc P) (i + 1)))), some (.int (nI (i + 1))), none]) (by rw [svC_n hnb, svS_n hnb, dcF_y hnb h_none]; rfl) ?_
              exact ih (i + 1) (by omega) (by omega)
          · refine vv_iload C 9 dX9_total_130 rfl ?_
            refine vv_goto C 137 dX9_total_132 (by decide) ?_
            refine vv_istore (ls2 := [some (.ref (G.1 145)), some (.int (nI cc)), some (.int y), some (.int (nI ((svC (vlS V cc P) i) + 1))), some (.int ((svS (vlS V cc P) i) + (vS V cc (P.getD i 0 / 12) (P.getD i 0 % 12)))), some (.int (svL (vlS V cc P) (i + 1))), some (.int (vS V cc (P.getD i 0 / 12) (P.getD i 0 % 12))), some (.int (nI (dcF (vlS V cc P) i))), some (.int (nI i)), some (.int (vS V cc (P.getD i 0 / 12) (P.getD i 0 % 12)))]) C 6 dX9_total_137 (Nat.le_of_ble_eq_true rfl) rfl ?_
            have hs6 : vS V cc (P.getD i 0 / 12) (P.getD i 0 % 12) = svG (vlS V cc P) (i + 1) := ((svG_st hf hi4).trans (stG_y hnb (Int32.not_le.mp h_g))).symm
            refine vv_loc (ls2 := [some (.ref (G.1 145)), some (.int (nI cc)), some (.int y), some (.int (nI ((svC (vlS V cc P) i) + 1))), some (.int ((svS (vlS V cc P) i) + (vS V cc (P.getD i 0 / 12) (P.getD i 0 % 12)))), some (.int (svL (vlS V cc P) (i + 1))), some (.int (svG (vlS V cc P) (i + 1))), some (.int (nI (dcF (vlS V cc P) i))), some (.int (nI i)), some (.int (vS V cc (P.getD i 0 / 12) (P.getD i 0 % 12)))]) (by rw [hs6]) ?_
            refine vv_iload C 7 dX9_total_139 rfl ?_
            refine vv_aload_n C 0 dX9_total_141 rfl rfl ?_
            refine vv_iload C 8 dX9_total_142 rfl ?_
            refine vv_iload_n C 1 dX9_total_144 rfl rfl ?_
            refine vv_callVI C [.int (nI i), .int (nI cc)] (c_X9_isFirstOf M V hV hP h144 hl (cc := cc) (i := i) hc hi4 (x := (nI i)) (y := (nI cc)) rfl rfl) sh_145 rfl (cwV 2 C.1.2.2.2.2 gX9_total_X9_isFirstOf rfl rfl rfl (by decide +kernel) ⟨Nat.le_of_ble_eq_true rfl, Nat.le_of_ble_eq_true rfl⟩) rfl rfl rfl (Nat.le_of_ble_eq_true rfl) dX9_total_145 ⟨Nat.le_refl _, Nat.le_refl _⟩ ?_
            refine vv_bif_eq C 155 dX9_total_148 (by decide) (fun h_nn => ?_) (fun h_none => ?_)
            · refine vv_iconst (v := 0) C dX9_total_155 (by decide) ?_
              refine vv_iadd C dX9_total_156 ?_
              refine vv_top (y := nI (dcF (vlS V cc P) i)) (Int32.add_zero _) ?_
              refine vv_istore (ls2 := [some (.ref (G.1 145)), some (.int (nI cc)), some (.int y), some (.int (nI ((svC (vlS V cc P) i) + 1))), some (.int ((svS (vlS V cc P) i) + (vS V cc (P.getD i 0 / 12) (P.getD i 0 % 12)))), some (.int (svL (vlS V cc P) (i + 1))), some (.int (svG (vlS V cc P) (i + 1))), some (.int (nI (dcF (vlS V cc P) i))), some (.int (nI i)), some (.int (vS V cc (P.getD i 0 / 12) (P.getD i 0 % 12)))]) C 7 dX9_total_157 (Nat.le_of_ble_eq_true rfl) rfl ?_
              refine vv_iinc (v := nI (i + 1)) (ls2 := [some (.ref (G.1 145)), some (.int (nI cc)), some (.int y), some (.int (nI ((svC (vlS V cc P) i) + 1))), some (.int ((svS (vlS V cc P) i) + (vS V cc (P.getD i 0 / 12) (P.getD i 0 % 12)))), some (.int (svL (vlS V cc P) (i + 1))), some (.int (svG (vlS V cc P) (i + 1))), some (.int (nI (dcF (vlS V cc P) i))), some (.int (nI (i + 1))), some (.int (vS V cc (P.getD i 0 / 12) (P.getD i 0 % 12)))]) C 8 dX9_total_159 rfl (nI_1 _) rfl ?_
              refine vv_goto C 56 dX9_total_162 (by decide) ?_
              refine vv_keep (ls2 := [some (.ref (G.1 145)), some (.int (nI cc)), some (.int y), some (.int (nI ((svC (vlS V cc P) i) + 1))), some (.int ((svS (vlS V cc P) i) + (vS V cc (P.getD i 0 / 12) (P.getD i 0 % 12)))), some (.int (svL (vlS V cc P) (i + 1))), some (.int (svG (vlS V cc P) (i + 1))), some (.int (nI (dcF (vlS V cc P) i))), some (.int (nI (i + 1))), none]) ⟨rfl, rfl, rfl, rfl, rfl, rfl, rfl, rfl, rfl, trivial⟩ ?_
              refine vv_loc (ls2 := [some (.ref (G.1 145)), some (.int (nI cc)), some (.int y), some (.int (nI (svC (vlS V cc P) (i + 1)))), some (.int (svS (vlS V cc P) (i + 1))), some (.int (svL (vlS V cc P) (i + 1))), some (.int (svG (vlS V cc P) (i + 1))), some (.int (nI (dcF (vlS V cc P) (i + 1)))), some (.int (nI (i + 1))), none]) (by rw [svC_n hnb, svS_n hnb, dcF_n hnb h_nn]; rfl) ?_
              exact ih (i + 1) (by omega) (by omega)
            · refine vv_iconst (v := 1) C dX9_total_151 (by decide) ?_
              refine vv_goto C 156 dX9_total_152 (by decide) ?_
              refine vv_iadd C dX9_total_156 ?_
              refine vv_top (y := nI (dcF (vlS V cc P) i + 1)) (nI_1 _) ?_
              refine vv_istore (ls2 := [some (.ref (G.1 145)), some (.int (nI cc)), some (.int y), some (.int (nI ((svC (vlS V cc P) i) + 1))), some (.int ((svS (vlS V cc P) i) + (vS V cc (P.getD i 0 / 12) (P.getD i 0 % 12)))), some (.int (svL (vlS V cc P) (i + 1))), some (.int (svG (vlS V cc P) (i + 1))), some (.int (nI (dcF (vlS V cc P) i + 1))), some (.int (nI i)), some (.int (vS V cc (P.getD i 0 / 12) (P.getD i 0 % 12)))]) C 7 dX9_total_157 (Nat.le_of_ble_eq_true rfl) rfl ?_
              refine vv_iinc (v := nI (i + 1)) (ls2 := [some (.ref (G.1 145)), some (.int (nI cc)), some (.int y), some (.int (nI ((svC (vlS V cc P) i) + 1))), some (.int ((svS (vlS V cc P) i) + (vS V cc (P.getD i 0 / 12) (P.getD i 0 % 12)))), some (.int (svL (vlS V cc P) (i + 1))), some (.int (svG (vlS V cc P) (i + 1))), some (.int (nI (dcF (vlS V cc P) i + 1))), some (.int (nI (i + 1))), some (.int (vS V cc (P.getD i 0 / 12) (P.getD i 0 % 12)))]) C 8 dX9_total_159 rfl (nI_1 _) rfl ?_
              refine vv_goto C 56 dX9_total_162 (by decide) ?_
              refine vv_keep (ls2 := [some (.ref (G.1 145)), some (.int (nI cc)), some (.int y), some (.int (nI ((svC (vlS V cc P) i) + 1))), some (.int ((svS (vlS V cc P) i) + (vS V cc (P.getD i 0 / 12) (P.getD i 0 % 12)))), some (.int (svL (vlS V cc P) (i + 1))), some (.int (svG (vlS V cc P) (i + 1))), some (.int (nI (dcF (vlS V cc P) i + 1))), some (.int (nI (i + 1))), none]) ⟨rfl, rfl, rfl, rfl, rfl, rfl, rfl, rfl, rfl, trivial⟩ ?_
              refine vv_loc (ls2 := [some (.ref (G.1 145)), some (.int (nI cc)), some (.int y), some (.int (nI (svC (vlS V cc P) (i + 1)))), some (.int (svS (vlS V cc P) (i + 1))), some (.int (svL (vlS V cc P) (i + 1))), some (.int (svG (vlS V cc P) (i + 1))), some (.int (nI (dcF (vlS V cc P) (i + 1)))), some (.int (nI (i + 1))), none]) (by rw [svC_n hnb, svS_n hnb, dcF_y hnb h_none]; rfl) ?_
              exact ih (i + 1) (by omega) (by omega)
        · refine vv_iload C 9 dX9_total_107 rfl ?_
          refine vv_iload C 5 dX9_total_109 rfl ?_
          refine vv_icmp_ge C 119 dX9_total_111 (by decide) (fun h_ge => ?_) (fun h_l => ?_)
          · refine vv_iload C 5 dX9_total_119 rfl ?_
            refine vv_istore (ls2 := [some (.ref (G.1 145)), some (.int (nI cc)), some (.int y), some (.int (nI ((svC (vlS V cc P) i) + 1))), some (.int ((svS (vlS V cc P) i) + (vS V cc (P.getD i 0 / 12) (P.getD i 0 % 12)))), some (.int (svL (vlS V cc P) i)), some (.int (svG (vlS V cc P) i)), some (.int (nI (dcF (vlS V cc P) i))), some (.int (nI i)), some (.int (vS V cc (P.getD i 0 / 12) (P.getD i 0 % 12)))]) C 5 dX9_total_121 (Nat.le_of_ble_eq_true rfl) rfl ?_
            have hs5 : svL (vlS V cc P) i = svL (vlS V cc P) (i + 1) := ((svL_st hf hi4).trans (stL_n hnb (fun z => z.elim h_nl0 (Int32.not_lt.mpr h_ge)))).symm
            refine vv_loc (ls2 := [some (.ref (G.1 145)), some (.int (nI cc)), some (.int y), some (.int (nI ((svC (vlS V cc P) i) + 1))), some (.int ((svS (vlS V cc P) i) + (vS V cc (P.getD i 0 / 12) (P.getD i 0 % 12)))), some (.int (svL (vlS V cc P) (i + 1))), some (.int (svG (vlS V cc P) i)), some (.int (nI (dcF (vlS V cc P) i))), some (.int (nI i)), some (.int (vS V cc (P.getD i 0 / 12) (P.getD i 0 % 12)))]) (by rw [hs5]) ?_
            refine vv_iload C 9 dX9_total_123 rfl ?_
            refine vv_iload C 6 dX9_total_125 rfl ?_
            refine vv_icmp_le C 135 dX9_total_127 (by decide) (fun h_le => ?_) (fun h_g => ?_)
            · refine vv_iload C 6 dX9_total_135 rfl ?_
              refine vv_istore (ls2 := [some (.ref (G.1 145)), some (.int (nI cc)), some (.int y), some (.int (nI ((svC (vlS V cc P) i) + 1))), some (.int ((svS (vlS V cc P) i) + (vS V cc (P.getD i 0 / 12) (P.getD i 0 % 12)))), some (.int (svL (vlS V cc P) (i + 1))), some (.int (svG (vlS V cc P) i)), some (.int (nI (dcF (vlS V cc P) i))), some (.int (nI i)), some (.int (vS V cc (P.getD i 0 / 12) (P.getD i 0 % 12)))]) C 6 dX9_total_137 (Nat.le_of_ble_eq_true rfl) rfl ?_
              have hs6 : svG (vlS V cc P) i = svG (vlS V cc P) (i + 1) := ((svG_st hf hi4).trans (stG_n hnb (Int32.not_lt.mpr h_le))).symm
              refine vv_loc (ls2 := [some (.ref (G.1 145)), some (.int (nI cc)), some (.int y), some (.int (nI ((svC (vlS V cc P) i) + 1))), some (.int ((svS (vlS V cc P) i) + (vS V cc (P.getD i 0 / 12) (P.getD i 0 % 12)))), some (.int (svL (vlS V cc P) (i + 1))), some (.int (svG (vlS V cc P) (i + 1))), some (.int (nI (dcF (vlS V cc P) i))), some (.int (nI i)), some (.int (vS V cc (P.getD i 0 / 12) (P.getD i 0 % 12)))]) (by rw [hs6]) ?_
              refine vv_iload C 7 dX9_total_139 rfl ?_
              refine vv_aload_n C 0 dX9_total_141 rfl rfl ?_
              refine vv_iload C 8 dX9_total_142 rfl ?_
              refine vv_iload_n C 1 dX9_total_144 rfl rfl ?_
              refine vv_callVI C [.int (nI i), .int (nI cc)] (c_X9_isFirstOf M V hV hP h144 hl (cc := cc) (i := i) hc hi4 (x := (nI i)) (y := (nI cc)) rfl rfl) sh_145 rfl (cwV 2 C.1.2.2.2.2 gX9_total_X9_isFirstOf rfl rfl rfl (by decide +kernel) ⟨Nat.le_of_ble_eq_true rfl, Nat.le_of_ble_eq_true rfl⟩) rfl rfl rfl (Nat.le_of_ble_eq_true rfl) dX9_total_145 ⟨Nat.le_refl _, Nat.le_refl _⟩ ?_
              refine vv_bif_eq C 155 dX9_total_148 (by decide) (fun h_nn => ?_) (fun h_none => ?_)
              · refine vv_iconst (v := 0) C dX9_total_155 (by decide) ?_
                refine vv_iadd C dX9_total_156 ?_
                refine vv_top (y := nI (dcF (vlS V cc P) i)) (Int32.add_zero _) ?_
                refine vv_istore (ls2 := [some (.ref (G.1 145)), some (.int (nI cc)), some (.int y), some (.int (nI ((svC (vlS V cc P) i) + 1))), some (.int ((svS (vlS V cc P) i) + (vS V cc (P.getD i 0 / 12) (P.getD i 0 % 12)))), some (.int (svL (vlS V cc P) (i + 1))), some (.int (svG (vlS V cc P) (i + 1))), some (.int (nI (dcF (vlS V cc P) i))), some (.int (nI i)), some (.int (vS V cc (P.getD i 0 / 12) (P.getD i 0 % 12)))]) C 7 dX9_total_157 (Nat.le_of_ble_eq_true rfl) rfl ?_
                refine vv_iinc (v := nI (i + 1)) (ls2 := [some (.ref (G.1 145)), some (.int (nI cc)), some (.int y), some (.int (nI ((svC (vlS V cc P) i) + 1))), some (.int ((svS (vlS V cc P) i) + (vS V cc (P.getD i 0 / 12) (P.getD i 0 % 12)))), some (.int (svL (vlS V cc P) (i + 1))), some (.int (svG (vlS V cc P) (i + 1))), some (.int (nI (dcF (vlS V cc P) i))), some (.int (nI (i + 1))), some (.int (vS V cc (P.getD i 0 / 12) (P.getD i 0 % 12)))]) C 8 dX9_total_159 rfl (nI_1 _) rfl ?_
                refine vv_goto C 56 dX9_total_162 (by decide) ?_
                refine vv_keep (ls2 := [some (.ref (G.1 145)), some (.int (nI cc)), some (.int y), some (.int (nI ((svC (vlS V cc P) i) + 1))), some (.int ((svS (vlS V cc P) i) + (vS V cc (P.getD i 0 / 12) (P.getD i 0 % 12)))), some (.int (svL (vlS V cc P) (i + 1))), some (.int (svG (vlS V cc P) (i + 1))), some (.int (nI (dcF (vlS V cc P) i))), some (.int (nI (i + 1))), none]) ⟨rfl, rfl, rfl, rfl, rfl, rfl, rfl, rfl, rfl, trivial⟩ ?_
                refine vv_loc (ls2 := [some (.ref (G.1 145)), some (.int (nI cc)), some (.int y), some (.int (nI (svC (vlS V cc P) (i + 1)))), some (.int (svS (vlS V cc P) (i + 1))), some (.int (svL (vlS V cc P) (i + 1))), some (.int (svG (vlS V cc P) (i + 1))), some (.int (nI (dcF (vlS V cc P) (i + 1)))), some (.int (nI (i + 1))), none]) (by rw [svC_n hnb, svS_n hnb, dcF_n hnb h_nn]; rfl) ?_
                exact ih (i + 1) (by omega) (by omega)
              · refine vv_iconst (v := 1) C dX9_total_151 (by decide) ?_
                refine vv_goto C 156 dX9_total_152 (by decide) ?_
                refine vv_iadd C dX9_total_156 ?_
                refine vv_top (y := nI (dcF (vlS V cc P) i + 1)) (nI_1 _) ?_
                refine vv_istore (ls2 := [some (.ref (G.1 145)), some (.int (nI cc)), some (.int y), some (.int (nI ((svC (vlS V cc P) i) + 1))), some (.int ((svS (vlS V cc P) i) + (vS V cc (P.getD i 0 / 12) (P.getD i 0 % 12)))), some (.int (svL (vlS V cc P) (i + 1))), some (.int (svG (vlS V cc P) (i + 1))), some (.int (nI (dcF (vlS V cc P) i + 1))), some (.int (nI i)), some (.int (vS V cc (P.getD i 0 / 12) (P.getD i 0 % 12)))]) C 7 dX9_total_157 (Nat.le_of_ble_eq_true rfl) rfl ?_
                refine vv_iinc (v := nI (i + 1)) (ls2 := [some (.ref (G.1 145)), some (.int (nI cc)), some (.int y), some (.int (nI ((svC (vlS V cc P) i) + 1))), some (.int ((svS (vlS V cc P) i) + (vS V cc (P.getD i 0 / 12) (P.getD i 0 % 12)))), some (.int (svL (vlS V cc P) (i + 1))), some (.int (svG (vlS V cc P) (i + 1))), some (.int (nI (dcF (vlS V cc P) i + 1))), some (.int (nI (i + 1))), some (.int (vS V cc (P.getD i 0 / 12) (P.getD i 0 % 12)))]) C 8 dX9_total_159 rfl (nI_1 _) rfl ?_
                refine vv_goto C 56 dX9_total_162 (by decide) ?_
                refine vv_keep (ls2 := [some (.ref (G.1 145)), some (.int (nI cc)), some (.int y), some (.int (nI ((svC (vlS V cc P) i) + 1))), some (.int ((svS (vlS V cc P) i) + (vS V cc (P.getD i 0 / 12) (P.getD i 0 % 12)))), some (.int (svL (vlS V cc P) (i + 1))), some (.int (svG (vlS V cc P) (i + 1))), some (.int (nI (dcF (vlS V cc P) i + 1))), some (.int (nI (i + 1))), none]) ⟨rfl, rfl, rfl, rfl, rfl, rfl, rfl, rfl, rfl, trivial⟩ ?_
                refine vv_loc (ls2 := [some (.ref (G.1 145)), some (.int (nI cc)), some (.int y), some (.int (nI (svC (vlS V cc P) (i + 1)))), some (.int (svS (vlS V cc P) (i + 1))), some (.int (svL (vlS V cc P) (i + 1))), some (.int (svG (vlS V cc P) (i + 1))), some (.int (nI (dcF (vlS V cc P) (i + 1)))), some (.int (nI (i + 1))), none]) (by rw [svC_n hnb, svS_n hnb, dcF_y hnb h_none]; rfl) ?_
                exact ih (i + 1) (by omega) (by omega)
            · refine vv_iload C 9 dX9_total_130 rfl ?_
              refine vv_goto C 137 dX9_total_132 (by decide) ?_
              refine vv_istore (ls2 := [some (.ref (G.1 145)), some (.int (nI cc)), some (.int y), some (.int (nI ((svC (vlS V cc P) i) + 1))), some (.int ((svS (vlS V cc P) i) + (vS V cc (P.getD i 0 / 12) (P.getD i 0 % 12)))), some (.int (svL (vlS V cc P) (i + 1))), some (.int (vS V cc (P.getD i 0 / 12) (P.getD i 0 % 12))), some (.int (nI (dcF (vlS V cc P) i))), some (.int (nI i)), some (.int (vS V cc (P.getD i 0 / 12) (P.getD i 0 % 12)))]) C 6 dX9_total_137 (Nat.le_of_ble_eq_true rfl) rfl ?_
              have hs6 : vS V cc (P.getD i 0 / 12) (P.getD i 0 % 12) = svG (vlS V cc P) (i + 1) := ((svG_st hf hi4).trans (stG_y hnb (Int32.not_le.mp h_g))).symm
              refine vv_loc (ls2 := [some (.ref (G.1 145)), some (.int (nI cc)), some (.int y), some (.int (nI ((svC (vlS V cc P) i) + 1))), some (.int ((svS (vlS V cc P) i) + (vS V cc (P.getD i 0 / 12) (P.getD i 0 % 12)))), some (.int (svL (vlS V cc P) (i + 1))), some (.int (svG (vlS V cc P) (i + 1))), some (.int (nI (dcF (vlS V cc P) i))), some (.int (nI i)), some (.int (vS V cc (P.getD i 0 / 12) (P.getD i 0 % 12)))]) (by rw [hs6]) ?_
              refine vv_iload C 7 dX9_total_139 rfl ?_
              refine vv_aload_n C 0 dX9_total_141 rfl rfl ?_
              refine vv_iload C 8 dX9_total_142 rfl ?_
              refine vv_iload_n C 1 dX9_total_144 rfl rfl ?_
              refine vv_callVI C [.int (nI i), .int (nI cc)] (c_X9_isFirstOf M V hV hP h144 hl (cc := cc) (i := i) hc hi4 (x := (nI i)) (y := (nI cc)) rfl rfl) sh_145 rfl (cwV 2 C.1.2.2.2.2 gX9_total_X9_isFirstOf rfl rfl rfl (by decide +kernel) ⟨Nat.le_of_ble_eq_true rfl, Nat.le_of_ble_eq_true rfl⟩) rfl rfl rfl (Nat.le_of_ble_eq_true rfl) dX9_total_145 ⟨Nat.le_refl _, Nat.le_refl _⟩ ?_
              refine vv_bif_eq C 155 dX9_total_148 (by decide) (fun h_nn => ?_) (fun h_none => ?_)
              · refine vv_iconst (v := 0) C dX9_total_155 (by decide) ?_
                refine vv_iadd C dX9_total_156 ?_
                refine vv_top (y := nI (dcF (vlS V cc P) i)) (Int32.add_zero _) ?_
                refine vv_istore (ls2 := [some (.ref (G.1 145)), some (.int (nI cc)), some (.int y), some (.int (nI ((svC (vlS V cc P) i) + 1))), some (.int ((svS (vlS V cc P) i) + (vS V cc (P.getD i 0 / 12) (P.getD i 0 % 12)))), some (.int (svL (vlS V cc P) (i + 1))), some (.int (svG (vlS V cc P) (i + 1))), some (.int (nI (dcF (vlS V cc P) i))), some (.int (nI i)), some (.int (vS V cc (P.getD i 0 / 12) (P.getD i 0 % 12)))]) C 7 dX9_total_157 (Nat.le_of_ble_eq_true rfl) rfl ?_
                refine vv_iinc (v := nI (i + 1)) (ls2 := [some (.ref (G.1 145)), some (.int (nI cc)), some (.int y), some (.int (nI ((svC (vlS V cc P) i) + 1))), some (.int ((svS (vlS V cc P) i) + (vS V cc (P.getD i 0 / 12) (P.getD i 0 % 12)))), some (.int (svL (vlS V cc P) (i + 1))), some (.int (svG (vlS V cc P) (i + 1))), some (.int (nI (dcF (vlS V cc P) i))), some (.int (nI (i + 1))), some (.int (vS V cc (P.getD i 0 / 12) (P.getD i 0 % 12)))]) C 8 dX9_total_159 rfl (nI_1 _) rfl ?_
                refine vv_goto C 56 dX9_total_162 (by decide) ?_
                refine vv_keep (ls2 := [some (.ref (G.1 145)), some (.int (nI cc)), some (.int y), some (.int (nI ((svC (vlS V cc P) i) + 1))), some (.int ((svS (vlS V cc P) i) + (vS V cc (P.getD i 0 / 12) (P.getD i 0 % 12)))), some (.int (svL (vlS V cc P) (i + 1))), some (.int (svG (vlS V cc P) (i + 1))), some (.int (nI (dcF (vlS V cc P) i))), some (.int (nI (i + 1))), none]) ⟨rfl, rfl, rfl, rfl, rfl, rfl, rfl, rfl, rfl, trivial⟩ ?_
                refine vv_loc (ls2 := [some (.ref (G.1 145)), some (.int (nI cc)), some (.int y), some (.int (nI (svC (vlS V cc P) (i + 1)))), some (.int (svS (vlS V cc P) (i + 1))), some (.int (svL (vlS V cc P) (i + 1))), some (.int (svG (vlS V cc P) (i + 1))), some (.int (nI (dcF (vlS V cc P) (i + 1)))), some (.int (nI (i + 1))), none]) (by rw [svC_n hnb, svS_n hnb, dcF_n hnb h_nn]; rfl) ?_
                exact ih (i + 1) (by omega) (by omega)
              · refine vv_iconst (v := 1) C dX9_total_151 (by decide) ?_
                refine vv_goto C 156 dX9_total_152 (by decide) ?_
                refine vv_iadd C dX9_total_156 ?_
                refine vv_top (y := nI (dcF (vlS V cc P) i + 1)) (nI_1 _) ?_
                refine vv_istore (ls2 := [some (.ref (G.1 145)), some (.int (nI cc)), some (.int y), some (.int (nI ((svC (vlS V cc P) i) + 1))), some (.int ((svS (vlS V cc P) i) + (vS V cc (P.getD i 0 / 12) (P.getD i 0 % 12)))), some (.int (svL (vlS V cc P) (i + 1))), some (.int (svG (vlS V cc P) (i + 1))), some (.int (nI (dcF (vlS V cc P) i + 1))), some (.int (nI i)), some (.int (vS V cc (P.getD i 0 / 12) (P.getD i 0 % 12)))]) C 7 dX9_total_157 (Nat.le_of_ble_eq_true rfl) rfl ?_
                refine vv_iinc (v := nI (i + 1)) (ls2 := [some (.ref (G.1 145)), some (.int (nI cc)), some (.int y), some (.int (nI ((svC (vlS V cc P) i) + 1))), some (.int ((svS (vlS V cc P) i) + (vS V cc (P.getD i 0 / 12) (P.getD i 0 % 12)))), some (.int (svL (vlS V cc P) (i + 1))), some (.int (svG (vlS V cc P) (i + 1))), some (.int (nI (dcF (vlS V cc P) i + 1))), some (.int (nI (i + 1))), some (.int (vS V cc (P.getD i 0 / 12) (P.getD i 0 % 12)))]) C 8 dX9_total_159 rfl (nI_1 _) rfl ?_
                refine vv_goto C 56 dX9_total_162 (by decide) ?_
                refine vv_keep (ls2 := [some (.ref (G.1 145)), some (.int (nI cc)), some (.int y), some (.int (nI ((svC (vlS V cc P) i) + 1))), some (.int ((svS (vlS V cc P) i) + (vS V cc (P.getD i 0 / 12) (P.getD i 0 % 12)))), some (.int (svL (vlS V cc P) (i + 1))), some (.int (svG (vlS V cc P) (i + 1))), some (.int (nI (dcF (vlS V cc P) i + 1))), some (.int (nI (i + 1))), none]) ⟨rfl, rfl, rfl, rfl, rfl, rfl, rfl, rfl, rfl, trivial⟩ ?_
                refine vv_loc (ls2 := [some (.ref (G.1 145)), some (.int (nI cc)), some (.int y), some (.int (nI (svC (vlS V cc P) (i + 1)))), some (.int (svS (vlS V cc P) (i + 1))), some (.int (svL (vlS V cc P) (i + 1))), some (.int (svG (vlS V cc P) (i + 1))), some (.int (nI (dcF (vlS V cc P) (i + 1)))), some (.int (nI (i + 1))), none]) (by rw [svC_n hnb, svS_n hnb, dcF_y hnb h_none]; rfl) ?_
                exact ih (i + 1) (by omega) (by omega)
          · refine vv_iload C 9 dX9_total_114 rfl ?_
            refine vv_goto C 121 dX9_total_116 (by decide) ?_
            refine vv_istore (ls2 := [some (.ref (G.1 145)), some (.int (nI cc)), some (.int y), some (.int (nI ((svC (vlS V cc P) i) + 1))), some (.int ((svS (vlS V cc P) i) + (vS V cc (P.getD i 0 / 12) (P.getD i 0 % 12)))), some (.int (vS V cc (P.getD i 0 / 12) (P.getD i 0 % 12))), some (.int (svG (vlS V cc P) i)), some (.int (nI (dcF (vlS V cc P) i))), some (.int (nI i)), some (.int (vS V cc (P.getD i 0 / 12) (P.getD i 0 % 12)))]) C 5 dX9_total_121 (Nat.le_of_ble_eq_true rfl) rfl ?_
            have hs5 : vS V cc (P.getD i 0 / 12) (P.getD i 0 % 12) = svL (vlS V cc P) (i + 1) := ((svL_st hf hi4).trans (stL_y hnb (Or.inr (Int32.not_le.mp h_l)))).symm
            refine vv_loc (ls2 := [some (.ref (G.1 145)), some (.int (nI cc)), some (.int y), some (.int (nI ((svC (vlS V cc P) i) + 1))), some (.int ((svS (vlS V cc P) i) + (vS V cc (P.getD i 0 / 12) (P.getD i 0 % 12)))), some (.int (svL (vlS V cc P) (i + 1))), some (.int (svG (vlS V cc P) i)), some (.int (nI (dcF (vlS V cc P) i))), some (.int (nI i)), some (.int (vS V cc (P.getD i 0 / 12) (P.getD i 0 % 12)))]) (by rw [hs5]) ?_
            refine vv_iload C 9 dX9_total_123 rfl ?_
            refine vv_iload C 6 dX9_total_125 rfl ?_
            refine vv_icmp_le C 135 dX9_total_127 (by decide) (fun h_le => ?_) (fun h_g => ?_)
            · refine vv_iload C 6 dX9_total_135 rfl ?_
              refine vv_istore (ls2 := [some (.ref (G.1 145)), some (.int (nI cc)), some (.int y), some (.int (nI ((svC (vlS V cc P) i) + 1))), some (.int ((svS (vlS V cc P) i) + (vS V cc (P.getD i 0 / 12) (P.getD i 0 % 12)))), some (.int (svL (vlS V cc P) (i + 1))), some (.int (svG (vlS V cc P) i)), some (.int (nI (dcF (vlS V cc P) i))), some (.int (nI i)), some (.int (vS V cc (P.getD i 0 / 12) (P.getD i 0 % 12)))]) C 6 dX9_total_137 (Nat.le_of_ble_eq_true rfl) rfl ?_
              have hs6 : svG (vlS V cc P) i = svG (vlS V cc P) (i + 1) := ((svG_st hf hi4).trans (stG_n hnb (Int32.not_lt.mpr h_le))).symm
              refine vv_loc (ls2 := [some (.ref (G.1 145)), some (.int (nI cc)), some (.int y), some (.int (nI ((svC (vlS V cc P) i) + 1))), some (.int ((svS (vlS V cc P) i) + (vS V cc (P.getD i 0 / 12) (P.getD i 0 % 12)))), some (.int (svL (vlS V cc P) (i + 1))), some (.int (svG (vlS V cc P) (i + 1))), some (.int (nI (dcF (vlS V cc P) i))), some (.int (nI i)), some (.int (vS V cc (P.getD i 0 / 12) (P.getD i 0 % 12)))]) (by rw [hs6]) ?_
              refine vv_iload C 7 dX9_total_139 rfl ?_
              refine vv_aload_n C 0 dX9_total_141 rfl rfl ?_
              refine vv_iload C 8 dX9_total_142 rfl ?_
              refine vv_iload_n C 1 dX9_total_144 rfl rfl ?_
              refine vv_callVI C [.int (nI i), .int (nI cc)] (c_X9_isFirstOf M V hV hP h144 hl (cc := cc) (i := i) hc hi4 (x := (nI i)) (y := (nI cc)) rfl rfl) sh_145 rfl (cwV 2 C.1.2.2.2.2 gX9_total_X9_isFirstOf rfl rfl rfl (by decide +kernel) ⟨Nat.le_of_ble_eq_true rfl, Nat.le_of_ble_eq_true rfl⟩) rfl rfl rfl (Nat.le_of_ble_eq_true rfl) dX9_total_145 ⟨Nat.le_refl _, Nat.le_refl _⟩ ?_
              refine vv_bif_eq C 155 dX9_total_148 (by decide) (fun h_nn => ?_) (fun h_none => ?_)
              · refine vv_iconst (v := 0) C dX9_total_155 (by decide) ?_
                refine vv_iadd C dX9_total_156 ?_
                refine vv_top (y := nI (dcF (vlS V cc P) i)) (Int32.add_zero _) ?_
                refine vv_istore (ls2 := [some (.ref (G.1 145)), some (.int (nI cc)), some (.int y), some (.int (nI ((svC (vlS V cc P) i) + 1))), some (.int ((svS (vlS V cc P) i) + (vS V cc (P.getD i 0 / 12) (P.getD i 0 % 12)))), some (.int (svL (vlS V cc P) (i + 1))), some (.int (svG (vlS V cc P) (i + 1))), some (.int (nI (dcF (vlS V cc P) i))), some (.int (nI i)), some (.int (vS V cc (P.getD i 0 / 12) (P.getD i 0 % 12)))]) C 7 dX9_total_157 (Nat.le_of_ble_eq_true rfl) rfl ?_
                refine vv_iinc (v := nI (i + 1)) (ls2 := [some (.ref (G.1 145)), some (.int (nI cc)), some (.int y), some (.int (nI ((svC (vlS V cc P) i) + 1))), some (.int ((svS (vlS V cc P) i) + (vS V cc (P.getD i 0 / 12) (P.getD i 0 % 12)))), some (.int (svL (vlS V cc P) (i + 1))), some (.int (svG (vlS V cc P) (i + 1))), some (.int (nI (dcF (vlS V cc P) i))), some (.int (nI (i + 1))), some (.int (vS V cc (P.getD i 0 / 12) (P.getD i 0 % 12)))]) C 8 dX9_total_159 rfl (nI_1 _) rfl ?_
                refine vv_goto C 56 dX9_total_162 (by decide) ?_
                refine vv_keep (ls2 := [some (.ref (G.1 145)), some (.int (nI cc)), some (.int y), some (.int (nI ((svC (vlS V cc P) i) + 1))), some (.int ((svS (vlS V cc P) i) + (vS V cc (P.getD i 0 / 12) (P.getD i 0 % 12)))), some (.int (svL (vlS V cc P) (i + 1))), some (.int (svG (vlS V cc P) (i + 1))), some (.int (nI (dcF (vlS V cc P) i))), some (.int (nI (i + 1))), none]) ⟨rfl, rfl, rfl, rfl, rfl, rfl, rfl, rfl, rfl, trivial⟩ ?_
                refine vv_loc (ls2 := [some (.ref (G.1 145)), some (.int (nI cc)), some (.int y), some (.int (nI (svC (vlS V cc P) (i + 1)))), some (.int (svS (vlS V cc P) (i + 1))), some (.int (svL (vlS V cc P) (i + 1))), some (.int (svG (vlS V cc P) (i + 1))), some (.int (nI (dcF (vlS V cc P) (i + 1)))), some (.int (nI (i + 1))), none]) (by rw [svC_n hnb, svS_n hnb, dcF_n hnb h_nn]; rfl) ?_
                exact ih (i + 1) (by omega) (by omega)
              · refine vv_iconst (v := 1) C dX9_total_151 (by decide) ?_
                refine vv_goto C 156 dX9_total_152 (by decide) ?_
                refine vv_iadd C dX9_total_156 ?_
                refine vv_top (y := nI (dcF (vlS V cc P) i + 1)) (nI_1 _) ?_
                refine vv_istore (ls2 := [some (.ref (G.1 145)), some (.int (nI cc)), some (.int y), some (.int (nI ((svC (vlS V cc P) i) + 1))), some (.int ((svS (vlS V cc P) i) + (vS V cc (P.getD i 0 / 12) (P.getD i 0 % 12)))), some (.int (svL (vlS V cc P) (i + 1))), some (.int (svG (vlS V cc P) (i + 1))), some (.int (nI (dcF (vlS V cc P) i + 1))), some (.int (nI i)), some (.int (vS V cc (P.getD i 0 / 12) (P.getD i 0 % 12)))]) C 7 dX9_total_157 (Nat.le_of_ble_eq_true rfl) rfl ?_
                refine vv_iinc (v := nI (i + 1)) (ls2 := [some (.ref (G.1 145)), some (.int (nI cc)), some (.int y), some (.int (nI ((svC (vlS V cc P) i) + 1))), some (.int ((svS (vlS V cc P) i) + (vS V cc (P.getD i 0 / 12) (P.getD i 0 % 12)))), some (.int (svL (vlS V cc P) (i + 1))), some (.int (svG (vlS V cc P) (i + 1))), some (.int (nI (dcF (vlS V cc P) i + 1))), some (.int (nI (i + 1))), some (.int (vS V cc (P.getD i 0 / 12) (P.getD i 0 % 12)))]) C 8 dX9_total_159 rfl (nI_1 _) rfl ?_
                refine vv_goto C 56 dX9_total_162 (by decide) ?_
                refine vv_keep (ls2 := [some (.ref (G.1 145)), some (.int (nI cc)), some (.int y), some (.int (nI ((svC (vlS V cc P) i) + 1))), some (.int ((svS (vlS V cc P) i) + (vS V cc (P.getD i 0 / 12) (P.getD i 0 % 12)))), some (.int (svL (vlS V cc P) (i + 1))), some (.int (svG (vlS V cc P) (i + 1))), some (.int (nI (dcF (vlS V cc P) i + 1))), some (.int (nI (i + 1))), none]) ⟨rfl, rfl, rfl, rfl, rfl, rfl, rfl, rfl, rfl, trivial⟩ ?_
                refine vv_loc (ls2 := [some (.ref (G.1 145)), some (.int (nI cc)), some (.int y), some (.int (nI (svC (vlS V cc P) (i + 1)))), some (.int (svS (vlS V cc P) (i + 1))), some (.int (svL (vlS V cc P) (i + 1))), some (.int (svG (vlS V cc P) (i + 1))), some (.int (nI (dcF (vlS V cc P) (i + 1)))), some (.int (nI (i + 1))), none]) (by rw [svC_n hnb, svS_n hnb, dcF_y hnb h_none]; rfl) ?_
                exact ih (i + 1) (by omega) (by omega)
            · refine vv_iload C 9 dX9_total_130 rfl ?_
              refine vv_goto C 137 dX9_total_132 (by decide) ?_
              refine vv_istore (ls2 := [some (.ref (G.1 145)), some (.int (nI cc)), some (.int y), some (.int (nI ((svC (vlS V cc P) i) + 1))), some (.int ((svS (vlS V cc P) i) + (vS V cc (P.getD i 0 / 12) (P.getD i 0 % 12)))), some (.int (svL (vlS V cc P) (i + 1))), some (.int (vS V cc (P.getD i 0 / 12) (P.getD i 0 % 12))), some (.int (nI (dcF (vlS V cc P) i))), some (.int (nI i)), some (.int (vS V cc (P.getD i 0 / 12) (P.getD i 0 % 12)))]) C 6 dX9_total_137 (Nat.le_of_ble_eq_true rfl) rfl ?_
              have hs6 : vS V cc (P.getD i 0 / 12) (P.getD i 0 % 12) = svG (vlS V cc P) (i + 1) := ((svG_st hf hi4).trans (stG_y hnb (Int32.not_le.mp h_g))).symm
              refine vv_loc (ls2 := [some (.ref (G.1 145)), some (.int (nI cc)), some (.int y), some (.int (nI ((svC (vlS V cc P) i) + 1))), some (.int ((svS (vlS V cc P) i) + (vS V cc (P.getD i 0 / 12) (P.getD i 0 % 12)))), some (.int (svL (vlS V cc P) (i + 1))), some (.int (svG (vlS V cc P) (i + 1))), some (.int (nI (dcF (vlS V cc P) i))), some (.int (nI i)), some (.int (vS V cc (P.getD i 0 / 12) (P.getD i 0 % 12)))]) (by rw [hs6]) ?_
              refine vv_iload C 7 dX9_total_139 rfl ?_
              refine vv_aload_n C 0 dX9_total_141 rfl rfl ?_
              refine vv_iload C 8 dX9_total_142 rfl ?_
              refine vv_iload_n C 1 dX9_total_144 rfl rfl ?_
              refine vv_callVI C [.int (nI i), .int (nI cc)] (c_X9_isFirstOf M V hV hP h144 hl (cc := cc) (i := i) hc hi4 (x := (nI i)) (y := (nI cc)) rfl rfl) sh_145 rfl (cwV 2 C.1.2.2.2.2 gX9_total_X9_isFirstOf rfl rfl rfl (by decide +kernel) ⟨Nat.le_of_ble_eq_true rfl, Nat.le_of_ble_eq_true rfl⟩) rfl rfl rfl (Nat.le_of_ble_eq_true rfl) dX9_total_145 ⟨Nat.le_refl _, Nat.le_refl _⟩ ?_
              refine vv_bif_eq C 155 dX9_total_148 (by decide) (fun h_nn => ?_) (fun h_none => ?_)
              · refine vv_iconst (v := 0) C dX9_total_155 (by decide) ?_
                refine vv_iadd C dX9_total_156 ?_
                refine vv_top (y := nI (dcF (vlS V cc P) i)) (Int32.add_zero _) ?_
                refine vv_istore (ls2 := [some (.ref (G.1 145)), some (.int (nI cc)), some (.int y), some (.int (nI ((svC (vlS V cc P) i) + 1))), some (.int ((svS (vlS V cc P) i) + (vS V cc (P.getD i 0 / 12) (P.getD i 0 % 12)))), some (.int (svL (vlS V cc P) (i + 1))), some (.int (svG (vlS V cc P) (i + 1))), some (.int (nI (dcF (vlS V cc P) i))), some (.int (nI i)), some (.int (vS V cc (P.getD i 0 / 12) (P.getD i 0 % 12)))]) C 7 dX9_total_157 (Nat.le_of_ble_eq_true rfl) rfl ?_
                refine vv_iinc (v := nI (i + 1)) (ls2 := [some (.ref (G.1 145)), some (.int (nI cc)), some (.int y), some (.int (nI ((svC (vlS V cc P) i) + 1))), some (.int ((svS (vlS V cc P) i) + (vS V cc (P.getD i 0 / 12) (P.getD i 0 % 12)))), some (.int (svL (vlS V cc P) (i + 1))), some (.int (svG (vlS V cc P) (i + 1))), some (.int (nI (dcF (vlS V cc P) i))), some (.int (nI (i + 1))), some (.int (vS V cc (P.getD i 0 / 12) (P.getD i 0 % 12)))]) C 8 dX9_total_159 rfl (nI_1 _) rfl ?_
                refine vv_goto C 56 dX9_total_162 (by decide) ?_
                refine vv_keep (ls2 := [some (.ref (G.1 145)), some (.int (nI cc)), some (.int y), some (.int (nI ((svC (vlS V cc P) i) + 1))), some (.int ((svS (vlS V cc P) i) + (vS V cc (P.getD i 0 / 12) (P.getD i 0 % 12)))), some (.int (svL (vlS V cc P) (i + 1))), some (.int (svG (vlS V cc P) (i + 1))), some (.int (nI (dcF (vlS V cc P) i))), some (.int (nI (i + 1))), none]) ⟨rfl, rfl, rfl, rfl, rfl, rfl, rfl, rfl, rfl, trivial⟩ ?_
                refine vv_loc (ls2 := [some (.ref (G.1 145)), some (.int (nI cc)), some (.int y), some (.int (nI (svC (vlS V cc P) (i + 1)))), some (.int (svS (vlS V cc P) (i + 1))), some (.int (svL (vlS V cc P) (i + 1))), some (.int (svG (vlS V cc P) (i + 1))), some (.int (nI (dcF (vlS V cc P) (i + 1)))), some (.int (nI (i + 1))), none]) (by rw [svC_n hnb, svS_n hnb, dcF_n hnb h_nn]; rfl) ?_
                exact ih (i + 1) (by omega) (by omega)
              · refine vv_iconst (v := 1) C dX9_total_151 (by decide) ?_
                refine vv_goto C 156 dX9_total_152 (by decide) ?_
                refine vv_iadd C dX9_total_156 ?_
                refine vv_top (y := nI (dcF (vlS V cc P) i + 1)) (nI_1 _) ?_
                refine vv_istore (ls2 := [some (.ref (G.1 145)), some (.int (nI cc)), some (.int y), some (.int (nI ((svC (vlS V cc P) i) + 1))), some (.int ((svS (vlS V cc P) i) + (vS V cc (P.getD i 0 / 12) (P.getD i 0 % 12)))), some (.int (svL (vlS V cc P) (i + 1))), some (.int (svG (vlS V cc P) (i + 1))), some (.int (nI (dcF (vlS V cc P) i + 1))), some (.int (nI i)), some (.int (vS V cc (P.getD i 0 / 12) (P.getD i 0 % 12)))]) C 7 dX9_total_157 (Nat.le_of_ble_eq_true rfl) rfl ?_
                refine vv_iinc (v := nI (i + 1)) (ls2 := [some (.ref (G.1 145)), some (.int (nI cc)), some (.int y), some (.int (nI ((svC (vlS V cc P) i) + 1))), some (.int ((svS (vlS V cc P) i) + (vS V cc (P.getD i 0 / 12) (P.getD i 0 % 12)))), some (.int (svL (vlS V cc P) (i + 1))), some (.int (svG (vlS V cc P) (i + 1))), some (.int (nI (dcF (vlS V cc P) i + 1))), some (.int (nI (i + 1))), some (.int (vS V cc (P.getD i 0 / 12) (P.getD i 0 % 12)))]) C 8 dX9_total_159 rfl (nI_1 _) rfl ?_
                refine vv_goto C 56 dX9_total_162 (by decide) ?_
                refine vv_keep (ls2 := [some (.ref (G.1 145)), some (.int (nI cc)), some (.int y), some (.int (nI ((svC (vlS V cc P) i) + 1))), some (.int ((svS (vlS V cc P) i) + (vS V cc (P.getD i 0 / 12) (P.getD i 0 % 12)))), some (.int (svL (vlS V cc P) (i + 1))), some (.int (svG (vlS V cc P) (i + 1))), some (.int (nI (dcF (vlS V cc P) i + 1))), some (.int (nI (i + 1))), none]) ⟨rfl, rfl, rfl, rfl, rfl, rfl, rfl, rfl, rfl, trivial⟩ ?_
                refine vv_loc (ls2 := [some (.ref (G.1 145)), some (.int (nI cc)), some (.int y), some (.int (nI (svC (vlS V cc P) (i + 1)))), some (.int (svS (vlS V cc P) (i + 1))), some (.int (svL (vlS V cc P) (i + 1))), some (.int (svG (vlS V cc P) (i + 1))), some (.int (nI (dcF (vlS V cc P) (i + 1)))), some (.int (nI (i + 1))), none]) (by rw [svC_n hnb, svS_n hnb, dcF_y hnb h_none]; rfl) ?_
                exact ih (i + 1) (by omega) (by omega)
theorem in_07 {x : Int32} (h : inP x 0 7) : ∃ c, c < 8 ∧ x = nI c ∧ x.toNatClampNeg = c := by
  obtain ⟨k, -, h2, e⟩ := btw (a := 0) (b := 7) h.1 h.2 (by omega) (by omega)
  exact ⟨k, by omega, e, by rw [e]; exact nI_clamp (by omega)⟩
set_option maxRecDepth 100000 in
set_option maxHeartbeats 4000000 in
theorem c_X9_total {l : Launch} {G : mw_GG} (M V : mw_M) (hV : relO M V) (hw : wfV V) (hh : hiV V) (ht : txV V) (x y : Int32) : mw_Met l yX9_total wsX9_total ({ frames := 6, cells := 0, slots := 0, locals := 140 } : Room) G [.ref (G.1 145), .int x, .int y] M (qIP (fun r M2 => r = (op_total V x y).1 ∧ relO M2 (op_total V x y).2 ∧ rfO M M2)) := by
  refine mw_ofV (cc := cX9_total) 10 (by decide) rfl rfl (Nat.le_of_ble_eq_true rfl) ?_
  intro p e s m args below meth c C hR hN0
  refine vv_loc (ls2 := [some (.ref (G.1 145)), some (.int x), some (.int y), none, none, none, none, none, none, none]) rfl ?_
  have hR0 := hw.wfR
  refine vv_iload_n C 1 dX9_total_0 rfl rfl ?_
  refine vv_iconst (v := 0) C dX9_total_1 (by decide) ?_
  refine vv_bipush (v := 7) C dX9_total_2 (by decide) ?_
  refine vv_callSI C [.int x, .int 0, .int 7] (c_X9_in M x 0 7) (cwS 3 C.1.2.2.2.2 gX9_total_X9_in rfl rfl rfl (by decide +kernel) ⟨Nat.le_of_ble_eq_true rfl, Nat.le_of_ble_eq_true rfl⟩) rfl rfl rfl (Nat.le_of_ble_eq_true rfl) dX9_total_4 ⟨Nat.le_refl _, Nat.le_refl _⟩ ?_
  refine vv_bif_eq C 19 dX9_total_7 (by decide) (fun h_nx => ?_) (fun h_x => ?_)
  · refine vv_bipush (v := (-11)) C dX9_total_19 (by decide) ?_
    exact vv_iret C hR dX9_total_21 (qIP_of (by rw [show op_total V x y = (-11, V) from if_neg (fun z => h_nx z.1)]; exact ⟨rfl, hV, rfO.rf⟩))
  · refine vv_iload_n C 2 dX9_total_10 rfl rfl ?_
    refine vv_iconst (v := 0) C dX9_total_11 (by decide) ?_
    refine vv_iconst (v := 4) C dX9_total_12 (by decide) ?_
    refine vv_callSI C [.int y, .int 0, .int 4] (c_X9_in M y 0 4) (cwS 3 C.1.2.2.2.2 gX9_total_X9_in rfl rfl rfl (by decide +kernel) ⟨Nat.le_of_ble_eq_true rfl, Nat.le_of_ble_eq_true rfl⟩) rfl rfl rfl (Nat.le_of_ble_eq_true rfl) dX9_total_13 ⟨Nat.le_refl _, Nat.le_refl _⟩ ?_
    refine vv_bif_ne C 22 dX9_total_16 (by decide) (fun h_y => ?_) (fun h_ny => ?_)
    · obtain ⟨cc, hcc, hce, hcl⟩ := in_07 h_x
      refine vv_aload_n C 0 dX9_total_22 rfl rfl ?_
      refine vv_iload_n C 1 dX9_total_23 rfl rfl ?_
      refine vv_callVI C [.int x] (c_X9_isAsked M V hV.1 (cc := cc) hcc (x := x) hce) sh_145 rfl (cwV 1 C.1.2.2.2.2 gX9_total_X9_isAsked rfl rfl rfl (by decide +kernel) ⟨Nat.le_of_ble_eq_true rfl, Nat.le_of_ble_eq_true rfl⟩) rfl rfl rfl (Nat.le_of_ble_eq_true rfl) dX9_total_24 ⟨Nat.le_refl _, Nat.le_refl _⟩ ?_
      refine vv_bif_ne C 33 dX9_total_27 (by decide) (fun h_a => ?_) (fun h_na => ?_)
      · refine vv_aload_n C 0 dX9_total_33 rfl rfl ?_
        refine vv_callVVP C [] (c_X9_finds M V hV.1 hw) sh_145 rfl (cwV 0 C.1.2.2.2.2 gX9_total_X9_finds rfl rfl rfl (by decide +kernel) ⟨Nat.le_of_ble_eq_true rfl, Nat.le_of_ble_eq_true rfl⟩) rfl rfl rfl (Nat.le_of_ble_eq_true rfl) dX9_total_34 ⟨Nat.le_refl _, Nat.le_refl _⟩ (fun M_7 h_8 => ?_)
        have hF := h_8
        refine vv_iconst (v := 0) C dX9_total_37 (by decide) ?_
        refine vv_istore_n (ls2 := [some (.ref (G.1 145)), some (.int x), some (.int y), some (.int 0), none, none, none, none, none, none]) C 3 dX9_total_38 rfl (Nat.le_of_ble_eq_true rfl) rfl ?_
        refine vv_iconst (v := 0) C dX9_total_39 (by decide) ?_
        refine vv_istore (ls2 := [some (.ref (G.1 145)), some (.int x), some (.int y), some (.int 0), some (.int 0), none, none, none, none, none]) C 4 dX9_total_40 (Nat.le_of_ble_eq_true rfl) rfl ?_
        refine vv_bipush (v := (-14)) C dX9_total_42 (by decide) ?_
        refine vv_istore (ls2 := [some (.ref (G.1 145)), some (.int x), some (.int y), some (.int 0), some (.int 0), some (.int (-14)), none, none, none, none]) C 5 dX9_total_44 (Nat.le_of_ble_eq_true rfl) rfl ?_
        refine vv_bipush (v := (-14)) C dX9_total_46 (by decide) ?_
        refine vv_istore (ls2 := [some (.ref (G.1 145)), some (.int x), some (.int y), some (.int 0), some (.int 0), some (.int (-14)), some (.int (-14)), none, none, none]) C 6 dX9_total_48 (Nat.le_of_ble_eq_true rfl) rfl ?_
        refine vv_iconst (v := 0) C dX9_total_50 (by decide) ?_
        refine vv_istore (ls2 := [some (.ref (G.1 145)), some (.int x), some (.int y), some (.int 0), some (.int 0), some (.int (-14)), some (.int (-14)), some (.int 0), none, none]) C 7 dX9_total_51 (Nat.le_of_ble_eq_true rfl) rfl ?_
        refine vv_iconst (v := 0) C dX9_total_53 (by decide) ?_
        refine vv_istore (ls2 := [some (.ref (G.1 145)), some (.int x), some (.int y), some (.int 0), some (.int 0), some (.int (-14)), some (.int (-14)), some (.int 0), some (.int 0), none]) C 8 dX9_total_54 (Nat.le_of_ble_eq_true rfl) rfl ?_
        have h144 := srt_144 hR0
        have hln := lstS_len (lo := 8) hR0
        refine vv_loc (ls2 := [some (.ref (G.1 145)), some (.int (nI cc)), some (.int y), some (.int (nI (svC (vlS V cc (srtS V (lstS V 8))) 0))), some (.int (svS (vlS V cc (srtS V (lstS V 8))) 0)), some (.int (svL (vlS V cc (srtS V (lstS V 8))) 0)), some (.int (svG (vlS V cc (srtS V (lstS V 8))) 0)), some (.int (nI (dcF (vlS V cc (srtS V (lstS V 8))) 0))), some (.int (nI 0)), none]) (by rw [hce]; rfl) ?_
        refine lp_X9_total C _ V (hF.vw hV.1) hF.1 h144 (by rw [srt_len]; exact hln) (cc := cc) hcc (vl_row hw hcc h144) (by rw [srt_len]; exact hF.2.1) ?_ ((srtS V (lstS V 8)).length + 1) 0 (by omega) (by omega)
        refine vv_iload_n C 2 dX9_total_165 rfl rfl ?_
        refine vv_if_ne C 173 dX9_total_166 (by decide) (fun h_qn0 => ?_) (fun h_q0 => ?_)
        · refine vv_iload_n C 2 dX9_total_173 rfl rfl ?_
          refine vv_iconst (v := 1) C dX9_total_174 (by decide) ?_
          refine vv_icmp_ne C 183 dX9_total_175 (by decide) (fun h_qn1 => ?_) (fun h_q1 => ?_)
          · refine vv_iload_n C 2 dX9_total_183 rfl rfl ?_
            refine vv_iconst (v := 2) C dX9_total_184 (by decide) ?_
            refine vv_icmp_ne C 193 dX9_total_185 (by decide) (fun h_qn2 => ?_) (fun h_q2 => ?_)
            · refine vv_iload_n C 2 dX9_total_193 rfl rfl ?_
              refine vv_iconst (v := 3) C dX9_total_194 (by decide) ?_
              refine vv_icmp_ne C 203 dX9_total_195 (by decide) (fun h_qn3 => ?_) (fun h_q3 => ?_)
              · refine vv_iload C 7 dX9_total_203 rfl ?_
                exact vv_iret C hR dX9_total_205 (qIP_of (by
                  rw [show op_total V x y = _ from if_pos ⟨h_x, h_y⟩, if_pos (by rw [hce]; exact h_a), hcl]
                  refine ⟨?_, hF.rel hV hh, hF.rf⟩
                  rw [← tot_perm hw hcc (lst_144 hR0) (srt_perm (S := V)) y]
                  simp [totS, h_qn0, h_qn1, h_qn2, h_qn3]))
              · refine vv_iload C 6 dX9_total_198 rfl ?_
                refine vv_goto C 205 dX9_total_200 (by decide) ?_
                exact vv_iret C hR dX9_total_205 (qIP_of (by
                  rw [show op_total V x y = _ from if_pos ⟨h_x, h_y⟩, if_pos (by rw [hce]; exact h_a), hcl]
                  refine ⟨?_, hF.rel hV hh, hF.rf⟩
                  rw [← tot_perm hw hcc (lst_144 hR0) (srt_perm (S := V)) y]
                  simp [totS, h_qn0, h_qn1, h_qn2, h_q3]))
            · refine vv_iload C 5 dX9_total_188 rfl ?_
              refine vv_goto C 205 dX9_total_190 (by decide) ?_
              exact vv_iret C hR dX9_total_205 (qIP_of (by
                rw [show op_total V x y = _ from if_pos ⟨h_x, h_y⟩, if_pos (by rw [hce]; exact h_a), hcl]
                refine ⟨?_, hF.rel hV hh, hF.rf⟩
                rw [← tot_perm hw hcc (lst_144 hR0) (srt_perm (S := V)) y]
                simp [totS, h_qn0, h_qn1, h_q2]))
          · refine vv_iload C 4 dX9_total_178 rfl ?_
            refine vv_goto C 205 dX9_total_180 (by decide) ?_
            exact vv_iret C hR dX9_total_205 (qIP_of (by
              rw [show op_total V x y = _ from if_pos ⟨h_x, h_y⟩, if_pos (by rw [hce]; exact h_a), hcl]
              refine ⟨?_, hF.rel hV hh, hF.rf⟩
              rw [← tot_perm hw hcc (lst_144 hR0) (srt_perm (S := V)) y]
              simp [totS, h_qn0, h_q1]))
        · refine vv_iload_n C 3 dX9_total_169 rfl rfl ?_
          refine vv_goto C 205 dX9_total_170 (by decide) ?_
          exact vv_iret C hR dX9_total_205 (qIP_of (by
            rw [show op_total V x y = _ from if_pos ⟨h_x, h_y⟩, if_pos (by rw [hce]; exact h_a), hcl]
            refine ⟨?_, hF.rel hV hh, hF.rf⟩
            rw [← tot_perm hw hcc (lst_144 hR0) (srt_perm (S := V)) y]
            simp [totS, h_q0]))
      · refine vv_bipush (v := (-14)) C dX9_total_30 (by decide) ?_
        exact vv_iret C hR dX9_total_32 (qIP_of (by rw [show op_total V x y = _ from if_pos ⟨h_x, h_y⟩, if_neg (fun z => h_na (by rw [← hce]; exact z))]; exact ⟨rfl, hV, rfO.rf⟩))
    · refine vv_bipush (v := (-11)) C dX9_total_19 (by decide) ?_
      exact vv_iret C hR dX9_total_21 (qIP_of (by rw [show op_total V x y = (-11, V) from if_neg (fun z => h_ny z.2)]; exact ⟨rfl, hV, rfO.rf⟩))
