theorem psR_ok {M : mw_M} {t q : Nat} (hq : q ≤ t) (h : (clR (chA M t) q).1 = 0) : (clR (chA M t) q).2.1 ≤ t := by
  have inD : ∀ j, dgP (chA M t j) → j < t := fun j hj => dg_in hj
  have inE : ∀ j (y : Int32), ¬ y = -1 → chA M t j = y → j < t := fun j y hy e => by
    unfold chA at e
    by_cases z : j < t
    · exact z
    · rw [if_neg z] at e
      exact absurd e.symm hy
  have inL : ∀ j, ltP (chA M t j) → j < t := fun j hj => by
    unfold chA at hj
    by_cases z : j < t
    · exact z
    · rw [if_neg z] at hj
      exact absurd hj.1 (by decide)
  have bd : ∀ j kn kl, (bdR (chA M t) j kn kl).1 = 0 → (bdR (chA M t) j kn kl).2.1 ≤ t := fun j kn kl hb => by
    unfold bdR at hb ⊢
    by_cases z : ltP (chA M t j)
    · rw [if_pos z]
      exact inL j z
    · rw [if_neg z] at hb ⊢
      by_cases z2 : dgP (chA M t j)
      · rw [if_pos z2]
        exact nmP_in z2
      · rw [if_neg z2] at hb
        exact absurd hb (show ¬ (1 : Nat) = 0 by decide)
  unfold clR at h ⊢
  by_cases c0 : dgP (chA M t q)
  · rw [if_pos c0] at h ⊢
    unfold nsR at h ⊢
    by_cases c1 : ¬ chA M t (nmP (chA M t) q) = 45
    · rw [if_pos c1]
      exact nmP_in c0
    · rw [if_neg c1] at h ⊢
      by_cases c2 : dgP (chA M t (nmP (chA M t) q + 1))
      · rw [if_pos c2] at h ⊢
        by_cases c3 : nmV (chA M t) (nmP (chA M t) q + 1) < nmV (chA M t) q
        · rw [if_pos c3] at h
          exact absurd h (show ¬ (2 : Nat) = 0 by decide)
        · rw [if_neg c3]
          exact nmP_in c2
      · rw [if_neg c2] at h
        exact absurd h (show ¬ (1 : Nat) = 0 by decide)
  · rw [if_neg c0] at h ⊢
    by_cases c1 : chA M t q = 33
    · rw [if_pos c1]
      exact inE q 33 (by decide) c1
    rw [if_neg c1] at h ⊢
    by_cases c2 : chA M t q = 35
    · rw [if_pos c2] at h ⊢
      by_cases c3 : dgP (chA M t (q + 1))
      · rw [if_pos c3]
        exact nmP_in c3
      · rw [if_neg c3] at h
        exact absurd h (show ¬ (1 : Nat) = 0 by decide)
    rw [if_neg c2] at h ⊢
    by_cases c4 : chA M t q = 42
    · rw [if_pos c4]
      exact inE q 42 (by decide) c4
    rw [if_neg c4] at h ⊢
    by_cases c5 : chA M t q = 60
    · rw [if_pos c5] at h ⊢
      exact bd _ _ _ h
    rw [if_neg c5] at h ⊢
    by_cases c6 : chA M t q = 62
    · rw [if_pos c6] at h ⊢
      exact bd _ _ _ h
    rw [if_neg c6] at h ⊢
    by_cases c7 : chA M t q = 95
    · rw [if_pos c7]
      exact inE q 95 (by decide) c7
    rw [if_neg c7] at h ⊢
    by_cases c8 : ltP (chA M t q)
    · rw [if_pos c8]
      exact inL q c8
    · rw [if_neg c8] at h
      exact absurd h (show ¬ (1 : Nat) = 0 by decide)
theorem rdI.start {M M1 : mw_M} {t : Nat} (hM1 : M1 = upd (upd (upd (upd (s_zero M 670) 654 0) 655 0) 656 0) 657 0) : rdI M M1 t [] 0 4 := by
  subst hM1
  refine ⟨fun q h1 h2 => ?_, ?_, ?_, upd_s, fun i hi => ?_, by rw [List.nil_append], rfl, by omega⟩
  · rw [upd_o (by omega), upd_o (by omega), upd_o (by omega), upd_o (by omega)]
    unfold s_zero
    rw [if_neg (by omega)]
  · rw [upd_o (by omega), upd_o (by omega), upd_o (by omega), upd_s]
    rfl
  · rw [upd_o (by omega), upd_o (by omega), upd_s]
    rfl
  · have z : ∀ q, 670 ≤ q → q < 682 → upd (upd (upd (upd (s_zero M 670) 654 0) 655 0) 656 0) 657 0 q = 0 := fun q h1 h2 => by
      rw [upd_o (by omega), upd_o (by omega), upd_o (by omega), upd_o (by omega)]
      unfold s_zero
      rw [if_pos ⟨h1, by omega⟩]
    exact ⟨z _ (by omega) (by omega), z _ (by omega) (by omega), z _ (by omega) (by omega)⟩
/-- one more cell was read without a fault -/
theorem rdI.cell {M M1 M2 M3 : mw_M} {t q k : Nat} {acc : List (Int32 × Int32 × Int32)} (h : rdI M M1 t acc q (k + 1)) (h2 : rdO M1 M2 acc.length (clR (chA M t) q)) (h0 : (clR (chA M t) q).1 = 0) (h3 : M3 = upd M2 654 (nI (acc.length + 1))) : (∀ q, ¬ (654 ≤ q ∧ q < 658) → ¬ (670 ≤ q ∧ q < 682) → M3 q = M q) ∧ M3 654 = nI (acc ++ [(clR (chA M t) q).2.2]).length ∧ M3 655 = nI (clR (chA M t) q).2.1 ∧ M3 657 = 0 ∧ ∀ i, i < 4 → M3 (670 + 3 * i) = ((acc ++ [(clR (chA M t) q).2.2]).getD i (0, 0, 0)).1 ∧ M3 (670 + 1 + 3 * i) = ((acc ++ [(clR (chA M t) q).2.2]).getD i (0, 0, 0)).2.1 ∧ M3 (670 + 2 + 3 * i) = ((acc ++ [(clR (chA M t) q).2.2]).getD i (0, 0, 0)).2.2 := by
  obtain ⟨a1, a2, a3, a4, a5, a6, a7, a8⟩ := h
  obtain ⟨b1, b2, b3, b4⟩ := h2
  obtain ⟨c1, c2, c3, c4, c5⟩ := b4 h0
  subst h3
  refine ⟨fun q z1 z2 => ?_, ?_, ?_, ?_, fun i hi => ?_⟩
  · rw [upd_o (by omega), b1 q (by omega) z2]
    exact a1 q z1 z2
  · rw [upd_s, List.length_append]
    rfl
  · rw [upd_o (by omega)]
    exact c1
  · rw [upd_o (by omega), b2, h0]
    rfl
  · rw [upd_o (by omega), upd_o (by omega), upd_o (by omega), List.getD_eq_getElem?_getD]
    by_cases e : i = acc.length
    · subst e
      rw [List.getElem?_append_right (Nat.le_refl _), Nat.sub_self]
      exact ⟨c2, c3, c4⟩
    · by_cases z : i < acc.length
      · rw [List.getElem?_append_left z, ← List.getD_eq_getElem?_getD, c5 _ (by omega) (by omega) (by omega), c5 _ (by omega) (by omega) (by omega), c5 _ (by omega) (by omega) (by omega)]
        exact a5 i hi
      · have hg : acc.getD i (0, 0, 0) = (0, 0, 0) := by
          rw [List.getD_eq_getElem?_getD, List.getElem?_eq_none (by omega)]
          rfl
        have h5 := a5 i hi
        rw [hg] at h5
        rw [List.getElem?_eq_none (by rw [List.length_append]; simp; omega), c5 _ (by omega) (by omega) (by omega), c5 _ (by omega) (by omega) (by omega), c5 _ (by omega) (by omega) (by omega)]
        exact h5
theorem clR_le (ch : Nat → Int32) (q : Nat) : (clR ch q).1 ≤ 2 := by
  unfold clR nsR bdR
  repeat' split
  all_goals first | exact Nat.zero_le _ | exact (show (1 : Nat) ≤ 2 by omega) | exact (show (2 : Nat) ≤ 2 by omega)
theorem rdI.fault {M M1 M2 : mw_M} {t q k : Nat} {acc : List (Int32 × Int32 × Int32)} {x : Int32} (h : rdI M M1 t acc q (k + 1)) (h2 : rdO M1 M2 acc.length (clR (chA M t) q)) (h0 : ¬ (clR (chA M t) q).1 = 0) : stO M (upd M2 654 x) (psR (chA M t) t 4 0) := by
  obtain ⟨a1, a2, a3, a4, a5, a6, a7, a8⟩ := h
  obtain ⟨b1, b2, b3, b4⟩ := h2
  have e : psR (chA M t) t (k + 1) q = ((clR (chA M t) q).1, (clR (chA M t) q).2.1, []) := if_pos h0
  rw [a6, e]
  refine ⟨fun z z1 z2 => ?_, ?_, fun _ => ?_, fun z => absurd z h0⟩
  · rw [upd_o (by omega), b1 z (by omega) z2]
    exact a1 z z1 z2
  · rw [upd_o (by omega)]
    exact b2
  · rw [upd_o (by omega)]
    exact b3 h0
abbrev celP (M M3 : mw_M) (acc : List (Int32 × Int32 × Int32)) (q : Nat) : Prop := (∀ q, ¬ (654 ≤ q ∧ q < 658) → ¬ (670 ≤ q ∧ q < 682) → M3 q = M q) ∧ M3 654 = nI acc.length ∧ M3 655 = nI q ∧ M3 657 = 0 ∧ ∀ i, i < 4 → M3 (670 + 3 * i) = (acc.getD i (0, 0, 0)).1 ∧ M3 (670 + 1 + 3 * i) = (acc.getD i (0, 0, 0)).2.1 ∧ M3 (670 + 2 + 3 * i) = (acc.getD i (0, 0, 0)).2.2
theorem celP.ch {M M3 : mw_M} {acc : List (Int32 × Int32 × Int32)} {q t : Nat} (h : celP M M3 acc q) : chA M3 t = chA M t := by
  funext z
  unfold chA
  by_cases y : z < t
  · rw [if_pos y, if_pos y, h.1 _ (by omega) (by omega)]
  · rw [if_neg y, if_neg y]
theorem rdI.end_ {M M1 M3 : mw_M} {t q k : Nat} {acc : List (Int32 × Int32 × Int32)} (h : rdI M M1 t acc q (k + 1)) (h0 : (clR (chA M t) q).1 = 0) (hc : celP M M3 (acc ++ [(clR (chA M t) q).2.2]) (clR (chA M t) q).2.1) (hcm : ¬ ((clR (chA M t) q).2.1 < t ∧ chA M3 t (clR (chA M t) q).2.1 = 44 ∧ acc.length + 1 < 4)) : stO M (cmM M3 t (clR (chA M t) q).2.1 (acc.length + 1)) (psR (chA M t) t 4 0) := by
  obtain ⟨a1, a2, a3, a4, a5, a6, a7, a8⟩ := h
  rw [a6]
  rw [hc.ch] at hcm
  by_cases c1 : (clR (chA M t) q).2.1 < t
  · by_cases c2 : chA M t (clR (chA M t) q).2.1 = 44
    · have c3 : ¬ acc.length + 1 < 4 := fun z => hcm ⟨c1, c2, z⟩
      have ek : k = 0 := by omega
      have ep : psR (chA M t) t (k + 1) q = (3, (clR (chA M t) q).2.1, [(clR (chA M t) q).2.2]) := (if_neg (fun z => z h0)).trans ((if_neg (fun z => z c1)).trans ((if_neg (fun z => z c2)).trans (if_pos ek)))
      have em : cmM M3 t (clR (chA M t) q).2.1 (acc.length + 1) = upd (upd (upd M3 656 (nI (clR (chA M t) q).2.1)) 657 3) 655 (nI ((clR (chA M t) q).2.1 + 1)) := (if_neg (fun z => z c1)).trans ((if_neg (fun z => z (by rw [hc.ch]; exact c2))).trans (if_neg c3))
      rw [ep, em]
      refine ⟨fun z z1 z2 => ?_, ?_, fun _ => ?_, fun z => absurd z (show ¬ (3 : Nat) = 0 by decide)⟩
      · rw [upd_o (by omega), upd_o (by omega), upd_o (by omega)]
        exact hc.1 z z1 z2
      · rw [upd_o (by omega), upd_s]
        rfl
      · rw [upd_o (by omega), upd_o (by omega), upd_s]
    · have ep : psR (chA M t) t (k + 1) q = (1, (clR (chA M t) q).2.1, [(clR (chA M t) q).2.2]) := (if_neg (fun z => z h0)).trans ((if_neg (fun z => z c1)).trans (if_pos c2))
      have em : cmM M3 t (clR (chA M t) q).2.1 (acc.length + 1) = upd (upd (upd M3 656 (nI (clR (chA M t) q).2.1)) 657 1) 655 (nI ((clR (chA M t) q).2.1 + 1)) := (if_neg (fun z => z c1)).trans (if_pos (by rw [hc.ch]; exact c2))
      rw [ep, em]
      refine ⟨fun z z1 z2 => ?_, ?_, fun _ => ?_, fun z => absurd z (show ¬ (1 : Nat) = 0 by decide)⟩
      · rw [upd_o (by omega), upd_o (by omega), upd_o (by omega)]
        exact hc.1 z z1 z2
      · rw [upd_o (by omega), upd_s]
        rfl
      · rw [upd_o (by omega), upd_o (by omega), upd_s]
  · have ep : psR (chA M t) t (k + 1) q = (0, 0, [(clR (chA M t) q).2.2]) := (if_neg (fun z => z h0)).trans (if_pos c1)
    have em : cmM M3 t (clR (chA M t) q).2.1 (acc.length + 1) = M3 := if_pos c1
    rw [ep, em]
    exact ⟨hc.1, hc.2.2.2.1, fun z => absurd rfl z, fun _ => ⟨hc.2.1, hc.2.2.2.2⟩⟩
theorem rdI.more {M M1 M3 : mw_M} {t q k : Nat} {acc : List (Int32 × Int32 × Int32)} (h : rdI M M1 t acc q (k + 1)) (ht60 : t ≤ 60) (h0 : (clR (chA M t) q).1 = 0) (hc : celP M M3 (acc ++ [(clR (chA M t) q).2.2]) (clR (chA M t) q).2.1) (hcm : (clR (chA M t) q).2.1 < t ∧ chA M3 t (clR (chA M t) q).2.1 = 44 ∧ acc.length + 1 < 4) : rdI M (cmM M3 t (clR (chA M t) q).2.1 (acc.length + 1)) t (acc ++ [(clR (chA M t) q).2.2]) ((clR (chA M t) q).2.1 + 1) k ∧ 0 < k := by
  obtain ⟨a1, a2, a3, a4, a5, a6, a7, a8⟩ := h
  have hk0 : ¬ k = 0 := by
    have := hcm.2.2
    omega
  have ecm : cmM M3 t (clR (chA M t) q).2.1 (acc.length + 1) = upd M3 655 (nI ((clR (chA M t) q).2.1 + 1)) := (if_neg (fun z => z hcm.1)).trans ((if_neg (fun z => z hcm.2.1)).trans (if_pos hcm.2.2))
  have e44 : chA M t (clR (chA M t) q).2.1 = 44 := by
    have h44 := hcm.2.1
    rw [hc.ch] at h44
    exact h44
  have e0 : psR (chA M t) t (k + 1) q = ((psR (chA M t) t k ((clR (chA M t) q).2.1 + 1)).1, (psR (chA M t) t k ((clR (chA M t) q).2.1 + 1)).2.1, (clR (chA M t) q).2.2 :: (psR (chA M t) t k ((clR (chA M t) q).2.1 + 1)).2.2) := (if_neg (fun z => z h0)).trans ((if_neg (fun z => z hcm.1)).trans ((if_neg (fun z => z e44)).trans (if_neg hk0)))
  rw [ecm]
  refine ⟨⟨fun z z1 z2 => by rw [upd_o (by omega)]; exact hc.1 z z1 z2, by rw [upd_o (by omega)]; exact hc.2.1, upd_s, by rw [upd_o (by omega)]; exact hc.2.2.2.1, fun i hi => by rw [upd_o (by omega), upd_o (by omega), upd_o (by omega)]; exact hc.2.2.2.2 i hi, ?_, ?_, ?_⟩, by omega⟩
  · rw [a6, e0, List.append_assoc]
    rfl
  · rw [List.length_append]
    show acc.length + 1 + k = 4
    omega
  · have := hcm.1
    omega

theorem iX4_readComma_X4 : ∀ w ∈ u_ws RX4 TX4 6, w ∈ wsX4_readComma := fun w hw => (List.mem_cons_of_mem _ (List.mem_append_left _ (List.mem_append_left _ (List.mem_append_right _ hw))))
set_option maxRecDepth 100000 in
set_option maxHeartbeats 4000000 in
theorem c_X4_readComma {l : Launch} {G : mw_GG} (M : mw_M) {t : Nat} (ht : M 653 = nI t) (ht60 : t ≤ 60) {q n : Nat} (hq : M 655 = nI q) (hq60 : q ≤ 100) (hn : M 654 = nI n) (hn4 : n ≤ 4) (h7 : M 657 = 0) : mw_Met l yX4_readComma wsX4_readComma ({ frames := 2, cells := 0, slots := 0, locals := 42 } : Room) G [.ref (G.1 136)] M (qI (bI (q < t ∧ chA M t q = 44 ∧ n < 4)) (cmM M t q n)) := by
  refine mw_ofV (cc := cX4_readComma) 1 (by decide) rfl rfl (Nat.le_of_ble_eq_true rfl) ?_
  intro p e s m args below meth c C hR hN0
  refine vv_loc (ls2 := [some (.ref (G.1 136))]) rfl ?_
  refine vv_aload_n C 0 dX4_readComma_0 rfl rfl ?_
  refine vv_geti C (Cn := RX4) (T := TX4) (N := 6) sh_136 3 rfl rfl (by decide) iX4_readComma_X4 (List.mem_of_getElem? (i := 1) rfl) rfl dX4_readComma_1 ?_
  refine vv_aload_n C 0 dX4_readComma_4 rfl rfl ?_
  refine vv_getr C (Cn := RX4) (T := TX4) (N := 6) sh_136 0 rfl rfl (by decide) iX4_readComma_X4 (List.mem_of_getElem? (i := 2) rfl) rfl dX4_readComma_5 ?_
  refine vv_callVI C [] (c_X7_length M) sh_133 rfl (cwV 0 C.1.2.2.2.2 gX4_readComma_X7_length rfl rfl rfl (by decide +kernel) ⟨Nat.le_of_ble_eq_true rfl, Nat.le_of_ble_eq_true rfl⟩) rfl rfl rfl (Nat.le_of_ble_eq_true rfl) dX4_readComma_8 ⟨Nat.le_refl _, Nat.le_refl _⟩ ?_
  refine vv_icmp_lt C 16 dX4_readComma_11 (by decide) (fun h_lt => ?_) (fun h_nlt => ?_)
  · have h_lt2 : q < t := by
      rcases Nat.lt_or_ge q t with z | z
      · exact z
      · exact absurd (by rw [hq, ht] at h_lt; exact h_lt) (nI_nlt z (by omega))
    refine vv_aload_n C 0 dX4_readComma_16 rfl rfl ?_
    refine vv_getr C (Cn := RX4) (T := TX4) (N := 6) sh_136 0 rfl rfl (by decide) iX4_readComma_X4 (List.mem_of_getElem? (i := 2) rfl) rfl dX4_readComma_17 ?_
    refine vv_aload_n C 0 dX4_readComma_20 rfl rfl ?_
    refine vv_geti C (Cn := RX4) (T := TX4) (N := 6) sh_136 3 rfl rfl (by decide) iX4_readComma_X4 (List.mem_of_getElem? (i := 1) rfl) rfl dX4_readComma_21 ?_
    refine vv_callVI C [.int (M 655)] (c_X7_characterAt M (t := t) ht ht60 (i := (M 655)) (j := q) hq (by omega)) sh_133 rfl (cwV 1 C.1.2.2.2.2 gX4_readComma_X7_characterAt rfl rfl rfl (by decide +kernel) ⟨Nat.le_of_ble_eq_true rfl, Nat.le_of_ble_eq_true rfl⟩) rfl rfl rfl (Nat.le_of_ble_eq_true rfl) dX4_readComma_24 ⟨Nat.le_refl _, Nat.le_refl _⟩ ?_
    refine vv_bipush (v := 44) C dX4_readComma_27 (by decide) ?_
    refine vv_icmp_eq C 44 dX4_readComma_29 (by decide) (fun h_44 => ?_) (fun h_n44 => ?_)
    · refine vv_aload_n C 0 dX4_readComma_44 rfl rfl ?_
      refine vv_geti C (Cn := RX4) (T := TX4) (N := 6) sh_136 2 rfl rfl (by decide) iX4_readComma_X4 (List.mem_of_getElem? (i := 3) rfl) rfl dX4_readComma_45 ?_
      refine vv_iconst (v := 4) C dX4_readComma_48 (by decide) ?_
      refine vv_icmp_lt C 61 dX4_readComma_49 (by decide) (fun h_c4 => ?_) (fun h_nc4 => ?_)
      · have h_c4n : n < 4 := by
          rcases Nat.lt_or_ge n 4 with z | z
          · exact z
          · exact absurd (by rw [hn] at h_c4; exact h_c4) (nI_nlt (b := 4) z (by omega))
        refine vv_aload_n C 0 dX4_readComma_61 rfl rfl ?_
        refine vv_dup C dX4_readComma_62 rfl ?_
        refine vv_geti C (Cn := RX4) (T := TX4) (N := 6) sh_136 3 rfl rfl (by decide) iX4_readComma_X4 (List.mem_of_getElem? (i := 1) rfl) rfl dX4_readComma_63 ?_
        refine vv_iconst (v := 1) C dX4_readComma_66 (by decide) ?_
        refine vv_iadd C dX4_readComma_67 ?_
        refine vv_top (y := nI (q + 1)) (by first | (rw [hq]; exact nI_1 q) | (rw [upd_o (by omega), upd_o (by omega), hq]; exact nI_1 q)) ?_
        refine vv_putf C (Cn := RX4) (T := TX4) (N := 6) sh_136 3 rfl rfl (by decide) iX4_readComma_X4 (List.mem_of_getElem? (i := 1) rfl) rfl tyX4_ok nmX4 rfl rfl dX4_readComma_68 ?_
        refine vv_aload_n C 0 dX4_readComma_71 rfl rfl ?_
        refine vv_callVI C [] (c_X4_hasFault (upd M 655 (nI (q + 1)))) sh_136 rfl (cwV 0 C.1.2.2.2.2 gX4_readComma_X4_hasFault rfl rfl rfl (by decide +kernel) ⟨Nat.le_of_ble_eq_true rfl, Nat.le_of_ble_eq_true rfl⟩) rfl rfl rfl (Nat.le_of_ble_eq_true rfl) dX4_readComma_72 ⟨Nat.le_refl _, Nat.le_refl _⟩ ?_
        refine vv_bif_ne C 82 dX4_readComma_75 (by decide) (fun h_7 => absurd (by rw [upd_o (by omega)]; exact h7) h_7) (fun h_8 => ?_)
        refine vv_iconst (v := 1) C dX4_readComma_78 (by decide) ?_
        refine vv_goto C 83 dX4_readComma_79 (by decide) ?_
        exact vv_zret1 C hR dX4_readComma_83 (qI_of (bI_t ⟨h_lt2, h_44, h_c4n⟩).symm ((if_neg (fun z => z h_lt2)).trans ((if_neg (fun z => z h_44)).trans (if_pos h_c4n))).symm)
      · have h_nc4n : ¬ n < 4 := fun z => h_nc4 (by rw [hn]; exact nI_lt (b := 4) z (by omega))
        refine vv_aload_n C 0 dX4_readComma_52 rfl rfl ?_
        refine vv_aload_n C 0 dX4_readComma_53 rfl rfl ?_
        refine vv_geti C (Cn := RX4) (T := TX4) (N := 6) sh_136 3 rfl rfl (by decide) iX4_readComma_X4 (List.mem_of_getElem? (i := 1) rfl) rfl dX4_readComma_54 ?_
        refine vv_top (y := nI q) hq ?_
        refine vv_iconst (v := 3) C dX4_readComma_57 (by decide) ?_
        refine vv_callVV C [.int (nI q), .int 3] (c_X4_fail M (nI q) 3) sh_136 rfl (cwV 2 C.1.2.2.2.2 gX4_readComma_X4_fail rfl rfl rfl (by decide +kernel) ⟨Nat.le_of_ble_eq_true rfl, Nat.le_of_ble_eq_true rfl⟩) rfl rfl rfl (Nat.le_of_ble_eq_true rfl) dX4_readComma_58 ⟨Nat.le_refl _, Nat.le_refl _⟩ ?_
        refine vv_aload_n C 0 dX4_readComma_61 rfl rfl ?_
        refine vv_dup C dX4_readComma_62 rfl ?_
        refine vv_geti C (Cn := RX4) (T := TX4) (N := 6) sh_136 3 rfl rfl (by decide) iX4_readComma_X4 (List.mem_of_getElem? (i := 1) rfl) rfl dX4_readComma_63 ?_
        refine vv_iconst (v := 1) C dX4_readComma_66 (by decide) ?_
        refine vv_iadd C dX4_readComma_67 ?_
        refine vv_top (y := nI (q + 1)) (by first | (rw [hq]; exact nI_1 q) | (rw [upd_o (by omega), upd_o (by omega), hq]; exact nI_1 q)) ?_
        refine vv_putf C (Cn := RX4) (T := TX4) (N := 6) sh_136 3 rfl rfl (by decide) iX4_readComma_X4 (List.mem_of_getElem? (i := 1) rfl) rfl tyX4_ok nmX4 rfl rfl dX4_readComma_68 ?_
        refine vv_aload_n C 0 dX4_readComma_71 rfl rfl ?_
        refine vv_callVI C [] (c_X4_hasFault (upd (upd (upd M 656 (nI q)) 657 3) 655 (nI (q + 1)))) sh_136 rfl (cwV 0 C.1.2.2.2.2 gX4_readComma_X4_hasFault rfl rfl rfl (by decide +kernel) ⟨Nat.le_of_ble_eq_true rfl, Nat.le_of_ble_eq_true rfl⟩) rfl rfl rfl (Nat.le_of_ble_eq_true rfl) dX4_readComma_72 ⟨Nat.le_refl _, Nat.le_refl _⟩ ?_
        refine vv_bif_ne C 82 dX4_readComma_75 (by decide) (fun h_10 => ?_) (fun h_9 => (h_9 (by rw [upd_o (by omega), upd_s]; decide)).elim)
        refine vv_iconst (v := 0) C dX4_readComma_82 (by decide) ?_
        exact vv_zret0 C hR dX4_readComma_83 (qI_of (bI_f (fun z => h_nc4n z.2.2)).symm ((if_neg (fun z => z h_lt2)).trans ((if_neg (fun z => z h_44)).trans (if_neg h_nc4n))).symm)
    · refine vv_aload_n C 0 dX4_readComma_32 rfl rfl ?_
      refine vv_aload_n C 0 dX4_readComma_33 rfl rfl ?_
      refine vv_geti C (Cn := RX4) (T := TX4) (N := 6) sh_136 3 rfl rfl (by decide) iX4_readComma_X4 (List.mem_of_getElem? (i := 1) rfl) rfl dX4_readComma_34 ?_
      refine vv_top (y := nI q) hq ?_
      refine vv_iconst (v := 1) C dX4_readComma_37 (by decide) ?_
      refine vv_callVV C [.int (nI q), .int 1] (c_X4_fail M (nI q) 1) sh_136 rfl (cwV 2 C.1.2.2.2.2 gX4_readComma_X4_fail rfl rfl rfl (by decide +kernel) ⟨Nat.le_of_ble_eq_true rfl, Nat.le_of_ble_eq_true rfl⟩) rfl rfl rfl (Nat.le_of_ble_eq_true rfl) dX4_readComma_38 ⟨Nat.le_refl _, Nat.le_refl _⟩ ?_
      refine vv_goto C 61 dX4_readComma_41 (by decide) ?_
      refine vv_aload_n C 0 dX4_readComma_61 rfl rfl ?_
      refine vv_dup C dX4_readComma_62 rfl ?_
      refine vv_geti C (Cn := RX4) (T := TX4) (N := 6) sh_136 3 rfl rfl (by decide) iX4_readComma_X4 (List.mem_of_getElem? (i := 1) rfl) rfl dX4_readComma_63 ?_
      refine vv_iconst (v := 1) C dX4_readComma_66 (by decide) ?_
      refine vv_iadd C dX4_readComma_67 ?_
      refine vv_top (y := nI (q + 1)) (by first | (rw [hq]; exact nI_1 q) | (rw [upd_o (by omega), upd_o (by omega), hq]; exact nI_1 q)) ?_
      refine vv_putf C (Cn := RX4) (T := TX4) (N := 6) sh_136 3 rfl rfl (by decide) iX4_readComma_X4 (List.mem_of_getElem? (i := 1) rfl) rfl tyX4_ok nmX4 rfl rfl dX4_readComma_68 ?_
      refine vv_aload_n C 0 dX4_readComma_71 rfl rfl ?_
      refine vv_callVI C [] (c_X4_hasFault (upd (upd (upd M 656 (nI q)) 657 1) 655 (nI (q + 1)))) sh_136 rfl (cwV 0 C.1.2.2.2.2 gX4_readComma_X4_hasFault rfl rfl rfl (by decide +kernel) ⟨Nat.le_of_ble_eq_true rfl, Nat.le_of_ble_eq_true rfl⟩) rfl rfl rfl (Nat.le_of_ble_eq_true rfl) dX4_readComma_72 ⟨Nat.le_refl _, Nat.le_refl _⟩ ?_
      refine vv_bif_ne C 82 dX4_readComma_75 (by decide) (fun h_12 => ?_) (fun h_11 => (h_11 (by rw [upd_o (by omega), upd_s]; decide)).elim)
      refine vv_iconst (v := 0) C dX4_readComma_82 (by decide) ?_
      exact vv_zret0 C hR dX4_readComma_83 (qI_of (bI_f (fun z => h_n44 z.2.1)).symm ((if_neg (fun z => z h_lt2)).trans (if_pos h_n44)).symm)
  · have h_nlt2 : ¬ q < t := fun z => h_nlt (by rw [hq, ht]; exact nI_lt z (by omega))
    refine vv_iconst (v := 0) C dX4_readComma_14 (by decide) ?_
    exact vv_zret0 C hR dX4_readComma_15 (qI_of (bI_f (fun z => h_nlt2 z.1)).symm (if_pos h_nlt2).symm)
theorem iX4_start_X4 : ∀ w ∈ u_ws RX4 TX4 6, w ∈ wsX4_start := fun w hw => (List.mem_cons_of_mem _ (List.mem_append_left _ (List.mem_append_left _ (List.mem_append_left _ (List.mem_append_right _ hw)))))
set_option maxRecDepth 100000 in
set_option maxHeartbeats 4000000 in
theorem lp_X4_start {p : Program} {l : Launch} {e : Env} {s : State} {m : MethodId} {args : Array Value} {below : List Frame} {meth : Method} {c : Code} {G : mw_GG} {Q : State → Prop} (C : vv_C p s m args c G cX4_start 2 wsX4_start RX4) (M : mw_M) {t : Nat} (ht : M 653 = nI t) (ht60 : t ≤ 60) (hk : ∀ M1, stO M M1 (psR (chA M t) t 4 0) → vv p l e ({ frames := 5, cells := 0, slots := 0, locals := 110 } : Room) s m args below meth c G 0 0 Q M1 89 [some (.ref (G.1 136)), some (.int 0)] []) : ∀ (k : Nat) (acc : List (Int32 × Int32 × Int32)) (q : Nat) (M1 : mw_M), rdI M M1 t acc q k → q ≤ t → 0 < k → vv p l e ({ frames := 5, cells := 0, slots := 0, locals := 110 } : Room) s m args below meth c G 0 0 Q M1 29 [some (.ref (G.1 136)), some (.int 1)] [] := by
  intro k
  induction k with
  | zero => intro acc q M1 _ _ h; exact absurd h (Nat.lt_irrefl 0)
  | succ k ih =>
    intro acc q M1 hI hqt hkp
    have ht1 : M1 653 = nI t := by rw [hI.1 653 (by omega) (by omega)]; exact ht
    have hlen : acc.length + (k + 1) = 4 := hI.2.2.2.2.2.2.1
    have hps := hI.2.2.2.2.2.1
    have hch : chA M1 t = chA M t := hI.ch
    refine vv_iload_n C 1 dX4_start_29 rfl rfl ?_
    refine vv_if_eq C 89 dX4_start_30 (by decide) (fun h_1 => absurd h_1 (by decide)) (fun h_2 => ?_)
    refine vv_aload_n C 0 dX4_start_33 rfl rfl ?_
    refine vv_geti C (Cn := RX4) (T := TX4) (N := 6) sh_136 2 rfl rfl (by decide) iX4_start_X4 (List.mem_of_getElem? (i := 2) rfl) rfl dX4_start_34 ?_
    refine vv_iconst (v := 4) C dX4_start_37 (by decide) ?_
    refine vv_icmp_ge C 89 dX4_start_38 (by decide) (fun h_3 => absurd h_3 (by rw [hI.2.1]; exact nI_ge (b := 4) (by omega) (by omega))) (fun h_4 => ?_)
    refine vv_aload_n C 0 dX4_start_41 rfl rfl ?_
    refine vv_aload_n C 0 dX4_start_42 rfl rfl ?_
    refine vv_getr C (Cn := RX4) (T := TX4) (N := 6) sh_136 0 rfl rfl (by decide) iX4_start_X4 (List.mem_of_getElem? (i := 6) rfl) rfl dX4_start_43 ?_
    refine vv_aload_n C 0 dX4_start_46 rfl rfl ?_
    refine vv_geti C (Cn := RX4) (T := TX4) (N := 6) sh_136 3 rfl rfl (by decide) iX4_start_X4 (List.mem_of_getElem? (i := 3) rfl) rfl dX4_start_47 ?_
    refine vv_callVI C [.int (M1 655)] (c_X7_characterAt M1 (t := t) ht1 ht60 (i := (M1 655)) (j := q) hI.2.2.1 (by omega)) sh_133 rfl (cwV 1 C.1.2.2.2.2 gX4_start_X7_characterAt rfl rfl rfl (by decide +kernel) ⟨Nat.le_of_ble_eq_true rfl, Nat.le_of_ble_eq_true rfl⟩) rfl rfl rfl (Nat.le_of_ble_eq_true rfl) dX4_start_50 ⟨Nat.le_refl _, Nat.le_refl _⟩ ?_
    refine vv_callVVP C [.int (chA M1 t q)] (c_X4_readCell M1 (t := t) ht1 ht60 (q := q) (n := acc.length) hI.2.2.1 (by omega) hI.2.1 (by omega) hI.2.2.2.1 (by have h5 := hI.2.2.2.2.1 acc.length (by omega); rw [show acc.getD acc.length (0, 0, 0) = (0, 0, 0) by rw [List.getD_eq_getElem?_getD, List.getElem?_eq_none (Nat.le_refl _)]; rfl] at h5; exact h5) (x := (chA M1 t q)) rfl) sh_136 rfl (cwV 1 C.1.2.2.2.2 gX4_start_X4_readCell rfl rfl rfl (by decide +kernel) ⟨Nat.le_of_ble_eq_true rfl, Nat.le_of_ble_eq_true rfl⟩) rfl rfl rfl (Nat.le_of_ble_eq_true rfl) dX4_start_53 ⟨Nat.le_refl _, Nat.le_refl _⟩ (fun M_5 h_6 => ?_)
    rw [hch] at h_6
    have hO := h_6
    refine vv_aload_n C 0 dX4_start_56 rfl rfl ?_
    refine vv_dup C dX4_start_57 rfl ?_
    refine vv_geti C (Cn := RX4) (T := TX4) (N := 6) sh_136 2 rfl rfl (by decide) iX4_start_X4 (List.mem_of_getElem? (i := 2) rfl) rfl dX4_start_58 ?_
    refine vv_iconst (v := 1) C dX4_start_61 (by decide) ?_
    refine vv_iadd C dX4_start_62 ?_
    refine vv_top (y := nI (acc.length + 1)) (by rw [hO.1 654 (by omega) (by omega), hI.2.1]; exact nI_1 _) ?_
    refine vv_putf C (Cn := RX4) (T := TX4) (N := 6) sh_136 2 rfl rfl (by decide) iX4_start_X4 (List.mem_of_getElem? (i := 2) rfl) rfl tyX4_ok nmX4 rfl rfl dX4_start_63 ?_
    have hkeep : ∀ z, ¬ z = 654 → upd M_5 654 (nI (acc.length + 1)) z = M_5 z := fun z hz => upd_o hz
    refine vv_aload_n C 0 dX4_start_66 rfl rfl ?_
    refine vv_callVI C [] (c_X4_hasFault (upd M_5 654 (nI (acc.length + 1)))) sh_136 rfl (cwV 0 C.1.2.2.2.2 gX4_start_X4_hasFault rfl rfl rfl (by decide +kernel) ⟨Nat.le_of_ble_eq_true rfl, Nat.le_of_ble_eq_true rfl⟩) rfl rfl rfl (Nat.le_of_ble_eq_true rfl) dX4_start_67 ⟨Nat.le_refl _, Nat.le_refl _⟩ ?_
    refine vv_bif_ne C 84 dX4_start_70 (by decide) (fun h_flt => ?_) (fun h_ok => ?_)
    · refine vv_iconst (v := 0) C dX4_start_84 (by decide) ?_
      refine vv_istore_n (ls2 := [some (.ref (G.1 136)), some (.int 0)]) C 1 dX4_start_85 rfl (Nat.le_of_ble_eq_true rfl) rfl ?_
      refine vv_goto C 29 dX4_start_86 (by decide) ?_
      refine vv_iload_n C 1 dX4_start_29 rfl rfl ?_
      refine vv_if_eq C 89 dX4_start_30 (by decide) (fun h_10 => ?_) (fun h_9 => absurd h_9 (by decide))
      exact hk _ (hI.fault hO (fun z => h_flt (by rw [upd_o (by omega), hO.2.1, z]; rfl)))
    · have h0 : (clR (chA M t) q).1 = 0 := by
        rcases Nat.eq_zero_or_pos (clR (chA M t) q).1 with z | z
        · exact z
        · exact absurd h_ok (fun w => w (by rw [hkeep 657 (by omega), hO.2.1]; exact nI_ne0 z (by have := clR_le (chA M t) q; omega)))
      have hc := hI.cell hO h0 rfl
      have hpl := psR_ok hqt h0
      refine vv_aload_n C 0 dX4_start_73 rfl rfl ?_
      refine vv_callVI C [] (c_X4_readComma (upd M_5 654 (nI (acc.length + 1))) (t := t) (by rw [hc.1 653 (by omega) (by omega)]; exact ht) ht60 (q := ((clR (chA M t) q).2.1)) (n := (acc.length + 1)) hc.2.2.1 (by omega) (by rw [hc.2.1, List.length_append]; rfl) (by omega) hc.2.2.2.1) sh_136 rfl (cwV 0 C.1.2.2.2.2 gX4_start_X4_readComma rfl rfl rfl (by decide +kernel) ⟨Nat.le_of_ble_eq_true rfl, Nat.le_of_ble_eq_true rfl⟩) rfl rfl rfl (Nat.le_of_ble_eq_true rfl) dX4_start_74 ⟨Nat.le_refl _, Nat.le_refl _⟩ ?_
      refine vv_bif_eq C 84 dX4_start_77 (by decide) (fun h_ncm => ?_) (fun h_cm => ?_)
      · refine vv_iconst (v := 0) C dX4_start_84 (by decide) ?_
        refine vv_istore_n (ls2 := [some (.ref (G.1 136)), some (.int 0)]) C 1 dX4_start_85 rfl (Nat.le_of_ble_eq_true rfl) rfl ?_
        refine vv_goto C 29 dX4_start_86 (by decide) ?_
        refine vv_iload_n C 1 dX4_start_29 rfl rfl ?_
        refine vv_if_eq C 89 dX4_start_30 (by decide) (fun h_14 => ?_) (fun h_13 => absurd h_13 (by decide))
        exact hk _ (hI.end_ h0 hc h_ncm)
      · refine vv_iconst (v := 1) C dX4_start_80 (by decide) ?_
        refine vv_goto C 85 dX4_start_81 (by decide) ?_
        refine vv_istore_n (ls2 := [some (.ref (G.1 136)), some (.int 1)]) C 1 dX4_start_85 rfl (Nat.le_of_ble_eq_true rfl) rfl ?_
        refine vv_goto C 29 dX4_start_86 (by decide) ?_
        have hm := hI.more ht60 h0 hc h_cm
        exact ih _ _ _ hm.1 (by have := h_cm.1; omega) hm.2
set_option maxRecDepth 100000 in
set_option maxHeartbeats 4000000 in
theorem c_X4_start {l : Launch} {G : mw_GG} (M : mw_M) {t : Nat} (ht : M 653 = nI t) (ht60 : t ≤ 60) : mw_Met l yX4_start wsX4_start ({ frames := 5, cells := 0, slots := 0, locals := 110 } : Room) G [.ref (G.1 136)] M (qVP (fun M2 => stO M M2 (psR (chA M t) t 4 0))) := by
  refine mw_ofV (cc := cX4_start) 2 (by decide) rfl rfl (Nat.le_of_ble_eq_true rfl) ?_
  intro p e s m args below meth c C hR hN0
  refine vv_loc (ls2 := [some (.ref (G.1 136)), none]) rfl ?_
  refine vv_aload_n C 0 dX4_start_0 rfl rfl ?_
  refine vv_getr C (Cn := RX4) (T := TX4) (N := 6) sh_136 1 rfl rfl (by decide) iX4_start_X4 (List.mem_of_getElem? (i := 1) rfl) rfl dX4_start_1 ?_
  refine vv_callVV C [] (c_X1_wipe mw_Ex_137 M) mw_Ex_137.1 rfl (cwV 0 C.1.2.2.2.2 gX4_start_X1_wipe rfl rfl rfl (by decide +kernel) ⟨Nat.le_of_ble_eq_true rfl, Nat.le_of_ble_eq_true rfl⟩) rfl rfl rfl (Nat.le_of_ble_eq_true rfl) dX4_start_4 ⟨Nat.le_refl _, Nat.le_refl _⟩ ?_
  refine vv_aload_n C 0 dX4_start_7 rfl rfl ?_
  refine vv_iconst (v := 0) C dX4_start_8 (by decide) ?_
  refine vv_putf C (Cn := RX4) (T := TX4) (N := 6) sh_136 2 rfl rfl (by decide) iX4_start_X4 (List.mem_of_getElem? (i := 2) rfl) rfl tyX4_ok nmX4 rfl rfl dX4_start_9 ?_
  refine vv_aload_n C 0 dX4_start_12 rfl rfl ?_
  refine vv_iconst (v := 0) C dX4_start_13 (by decide) ?_
  refine vv_putf C (Cn := RX4) (T := TX4) (N := 6) sh_136 3 rfl rfl (by decide) iX4_start_X4 (List.mem_of_getElem? (i := 3) rfl) rfl tyX4_ok nmX4 rfl rfl dX4_start_14 ?_
  refine vv_aload_n C 0 dX4_start_17 rfl rfl ?_
  refine vv_iconst (v := 0) C dX4_start_18 (by decide) ?_
  refine vv_putf C (Cn := RX4) (T := TX4) (N := 6) sh_136 4 rfl rfl (by decide) iX4_start_X4 (List.mem_of_getElem? (i := 4) rfl) rfl tyX4_ok nmX4 rfl rfl dX4_start_19 ?_
  refine vv_aload_n C 0 dX4_start_22 rfl rfl ?_
  refine vv_iconst (v := 0) C dX4_start_23 (by decide) ?_
  refine vv_putf C (Cn := RX4) (T := TX4) (N := 6) sh_136 5 rfl rfl (by decide) iX4_start_X4 (List.mem_of_getElem? (i := 5) rfl) rfl tyX4_ok nmX4 rfl rfl dX4_start_24 ?_
  refine vv_iconst (v := 1) C dX4_start_27 (by decide) ?_
  refine vv_istore_n (ls2 := [some (.ref (G.1 136)), some (.int 1)]) C 1 dX4_start_28 rfl (Nat.le_of_ble_eq_true rfl) rfl ?_
  refine lp_X4_start C M ht ht60 (fun M1 hO => ?_) 4 [] 0 _ (rdI.start rfl) (by omega) (by omega)
  exact vv_vret C hR dX4_start_89 (qVP_of hO)
