theorem nI_subI {a b : Nat} (h : b ≤ a) : nI a - nI b = nI (a - b) := by
  obtain ⟨c, rfl⟩ : ∃ c, a = c + b := ⟨a - b, by omega⟩
  rw [← nI_add, Int32.add_sub_cancel, Nat.add_sub_cancel]
/-- an int between two numbers -/
theorem btw {x : Int32} {a b : Nat} (ha : ¬ x < nI a) (hb : ¬ nI b < x) (h : a ≤ b) (hb2 : b < 1000) : ∃ k, a ≤ k ∧ k ≤ b ∧ x = nI k := by
  have h0 : ¬ x < 0 := fun z => ha (by
    rw [Int32.lt_iff_toInt_lt] at z ⊢
    rw [nI_toInt (by omega)]
    have e0 : (0 : Int32).toInt = 0 := by decide
    omega)
  have h1 : ¬ nI (b + 1) ≤ x := fun z => hb (by
    rw [Int32.le_iff_toInt_le, nI_toInt (by omega)] at z
    rw [Int32.lt_iff_toInt_lt, nI_toInt (by omega)]
    omega)
  obtain ⟨j, hj, e, -⟩ := ix_of h0 h1 (by omega)
  refine ⟨j, ?_, by omega, e⟩
  rcases Nat.lt_or_ge j a with z | z
  · exact absurd (by rw [e]; exact nI_lt z (by omega)) ha
  · exact z
theorem dg_v {x : Int32} (h : dgP x) : ∃ n, n < 10 ∧ x = nI (48 + n) ∧ x - 48 = nI n := by
  obtain ⟨k, h1, h2, e⟩ := btw (a := 48) (b := 57) h.1 h.2 (by omega) (by omega)
  refine ⟨k - 48, by omega, by rw [e]; exact congrArg nI (by omega), ?_⟩
  rw [e]
  exact nI_subI (b := 48) h1
theorem lt_v {x : Int32} (h : ltP x) : ∃ n, n < 4 ∧ x - 119 = nI n := by
  obtain ⟨k, h1, h2, e⟩ := btw (a := 119) (b := 122) h.1 h.2 (by omega) (by omega)
  refine ⟨k - 119, by omega, ?_⟩
  rw [e]
  exact nI_subI (b := 119) h1
theorem nm_v {ch : Nat → Int32} {q : Nat} : ∃ n, n < 100 ∧ nmV ch q = nI n := by
  unfold nmV
  by_cases h : dgP (ch q)
  · rw [if_neg (fun z => z h)]
    obtain ⟨n, hn, e1, e2⟩ := dg_v h
    by_cases h2 : dgP (ch (q + 1))
    · obtain ⟨n2, hn2, e3, e4⟩ := dg_v h2
      refine ⟨10 * n + n2, by omega, ?_⟩
      rw [if_pos h2, e2, e3, show (10 : Int32) = nI 10 from rfl, pk_mul, nI_add, show (48 : Int32) = nI 48 from rfl, nI_subI (by omega)]
      exact congrArg nI (by omega)
    · exact ⟨n, by omega, by rw [if_neg h2, e2]⟩
  · exact ⟨0, by omega, by rw [if_pos h]; rfl⟩
/-- a cell within its limits -/
def gdC (r : Int32 × Int32 × Int32) : Prop := ∃ k a b, r.1 = nI k ∧ k ≤ 10 ∧ r.2.1 = nI a ∧ a < 100 ∧ (8 ≤ k → a < 4) ∧ r.2.2 = nI b ∧ b < 100
theorem gd_0 : gdC (0, 0, 0) := ⟨0, 0, 0, rfl, by omega, rfl, by omega, by omega, rfl, by omega⟩
theorem gd_lt {x : Int32} {k : Nat} (h : ltP x) (hk : k ≤ 10) : gdC (nI k, x - 119, 0) := by
  obtain ⟨n, hn, e⟩ := lt_v h
  exact ⟨k, n, 0, rfl, hk, e, by omega, fun _ => hn, rfl, by omega⟩
theorem gd_nm {ch : Nat → Int32} {q k : Nat} (hk : k < 8) : gdC (nI k, nmV ch q, 0) := by
  obtain ⟨n, hn, e⟩ := nm_v (ch := ch) (q := q)
  exact ⟨k, n, 0, rfl, by omega, e, hn, by omega, rfl, by omega⟩
theorem bd_gd {ch : Nat → Int32} {q kn kl : Nat} (h1 : kn < 8) (h2 : kl ≤ 10) : gdC (bdR ch q (nI kn) (nI kl)).2.2 ∧ (bdR ch q (nI kn) (nI kl)).1 ≤ 3 := by
  unfold bdR
  split
  · exact ⟨gd_lt (by assumption) h2, Nat.le_of_ble_eq_true rfl⟩
  · split
    · exact ⟨gd_nm h1, Nat.le_of_ble_eq_true rfl⟩
    · exact ⟨gd_0, Nat.le_of_ble_eq_true rfl⟩
theorem ns_gd {ch : Nat → Int32} {q : Nat} : gdC (nsR ch q).2.2 ∧ (nsR ch q).1 ≤ 3 := by
  unfold nsR
  split
  · exact ⟨gd_nm (k := 3) (by omega), Nat.le_of_ble_eq_true rfl⟩
  · split
    · split
      · exact ⟨gd_0, Nat.le_of_ble_eq_true rfl⟩
      · obtain ⟨n, hn, e⟩ := nm_v (ch := ch) (q := q)
        obtain ⟨n2, hn2, e2⟩ := nm_v (ch := ch) (q := nmP ch q + 1)
        exact ⟨⟨7, n, n2, rfl, by omega, e, hn, by omega, e2, hn2⟩, Nat.le_of_ble_eq_true rfl⟩
    · exact ⟨gd_0, Nat.le_of_ble_eq_true rfl⟩
theorem cl_gd {ch : Nat → Int32} {q : Nat} : gdC (clR ch q).2.2 ∧ (clR ch q).1 ≤ 3 := by
  unfold clR
  split
  · exact ns_gd
  split
  · exact ⟨⟨2, 0, 0, rfl, by omega, rfl, by omega, by omega, rfl, by omega⟩, Nat.le_of_ble_eq_true rfl⟩
  split
  · split
    · exact ⟨gd_nm (k := 4) (by omega), Nat.le_of_ble_eq_true rfl⟩
    · exact ⟨gd_0, Nat.le_of_ble_eq_true rfl⟩
  split
  · exact ⟨gd_0, Nat.le_of_ble_eq_true rfl⟩
  split
  · exact bd_gd (kn := 5) (kl := 9) (by omega) (by omega)
  split
  · exact bd_gd (kn := 6) (kl := 10) (by omega) (by omega)
  split
  · exact ⟨⟨1, 0, 0, rfl, by omega, rfl, by omega, by omega, rfl, by omega⟩, Nat.le_of_ble_eq_true rfl⟩
  split
  · exact ⟨gd_lt (k := 8) (by assumption) (by omega), Nat.le_of_ble_eq_true rfl⟩
  · exact ⟨gd_0, Nat.le_of_ble_eq_true rfl⟩
theorem ps_gd {ch : Nat → Int32} {t : Nat} : ∀ k q, (∀ r, r ∈ (psR ch t k q).2.2 → gdC r) ∧ (psR ch t k q).2.2.length ≤ k ∧ (psR ch t k q).1 ≤ 3
  | 0, q => ⟨fun r hr => absurd hr (by simp [psR]), by simp [psR], by simp [psR]⟩
  | k + 1, q => by
    have hc := cl_gd (ch := ch) (q := q)
    have ih := ps_gd (ch := ch) (t := t) k ((clR ch q).2.1 + 1)
    have one : ∀ r, r ∈ [(clR ch q).2.2] → gdC r := fun r hr => by
      rw [List.mem_singleton] at hr
      rw [hr]
      exact hc.1
    unfold psR
    split
    · exact ⟨fun r hr => absurd hr (by simp), by simp, hc.2⟩
    split
    · exact ⟨one, by simp, Nat.le_of_ble_eq_true rfl⟩
    split
    · exact ⟨one, by simp, Nat.le_of_ble_eq_true rfl⟩
    split
    · exact ⟨one, by simp, Nat.le_of_ble_eq_true rfl⟩
    · refine ⟨fun r hr => ?_, ?_, ih.2.2⟩
      · rcases List.mem_cons.mp hr with z | z
        · rw [z]
          exact hc.1
        · exact ih.1 r z
      · show (_ :: _).length ≤ _
        rw [List.length_cons]
        omega
theorem ps_at {ch : Nat → Int32} {t k q i : Nat} : gdC ((psR ch t k q).2.2.getD i (0, 0, 0)) := by
  rcases Nat.lt_or_ge i (psR ch t k q).2.2.length with z | z
  · rw [List.getD_eq_getElem?_getD, List.getElem?_eq_getElem z]
    exact (ps_gd k q).1 _ (List.getElem_mem z)
  · rw [List.getD_eq_getElem?_getD, List.getElem?_eq_none z]
    exact gd_0
theorem prs_0 {V : mw_M} : nI (prsV V).1 = 0 ↔ (prsV V).1 = 0 := nI_eq (b := 0) (by have := (ps_gd (ch := chA V (tN V)) (t := tN V) 4 0).2.2; unfold prsV; omega) (by omega)
theorem exa_lo {V : mw_M} {b : Nat} {L : List (Int32 × Int32 × Int32)} {q : Nat} (h : ¬ (b ≤ q ∧ q < b + 12)) : exaS V b L q = V q := by unfold exaS; rw [if_neg h]
theorem red_wf {V : mw_M} (h : wfR V) {x : Int32} : wfR (redN V x) := by
  have hd := dN_lt x
  have e : ∀ q, q < 100 → redN V x q = V q := fun q hq => by
    unfold redN
    rw [exa_lo (by omega), kpS_lo (by omega)]
  refine ⟨?_, ?_, fun k hk h8 => ?_⟩
  · obtain ⟨a, b, h1, h2, h3, h4⟩ := h.1
    exact ⟨a, b, by rw [e _ (by omega)]; exact h1, h2, by rw [e _ (by omega)]; exact h3, h4⟩
  · obtain ⟨a, b, h1, h2, h3, h4⟩ := h.2.1
    exact ⟨a, b, by rw [e _ (by omega)]; exact h1, h2, by rw [e _ (by omega)]; exact h3, h4⟩
  · by_cases z : 4 * dN x ≤ k ∧ k < 4 * dN x + 4
    · obtain ⟨i, hi, rfl⟩ : ∃ i, i < 4 ∧ k = 4 * dN x + i := ⟨k - 4 * dN x, by omega, by omega⟩
      have e1 : redN V x (100 + 3 * (4 * dN x + i)) = ((prsV V).2.2.getD i (0, 0, 0)).1 := by
        unfold redN exaS
        rw [if_pos (by omega), if_pos (by omega), show (100 + 3 * (4 * dN x + i) - (100 + 12 * dN x)) / 3 = i by omega]
      have e2 : redN V x (101 + 3 * (4 * dN x + i)) = ((prsV V).2.2.getD i (0, 0, 0)).2.1 := by
        unfold redN exaS
        rw [if_pos (by omega), if_neg (by omega), if_pos (by omega), show (101 + 3 * (4 * dN x + i) - (100 + 12 * dN x)) / 3 = i by omega]
      obtain ⟨k2, a, b, f1, f2, f3, f4, f5, -⟩ := ps_at (ch := chA V (tN V)) (t := tN V) (k := 4) (q := 0) (i := i)
      rw [e1] at h8
      rw [e2]
      have f1' : ((prsV V).2.2.getD i (0, 0, 0)).1 = nI k2 := f1
      rw [f1'] at h8
      have : 8 ≤ k2 := by
        rcases Nat.lt_or_ge k2 8 with z | z
        · exact absurd (nI_lt (b := 8) z (by omega)) h8
        · exact z
      exact ⟨a, f5 this, f3⟩
    · have e2 : ∀ j, j < 3 → redN V x (100 + j + 3 * k) = V (100 + j + 3 * k) := fun j hj => by
        unfold redN
        rw [exa_lo (by omega), kpS_lo (by omega)]
      rw [show 100 + 3 * k = 100 + 0 + 3 * k by omega, e2 0 (by omega)] at h8
      rw [show 101 + 3 * k = 100 + 1 + 3 * k by omega, e2 1 (by omega)]
      exact h.2.2 k hk h8
theorem clO.exa {M M1 : mw_M} (h : clO M1 M) {b : Nat} (hb : b + 12 ≤ 130) {L : List (Int32 × Int32 × Int32)} (hL : ∀ i, i < 4 → M1 (670 + 3 * i) = (L.getD i (0, 0, 0)).1 ∧ M1 (670 + 1 + 3 * i) = (L.getD i (0, 0, 0)).2.1 ∧ M1 (670 + 2 + 3 * i) = (L.getD i (0, 0, 0)).2.2) : clO (s_blk M1 b 670 12) (exaS M b L) := fun q hq => by
  by_cases z : b ≤ q ∧ q < b + 12
  · rw [s_blk_i z]
    unfold exaS
    rw [if_pos z]
    have h3 := hL ((q - b) / 3) (by omega)
    by_cases z0 : (q - b) % 3 = 0
    · rw [if_pos z0, ← h3.1]
      exact congrArg M1 (by omega)
    · rw [if_neg z0]
      by_cases z1 : (q - b) % 3 = 1
      · rw [if_pos z1, ← h3.2.1]
        exact congrArg M1 (by omega)
      · rw [if_neg z1, ← h3.2.2]
        exact congrArg M1 (by omega)
  · rw [s_blk_o z, exa_lo z]
    exact h q hq
theorem clO.kp2 {M M1 : mw_M} (h : clO M1 M) : clO (s_keep M1 (hN M)) (kpS M) := by
  have e : hN M1 = hN M := by unfold hN; rw [h.hi]
  have h2 : clO (s_keep M1 (hN M1)) (kpS M) := h.kp
  rwa [e] at h2
theorem keep_hi {M : mw_M} {h q : Nat} (hq : 651 ≤ q) : s_keep M h q = M q := by
  unfold s_keep
  rw [if_neg (by omega), if_neg (by omega)]
theorem eqS.srt {S S2 : mw_M} (h : eqS S S2) (h1 : szP S 1) : ∀ (L P : List Nat), (∀ r, r ∈ L → r < 144) → (∀ r, r ∈ P → r < 144) → L.foldl (fun P r => insS S2 r P) P = L.foldl (fun P r => insS S r P) P
  | [], _, _, _ => by simp
  | r :: L, P, hL, hP => by
    have e : insS S2 r P = insS S r P := by
      unfold insS
      rw [h.kps h1 (hL r (List.mem_cons_self ..)) hP P.length (Nat.le_refl _)]
    rw [List.foldl_cons, List.foldl_cons, e]
    refine eqS.srt h h1 L (insS S r P) (fun z hz => hL z (List.mem_cons_of_mem _ hz)) (fun z hz => ?_)
    rcases List.mem_cons.mp ((insS_perm (S := S) (r := r) (P := P)).mem_iff.mp hz) with w | w
    · rw [w]
      exact hL r (List.mem_cons_self ..)
    · exact hP z w
theorem eqS.srts {S S2 : mw_M} (h : eqS S S2) (hw : wfR S) {lo : Nat} : srtS S2 (lstS S lo) = srtS S (lstS S lo) :=
  h.srt hw.2.1 _ [] (fun r hr => (valP_row hw hr).1) (fun r hr => absurd hr (by simp))
theorem srt_row {S : mw_M} (hw : wfR S) {lo ix : Nat} (h : ix < (lstS S lo).length) : (srtS S (lstS S lo)).getD ix 0 < 144 ∧ valP S ((srtS S (lstS S lo)).getD ix 0 / 12) ((srtS S (lstS S lo)).getD ix 0 % 12) :=
  valP_row hw ((srt_perm).mem_iff.mp (getD_mem (by rw [srt_len]; exact h)))
theorem row_ent {M M3 : mw_M} (e3 : eqS M M3) (hw : wfR M) {r : Nat} (hv : valP M (r / 12) (r % 12)) {x : Int32} (ha : askP M3 x) : rowE M3 x (nI r) = vS M x.toNatClampNeg (r / 12) (r % 12) := by
  obtain ⟨c, hc, hx⟩ := ask_nI hw.2.1 (e3.ask.mp ha)
  rw [row_eq, rowE_ask (e3.wf hw).2.1 (e3.val hv) ha, hx, nI_clamp (by omega), e3.col hc hv.1 hv.2.1]
theorem row_d {r : Nat} (h : r < 144) : nI r / 12 = nI (r / 12) := by
  exact (congrArg (fun z => z / 12) row_eq).trans (row_div (by omega) (by omega))
theorem row_r {r : Nat} (h : r < 144) : nI r - nI r / 12 * 12 = nI (r % 12) := by
  exact (congrArg (fun z => z - z / 12 * 12) row_eq).trans (row_rem (by omega) (by omega))
theorem abr_tel {y : Int32} (h : abrB y = true) (h20 : 20 ≤ y) : ∃ j, j < 4 ∧ y - 20 = nI j ∧ (y - 20).toNatClampNeg = j := by
  have e20 : (20 : Int32).toInt = 20 := by decide
  have e18 : (18 : Int32).toInt = 18 := by decide
  rw [Int32.le_iff_toInt_le, e20] at h20
  unfold abrB at h
  simp only [Bool.or_eq_true, Bool.and_eq_true, decide_eq_true_eq] at h
  rcases h with (z | z) | z | z
  · rw [z] at h20
    exact absurd h20 (by decide)
  · rw [z] at h20
    exact absurd h20 (by decide)
  · have := z.2
    rw [Int32.lt_iff_toInt_lt, e18] at this
    omega
  · obtain ⟨k, h1, h2, e⟩ := btw (x := y) (a := 20) (b := 23) z.1 (fun w => z.2 (by
      have e24 : (24 : Int32).toInt = 24 := by decide
      rw [Int32.lt_iff_toInt_lt, nI_toInt (by omega)] at w
      rw [Int32.le_iff_toInt_le, e24]
      omega)) (by omega) (by omega)
    have e2 : y - 20 = nI (k - 20) := by
      rw [e]
      exact nI_subI (b := 20) h1
    exact ⟨k - 20, by omega, e2, by rw [e2]; exact nI_clamp (by omega)⟩
theorem op_row_ok {V : mw_M} {x y : Int32} {ix : Nat} (h0 : ¬ x < 0) (hab : abrB y = true) (hlt : x < manyI V) (hx : x.toNatClampNeg = ix) : op_row V x y = (rowI V ((srtS V (lstS V 8)).getD ix 0) y, V) := by
  unfold op_row
  rw [if_pos ⟨h0, hab⟩, if_pos hlt, hx]
theorem iX8_row_X8 : ∀ w ∈ u_ws RX8 TX8 5, w ∈ wsX8_row := fun w hw => (List.mem_cons_of_mem _ (List.mem_append_left _ (List.mem_append_left _ (List.mem_append_left _ (List.mem_append_left _ (List.mem_append_left _ (List.mem_append_right _ hw)))))))
set_option maxRecDepth 100000 in
set_option maxHeartbeats 4000000 in
theorem c_X8_row {l : Launch} {G : mw_GG} (M : mw_M) (hw : wfV M) (hh : hiV M) (ht : txV M) (x y : Int32) : mw_Met l yX8_row wsX8_row ({ frames := 6, cells := 0, slots := 0, locals := 140 } : Room) G [.ref (G.1 144), .int x, .int y] M (qIP (fun r M2 => r = (op_row M x y).1 ∧ clO M2 (op_row M x y).2)) := by
  refine mw_ofV (cc := cX8_row) 5 (by decide) rfl rfl (Nat.le_of_ble_eq_true rfl) ?_
  intro p e s m args below meth c C hR hN0
  refine vv_loc (ls2 := [some (.ref (G.1 144)), some (.int x), some (.int y), none, none]) rfl ?_
  have hR0 := hw.wfR
  refine vv_iload_n C 1 dX8_row_0 rfl rfl ?_
  refine vv_if_lt C 11 dX8_row_1 (by decide) (fun h_neg => ?_) (fun h_nneg => ?_)
  · refine vv_bipush (v := (-11)) C dX8_row_11 (by decide) ?_
    exact vv_iret C hR dX8_row_13 (qIP_of (by rw [show op_row M x y = (-11, M) from if_neg (fun z => z.1 h_neg)]; exact ⟨rfl, clO.rf⟩))
  · refine vv_iload_n C 2 dX8_row_4 rfl rfl ?_
    refine vv_callSI C [.int y] (c_X8_isAboutRow M y) (cwS 1 C.1.2.2.2.2 gX8_row_X8_isAboutRow rfl rfl rfl (by decide +kernel) ⟨Nat.le_of_ble_eq_true rfl, Nat.le_of_ble_eq_true rfl⟩) rfl rfl rfl (Nat.le_of_ble_eq_true rfl) dX8_row_5 ⟨Nat.le_refl _, Nat.le_refl _⟩ ?_
    refine vv_bif_ne C 14 dX8_row_8 (by decide) (fun h_ab => ?_) (fun h_nab => ?_)
    · refine vv_iload_n C 1 dX8_row_14 rfl rfl ?_
      refine vv_aload_n C 0 dX8_row_15 rfl rfl ?_
      refine vv_getr C (Cn := RX8) (T := TX8) (N := 5) sh_144 2 rfl rfl (by decide) iX8_row_X8 (List.mem_of_getElem? (i := 1) rfl) rfl dX8_row_16 ?_
      refine vv_iconst (v := (-1)) C dX8_row_19 (by decide) ?_
      refine vv_callVIP C [.int (-1)] (c_X5_find M hR0 (lo := 8) (x := (-1)) (by decide)) sh_126 rfl (cwV 1 C.1.2.2.2.2 gX8_row_X5_find rfl rfl rfl (by decide +kernel) ⟨Nat.le_of_ble_eq_true rfl, Nat.le_of_ble_eq_true rfl⟩) rfl rfl rfl (Nat.le_of_ble_eq_true rfl) dX8_row_20 ⟨Nat.le_refl _, Nat.le_refl _⟩ (fun x_5 M_6 h_7 => ?_)
      obtain ⟨rfl, h_7⟩ := h_7
      have hF := h_7
      refine vv_icmp_lt C 29 dX8_row_23 (by decide) (fun h_lt => ?_) (fun h_nlt => ?_)
      · refine vv_aload_n C 0 dX8_row_29 rfl rfl ?_
        refine vv_getr C (Cn := RX8) (T := TX8) (N := 5) sh_144 2 rfl rfl (by decide) iX8_row_X8 (List.mem_of_getElem? (i := 1) rfl) rfl dX8_row_30 ?_
        refine vv_iload_n C 1 dX8_row_33 rfl rfl ?_
        obtain ⟨ix, hixl, hixe, hixc⟩ := ix_lt h_nneg h_lt (by have := lstS_len (lo := 8) hR0; omega)
        have hrr := srt_row hR0 hixl
        refine vv_callVIP C [.int x] (c_X5_inOrder M_6 (hF.eq.wf hR0) (L := (lstS M 8)) (lstS_len hR0) (fun r hr => ⟨(valP_row hR0 hr).1, hF.eq.val (valP_row hR0 hr).2⟩) hF.2.2.1 hF.2.2.2 (ix := ix) hixl (x := x) hixe) sh_126 rfl (cwV 1 C.1.2.2.2.2 gX8_row_X5_inOrder rfl rfl rfl (by decide +kernel) ⟨Nat.le_of_ble_eq_true rfl, Nat.le_of_ble_eq_true rfl⟩) rfl rfl rfl (Nat.le_of_ble_eq_true rfl) dX8_row_34 ⟨Nat.le_refl _, Nat.le_refl _⟩ (fun x_10 M_11 h_12 => ?_)
        obtain ⟨rfl, h_12⟩ := h_12
        have hO3 := (clO.fnd hF).tr (fun q hq => h_12 q (fun z => hq (by unfold clS; omega)))
        have e3 := hO3.eq
        refine vv_top (y := nI ((srtS M (lstS M 8)).getD ix 0)) (by rw [hF.eq.srts hR0]) ?_
        have h660 : ∀ j, j < 4 → M_11 (660 + j) = tcI (telS M 8 j) := fun j hj => (h_12 _ (by omega)).trans (((hF.2.1.2 j hj)).trans (by rw [hF.eq.tels]))
        refine vv_istore_n (ls2 := [some (.ref (G.1 144)), some (.int x), some (.int y), some (.int (nI ((srtS M (lstS M 8)).getD ix 0))), none]) C 3 dX8_row_37 rfl (Nat.le_of_ble_eq_true rfl) rfl ?_
        refine vv_iload_n C 2 dX8_row_38 rfl rfl ?_
        refine vv_if_ne C 47 dX8_row_39 (by decide) (fun h_wn0 => ?_) (fun h_w0 => ?_)
        · refine vv_iload_n C 2 dX8_row_47 rfl rfl ?_
          refine vv_iconst (v := 1) C dX8_row_48 (by decide) ?_
          refine vv_icmp_ne C 72 dX8_row_49 (by decide) (fun h_wn1 => ?_) (fun h_w1 => ?_)
          · refine vv_iload_n C 2 dX8_row_72 rfl rfl ?_
            refine vv_bipush (v := 20) C dX8_row_73 (by decide) ?_
            refine vv_icmp_ge C 85 dX8_row_75 (by decide) (fun h_ge => ?_) (fun h_nge => ?_)
            · refine vv_aload_n C 0 dX8_row_85 rfl rfl ?_
              refine vv_getr C (Cn := RX8) (T := TX8) (N := 5) sh_144 2 rfl rfl (by decide) iX8_row_X8 (List.mem_of_getElem? (i := 1) rfl) rfl dX8_row_86 ?_
              refine vv_iload_n C 2 dX8_row_89 rfl rfl ?_
              refine vv_bipush (v := 20) C dX8_row_90 (by decide) ?_
              refine vv_isub C dX8_row_92 ?_
              obtain ⟨j, hj, hje, hjc⟩ := abr_tel h_ab h_ge
              refine vv_callVI C [.int (y - 20)] (c_X5_tellerOf M_11 (i := (y - 20)) (j := j) hje hj) sh_126 rfl (cwV 1 C.1.2.2.2.2 gX8_row_X5_tellerOf rfl rfl rfl (by decide +kernel) ⟨Nat.le_of_ble_eq_true rfl, Nat.le_of_ble_eq_true rfl⟩) rfl rfl rfl (Nat.le_of_ble_eq_true rfl) dX8_row_93 ⟨Nat.le_refl _, Nat.le_refl _⟩ ?_
              refine vv_top (y := tcI (telS M 8 j)) (h660 j hj) ?_
              have hcol : colI M y = tcI (telS M 8 j) := by unfold colI; rw [if_neg (Int32.not_lt.mpr h_ge), hjc]
              refine vv_istore (ls2 := [some (.ref (G.1 144)), some (.int x), some (.int y), some (.int (nI ((srtS M (lstS M 8)).getD ix 0))), some (.int (tcI (telS M 8 j)))]) C 4 dX8_row_96 (Nat.le_of_ble_eq_true rfl) rfl ?_
              refine vv_aload_n C 0 dX8_row_98 rfl rfl ?_
              refine vv_getr C (Cn := RX8) (T := TX8) (N := 5) sh_144 0 rfl rfl (by decide) iX8_row_X8 (List.mem_of_getElem? (i := 2) rfl) rfl dX8_row_99 ?_
              refine vv_iload C 4 dX8_row_102 rfl ?_
              refine vv_callVI C [.int (tcI (telS M 8 j))] (c_X6_isAsked M_11 (tcI (telS M 8 j))) sh_0 rfl (cwV 1 C.1.2.2.2.2 gX8_row_X6_isAsked rfl rfl rfl (by decide +kernel) ⟨Nat.le_of_ble_eq_true rfl, Nat.le_of_ble_eq_true rfl⟩) rfl rfl rfl (Nat.le_of_ble_eq_true rfl) dX8_row_104 ⟨Nat.le_refl _, Nat.le_refl _⟩ ?_
              refine vv_bif_eq C 123 dX8_row_107 (by decide) (fun h_nask => ?_) (fun h_ask => ?_)
              · refine vv_bipush (v := (-14)) C dX8_row_123 (by decide) ?_
                exact vv_iret C hR dX8_row_125 (qIP_of (by
                  rw [op_row_ok h_nneg h_ab h_lt hixc]
                  refine ⟨?_, hO3⟩
                  show _ = rowI M ((srtS M (lstS M 8)).getD ix 0) y
                  unfold rowI
                  exact (by rw [if_neg h_wn0, if_neg h_wn1, hcol, if_neg (fun z => h_nask (e3.ask.mpr z))])))
              · refine vv_aload_n C 0 dX8_row_110 rfl rfl ?_
                refine vv_getr C (Cn := RX8) (T := TX8) (N := 5) sh_144 0 rfl rfl (by decide) iX8_row_X8 (List.mem_of_getElem? (i := 2) rfl) rfl dX8_row_111 ?_
                refine vv_iload C 4 dX8_row_114 rfl ?_
                refine vv_iload_n C 3 dX8_row_116 rfl rfl ?_
                refine vv_callVI C [.int (tcI (telS M 8 j)), .int (nI ((srtS M (lstS M 8)).getD ix 0))] (c_X6_entry M_11 (e3.wf hR0).1 (e3.wf hR0).2.1 (tcI (telS M 8 j)) (nI ((srtS M (lstS M 8)).getD ix 0))) sh_0 rfl (cwV 2 C.1.2.2.2.2 gX8_row_X6_entry rfl rfl rfl (by decide +kernel) ⟨Nat.le_of_ble_eq_true rfl, Nat.le_of_ble_eq_true rfl⟩) rfl rfl rfl (Nat.le_of_ble_eq_true rfl) dX8_row_117 ⟨Nat.le_refl _, Nat.le_refl _⟩ ?_
                refine vv_goto C 125 dX8_row_120 (by decide) ?_
                exact vv_iret C hR dX8_row_125 (qIP_of (by
                  rw [op_row_ok h_nneg h_ab h_lt hixc]
                  refine ⟨?_, hO3⟩
                  show _ = rowI M ((srtS M (lstS M 8)).getD ix 0) y
                  unfold rowI
                  exact (by rw [if_neg h_wn0, if_neg h_wn1, hcol, if_pos (e3.ask.mp h_ask)]; exact row_ent e3 hR0 hrr.2 h_ask)))
            · refine vv_iload_n C 2 dX8_row_78 rfl rfl ?_
              refine vv_bipush (v := 10) C dX8_row_79 (by decide) ?_
              refine vv_isub C dX8_row_81 ?_
              have hcol : colI M y = y - 10 := if_pos (Int32.not_le.mp h_nge)
              refine vv_goto C 96 dX8_row_82 (by decide) ?_
              refine vv_istore (ls2 := [some (.ref (G.1 144)), some (.int x), some (.int y), some (.int (nI ((srtS M (lstS M 8)).getD ix 0))), some (.int (y - 10))]) C 4 dX8_row_96 (Nat.le_of_ble_eq_true rfl) rfl ?_
              refine vv_aload_n C 0 dX8_row_98 rfl rfl ?_
              refine vv_getr C (Cn := RX8) (T := TX8) (N := 5) sh_144 0 rfl rfl (by decide) iX8_row_X8 (List.mem_of_getElem? (i := 2) rfl) rfl dX8_row_99 ?_
              refine vv_iload C 4 dX8_row_102 rfl ?_
              refine vv_callVI C [.int (y - 10)] (c_X6_isAsked M_11 (y - 10)) sh_0 rfl (cwV 1 C.1.2.2.2.2 gX8_row_X6_isAsked rfl rfl rfl (by decide +kernel) ⟨Nat.le_of_ble_eq_true rfl, Nat.le_of_ble_eq_true rfl⟩) rfl rfl rfl (Nat.le_of_ble_eq_true rfl) dX8_row_104 ⟨Nat.le_refl _, Nat.le_refl _⟩ ?_
              refine vv_bif_eq C 123 dX8_row_107 (by decide) (fun h_nask => ?_) (fun h_ask => ?_)
              · refine vv_bipush (v := (-14)) C dX8_row_123 (by decide) ?_
                exact vv_iret C hR dX8_row_125 (qIP_of (by
                  rw [op_row_ok h_nneg h_ab h_lt hixc]
                  refine ⟨?_, hO3⟩
                  show _ = rowI M ((srtS M (lstS M 8)).getD ix 0) y
                  unfold rowI
                  exact (by rw [if_neg h_wn0, if_neg h_wn1, hcol, if_neg (fun z => h_nask (e3.ask.mpr z))])))
              · refine vv_aload_n C 0 dX8_row_110 rfl rfl ?_
                refine vv_getr C (Cn := RX8) (T := TX8) (N := 5) sh_144 0 rfl rfl (by decide) iX8_row_X8 (List.mem_of_getElem? (i := 2) rfl) rfl dX8_row_111 ?_
                refine vv_iload C 4 dX8_row_114 rfl ?_
                refine vv_iload_n C 3 dX8_row_116 rfl rfl ?_
                refine vv_callVI C [.int (y - 10), .int (nI ((srtS M (lstS M 8)).getD ix 0))] (c_X6_entry M_11 (e3.wf hR0).1 (e3.wf hR0).2.1 (y - 10) (nI ((srtS M (lstS M 8)).getD ix 0))) sh_0 rfl (cwV 2 C.1.2.2.2.2 gX8_row_X6_entry rfl rfl rfl (by decide +kernel) ⟨Nat.le_of_ble_eq_true rfl, Nat.le_of_ble_eq_true rfl⟩) rfl rfl rfl (Nat.le_of_ble_eq_true rfl) dX8_row_117 ⟨Nat.le_refl _, Nat.le_refl _⟩ ?_
                refine vv_goto C 125 dX8_row_120 (by decide) ?_
                exact vv_iret C hR dX8_row_125 (qIP_of (by
                  rw [op_row_ok h_nneg h_ab h_lt hixc]
                  refine ⟨?_, hO3⟩
                  show _ = rowI M ((srtS M (lstS M 8)).getD ix 0) y
                  unfold rowI
                  exact (by rw [if_neg h_wn0, if_neg h_wn1, hcol, if_pos (e3.ask.mp h_ask)]; exact row_ent e3 hR0 hrr.2 h_ask)))
          · refine vv_aload_n C 0 dX8_row_52 rfl rfl ?_
            refine vv_getr C (Cn := RX8) (T := TX8) (N := 5) sh_144 0 rfl rfl (by decide) iX8_row_X8 (List.mem_of_getElem? (i := 2) rfl) rfl dX8_row_53 ?_
            refine vv_callVI C [] (c_X6_isOfBoth M_11) sh_0 rfl (cwV 0 C.1.2.2.2.2 gX8_row_X6_isOfBoth rfl rfl rfl (by decide +kernel) ⟨Nat.le_of_ble_eq_true rfl, Nat.le_of_ble_eq_true rfl⟩) rfl rfl rfl (Nat.le_of_ble_eq_true rfl) dX8_row_56 ⟨Nat.le_refl _, Nat.le_refl _⟩ ?_
            refine vv_bif_eq C 69 dX8_row_59 (by decide) (fun h_nb => ?_) (fun h_b => ?_)
            · refine vv_bipush (v := (-14)) C dX8_row_69 (by decide) ?_
              exact vv_iret C hR dX8_row_71 (qIP_of (by
                rw [op_row_ok h_nneg h_ab h_lt hixc]
                refine ⟨?_, hO3⟩
                show _ = rowI M ((srtS M (lstS M 8)).getD ix 0) y
                unfold rowI
                exact (by rw [if_neg h_wn0, if_pos h_w1, if_neg (fun z => h_nb ((e3 124 (by omega)).trans z))])))
            · refine vv_iload_n C 3 dX8_row_62 rfl rfl ?_
              refine vv_bipush (v := 12) C dX8_row_63 (by decide) ?_
              refine vv_irem C dX8_row_65 (by decide) ?_
              refine vv_goto C 71 dX8_row_66 (by decide) ?_
              exact vv_iret C hR dX8_row_71 (qIP_of (by
                rw [op_row_ok h_nneg h_ab h_lt hixc]
                refine ⟨?_, hO3⟩
                show _ = rowI M ((srtS M (lstS M 8)).getD ix 0) y
                unfold rowI
                exact (by rw [if_neg h_wn0, if_pos h_w1, if_pos ((e3 124 (by omega)).symm.trans h_b)]; exact row_r hrr.1)))
        · refine vv_iload_n C 3 dX8_row_42 rfl rfl ?_
          refine vv_bipush (v := 12) C dX8_row_43 (by decide) ?_
          refine vv_idiv C dX8_row_45 (by decide) ?_
          exact vv_iret C hR dX8_row_46 (qIP_of (by
            rw [op_row_ok h_nneg h_ab h_lt hixc]
            refine ⟨?_, hO3⟩
            show _ = rowI M ((srtS M (lstS M 8)).getD ix 0) y
            unfold rowI
            exact (by rw [if_pos h_w0]; exact row_d hrr.1)))
      · refine vv_bipush (v := (-14)) C dX8_row_26 (by decide) ?_
        exact vv_iret C hR dX8_row_28 (qIP_of (by rw [show op_row M x y = (if x < manyI M then rowI M ((srtS M (lstS M 8)).getD x.toNatClampNeg 0) y else -14, M) from if_pos ⟨h_nneg, h_ab⟩, if_neg (show ¬ x < manyI M from h_nlt)]; exact ⟨rfl, clO.fnd hF⟩))
    · refine vv_bipush (v := (-11)) C dX8_row_11 (by decide) ?_
      exact vv_iret C hR dX8_row_13 (qIP_of (by rw [show op_row M x y = (-11, M) from if_neg (fun z => h_nab z.2)]; exact ⟨rfl, clO.rf⟩))
theorem iX8_fault_X8 : ∀ w ∈ u_ws RX8 TX8 5, w ∈ wsX8_fault := fun w hw => (List.mem_cons_of_mem _ (List.mem_append_left _ (List.mem_append_left _ (List.mem_append_left _ (List.mem_append_left _ (List.mem_append_right _ hw))))))
set_option maxRecDepth 100000 in
set_option maxHeartbeats 4000000 in
theorem c_X8_fault {l : Launch} {G : mw_GG} (M : mw_M) (hw : wfV M) (hh : hiV M) (ht : txV M) (x : Int32) : mw_Met l yX8_fault wsX8_fault ({ frames := 6, cells := 0, slots := 0, locals := 131 } : Room) G [.ref (G.1 144), .int x] M (qIP (fun r M2 => r = (op_fault M x).1 ∧ clO M2 (op_fault M x).2)) := by
  refine mw_ofV (cc := cX8_fault) 2 (by decide) rfl rfl (Nat.le_of_ble_eq_true rfl) ?_
  intro p e s m args below meth c C hR hN0
  refine vv_loc (ls2 := [some (.ref (G.1 144)), some (.int x)]) rfl ?_
  have hR0 := hw.wfR
  refine vv_iload_n C 1 dX8_fault_0 rfl rfl ?_
  refine vv_callSI C [.int x] (c_X8_isBit M x) (cwS 1 C.1.2.2.2.2 gX8_fault_X8_isBit rfl rfl rfl (by decide +kernel) ⟨Nat.le_of_ble_eq_true rfl, Nat.le_of_ble_eq_true rfl⟩) rfl rfl rfl (Nat.le_of_ble_eq_true rfl) dX8_fault_1 ⟨Nat.le_refl _, Nat.le_refl _⟩ ?_
  refine vv_bif_ne C 10 dX8_fault_4 (by decide) (fun h_bit => ?_) (fun h_nbit => ?_)
  · refine vv_aload_n C 0 dX8_fault_10 rfl rfl ?_
    refine vv_getr C (Cn := RX8) (T := TX8) (N := 5) sh_144 4 rfl rfl (by decide) iX8_fault_X8 (List.mem_of_getElem? (i := 1) rfl) rfl dX8_fault_11 ?_
    refine vv_callVVP C [] (c_X4_start M (t := (tN M)) ht.1 ht.2) sh_136 rfl (cwV 0 C.1.2.2.2.2 gX8_fault_X4_start rfl rfl rfl (by decide +kernel) ⟨Nat.le_of_ble_eq_true rfl, Nat.le_of_ble_eq_true rfl⟩) rfl rfl rfl (Nat.le_of_ble_eq_true rfl) dX8_fault_14 ⟨Nat.le_refl _, Nat.le_refl _⟩ (fun M_3 h_4 => ?_)
    have hS := h_4
    have hO := clO.st hS
    refine vv_aload_n C 0 dX8_fault_17 rfl rfl ?_
    refine vv_getr C (Cn := RX8) (T := TX8) (N := 5) sh_144 4 rfl rfl (by decide) iX8_fault_X8 (List.mem_of_getElem? (i := 1) rfl) rfl dX8_fault_18 ?_
    refine vv_callVI C [] (c_X4_hasFault M_3) sh_136 rfl (cwV 0 C.1.2.2.2.2 gX8_fault_X4_hasFault rfl rfl rfl (by decide +kernel) ⟨Nat.le_of_ble_eq_true rfl, Nat.le_of_ble_eq_true rfl⟩) rfl rfl rfl (Nat.le_of_ble_eq_true rfl) dX8_fault_21 ⟨Nat.le_refl _, Nat.le_refl _⟩ ?_
    refine vv_bif_ne C 30 dX8_fault_24 (by decide) (fun h_bad => ?_) (fun h_ok => ?_)
    · refine vv_iload_n C 1 dX8_fault_30 rfl rfl ?_
      refine vv_if_ne C 44 dX8_fault_31 (by decide) (fun h_xn0 => ?_) (fun h_x0 => ?_)
      · refine vv_aload_n C 0 dX8_fault_44 rfl rfl ?_
        refine vv_getr C (Cn := RX8) (T := TX8) (N := 5) sh_144 4 rfl rfl (by decide) iX8_fault_X8 (List.mem_of_getElem? (i := 1) rfl) rfl dX8_fault_45 ?_
        refine vv_callVI C [] (c_X4_faultReason M_3) sh_136 rfl (cwV 0 C.1.2.2.2.2 gX8_fault_X4_faultReason rfl rfl rfl (by decide +kernel) ⟨Nat.le_of_ble_eq_true rfl, Nat.le_of_ble_eq_true rfl⟩) rfl rfl rfl (Nat.le_of_ble_eq_true rfl) dX8_fault_48 ⟨Nat.le_refl _, Nat.le_refl _⟩ ?_
        have hf : ¬ (prsV M).1 = 0 := fun z => h_bad (hS.2.1.trans (prs_0.mpr z))
        exact vv_iret C hR dX8_fault_51 (qIP_of (by rw [show op_fault M x = _ from if_pos h_bit, if_neg hf, if_neg h_xn0]; exact ⟨hS.2.1, hO⟩))
      · refine vv_aload_n C 0 dX8_fault_34 rfl rfl ?_
        refine vv_getr C (Cn := RX8) (T := TX8) (N := 5) sh_144 4 rfl rfl (by decide) iX8_fault_X8 (List.mem_of_getElem? (i := 1) rfl) rfl dX8_fault_35 ?_
        refine vv_callVI C [] (c_X4_faultPlace M_3) sh_136 rfl (cwV 0 C.1.2.2.2.2 gX8_fault_X4_faultPlace rfl rfl rfl (by decide +kernel) ⟨Nat.le_of_ble_eq_true rfl, Nat.le_of_ble_eq_true rfl⟩) rfl rfl rfl (Nat.le_of_ble_eq_true rfl) dX8_fault_38 ⟨Nat.le_refl _, Nat.le_refl _⟩ ?_
        refine vv_goto C 51 dX8_fault_41 (by decide) ?_
        have hf : ¬ (prsV M).1 = 0 := fun z => h_bad (hS.2.1.trans (prs_0.mpr z))
        exact vv_iret C hR dX8_fault_51 (qIP_of (by rw [show op_fault M x = _ from if_pos h_bit, if_neg hf, if_pos h_x0]; exact ⟨hS.2.2.1 hf, hO⟩))
    · refine vv_bipush (v := (-14)) C dX8_fault_27 (by decide) ?_
      exact vv_iret C hR dX8_fault_29 (qIP_of (by rw [show op_fault M x = _ from if_pos h_bit, if_pos (prs_0.mp ((hS.2.1).symm.trans (Classical.not_not.mp h_ok)))]; exact ⟨rfl, hO⟩))
  · refine vv_bipush (v := (-11)) C dX8_fault_7 (by decide) ?_
    exact vv_iret C hR dX8_fault_9 (qIP_of (by rw [show op_fault M x = (-11, M) from if_neg h_nbit]; exact ⟨rfl, clO.rf⟩))
theorem iX8_read_X8 : ∀ w ∈ u_ws RX8 TX8 5, w ∈ wsX8_read := fun w hw => (List.mem_cons_of_mem _ (List.mem_append_left _ (List.mem_append_left _ (List.mem_append_left _ (List.mem_append_left _ (List.mem_append_left _ (List.mem_append_left _ (List.mem_append_left _ (List.mem_append_left _ (List.mem_append_right _ hw))))))))))
set_option maxRecDepth 100000 in
set_option maxHeartbeats 4000000 in
theorem c_X8_read {l : Launch} {G : mw_GG} (M : mw_M) (hw : wfV M) (hh : hiV M) (ht : txV M) (x : Int32) : mw_Met l yX8_read wsX8_read ({ frames := 6, cells := 0, slots := 0, locals := 140 } : Room) G [.ref (G.1 144), .int x] M (qIP (fun r M2 => r = (op_read M x).1 ∧ clO M2 (op_read M x).2)) := by
  refine mw_ofV (cc := cX8_read) 2 (by decide) rfl rfl (Nat.le_of_ble_eq_true rfl) ?_
  intro p e s m args below meth c C hR hN0
  refine vv_loc (ls2 := [some (.ref (G.1 144)), some (.int x)]) rfl ?_
  have hR0 := hw.wfR
  refine vv_iload_n C 1 dX8_read_0 rfl rfl ?_
  refine vv_callSI C [.int x] (c_X8_isBit M x) (cwS 1 C.1.2.2.2.2 gX8_read_X8_isBit rfl rfl rfl (by decide +kernel) ⟨Nat.le_of_ble_eq_true rfl, Nat.le_of_ble_eq_true rfl⟩) rfl rfl rfl (Nat.le_of_ble_eq_true rfl) dX8_read_1 ⟨Nat.le_refl _, Nat.le_refl _⟩ ?_
  refine vv_bif_ne C 10 dX8_read_4 (by decide) (fun h_bit => ?_) (fun h_nbit => ?_)
  · refine vv_aload_n C 0 dX8_read_10 rfl rfl ?_
    refine vv_getr C (Cn := RX8) (T := TX8) (N := 5) sh_144 4 rfl rfl (by decide) iX8_read_X8 (List.mem_of_getElem? (i := 1) rfl) rfl dX8_read_11 ?_
    refine vv_callVVP C [] (c_X4_start M (t := (tN M)) ht.1 ht.2) sh_136 rfl (cwV 0 C.1.2.2.2.2 gX8_read_X4_start rfl rfl rfl (by decide +kernel) ⟨Nat.le_of_ble_eq_true rfl, Nat.le_of_ble_eq_true rfl⟩) rfl rfl rfl (Nat.le_of_ble_eq_true rfl) dX8_read_14 ⟨Nat.le_refl _, Nat.le_refl _⟩ (fun M_3 h_4 => ?_)
    have hS := h_4
    have hO := clO.st hS
    refine vv_aload_n C 0 dX8_read_17 rfl rfl ?_
    refine vv_getr C (Cn := RX8) (T := TX8) (N := 5) sh_144 4 rfl rfl (by decide) iX8_read_X8 (List.mem_of_getElem? (i := 1) rfl) rfl dX8_read_18 ?_
    refine vv_callVI C [] (c_X4_hasFault M_3) sh_136 rfl (cwV 0 C.1.2.2.2.2 gX8_read_X4_hasFault rfl rfl rfl (by decide +kernel) ⟨Nat.le_of_ble_eq_true rfl, Nat.le_of_ble_eq_true rfl⟩) rfl rfl rfl (Nat.le_of_ble_eq_true rfl) dX8_read_21 ⟨Nat.le_refl _, Nat.le_refl _⟩ ?_
    refine vv_bif_ne C 48 dX8_read_24 (by decide) (fun h_bad => ?_) (fun h_ok => ?_)
    · refine vv_bipush (v := (-12)) C dX8_read_48 (by decide) ?_
      exact vv_iret C hR dX8_read_50 (qIP_of (by rw [show op_read M x = _ from if_pos h_bit, if_neg (fun z => h_bad (hS.2.1.trans (prs_0.mpr z.1)))]; exact ⟨rfl, hO⟩))
    · refine vv_aload_n C 0 dX8_read_27 rfl rfl ?_
      refine vv_getr C (Cn := RX8) (T := TX8) (N := 5) sh_144 4 rfl rfl (by decide) iX8_read_X8 (List.mem_of_getElem? (i := 1) rfl) rfl dX8_read_28 ?_
      have hf := prs_0.mp ((hS.2.1).symm.trans (Classical.not_not.mp h_ok))
      have hlen : M_3 654 = nI (prsV M).2.2.length := (hS.2.2.2 hf).1
      have hwid : M_3 (dN x) = M (dN x) := hO.eq _ (by have := dN_lt x; omega)
      refine vv_callVI C [] (c_X4_cells M_3) sh_136 rfl (cwV 0 C.1.2.2.2.2 gX8_read_X4_cells rfl rfl rfl (by decide +kernel) ⟨Nat.le_of_ble_eq_true rfl, Nat.le_of_ble_eq_true rfl⟩) rfl rfl rfl (Nat.le_of_ble_eq_true rfl) dX8_read_31 ⟨Nat.le_refl _, Nat.le_refl _⟩ ?_
      refine vv_aload_n C 0 dX8_read_34 rfl rfl ?_
      refine vv_getr C (Cn := RX8) (T := TX8) (N := 5) sh_144 0 rfl rfl (by decide) iX8_read_X8 (List.mem_of_getElem? (i := 2) rfl) rfl dX8_read_35 ?_
      refine vv_iload_n C 1 dX8_read_38 rfl rfl ?_
      refine vv_callVR C [.int x] (c_X6_drawer M_3 x) sh_0 rfl (cwV 1 C.1.2.2.2.2 gX8_read_X6_drawer rfl rfl rfl (by decide +kernel) ⟨Nat.le_of_ble_eq_true rfl, Nat.le_of_ble_eq_true rfl⟩) rfl rfl rfl (Nat.le_of_ble_eq_true rfl) dX8_read_39 ⟨Nat.le_refl _, Nat.le_refl _⟩ ?_
      refine vv_callVI C [] (c_X0_width (d := (dN x)) (dN_lt x) M_3) (mw_Dw_d (dN_lt x)).1 rfl (cwV 0 C.1.2.2.2.2 gX8_read_X0_width rfl rfl rfl (by decide +kernel) ⟨Nat.le_of_ble_eq_true rfl, Nat.le_of_ble_eq_true rfl⟩) rfl rfl rfl (Nat.le_of_ble_eq_true rfl) dX8_read_42 ⟨Nat.le_refl _, Nat.le_refl _⟩ ?_
      refine vv_icmp_le C 51 dX8_read_45 (by decide) (fun h_le => ?_) (fun h_gt => ?_)
      · refine vv_aload_n C 0 dX8_read_51 rfl rfl ?_
        refine vv_getr C (Cn := RX8) (T := TX8) (N := 5) sh_144 1 rfl rfl (by decide) iX8_read_X8 (List.mem_of_getElem? (i := 3) rfl) rfl dX8_read_52 ?_
        refine vv_aload_n C 0 dX8_read_55 rfl rfl ?_
        refine vv_getr C (Cn := RX8) (T := TX8) (N := 5) sh_144 0 rfl rfl (by decide) iX8_read_X8 (List.mem_of_getElem? (i := 2) rfl) rfl dX8_read_56 ?_
        have hk2 := hO.kp2
        refine vv_callVV C [.ref (G.1 0)] (c_X2_keep M_3 (h := (hN M)) (hO.hi.trans hh.1) hh.2) sh_125 rfl (cwV 1 C.1.2.2.2.2 gX8_read_X2_keep rfl rfl rfl (by decide +kernel) ⟨Nat.le_of_ble_eq_true rfl, Nat.le_of_ble_eq_true rfl⟩) rfl rfl rfl (Nat.le_of_ble_eq_true rfl) dX8_read_59 ⟨Nat.le_refl _, Nat.le_refl _⟩ ?_
        refine vv_aload_n C 0 dX8_read_62 rfl rfl ?_
        refine vv_getr C (Cn := RX8) (T := TX8) (N := 5) sh_144 0 rfl rfl (by decide) iX8_read_X8 (List.mem_of_getElem? (i := 2) rfl) rfl dX8_read_63 ?_
        refine vv_iload_n C 1 dX8_read_66 rfl rfl ?_
        refine vv_callVR C [.int x] (c_X6_drawer (s_keep M_3 (hN M)) x) sh_0 rfl (cwV 1 C.1.2.2.2.2 gX8_read_X6_drawer rfl rfl rfl (by decide +kernel) ⟨Nat.le_of_ble_eq_true rfl, Nat.le_of_ble_eq_true rfl⟩) rfl rfl rfl (Nat.le_of_ble_eq_true rfl) dX8_read_67 ⟨Nat.le_refl _, Nat.le_refl _⟩ ?_
        refine vv_callVR C [] (c_X0_example (d := (dN x)) (dN_lt x) (s_keep M_3 (hN M))) (mw_Dw_d (dN_lt x)).1 rfl (cwV 0 C.1.2.2.2.2 gX8_read_X0_example rfl rfl rfl (by decide +kernel) ⟨Nat.le_of_ble_eq_true rfl, Nat.le_of_ble_eq_true rfl⟩) rfl rfl rfl (Nat.le_of_ble_eq_true rfl) dX8_read_70 ⟨Nat.le_refl _, Nat.le_refl _⟩ ?_
        refine vv_aload_n C 0 dX8_read_73 rfl rfl ?_
        refine vv_getr C (Cn := RX8) (T := TX8) (N := 5) sh_144 4 rfl rfl (by decide) iX8_read_X8 (List.mem_of_getElem? (i := 1) rfl) rfl dX8_read_74 ?_
        refine vv_callVR C [] (c_X4_example (s_keep M_3 (hN M))) sh_136 rfl (cwV 0 C.1.2.2.2.2 gX8_read_X4_example rfl rfl rfl (by decide +kernel) ⟨Nat.le_of_ble_eq_true rfl, Nat.le_of_ble_eq_true rfl⟩) rfl rfl rfl (Nat.le_of_ble_eq_true rfl) dX8_read_77 ⟨Nat.le_refl _, Nat.le_refl _⟩ ?_
        refine vv_callVV C [.ref (G.1 137)] (c_X1_copyFrom (mw_DwE (dN_lt x)) mw_Ex_137 (by have := dN_lt x; omega) (s_keep M_3 (hN M))) (mw_DwE (dN_lt x)).1 rfl (cwV 1 C.1.2.2.2.2 gX8_read_X1_copyFrom rfl rfl rfl (by decide +kernel) ⟨Nat.le_of_ble_eq_true rfl, Nat.le_of_ble_eq_true rfl⟩) rfl rfl rfl (Nat.le_of_ble_eq_true rfl) dX8_read_80 ⟨Nat.le_refl _, Nat.le_refl _⟩ ?_
        refine vv_aload_n C 0 dX8_read_83 rfl rfl ?_
        refine vv_getr C (Cn := RX8) (T := TX8) (N := 5) sh_144 2 rfl rfl (by decide) iX8_read_X8 (List.mem_of_getElem? (i := 4) rfl) rfl dX8_read_84 ?_
        refine vv_iconst (v := (-1)) C dX8_read_87 (by decide) ?_
        have hO5 : clO (s_blk (s_keep M_3 (hN M)) (100 + 12 * (dN x)) 670 12) (redN M x) := hk2.exa (by have := dN_lt x; omega) (fun i hi => by rw [keep_hi (by omega), keep_hi (by omega), keep_hi (by omega)]; exact (hS.2.2.2 hf).2 i hi)
        refine vv_callVIP C [.int (-1)] (c_X5_find (s_blk (s_keep M_3 (hN M)) (100 + 12 * (dN x)) 670 12) (hO5.eq.wf (red_wf hR0)) (lo := 8) (x := (-1)) (by decide)) sh_126 rfl (cwV 1 C.1.2.2.2.2 gX8_read_X5_find rfl rfl rfl (by decide +kernel) ⟨Nat.le_of_ble_eq_true rfl, Nat.le_of_ble_eq_true rfl⟩) rfl rfl rfl (Nat.le_of_ble_eq_true rfl) dX8_read_88 ⟨Nat.le_refl _, Nat.le_refl _⟩ (fun x_9 M_10 h_11 => ?_)
        obtain ⟨rfl, h_11⟩ := h_11
        exact vv_iret C hR dX8_read_91 (qIP_of (by rw [show op_read M x = _ from if_pos h_bit, if_pos ⟨hf, fun z => Int32.not_lt.mpr (show nI (prsV M).2.2.length ≤ M (dN x) by rw [← hlen, ← hwid]; exact h_le) z⟩]; exact ⟨congrArg (fun L => nI (List.length L)) (hO5.eq.lst (red_wf hR0)), hO5.tr (clO.fnd h_11)⟩))
      · refine vv_bipush (v := (-12)) C dX8_read_48 (by decide) ?_
        exact vv_iret C hR dX8_read_50 (qIP_of (by rw [show op_read M x = _ from if_pos h_bit, if_neg (fun z => h_gt (Int32.not_lt.mp (by rw [hlen, hwid]; exact z.2)))]; exact ⟨rfl, hO⟩))
  · refine vv_bipush (v := (-11)) C dX8_read_7 (by decide) ?_
    exact vv_iret C hR dX8_read_9 (qIP_of (by rw [show op_read M x = (-11, M) from if_neg h_nbit]; exact ⟨rfl, clO.rf⟩))
