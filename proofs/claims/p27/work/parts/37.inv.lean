/-! the public calls keep what must hold of the state and of the history -/
def hsV (V : mw_M) : Prop := ∀ j, 1 ≤ j → j ≤ hN V → wfV (fun q => V (130 * j + q))
def invV (V : mw_M) : Prop := wfV V ∧ hiV V ∧ txV V ∧ hsV V
def okN (V N : mw_M) : Prop := invV N ∧ ∀ q, 1100 ≤ q → N q = V q
theorem okN.rf {V : mw_M} (h : invV V) : okN V V := ⟨h, fun _ _ => rfl⟩
theorem kp_inv {V N : mw_M} (h : invV V) (hw : wfV N) (e : ∀ q, 130 ≤ q → N q = kpS V q) : okN V N := by
  obtain ⟨h1, h2, h3, h4⟩ := h
  have e6 : N 650 = kpS V 650 := e 650 (by omega)
  have eh : hN N = min (hN V + 1) 4 := by
    rw [← kpS_hN]
    unfold hN
    rw [e6]
  refine ⟨⟨hw, ?_, ?_, fun j hj1 hj2 => ?_⟩, fun q hq => by rw [e q (by omega), kpS_hi (by omega)]⟩
  · have := kp_hi (V := V)
    unfold hiV hN at this ⊢
    rw [e6]
    exact this
  · unfold txV tN
    rw [e 653 (by omega), kpS_hi (by omega)]
    exact h3
  · rw [eh] at hj2
    rcases Nat.lt_or_ge j 2 with z | z
    · refine wf_ext h1 (fun q hq => ?_)
      show N (130 * j + q) = V q
      rw [e _ (by omega), kpS_p (by omega)]
      exact congrArg V (by omega)
    · refine wf_ext (h4 (j - 1) (by omega) (by omega)) (fun q hq => ?_)
      show N (130 * j + q) = V (130 * (j - 1) + q)
      rw [e _ (by omega), kpS_p (by omega)]
      exact congrArg V (by omega)
theorem und_inv {V : mw_M} (h : invV V) (h0 : 1 ≤ hN V) : okN V (s_rest V (hN V)) := by
  obtain ⟨h1, h2, h3, h4⟩ := h
  have hle := h2.2
  have eh := rest_hN h2
  refine ⟨⟨?_, ?_, ?_, fun j hj1 hj2 => ?_⟩, fun q hq => rest_hi (by omega)⟩
  · refine wf_ext (h4 1 (by omega) h0) (fun q hq => ?_)
    show s_rest V (hN V) q = V (130 * 1 + q)
    rw [rest_lo (by omega)]
    exact congrArg V (by omega)
  · refine ⟨?_, by omega⟩
    rw [eh]
    unfold s_rest
    rw [if_pos rfl]
  · unfold txV tN
    rw [rest_hi (by omega)]
    exact h3
  · rw [eh] at hj2
    refine wf_ext (h4 (j + 1) (by omega) (by omega)) (fun q hq => ?_)
    show s_rest V (hN V) (130 * j + q) = V (130 * (j + 1) + q)
    rw [rest_lo (by omega)]
    exact congrArg V (by omega)
theorem txt_inv {V N : mw_M} (h : invV V) (e : ∀ q, q < 653 → N q = V q) (e2 : ∀ q, 1100 ≤ q → N q = V q) (ht : txV N) : okN V N := by
  obtain ⟨h1, h2, h3, h4⟩ := h
  have eh : hN N = hN V := by
    unfold hN
    rw [e 650 (by omega)]
  have hle := h2.2
  refine ⟨⟨wf_ext h1 (fun q hq => e q (by omega)), ⟨by rw [eh, e 650 (by omega)]; exact h2.1, by rw [eh]; exact h2.2⟩, ht, fun j hj1 hj2 => ?_⟩, e2⟩
  rw [eh] at hj2
  refine wf_ext (h4 j hj1 hj2) (fun q hq => ?_)
  show N (130 * j + q) = V (130 * j + q)
  exact e _ (by omega)
theorem sz_cong {S S2 : mw_M} {d : Nat} (h : szP S d) (e1 : S2 d = S d) (e2 : S2 (2 + d) = S (2 + d)) : szP S2 d := by
  obtain ⟨a, b, i1, i2, i3, i4⟩ := h
  exact ⟨a, b, by rw [e1]; exact i1, i2, by rw [e2]; exact i3, i4⟩
theorem wf_put {W : mw_M} (h : wfV W) {q : Nat} {v : Int32} (hq : 4 ≤ q ∧ q < 100) (hv : vlP v) : wfV (upd W q v) := by
  obtain ⟨h0, h1, h2, h3, h4, h5, h6⟩ := h
  refine ⟨sz_cong h0 (upd_o (by omega)) (upd_o (by omega)), sz_cong h1 (upd_o (by omega)) (upd_o (by omega)), fun i hi => ?_, fun c hc => ?_, fun d hd c hc hle => ?_, ?_, fun w hw => ?_⟩
  · by_cases z : 4 + i = q
    · rw [z, upd_s]; exact hv
    · rw [upd_o z]; exact h2 i hi
  · rw [upd_o (by omega), upd_o (by omega), upd_o (by omega)]
    exact h3 c hc
  · rw [upd_o (by omega)] at hle ⊢
    exact h4 d hd c hc hle
  · rw [upd_o (by omega)]; exact h5
  · rw [upd_o (by omega), upd_o (by omega)]; exact h6 w hw
theorem wf_both {W : mw_M} (h : wfV W) {x : Int32} (hx : bitP x) : wfV (upd W 124 x) := by
  obtain ⟨h0, h1, h2, h3, h4, h5, h6⟩ := h
  refine ⟨sz_cong h0 (upd_o (by omega)) (upd_o (by omega)), sz_cong h1 (upd_o (by omega)) (upd_o (by omega)), fun i hi => ?_, fun c hc => ?_, fun d hd c hc hle => ?_, ?_, fun w hw => ?_⟩
  · rw [upd_o (by omega)]; exact h2 i hi
  · rw [upd_o (by omega), upd_o (by omega), upd_o (by omega)]
    exact h3 c hc
  · rw [upd_o (by omega)] at hle ⊢
    exact h4 d hd c hc hle
  · rw [upd_s]; exact hx
  · rw [upd_o (by omega), upd_o (by omega)]; exact h6 w hw
/-- a cell is set, in a column that there is -/
theorem wf_cell {W : mw_M} (h : wfV W) {c0 : Nat} (hc0 : c0 < 8) {x y z : Int32} (hcol : ¬ W (c0 / 4) ≤ nI (c0 % 4)) (hg : gdC (x, y, z)) : wfV (upd (upd (upd W (100 + 3 * c0) x) (101 + 3 * c0) y) (102 + 3 * c0) z) := by
  obtain ⟨h0, h1, h2, h3, h4, h5, h6⟩ := h
  have o : ∀ q, ¬ (100 + 3 * c0 ≤ q ∧ q < 103 + 3 * c0) → upd (upd (upd W (100 + 3 * c0) x) (101 + 3 * c0) y) (102 + 3 * c0) z q = W q := fun q hq => by rw [upd_o (by omega), upd_o (by omega), upd_o (by omega)]
  refine ⟨sz_cong h0 (o _ (by omega)) (o _ (by omega)), sz_cong h1 (o _ (by omega)) (o _ (by omega)), fun i hi => ?_, fun c hc => ?_, fun d hd c hc hle => ?_, ?_, fun w hw => ?_⟩
  · rw [o _ (by omega)]; exact h2 i hi
  · by_cases e : c = c0
    · subst e
      rw [upd_s, upd_o (q := 101 + 3 * c) (by omega), upd_s, upd_o (q := 100 + 3 * c) (by omega), upd_o (q := 100 + 3 * c) (by omega), upd_s]
      exact hg
    · rw [o _ (by omega), o _ (by omega), o _ (by omega)]
      exact h3 c hc
  · rw [o d (by omega)] at hle
    by_cases e : 4 * d + c = c0
    · exfalso
      apply hcol
      rw [show c0 / 4 = d by omega, show c0 % 4 = c by omega]
      exact hle
    · rw [o _ (by omega)]
      exact h4 d hd c hc hle
  · rw [o _ (by omega)]; exact h5
  · rw [o _ (by omega), o _ (by omega)]; exact h6 w hw
theorem zero_o {W : mw_M} {b q : Nat} (h : ¬ (b ≤ q ∧ q < b + 12)) : s_zero W b q = W q := by
  unfold s_zero
  rw [if_neg h]
theorem zero_i {W : mw_M} {b q : Nat} (h : b ≤ q ∧ q < b + 12) : s_zero W b q = 0 := by
  unfold s_zero
  rw [if_pos h]
theorem gd_000 {x y z : Int32} (h : x = 0) (h2 : y = 0) (h3 : z = 0) : gdC (x, y, z) := by
  rw [h, h2, h3]
  exact gd_0
/-- a drawer's example is wiped; its sizes and cards may change -/
theorem wf_zero {W W2 : mw_M} (h : wfV W) {d0 : Nat} (hd0 : d0 < 2) (e : ∀ q, ¬ q = d0 → ¬ q = 2 + d0 → W2 q = W q) (hs : szP W2 d0) : wfV (s_zero W2 (100 + 12 * d0)) := by
  obtain ⟨h0, h1, h2, h3, h4, h5, h6⟩ := h
  have sz : ∀ d, d < 2 → szP W d → szP (s_zero W2 (100 + 12 * d0)) d := fun d hd hz => by
    by_cases z : d = d0
    · subst z
      exact sz_cong hs (zero_o (by omega)) (zero_o (by omega))
    · exact sz_cong hz ((zero_o (by omega)).trans (e _ (by omega) (by omega))) ((zero_o (by omega)).trans (e _ (by omega) (by omega)))
  refine ⟨sz 0 (by omega) h0, sz 1 (by omega) h1, fun i hi => ?_, fun c hc => ?_, fun d hd c hc hle => ?_, ?_, fun w hw => ?_⟩
  · rw [zero_o (by omega), e _ (by omega) (by omega)]; exact h2 i hi
  · by_cases z : c / 4 = d0
    · exact gd_000 (zero_i (by omega)) (zero_i (by omega)) (zero_i (by omega))
    · rw [zero_o (by omega), zero_o (by omega), zero_o (by omega), e _ (by omega) (by omega), e _ (by omega) (by omega), e _ (by omega) (by omega)]
      exact h3 c hc
  · by_cases z : d = d0
    · exact zero_i (by omega)
    · rw [zero_o (by omega), e _ (by omega) (by omega)] at hle
      rw [zero_o (by omega), e _ (by omega) (by omega)]
      exact h4 d hd c hc hle
  · rw [zero_o (by omega), e _ (by omega) (by omega)]; exact h5
  · rw [zero_o (by omega), zero_o (by omega), e _ (by omega) (by omega), e _ (by omega) (by omega)]; exact h6 w hw
/-- cards change, and how many there are -/
theorem wf_cards {W W2 : mw_M} (h : wfV W) {d0 n : Nat} (hd0 : d0 < 2) (hn : n ≤ 12) (e1 : W2 (2 + d0) = nI n) (e : ∀ q, ¬ (4 ≤ q ∧ q < 100) → ¬ q = 2 + d0 → W2 q = W q) (hv : ∀ i, i < 96 → vlP (W2 (4 + i))) : wfV W2 := by
  obtain ⟨h0, h1, h2, h3, h4, h5, h6⟩ := h
  have sz : ∀ d, d < 2 → szP W d → szP W2 d := fun d hd hz => by
    by_cases z : d = d0
    · subst z
      obtain ⟨a, b, i1, i2, i3, i4⟩ := hz
      exact ⟨a, n, by rw [e _ (by omega) (by omega)]; exact i1, i2, e1, hn⟩
    · exact sz_cong hz (e _ (by omega) (by omega)) (e _ (by omega) (by omega))
  refine ⟨sz 0 (by omega) h0, sz 1 (by omega) h1, hv, fun c hc => ?_, fun d hd c hc hle => ?_, ?_, fun w hw => ?_⟩
  · rw [e _ (by omega) (by omega), e _ (by omega) (by omega), e _ (by omega) (by omega)]
    exact h3 c hc
  · rw [e _ (by omega) (by omega)] at hle ⊢
    exact h4 d hd c hc hle
  · rw [e _ (by omega) (by omega)]; exact h5
  · rw [e _ (by omega) (by omega), e _ (by omega) (by omega)]; exact h6 w hw
theorem in_vl {v : Int32} (h : inP v (-1) 99) : vlP v := by
  by_cases z : v < 0
  · left
    have h1 := h.1
    rw [Int32.lt_iff_toInt_lt] at z h1
    rw [← Int32.toInt_inj]
    have e0 : (0 : Int32).toInt = 0 := by decide
    have e1 : (-1 : Int32).toInt = -1 := by decide
    omega
  · right
    obtain ⟨k, -, h2, e⟩ := btw (a := 0) (b := 99) z h.2 (by omega) (by omega)
    exact ⟨k, by omega, e⟩
theorem con_gd {k a b : Int32} (h : conB k a b = true) : gdC (k, a, b) := by
  unfold conB at h
  rw [Bool.and_eq_true, Bool.and_eq_true, decide_eq_true_eq, decide_eq_true_eq] at h
  obtain ⟨h1, h2, h3⟩ := h
  obtain ⟨kn, -, hk2, ek⟩ := btw (a := 0) (b := 10) h1.1 h1.2 (by omega) (by omega)
  subst ek
  have ha : ∃ an, a = nI an ∧ an < 100 ∧ (8 ≤ kn → an < 4) := by
    by_cases z8 : 8 ≤ kn
    · have e8 : gfI (nI kn) = 3 := by
        unfold gfI
        rw [if_neg (fun z => z (nI_le (a := 3) (by omega) (by omega))), if_neg (fun z => z (nI_le (a := 8) (by omega) (by omega)))]
      rw [e8] at h2
      obtain ⟨an, -, ha2, ea⟩ := btw (a := 0) (b := 3) h2.1 h2.2 (by omega) (by omega)
      exact ⟨an, ea, by omega, fun _ => by omega⟩
    · have hle : gfI (nI kn) = 0 ∨ gfI (nI kn) = 99 := by
        unfold gfI
        by_cases z3 : 3 ≤ kn
        · right
          rw [if_neg (fun z => z (nI_le (a := 3) (by omega) (by omega))), if_pos (show ¬ (8 : Int32) ≤ nI kn from nI_ge (a := kn) (b := 8) (by omega) (by omega))]
        · left
          rw [if_pos (show ¬ (3 : Int32) ≤ nI kn from nI_ge (a := kn) (b := 3) (by omega) (by omega))]
      rcases hle with e | e
      · rw [e] at h2
        obtain ⟨an, -, ha2, ea⟩ := btw (a := 0) (b := 0) h2.1 h2.2 (by omega) (by omega)
        exact ⟨an, ea, by omega, fun z => absurd z z8⟩
      · rw [e] at h2
        obtain ⟨an, -, ha2, ea⟩ := btw (a := 0) (b := 99) h2.1 h2.2 (by omega) (by omega)
        exact ⟨an, ea, by omega, fun z => absurd z z8⟩
  obtain ⟨an, ea, ha1, ha2⟩ := ha
  subst ea
  have hb : ∃ bn, b = nI bn ∧ bn < 100 := by
    by_cases z7 : nI kn = 7
    · rw [if_pos z7, decide_eq_true_eq] at h3
      obtain ⟨bn, -, hb2, eb⟩ := btw (a := an) (b := 99) h3.1 h3.2 (by omega) (by omega)
      exact ⟨bn, eb, by omega⟩
    · rw [if_neg z7, decide_eq_true_eq] at h3
      exact ⟨0, h3, by omega⟩
  obtain ⟨bn, eb, hb1⟩ := hb
  exact ⟨kn, an, bn, rfl, hk2, rfl, ha1, ha2, eb, hb1⟩
theorem in_14 {y : Int32} (h : inP y 1 4) : ∃ w, w ≤ 4 ∧ y = nI w := by
  obtain ⟨w, -, h2, e⟩ := btw (a := 1) (b := 4) h.1 h.2 (by omega) (by omega)
  exact ⟨w, h2, e⟩
theorem kp_szd {V : mw_M} (hw : wfV V) (x : Int32) : szP (kpS V) (dN x) := kpS_eq.sz (dN_lt x) (szD hw x)
theorem op_columns_ok {V : mw_M} (h : invV V) (x y : Int32) : okN V (op_columns V x y).2 := by
  unfold op_columns
  by_cases c : bitP x ∧ inP y 1 4
  · rw [if_pos c]
    have hd := dN_lt x
    obtain ⟨w, hw4, ew⟩ := in_14 c.2
    refine kp_inv h (wf_zero (wf_kp h.1) hd (fun q h1 h2 => by rw [upd_o h2, upd_o h1]) ⟨w, 0, by rw [upd_o (by omega), upd_s]; exact ew, hw4, upd_s, by omega⟩) (fun q hq => ?_)
    rw [show (V (2 + dN x), s_zero (upd (upd (kpS V) (dN x) y) (2 + dN x) 0) (100 + 12 * dN x)).2 = s_zero (upd (upd (kpS V) (dN x) y) (2 + dN x) 0) (100 + 12 * dN x) from rfl, zero_o (by omega), upd_o (by omega), upd_o (by omega)]
  · rw [if_neg c]
    exact okN.rf h
theorem op_card_ok {V : mw_M} (h : invV V) (x a b c d : Int32) : okN V (op_card V x a b c d).2 := by
  unfold op_card
  by_cases k : bitP x ∧ inP a (-1) 99 ∧ inP b (-1) 99 ∧ inP c (-1) 99 ∧ inP d (-1) 99
  · rw [if_pos k]
    by_cases k2 : V (2 + dN x) < 12
    · rw [if_pos k2]
      have hd := dN_lt x
      have hz := (szD h.1 x).n
      have hn : nN V (dN x) < 12 := by
        rw [hz.1] at k2
        exact (nI_ltI (b := 12) (by omega) (by omega)).mp k2
      have o : ∀ q, ¬ (4 ≤ q ∧ q < 100) → ¬ q = 2 + dN x → s_add (kpS V) (dN x) (nN V (dN x)) a b c d q = kpS V q := fun q h1 h2 => by
        unfold s_add
        rw [upd_o h2, upd_o (by omega), upd_o (by omega), upd_o (by omega), upd_o (by omega)]
      refine kp_inv h (wf_cards (wf_kp h.1) hd (n := nN V (dN x) + 1) (by omega) upd_s o (fun i hi => ?_)) (fun q hq => o q (by omega) (by omega))
      show vlP (s_add (kpS V) (dN x) (nN V (dN x)) a b c d (4 + i))
      unfold s_add
      rw [upd_o (by omega)]
      by_cases z4 : 4 + i = 4 + 48 * dN x + (4 * nN V (dN x) + 3)
      · rw [upd_at z4]; exact in_vl k.2.2.2.2
      rw [upd_o z4]
      by_cases z3 : 4 + i = 4 + 48 * dN x + (4 * nN V (dN x) + 2)
      · rw [upd_at z3]; exact in_vl k.2.2.2.1
      rw [upd_o z3]
      by_cases z2 : 4 + i = 4 + 48 * dN x + (4 * nN V (dN x) + 1)
      · rw [upd_at z2]; exact in_vl k.2.2.1
      rw [upd_o z2]
      by_cases z1 : 4 + i = 4 + 48 * dN x + 4 * nN V (dN x)
      · rw [upd_at z1]; exact in_vl k.2.1
      rw [upd_o z1]
      exact (wf_kp h.1).2.2.1 i hi
    · rw [if_neg k2]
      exact okN.rf h
  · rw [if_neg k]
    exact okN.rf h
theorem pos_in {V : mw_M} (h : wfV V) {x k c : Int32} (hp : placeP V x k c) : 4 ≤ posS x k c ∧ posS x k c < 100 := by
  have hd := dN_lt x
  have hz := szD h x
  have h1 := hk_nI hz hp.2
  have h2 := hc_nI hz hp.1.2
  unfold posS
  omega
theorem op_put_ok {V : mw_M} (h : invV V) (x k c v : Int32) : okN V (op_put V x k c v).2 := by
  unfold op_put
  by_cases z : placeP V x k c ∧ inP v (-1) 99
  · rw [if_pos z]
    have hp := pos_in h.1 z.1
    exact kp_inv h (wf_put (wf_kp h.1) hp (in_vl z.2)) (fun q hq => upd_o (by omega))
  · rw [if_neg z]
    exact okN.rf h
theorem op_drop_ok {V : mw_M} (h : invV V) (x k : Int32) : okN V (op_drop V x k).2 := by
  unfold op_drop
  by_cases z : bitP x ∧ hkP V (dN x) k
  · rw [if_pos z]
    have hd := dN_lt x
    have hz := (szD h.1 x).n
    have o : ∀ q, ¬ (4 ≤ q ∧ q < 100) → ¬ q = 2 + dN x → s_rem (kpS V) (dN x) (nN V (dN x)) k.toNatClampNeg (4 * (nN V (dN x) - 1)) q = kpS V q := fun q h1 h2 => by
      unfold s_rem
      rw [if_neg (by omega), if_neg h2]
    refine kp_inv h (wf_cards (wf_kp h.1) hd (n := nN V (dN x) - 1) (by omega) rem_n9 o (fun i hi => ?_)) (fun q hq => o q (by omega) (by omega))
    show vlP (s_rem (kpS V) (dN x) (nN V (dN x)) k.toNatClampNeg (4 * (nN V (dN x) - 1)) (4 + i))
    unfold s_rem
    by_cases z2 : 4 + 48 * dN x + 4 * k.toNatClampNeg ≤ 4 + i ∧ 4 + i < 4 + 48 * dN x + 4 * (nN V (dN x) - 1)
    · rw [if_pos z2, show 4 + i + 4 = 4 + (i + 4) by omega]
      exact (wf_kp h.1).2.2.1 (i + 4) (by omega)
    · rw [if_neg z2, if_neg (by omega)]
      exact (wf_kp h.1).2.2.1 i hi
  · rw [if_neg z]
    exact okN.rf h
theorem op_cell_ok {V : mw_M} (h : invV V) (x c k a b : Int32) : okN V (op_cell V x c k a b).2 := by
  unfold op_cell
  by_cases z : cellP V x c ∧ conB k a b = true
  · rw [if_pos z]
    have hd := dN_lt x
    have hz := szD h.1 x
    have hc := hc_nI hz z.1.2
    have hcol : ¬ kpS V (dN x) ≤ nI c.toNatClampNeg := by
      rw [kpS_lo (by omega), ← hc.1]
      exact z.1.2.2
    have w := wf_cell (wf_kp h.1) (c0 := 4 * dN x + c.toNatClampNeg) (by omega) (x := k) (y := a) (z := b) (by rw [show (4 * dN x + c.toNatClampNeg) / 4 = dN x by omega, show (4 * dN x + c.toNatClampNeg) % 4 = c.toNatClampNeg by omega]; exact hcol) (con_gd z.2)
    rw [show 100 + 3 * (4 * dN x + c.toNatClampNeg) = 100 + 12 * dN x + 3 * c.toNatClampNeg by omega, show 101 + 3 * (4 * dN x + c.toNatClampNeg) = 100 + 12 * dN x + 1 + 3 * c.toNatClampNeg by omega, show 102 + 3 * (4 * dN x + c.toNatClampNeg) = 100 + 12 * dN x + 2 + 3 * c.toNatClampNeg by omega] at w
    refine kp_inv h w (fun q hq => ?_)
    show upd (upd (upd (kpS V) (100 + 12 * dN x + 3 * c.toNatClampNeg) k) (100 + 12 * dN x + 1 + 3 * c.toNatClampNeg) a) (100 + 12 * dN x + 2 + 3 * c.toNatClampNeg) b q = kpS V q
    rw [upd_o (by omega), upd_o (by omega), upd_o (by omega)]
  · rw [if_neg z]
    exact okN.rf h
theorem op_clear_ok {V : mw_M} (h : invV V) (x : Int32) : okN V (op_clear V x).2 := by
  unfold op_clear
  by_cases z : bitP x
  · rw [if_pos z]
    have hd := dN_lt x
    exact kp_inv h (wf_zero (wf_kp h.1) hd (fun q _ _ => rfl) (kp_szd h.1 x)) (fun q hq => zero_o (by omega))
  · rw [if_neg z]
    exact okN.rf h
theorem op_both_ok {V : mw_M} (h : invV V) (x : Int32) : okN V (op_both V x).2 := by
  unfold op_both
  by_cases z : bitP x
  · rw [if_pos z]
    exact kp_inv h (wf_both (wf_kp h.1) z) (fun q hq => upd_o (by omega))
  · rw [if_neg z]
    exact okN.rf h
theorem op_order_ok {V : mw_M} (h : invV V) (x c d : Int32) : okN V (op_order V x c d).2 := by
  unfold op_order
  by_cases z : bitP x ∧ inP c (-1) 7 ∧ bitP d
  · rw [if_pos z]
    have hd := dN_lt x
    refine kp_inv h (wf_ord h.1 z.2.1 z.2.2) (fun q hq => ?_)
    show ordN V x c d q = kpS V q
    unfold ordN
    rw [upd_o (by omega), upd_o (by omega)]
  · rw [if_neg z]
    exact okN.rf h
theorem op_show_ok {V : mw_M} (h : invV V) (x : Int32) : okN V (op_show V x).2 := by
  unfold op_show
  by_cases z : inP x 0 255
  · rw [if_pos z]
    exact kp_inv h (wf_shw h.1) (fun q hq => upd_o (by omega))
  · rw [if_neg z]
    exact okN.rf h
theorem op_read_ok {V : mw_M} (h : invV V) (x : Int32) : okN V (op_read V x).2 := by
  unfold op_read
  by_cases z : bitP x
  · rw [if_pos z]
    by_cases z2 : (prsV V).1 = 0 ∧ ¬ V (dN x) < nI (prsV V).2.2.length
    · rw [if_pos z2]
      have hd := dN_lt x
      refine kp_inv h (red_wfV h.1 z2.2) (fun q hq => ?_)
      show redN V x q = kpS V q
      unfold redN
      exact exa_lo (by omega)
    · rw [if_neg z2]
      exact okN.rf h
  · rw [if_neg z]
    exact okN.rf h
theorem op_undo_ok {V : mw_M} (h : invV V) : okN V (op_undo V).2 := by
  unfold op_undo
  by_cases z : V 650 = 0
  · rw [if_pos z]
    exact okN.rf h
  · rw [if_neg z]
    refine und_inv h ?_
    rcases Nat.eq_zero_or_pos (hN V) with w | w
    · exact absurd (by rw [h.2.1.1, w]; rfl) z
    · exact w
theorem op_type_ok {V : mw_M} (h : invV V) (x : Int32) : okN V (op_type V x).2 := by
  unfold op_type
  by_cases z : inP x 32 126
  · rw [if_pos z]
    by_cases z2 : V 653 < 60
    · rw [if_pos z2]
      have ht := h.2.2.1
      have hlt : tN V < 60 := by
        have hle := ht.2
        rw [ht.1] at z2
        exact (nI_ltI (b := 60) (by omega) (by omega)).mp z2
      refine txt_inv h (fun q hq => ?_) (fun q hq => ?_) ?_
      · show upd (upd V (1000 + tN V) x) 653 (nI (tN V + 1)) q = V q
        rw [upd_o (by omega), upd_o (by omega)]
      · show upd (upd V (1000 + tN V) x) 653 (nI (tN V + 1)) q = V q
        rw [upd_o (by omega), upd_o (by omega)]
      · show txV (upd (upd V (1000 + tN V) x) 653 (nI (tN V + 1)))
        have e : tN (upd (upd V (1000 + tN V) x) 653 (nI (tN V + 1))) = tN V + 1 := by
          show (upd (upd V (1000 + tN V) x) 653 (nI (tN V + 1)) 653).toNatClampNeg = tN V + 1
          rw [upd_s]
          exact nI_clamp (by omega)
        exact ⟨by rw [e]; exact upd_s, by omega⟩
    · rw [if_neg z2]
      exact okN.rf h
  · rw [if_neg z]
    exact okN.rf h
theorem op_clearText_ok {V : mw_M} (h : invV V) : okN V (op_clearText V).2 := by
  refine txt_inv h (fun q hq => upd_o (by omega)) (fun q hq => upd_o (by omega)) ?_
  have e : tN (upd V 653 0) = 0 := by
    show (upd V 653 0 653).toNatClampNeg = 0
    rw [upd_s]
    rfl
  exact ⟨by show upd V 653 0 653 = nI (tN (upd V 653 0)); rw [e]; exact upd_s, by show tN (upd V 653 0) ≤ 60; omega⟩
theorem if_2 {p : Prop} [Decidable p] {V : mw_M} {a b : Int32} : (if p then ((a, V) : opT) else (b, V)).2 = V := by
  by_cases h : p
  · rw [if_pos h]
  · rw [if_neg h]
theorem op_valueOf_ok {V : mw_M} (h : invV V) (x k c : Int32) : okN V (op_valueOf V x k c).2 := by
  unfold op_valueOf
  rw [if_2]
  exact okN.rf h
theorem op_cellOf_ok {V : mw_M} (h : invV V) (x c w : Int32) : okN V (op_cellOf V x c w).2 := by
  unfold op_cellOf
  rw [if_2]
  exact okN.rf h
theorem op_row_ok2 {V : mw_M} (h : invV V) (i w : Int32) : okN V (op_row V i w).2 := by
  unfold op_row
  rw [if_2]
  exact okN.rf h
theorem op_total_ok {V : mw_M} (h : invV V) (c w : Int32) : okN V (op_total V c w).2 := by
  unfold op_total
  rw [if_2]
  exact okN.rf h
theorem op_cards_ok {V : mw_M} (h : invV V) (x : Int32) : okN V (op_cards V x).2 := by
  unfold op_cards
  rw [if_2]
  exact okN.rf h
theorem op_why_ok {V : mw_M} (h : invV V) (f g : Int32) : okN V (op_why V f g).2 := by
  unfold op_why
  rw [if_2]
  exact okN.rf h
theorem op_tightest_ok {V : mw_M} (h : invV V) (w : Int32) : okN V (op_tightest V w).2 := by
  unfold op_tightest
  rw [if_2]
  exact okN.rf h
theorem op_fault_ok {V : mw_M} (h : invV V) (w : Int32) : okN V (op_fault V w).2 := by
  unfold op_fault
  rw [if_2]
  exact okN.rf h
theorem op_count_ok {V : mw_M} (h : invV V) (w : Int32) : okN V (op_count V w).2 := okN.rf h
theorem op_many_ok {V : mw_M} (h : invV V) : okN V (op_many V).2 := okN.rf h
theorem op_unlike_ok {V : mw_M} (h : invV V) : okN V (op_unlike V).2 := okN.rf h