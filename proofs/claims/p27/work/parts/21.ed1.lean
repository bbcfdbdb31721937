/-! what each public call answers and leaves, said of the flat memory -/
abbrev bitP (x : Int32) : Prop := x = 0 ∨ x = 1
abbrev inP (v a b : Int32) : Prop := ¬ v < a ∧ ¬ b < v
abbrev cellP (V : mw_M) (x c : Int32) : Prop := bitP x ∧ hcP V (dN x) c
abbrev placeP (V : mw_M) (x k c : Int32) : Prop := cellP V x c ∧ hkP V (dN x) k
def gfI (k : Int32) : Int32 := if ¬ 3 ≤ k then 0 else if ¬ 8 ≤ k then 99 else 3
def conB (k a b : Int32) : Bool := decide (inP k 0 10) && (decide (inP a 0 (gfI k)) && (if k = 7 then decide (inP b a 99) else decide (b = 0)))
def abrB (w : Int32) : Bool := decide (bitP w) || ((decide (¬ w < 10) && decide (w < 18)) || (decide (¬ w < 20) && decide (¬ 24 ≤ w)))
def hN (V : mw_M) : Nat := (V 650).toNatClampNeg
def tN (V : mw_M) : Nat := (V 653).toNatClampNeg
def kpS (V : mw_M) : mw_M := s_keep V (hN V)
theorem kpS_lo {V : mw_M} {q : Nat} (h : q < 130) : kpS V q = V q := by
  unfold kpS s_keep
  rw [if_neg (by omega), if_neg (by omega)]
theorem kpS_eq {V : mw_M} : eqS V (kpS V) := fun _ h => kpS_lo h
def hiV (V : mw_M) : Prop := V 650 = nI (hN V) ∧ hN V ≤ 4
def txV (V : mw_M) : Prop := V 653 = nI (tN V) ∧ tN V ≤ 60
def vlP (x : Int32) : Prop := x = -1 ∨ ∃ w, w < 100 ∧ x = nI w
/-- the ints of a state are within their limits -/
def wfV (S : mw_M) : Prop := szP S 0 ∧ szP S 1 ∧ (∀ i, i < 96 → vlP (S (4 + i))) ∧ (∀ c, c < 8 → ∃ k a b, S (100 + 3 * c) = nI k ∧ k ≤ 10 ∧ S (101 + 3 * c) = nI a ∧ a < 100 ∧ (8 ≤ k → a < 4) ∧ S (102 + 3 * c) = nI b ∧ b < 100) ∧ (∀ d, d < 2 → ∀ c, c < 4 → S d ≤ nI c → S (100 + 12 * d + 3 * c) = 0) ∧ (S 124 = 0 ∨ S 124 = 1) ∧ ∀ w, w < 2 → (S (125 + 2 * w) = -1 ∨ ∃ c, c < 8 ∧ S (125 + 2 * w) = nI c) ∧ (S (126 + 2 * w) = 0 ∨ S (126 + 2 * w) = 1)
theorem wfV.wfR {S : mw_M} (h : wfV S) : wfR S := by
  refine ⟨h.1, h.2.1, fun c hc h8 => ?_⟩
  obtain ⟨k, a, b, h1, h2, h3, h4, h5, -⟩ := h.2.2.2.1 c hc
  rw [h1] at h8
  have : 8 ≤ k := by
    rcases Nat.lt_or_ge k 8 with z | z
    · exact absurd (nI_lt (b := 8) z (by omega)) h8
    · exact z
  exact ⟨a, h5 this, h3⟩
/-- the class's own scratch -/
def clS (q : Nat) : Prop := q = 651 ∨ q = 652 ∨ (654 ≤ q ∧ q < 658) ∨ (660 ≤ q ∧ q < 664) ∨ (670 ≤ q ∧ q < 682) ∨ (700 ≤ q ∧ q < 844) ∨ (850 ≤ q ∧ q < 994)
def clO (M2 N : mw_M) : Prop := ∀ q, ¬ clS q → M2 q = N q
theorem clO.rf {M : mw_M} : clO M M := fun _ _ => rfl
theorem clO.of {M2 N N2 : mw_M} (h : clO M2 N) (e : N = N2) : clO M2 N2 := e ▸ h
abbrev opT : Type := Int32 × mw_M
def posS (x k c : Int32) : Nat := 4 + 48 * dN x + (4 * k.toNatClampNeg + c.toNatClampNeg)
def op_columns (V : mw_M) (x y : Int32) : opT := if bitP x ∧ inP y 1 4 then (V (2 + dN x), s_zero (upd (upd (kpS V) (dN x) y) (2 + dN x) 0) (100 + 12 * dN x)) else (-11, V)
def op_card (V : mw_M) (x a b c d : Int32) : opT := if bitP x ∧ inP a (-1) 99 ∧ inP b (-1) 99 ∧ inP c (-1) 99 ∧ inP d (-1) 99 then (if V (2 + dN x) < 12 then (V (2 + dN x), s_add (kpS V) (dN x) (nN V (dN x)) a b c d) else (-13, V)) else (-11, V)
def op_put (V : mw_M) (x k c v : Int32) : opT := if placeP V x k c ∧ inP v (-1) 99 then (V (posS x k c), upd (kpS V) (posS x k c) v) else (-11, V)
def op_drop (V : mw_M) (x k : Int32) : opT := if bitP x ∧ hkP V (dN x) k then (nI (nN V (dN x) - 1), s_rem (kpS V) (dN x) (nN V (dN x)) k.toNatClampNeg (4 * (nN V (dN x) - 1))) else (-11, V)
def op_valueOf (V : mw_M) (x k c : Int32) : opT := if placeP V x k c then (V (posS x k c), V) else (-11, V)
def op_cell (V : mw_M) (x c k a b : Int32) : opT := if cellP V x c ∧ conB k a b = true then (V (100 + 12 * dN x + 3 * c.toNatClampNeg), upd (upd (upd (kpS V) (100 + 12 * dN x + 3 * c.toNatClampNeg) k) (100 + 12 * dN x + 1 + 3 * c.toNatClampNeg) a) (100 + 12 * dN x + 2 + 3 * c.toNatClampNeg) b) else (-11, V)
def othN (V : mw_M) (d : Nat) : Nat := cntB (fun i => decide (¬ V (100 + 12 * d + 3 * i) = 0)) 4
def op_clear (V : mw_M) (x : Int32) : opT := if bitP x then (nI (othN V (dN x)), s_zero (kpS V) (100 + 12 * dN x)) else (-11, V)
def op_both (V : mw_M) (x : Int32) : opT := if bitP x then (V 124, upd (kpS V) 124 x) else (-11, V)
def ordN (V : mw_M) (w c d : Int32) : mw_M := upd (upd (kpS V) (125 + 2 * dN w) c) (126 + 2 * dN w) d
def manyI (N : mw_M) : Int32 := nI (lstS N 8).length
def unlI (N : mw_M) : Int32 := nI (dcF (kyS N (lstS N 8)) (lstS N 8).length)
def op_order (V : mw_M) (w c d : Int32) : opT := if bitP w ∧ inP c (-1) 7 ∧ bitP d then (manyI (ordN V w c d), ordN V w c d) else (-11, V)
def op_show (V : mw_M) (x : Int32) : opT := if inP x 0 255 then (unlI (upd (kpS V) 129 x), upd (kpS V) 129 x) else (-11, V)
def cofI (V : mw_M) (d c : Nat) (w : Int32) : Int32 := if w = 0 then V (100 + 12 * d + 3 * c) else if w = 1 then V (100 + 12 * d + 1 + 3 * c) else if w = 2 then V (100 + 12 * d + 2 + 3 * c) else nI (cntB (s_cf V d c) (nN V d))
def op_cellOf (V : mw_M) (x c w : Int32) : opT := if cellP V x c ∧ inP w 0 3 then (cofI V (dN x) c.toNatClampNeg w, V) else (-11, V)
def op_many (V : mw_M) : opT := (manyI V, V)
def colI (V : mw_M) (w : Int32) : Int32 := if w < 20 then w - 10 else tcI (telS V 8 (w - 20).toNatClampNeg)
def rowI (V : mw_M) (r : Nat) (w : Int32) : Int32 := if w = 0 then nI (r / 12) else if w = 1 then (if V 124 = 1 then nI (r % 12) else -14) else if askP V (colI V w) then vS V (colI V w).toNatClampNeg (r / 12) (r % 12) else -14
def op_row (V : mw_M) (i w : Int32) : opT := if ¬ i < 0 ∧ abrB w = true then (if i < manyI V then rowI V ((srtS V (lstS V 8)).getD i.toNatClampNeg 0) w else -14, V) else (-11, V)
def op_total (V : mw_M) (c w : Int32) : opT := if inP c 0 7 ∧ inP w 0 4 then (if askP V c then totS (vlS V c.toNatClampNeg (lstS V 8)) (lstS V 8).length w else -14, V) else (-11, V)
def op_unlike (V : mw_M) : opT := (unlI V, V)
def op_cards (V : mw_M) (x : Int32) : opT := if bitP x then (if x = 1 ∧ ¬ V 124 = 1 then -12 else csF (cdS (dN x) (lstS V 8)) (lstS V 8).length, V) else (-11, V)
abbrev secP (V : mw_M) (g : Int32) : Prop := (V 124 = 1 ∧ hkP V 1 g) ∨ (¬ V 124 = 1 ∧ g = 0)
def op_why (V : mw_M) (f g : Int32) : opT := if hkP V 0 f ∧ secP V g then (if misS V 8 f.toNatClampNeg g.toNatClampNeg < 8 then nI (misS V 8 f.toNatClampNeg g.toNatClampNeg) else -14, V) else (-11, V)
def tgX (V : mw_M) (n : Nat) : Int32 := if askP V (nI n) then nI (lstS V n).length else 0
def tgF (V : mw_M) : Nat → Int32 × Int32
  | 0 => (manyI V, -1)
  | n + 1 => if (tgF V n).1 < tgX V n then (tgX V n, nI n) else tgF V n
def op_tightest (V : mw_M) (w : Int32) : opT := if bitP w then (if (tgF V 8).2 = -1 then -14 else if w = 0 then (tgF V 8).2 else (tgF V 8).1, V) else (-11, V)
def cntI (V : mw_M) (w : Int32) : Int32 := if w = 0 then V 2 else if w = 1 then V 3 else if w = 2 then V 0 else if w = 3 then V 1 else if w = 4 then bI (V 124 = 1) else if w = 5 then nI (othN V 0) + nI (othN V 1) else if w = 6 then V 129 else if w = 7 then V 650 else if w = 8 then V 653 else if w = 10 then V 125 else if w = 11 then V 127 else if w = 12 then bI (V 126 = 1) else if w = 13 then bI (V 128 = 1) else -11
def op_count (V : mw_M) (w : Int32) : opT := (cntI V w, V)
def op_undo (V : mw_M) : opT := if V 650 = 0 then (-12, V) else (nI (hN V - 1), s_rest V (hN V))
def op_type (V : mw_M) (x : Int32) : opT := if inP x 32 126 then (if V 653 < 60 then (nI (tN V + 1), upd (upd V (1000 + tN V) x) 653 (nI (tN V + 1))) else (-13, V)) else (-11, V)
def op_clearText (V : mw_M) : opT := (V 653, upd V 653 0)
def prsV (V : mw_M) : psT := psR (chA V (tN V)) (tN V) 4 0
def op_fault (V : mw_M) (w : Int32) : opT := if bitP w then (if (prsV V).1 = 0 then -14 else if w = 0 then nI (prsV V).2.1 else nI (prsV V).1, V) else (-11, V)
def exaS (V : mw_M) (b : Nat) (L : List (Int32 × Int32 × Int32)) : mw_M := fun q => if b ≤ q ∧ q < b + 12 then (if (q - b) % 3 = 0 then (L.getD ((q - b) / 3) (0, 0, 0)).1 else if (q - b) % 3 = 1 then (L.getD ((q - b) / 3) (0, 0, 0)).2.1 else (L.getD ((q - b) / 3) (0, 0, 0)).2.2) else V q
def redN (V : mw_M) (x : Int32) : mw_M := exaS (kpS V) (100 + 12 * dN x) (prsV V).2.2
def op_read (V : mw_M) (x : Int32) : opT := if bitP x then (if (prsV V).1 = 0 ∧ ¬ V (dN x) < nI (prsV V).2.2.length then (manyI (redN V x), redN V x) else (-12, V)) else (-11, V)
theorem le_suc (x : Int32) : ¬ x ≤ 4 ↔ 4 < x := Int32.not_le

theorem sz_w {S : mw_M} {d : Nat} (h : szP S d) : S d ≤ nI 4 := by
  obtain ⟨w, n, h1, h2, -⟩ := h
  rw [h1]
  exact nI_le h2 (by omega)
theorem ps_lt {S : mw_M} {x k c : Int32} (hz : szP S (dN x)) (hk : hkP S (dN x) k) (hc : hcP S (dN x) c) : posS x k c < 130 := by
  have := (ent_ix hz hk hc).2
  have := dN_lt x
  unfold posS
  omega
theorem kp_hk {V : mw_M} {d : Nat} (hd : d < 2) {k : Int32} (h : hkP V d k) : hkP (kpS V) d k := ⟨h.1, by rw [kpS_lo (by omega)]; exact h.2⟩
theorem kp_hc {V : mw_M} {d : Nat} (hd : d < 2) {k : Int32} (h : hcP V d k) : hcP (kpS V) d k := ⟨h.1, by rw [kpS_lo (by omega)]; exact h.2⟩
theorem szD {S : mw_M} (hw : wfV S) (x : Int32) : szP S (dN x) := by
  unfold dN
  split
  · exact hw.1
  · exact hw.2.1
set_option maxRecDepth 100000 in
set_option maxHeartbeats 4000000 in
theorem c_X8_isBit {l : Launch} {G : mw_GG} (M : mw_M) (x : Int32) : mw_Met l yX8_isBit wsX8_isBit ({ frames := 0, cells := 0, slots := 0, locals := 0 } : Room) G [.int x] M (qI (bI (bitP x)) M) := by
  refine mw_ofV (cc := cX8_isBit) 1 (by decide) rfl rfl (Nat.le_of_ble_eq_true rfl) ?_
  intro p e s m args below meth c C hR hN0
  refine vv_loc (ls2 := [some (.int x)]) rfl ?_
  refine vv_iload_n C 0 dX8_isBit_0 rfl rfl ?_
  refine vv_if_eq C 9 dX8_isBit_1 (by decide) (fun h_1 => ?_) (fun h_2 => ?_)
  · refine vv_iconst (v := 1) C dX8_isBit_9 (by decide) ?_
    refine vv_goto C 14 dX8_isBit_10 (by decide) ?_
    exact vv_zret1 C hR dX8_isBit_14 (qI_of (by simp [bI, h_1]) (rfl))
  · refine vv_iload_n C 0 dX8_isBit_4 rfl rfl ?_
    refine vv_iconst (v := 1) C dX8_isBit_5 (by decide) ?_
    refine vv_icmp_ne C 13 dX8_isBit_6 (by decide) (fun h_3 => ?_) (fun h_4 => ?_)
    · refine vv_iconst (v := 0) C dX8_isBit_13 (by decide) ?_
      exact vv_zret0 C hR dX8_isBit_14 (qI_of (by simp [bI, h_2, h_3]) (rfl))
    · refine vv_iconst (v := 1) C dX8_isBit_9 (by decide) ?_
      refine vv_goto C 14 dX8_isBit_10 (by decide) ?_
      exact vv_zret1 C hR dX8_isBit_14 (qI_of (by simp [bI, h_2, h_4]) (rfl))
set_option maxRecDepth 100000 in
set_option maxHeartbeats 4000000 in
theorem c_X8_isEntry {l : Launch} {G : mw_GG} (M : mw_M) (x : Int32) : mw_Met l yX8_isEntry wsX8_isEntry ({ frames := 0, cells := 0, slots := 0, locals := 0 } : Room) G [.int x] M (qI (bI (inP x (-1) 99)) M) := by
  refine mw_ofV (cc := cX8_isEntry) 1 (by decide) rfl rfl (Nat.le_of_ble_eq_true rfl) ?_
  intro p e s m args below meth c C hR hN0
  refine vv_loc (ls2 := [some (.int x)]) rfl ?_
  refine vv_iload_n C 0 dX8_isEntry_0 rfl rfl ?_
  refine vv_iconst (v := (-1)) C dX8_isEntry_1 (by decide) ?_
  refine vv_icmp_lt C 15 dX8_isEntry_2 (by decide) (fun h_1 => ?_) (fun h_2 => ?_)
  · refine vv_iconst (v := 0) C dX8_isEntry_15 (by decide) ?_
    exact vv_zret0 C hR dX8_isEntry_16 (qI_of ((bI_f (fun z => z.1 h_1)).symm) (rfl))
  · refine vv_iload_n C 0 dX8_isEntry_5 rfl rfl ?_
    refine vv_bipush (v := 99) C dX8_isEntry_6 (by decide) ?_
    refine vv_icmp_gt C 15 dX8_isEntry_8 (by decide) (fun h_3 => ?_) (fun h_4 => ?_)
    · refine vv_iconst (v := 0) C dX8_isEntry_15 (by decide) ?_
      exact vv_zret0 C hR dX8_isEntry_16 (qI_of ((bI_f (fun z => z.2 h_3)).symm) (rfl))
    · refine vv_iconst (v := 1) C dX8_isEntry_11 (by decide) ?_
      refine vv_goto C 16 dX8_isEntry_12 (by decide) ?_
      exact vv_zret1 C hR dX8_isEntry_16 (qI_of ((bI_t ⟨h_2, h_4⟩).symm) (rfl))
set_option maxRecDepth 100000 in
set_option maxHeartbeats 4000000 in
theorem c_X8_greatestFirst {l : Launch} {G : mw_GG} (M : mw_M) (x : Int32) : mw_Met l yX8_greatestFirst wsX8_greatestFirst ({ frames := 0, cells := 0, slots := 0, locals := 0 } : Room) G [.int x] M (qI (gfI x) M) := by
  refine mw_ofV (cc := cX8_greatestFirst) 1 (by decide) rfl rfl (Nat.le_of_ble_eq_true rfl) ?_
  intro p e s m args below meth c C hR hN0
  refine vv_loc (ls2 := [some (.int x)]) rfl ?_
  refine vv_iload_n C 0 dX8_greatestFirst_0 rfl rfl ?_
  refine vv_iconst (v := 3) C dX8_greatestFirst_1 (by decide) ?_
  refine vv_icmp_ge C 7 dX8_greatestFirst_2 (by decide) (fun h_1 => ?_) (fun h_2 => ?_)
  · refine vv_iload_n C 0 dX8_greatestFirst_7 rfl rfl ?_
    refine vv_bipush (v := 8) C dX8_greatestFirst_8 (by decide) ?_
    refine vv_icmp_ge C 18 dX8_greatestFirst_10 (by decide) (fun h_3 => ?_) (fun h_4 => ?_)
    · refine vv_iconst (v := 3) C dX8_greatestFirst_18 (by decide) ?_
      exact vv_iret C hR dX8_greatestFirst_19 (qI_of (by simp [gfI, h_1, h_3]) (rfl))
    · refine vv_bipush (v := 99) C dX8_greatestFirst_13 (by decide) ?_
      refine vv_goto C 19 dX8_greatestFirst_15 (by decide) ?_
      exact vv_iret C hR dX8_greatestFirst_19 (qI_of (by simp [gfI, h_1, h_4]) (rfl))
  · refine vv_iconst (v := 0) C dX8_greatestFirst_5 (by decide) ?_
    exact vv_iret C hR dX8_greatestFirst_6 (qI_of (by simp [gfI, h_2]) (rfl))
set_option maxRecDepth 100000 in
set_option maxHeartbeats 4000000 in
theorem c_X8_isContent {l : Launch} {G : mw_GG} (M : mw_M) (x y z : Int32) : mw_Met l yX8_isContent wsX8_isContent ({ frames := 1, cells := 0, slots := 0, locals := 20 } : Room) G [.int x, .int y, .int z] M (qI (bI (conB x y z = true)) M) := by
  refine mw_ofV (cc := cX8_isContent) 3 (by decide) rfl rfl (Nat.le_of_ble_eq_true rfl) ?_
  intro p e s m args below meth c C hR hN0
  refine vv_loc (ls2 := [some (.int x), some (.int y), some (.int z)]) rfl ?_
  refine vv_iload_n C 0 dX8_isContent_0 rfl rfl ?_
  refine vv_if_lt C 22 dX8_isContent_1 (by decide) (fun h_1 => ?_) (fun h_2 => ?_)
  · refine vv_iconst (v := 0) C dX8_isContent_22 (by decide) ?_
    exact vv_zret0 C hR dX8_isContent_23 (qI_of (by first | (simp [bI, conB, inP, h_1]; done) | (clear C hR; simp_all [bI, conB, inP]; done)) (rfl))
  · refine vv_iload_n C 0 dX8_isContent_4 rfl rfl ?_
    refine vv_bipush (v := 10) C dX8_isContent_5 (by decide) ?_
    refine vv_icmp_gt C 22 dX8_isContent_7 (by decide) (fun h_3 => ?_) (fun h_4 => ?_)
    · refine vv_iconst (v := 0) C dX8_isContent_22 (by decide) ?_
      exact vv_zret0 C hR dX8_isContent_23 (qI_of (by first | (simp [bI, conB, inP, h_2, h_3]; done) | (clear C hR; simp_all [bI, conB, inP]; done)) (rfl))
    · refine vv_iload_n C 1 dX8_isContent_10 rfl rfl ?_
      refine vv_if_lt C 22 dX8_isContent_11 (by decide) (fun h_5 => ?_) (fun h_6 => ?_)
      · refine vv_iconst (v := 0) C dX8_isContent_22 (by decide) ?_
        exact vv_zret0 C hR dX8_isContent_23 (qI_of (by first | (simp [bI, conB, inP, h_2, h_4, h_5]; done) | (clear C hR; simp_all [bI, conB, inP]; done)) (rfl))
      · refine vv_iload_n C 1 dX8_isContent_14 rfl rfl ?_
        refine vv_iload_n C 0 dX8_isContent_15 rfl rfl ?_
        refine vv_callSI C [.int x] (c_X8_greatestFirst M x) (cwS 1 C.1.2.2.2.2 gX8_isContent_X8_greatestFirst rfl rfl rfl (by decide +kernel) ⟨Nat.le_of_ble_eq_true rfl, Nat.le_of_ble_eq_true rfl⟩) rfl rfl rfl (Nat.le_of_ble_eq_true rfl) dX8_isContent_16 ⟨Nat.le_refl _, Nat.le_refl _⟩ ?_
        refine vv_icmp_le C 24 dX8_isContent_19 (by decide) (fun h_le => ?_) (fun h_nle => ?_)
        · have h_nlt : ¬ gfI x < y := Int32.not_lt.mpr h_le
          refine vv_iload_n C 0 dX8_isContent_24 rfl rfl ?_
          refine vv_bipush (v := 7) C dX8_isContent_25 (by decide) ?_
          refine vv_icmp_ne C 49 dX8_isContent_27 (by decide) (fun h_9 => ?_) (fun h_10 => ?_)
          · refine vv_iload_n C 2 dX8_isContent_49 rfl rfl ?_
            refine vv_if_ne C 57 dX8_isContent_50 (by decide) (fun h_11 => ?_) (fun h_12 => ?_)
            · refine vv_iconst (v := 0) C dX8_isContent_57 (by decide) ?_
              exact vv_zret0 C hR dX8_isContent_58 (qI_of (by first | (simp [bI, conB, inP, h_2, h_4, h_6, h_9, h_11, h_nlt]; done) | (clear C hR; simp_all [bI, conB, inP]; done)) (rfl))
            · refine vv_iconst (v := 1) C dX8_isContent_53 (by decide) ?_
              refine vv_goto C 58 dX8_isContent_54 (by decide) ?_
              exact vv_zret1 C hR dX8_isContent_58 (qI_of (by first | (simp [bI, conB, inP, h_2, h_4, h_6, h_9, h_12, h_nlt]; done) | (clear C hR; simp_all [bI, conB, inP]; done)) (rfl))
          · refine vv_iload_n C 2 dX8_isContent_30 rfl rfl ?_
            refine vv_iload_n C 1 dX8_isContent_31 rfl rfl ?_
            refine vv_icmp_lt C 45 dX8_isContent_32 (by decide) (fun h_13 => ?_) (fun h_14 => ?_)
            · refine vv_iconst (v := 0) C dX8_isContent_45 (by decide) ?_
              refine vv_goto C 58 dX8_isContent_46 (by decide) ?_
              exact vv_zret0 C hR dX8_isContent_58 (qI_of (by first | (simp [bI, conB, inP, h_2, h_4, h_6, h_10, h_13, h_nlt]; done) | (clear C hR; simp_all [bI, conB, inP]; done)) (rfl))
            · refine vv_iload_n C 2 dX8_isContent_35 rfl rfl ?_
              refine vv_bipush (v := 99) C dX8_isContent_36 (by decide) ?_
              refine vv_icmp_gt C 45 dX8_isContent_38 (by decide) (fun h_15 => ?_) (fun h_16 => ?_)
              · refine vv_iconst (v := 0) C dX8_isContent_45 (by decide) ?_
                refine vv_goto C 58 dX8_isContent_46 (by decide) ?_
                exact vv_zret0 C hR dX8_isContent_58 (qI_of (by first | (simp [bI, conB, inP, h_2, h_4, h_6, h_10, h_14, h_15, h_nlt]; done) | (clear C hR; simp_all [bI, conB, inP]; done)) (rfl))
              · refine vv_iconst (v := 1) C dX8_isContent_41 (by decide) ?_
                refine vv_goto C 58 dX8_isContent_42 (by decide) ?_
                exact vv_zret1 C hR dX8_isContent_58 (qI_of (by first | (simp [bI, conB, inP, h_2, h_4, h_6, h_10, h_14, h_16, h_nlt]; done) | (clear C hR; simp_all [bI, conB, inP]; done)) (rfl))
        · have h_gt : gfI x < y := Int32.not_le.mp h_nle
          refine vv_iconst (v := 0) C dX8_isContent_22 (by decide) ?_
          exact vv_zret0 C hR dX8_isContent_23 (qI_of (by first | (simp [bI, conB, inP, h_2, h_4, h_6, h_gt]; done) | (clear C hR; simp_all [bI, conB, inP]; done)) (rfl))
set_option maxRecDepth 100000 in
set_option maxHeartbeats 4000000 in
theorem c_X8_isAboutRow {l : Launch} {G : mw_GG} (M : mw_M) (x : Int32) : mw_Met l yX8_isAboutRow wsX8_isAboutRow ({ frames := 1, cells := 0, slots := 0, locals := 20 } : Room) G [.int x] M (qI (bI (abrB x = true)) M) := by
  refine mw_ofV (cc := cX8_isAboutRow) 1 (by decide) rfl rfl (Nat.le_of_ble_eq_true rfl) ?_
  intro p e s m args below meth c C hR hN0
  refine vv_loc (ls2 := [some (.int x)]) rfl ?_
  refine vv_iload_n C 0 dX8_isAboutRow_0 rfl rfl ?_
  refine vv_callSI C [.int x] (c_X8_isBit M x) (cwS 1 C.1.2.2.2.2 gX8_isAboutRow_X8_isBit rfl rfl rfl (by decide +kernel) ⟨Nat.le_of_ble_eq_true rfl, Nat.le_of_ble_eq_true rfl⟩) rfl rfl rfl (Nat.le_of_ble_eq_true rfl) dX8_isAboutRow_1 ⟨Nat.le_refl _, Nat.le_refl _⟩ ?_
  refine vv_bif_ne C 31 dX8_isAboutRow_4 (by decide) (fun h_1 => ?_) (fun h_2 => ?_)
  · refine vv_iconst (v := 1) C dX8_isAboutRow_31 (by decide) ?_
    refine vv_goto C 36 dX8_isAboutRow_32 (by decide) ?_
    exact vv_zret1 C hR dX8_isAboutRow_36 (qI_of (by first | (simp [bI, abrB, h_1]; done) | (simp only [abrB, decide_eq_true h_1]; simp [bI, h_1]; done) | (clear C hR; simp_all [bI, abrB]; done)) (rfl))
  · refine vv_iload_n C 0 dX8_isAboutRow_7 rfl rfl ?_
    refine vv_bipush (v := 10) C dX8_isAboutRow_8 (by decide) ?_
    refine vv_icmp_lt C 19 dX8_isAboutRow_10 (by decide) (fun h_3 => ?_) (fun h_4 => ?_)
    · refine vv_iload_n C 0 dX8_isAboutRow_19 rfl rfl ?_
      refine vv_bipush (v := 20) C dX8_isAboutRow_20 (by decide) ?_
      refine vv_icmp_lt C 35 dX8_isAboutRow_22 (by decide) (fun h_5 => ?_) (fun h_6 => ?_)
      · refine vv_iconst (v := 0) C dX8_isAboutRow_35 (by decide) ?_
        exact vv_zret0 C hR dX8_isAboutRow_36 (qI_of (by first | (simp [bI, abrB, h_2, h_3, h_5]; done) | (simp only [abrB, decide_eq_true h_2, decide_eq_true h_3, decide_eq_true h_5]; simp [bI, h_2, h_3, h_5]; done) | (clear C hR; simp_all [bI, abrB]; done)) (rfl))
      · refine vv_iload_n C 0 dX8_isAboutRow_25 rfl rfl ?_
        refine vv_bipush (v := 24) C dX8_isAboutRow_26 (by decide) ?_
        refine vv_icmp_ge C 35 dX8_isAboutRow_28 (by decide) (fun h_7 => ?_) (fun h_8 => ?_)
        · refine vv_iconst (v := 0) C dX8_isAboutRow_35 (by decide) ?_
          exact vv_zret0 C hR dX8_isAboutRow_36 (qI_of (by first | (simp [bI, abrB, h_2, h_3, h_6, h_7]; done) | (simp only [abrB, decide_eq_true h_2, decide_eq_true h_3, decide_eq_true h_6, decide_eq_true h_7]; simp [bI, h_2, h_3, h_6, h_7]; done) | (clear C hR; simp_all [bI, abrB]; done)) (rfl))
        · refine vv_iconst (v := 1) C dX8_isAboutRow_31 (by decide) ?_
          refine vv_goto C 36 dX8_isAboutRow_32 (by decide) ?_
          exact vv_zret1 C hR dX8_isAboutRow_36 (qI_of (by first | (simp [bI, abrB, h_2, h_3, h_6, h_8]; done) | (simp only [abrB, decide_eq_true h_2, decide_eq_true h_3, decide_eq_true h_6, decide_eq_true h_8]; simp [bI, h_2, h_3, h_6, h_8]; done) | (clear C hR; simp_all [bI, abrB]; done)) (rfl))
    · refine vv_iload_n C 0 dX8_isAboutRow_13 rfl rfl ?_
      refine vv_bipush (v := 18) C dX8_isAboutRow_14 (by decide) ?_
      refine vv_icmp_lt C 31 dX8_isAboutRow_16 (by decide) (fun h_9 => ?_) (fun h_10 => ?_)
      · refine vv_iconst (v := 1) C dX8_isAboutRow_31 (by decide) ?_
        refine vv_goto C 36 dX8_isAboutRow_32 (by decide) ?_
        exact vv_zret1 C hR dX8_isAboutRow_36 (qI_of (by first | (simp [bI, abrB, h_2, h_4, h_9]; done) | (simp only [abrB, decide_eq_true h_2, decide_eq_true h_4, decide_eq_true h_9]; simp [bI, h_2, h_4, h_9]; done) | (clear C hR; simp_all [bI, abrB]; done)) (rfl))
      · refine vv_iload_n C 0 dX8_isAboutRow_19 rfl rfl ?_
        refine vv_bipush (v := 20) C dX8_isAboutRow_20 (by decide) ?_
        refine vv_icmp_lt C 35 dX8_isAboutRow_22 (by decide) (fun h_11 => ?_) (fun h_12 => ?_)
        · refine vv_iconst (v := 0) C dX8_isAboutRow_35 (by decide) ?_
          exact vv_zret0 C hR dX8_isAboutRow_36 (qI_of (by first | (simp [bI, abrB, h_2, h_4, h_10, h_11]; done) | (simp only [abrB, decide_eq_true h_2, decide_eq_true h_4, decide_eq_true h_10, decide_eq_true h_11]; simp [bI, h_2, h_4, h_10, h_11]; done) | (clear C hR; simp_all [bI, abrB]; done)) (rfl))
        · refine vv_iload_n C 0 dX8_isAboutRow_25 rfl rfl ?_
          refine vv_bipush (v := 24) C dX8_isAboutRow_26 (by decide) ?_
          refine vv_icmp_ge C 35 dX8_isAboutRow_28 (by decide) (fun h_13 => ?_) (fun h_14 => ?_)
          · refine vv_iconst (v := 0) C dX8_isAboutRow_35 (by decide) ?_
            exact vv_zret0 C hR dX8_isAboutRow_36 (qI_of (by first | (simp [bI, abrB, h_2, h_4, h_10, h_12, h_13]; done) | (simp only [abrB, decide_eq_true h_2, decide_eq_true h_4, decide_eq_true h_10, decide_eq_true h_12, decide_eq_true h_13]; simp [bI, h_2, h_4, h_10, h_12, h_13]; done) | (clear C hR; simp_all [bI, abrB]; done)) (rfl))
          · refine vv_iconst (v := 1) C dX8_isAboutRow_31 (by decide) ?_
            refine vv_goto C 36 dX8_isAboutRow_32 (by decide) ?_
            exact vv_zret1 C hR dX8_isAboutRow_36 (qI_of (by first | (simp [bI, abrB, h_2, h_4, h_10, h_12, h_14]; done) | (simp only [abrB, decide_eq_true h_2, decide_eq_true h_4, decide_eq_true h_10, decide_eq_true h_12, decide_eq_true h_14]; simp [bI, h_2, h_4, h_10, h_12, h_14]; done) | (clear C hR; simp_all [bI, abrB]; done)) (rfl))
theorem iX8_isCell_X8 : ∀ w ∈ u_ws RX8 TX8 5, w ∈ wsX8_isCell := fun w hw => (List.mem_cons_of_mem _ (List.mem_append_left _ (List.mem_append_left _ (List.mem_append_right _ hw))))
set_option maxRecDepth 100000 in
set_option maxHeartbeats 4000000 in
theorem c_X8_isCell {l : Launch} {G : mw_GG} (M : mw_M) (x y : Int32) : mw_Met l yX8_isCell wsX8_isCell ({ frames := 1, cells := 0, slots := 0, locals := 21 } : Room) G [.ref (G.1 144), .int x, .int y] M (qI (bI (cellP M x y)) M) := by
  refine mw_ofV (cc := cX8_isCell) 3 (by decide) rfl rfl (Nat.le_of_ble_eq_true rfl) ?_
  intro p e s m args below meth c C hR hN0
  refine vv_loc (ls2 := [some (.ref (G.1 144)), some (.int x), some (.int y)]) rfl ?_
  refine vv_iload_n C 1 dX8_isCell_0 rfl rfl ?_
  refine vv_callSI C [.int x] (c_X8_isBit M x) (cwS 1 C.1.2.2.2.2 gX8_isCell_X8_isBit rfl rfl rfl (by decide +kernel) ⟨Nat.le_of_ble_eq_true rfl, Nat.le_of_ble_eq_true rfl⟩) rfl rfl rfl (Nat.le_of_ble_eq_true rfl) dX8_isCell_1 ⟨Nat.le_refl _, Nat.le_refl _⟩ ?_
  refine vv_bif_eq C 26 dX8_isCell_4 (by decide) (fun h_1 => ?_) (fun h_2 => ?_)
  · refine vv_iconst (v := 0) C dX8_isCell_26 (by decide) ?_
    exact vv_zret0 C hR dX8_isCell_27 (qI_of ((bI_f (fun z => h_1 z.1)).symm) (rfl))
  · refine vv_aload_n C 0 dX8_isCell_7 rfl rfl ?_
    refine vv_getr C (Cn := RX8) (T := TX8) (N := 5) sh_144 0 rfl rfl (by decide) iX8_isCell_X8 (List.mem_of_getElem? (i := 1) rfl) rfl dX8_isCell_8 ?_
    refine vv_iload_n C 1 dX8_isCell_11 rfl rfl ?_
    refine vv_callVR C [.int x] (c_X6_drawer M x) sh_0 rfl (cwV 1 C.1.2.2.2.2 gX8_isCell_X6_drawer rfl rfl rfl (by decide +kernel) ⟨Nat.le_of_ble_eq_true rfl, Nat.le_of_ble_eq_true rfl⟩) rfl rfl rfl (Nat.le_of_ble_eq_true rfl) dX8_isCell_12 ⟨Nat.le_refl _, Nat.le_refl _⟩ ?_
    refine vv_iload_n C 2 dX8_isCell_15 rfl rfl ?_
    refine vv_callVI C [.int y] (c_X0_hasColumn (d := (dN x)) (dN_lt x) M y) (mw_Dw_d (dN_lt x)).1 rfl (cwV 1 C.1.2.2.2.2 gX8_isCell_X0_hasColumn rfl rfl rfl (by decide +kernel) ⟨Nat.le_of_ble_eq_true rfl, Nat.le_of_ble_eq_true rfl⟩) rfl rfl rfl (Nat.le_of_ble_eq_true rfl) dX8_isCell_16 ⟨Nat.le_refl _, Nat.le_refl _⟩ ?_
    refine vv_bif_eq C 26 dX8_isCell_19 (by decide) (fun h_3 => ?_) (fun h_4 => ?_)
    · refine vv_iconst (v := 0) C dX8_isCell_26 (by decide) ?_
      exact vv_zret0 C hR dX8_isCell_27 (qI_of ((bI_f (fun z => h_3 z.2)).symm) (rfl))
    · refine vv_iconst (v := 1) C dX8_isCell_22 (by decide) ?_
      refine vv_goto C 27 dX8_isCell_23 (by decide) ?_
      exact vv_zret1 C hR dX8_isCell_27 (qI_of ((bI_t ⟨h_2, h_4⟩).symm) (rfl))
theorem iX8_isPlace_X8 : ∀ w ∈ u_ws RX8 TX8 5, w ∈ wsX8_isPlace := fun w hw => (List.mem_cons_of_mem _ (List.mem_append_left _ (List.mem_append_left _ (List.mem_append_right _ hw))))
set_option maxRecDepth 100000 in
set_option maxHeartbeats 4000000 in
theorem c_X8_isPlace {l : Launch} {G : mw_GG} (M : mw_M) (x y z : Int32) : mw_Met l yX8_isPlace wsX8_isPlace ({ frames := 2, cells := 0, slots := 0, locals := 43 } : Room) G [.ref (G.1 144), .int x, .int y, .int z] M (qI (bI (placeP M x y z)) M) := by
  refine mw_ofV (cc := cX8_isPlace) 4 (by decide) rfl rfl (Nat.le_of_ble_eq_true rfl) ?_
  intro p e s m args below meth c C hR hN0
  refine vv_loc (ls2 := [some (.ref (G.1 144)), some (.int x), some (.int y), some (.int z)]) rfl ?_
  refine vv_aload_n C 0 dX8_isPlace_0 rfl rfl ?_
  refine vv_iload_n C 1 dX8_isPlace_1 rfl rfl ?_
  refine vv_iload_n C 3 dX8_isPlace_2 rfl rfl ?_
  refine vv_callVI C [.int x, .int z] (c_X8_isCell M x z) sh_144 rfl (cwV 2 C.1.2.2.2.2 gX8_isPlace_X8_isCell rfl rfl rfl (by decide +kernel) ⟨Nat.le_of_ble_eq_true rfl, Nat.le_of_ble_eq_true rfl⟩) rfl rfl rfl (Nat.le_of_ble_eq_true rfl) dX8_isPlace_3 ⟨Nat.le_refl _, Nat.le_refl _⟩ ?_
  refine vv_bif_eq C 28 dX8_isPlace_6 (by decide) (fun h_1 => ?_) (fun h_2 => ?_)
  · refine vv_iconst (v := 0) C dX8_isPlace_28 (by decide) ?_
    exact vv_zret0 C hR dX8_isPlace_29 (qI_of ((bI_f (fun z => h_1 z.1)).symm) (rfl))
  · refine vv_aload_n C 0 dX8_isPlace_9 rfl rfl ?_
    refine vv_getr C (Cn := RX8) (T := TX8) (N := 5) sh_144 0 rfl rfl (by decide) iX8_isPlace_X8 (List.mem_of_getElem? (i := 1) rfl) rfl dX8_isPlace_10 ?_
    refine vv_iload_n C 1 dX8_isPlace_13 rfl rfl ?_
    refine vv_callVR C [.int x] (c_X6_drawer M x) sh_0 rfl (cwV 1 C.1.2.2.2.2 gX8_isPlace_X6_drawer rfl rfl rfl (by decide +kernel) ⟨Nat.le_of_ble_eq_true rfl, Nat.le_of_ble_eq_true rfl⟩) rfl rfl rfl (Nat.le_of_ble_eq_true rfl) dX8_isPlace_14 ⟨Nat.le_refl _, Nat.le_refl _⟩ ?_
    refine vv_iload_n C 2 dX8_isPlace_17 rfl rfl ?_
    refine vv_callVI C [.int y] (c_X0_hasCard (d := (dN x)) (dN_lt x) M y) (mw_Dw_d (dN_lt x)).1 rfl (cwV 1 C.1.2.2.2.2 gX8_isPlace_X0_hasCard rfl rfl rfl (by decide +kernel) ⟨Nat.le_of_ble_eq_true rfl, Nat.le_of_ble_eq_true rfl⟩) rfl rfl rfl (Nat.le_of_ble_eq_true rfl) dX8_isPlace_18 ⟨Nat.le_refl _, Nat.le_refl _⟩ ?_
    refine vv_bif_eq C 28 dX8_isPlace_21 (by decide) (fun h_3 => ?_) (fun h_4 => ?_)
    · refine vv_iconst (v := 0) C dX8_isPlace_28 (by decide) ?_
      exact vv_zret0 C hR dX8_isPlace_29 (qI_of ((bI_f (fun z => h_3 z.2)).symm) (rfl))
    · refine vv_iconst (v := 1) C dX8_isPlace_24 (by decide) ?_
      refine vv_goto C 29 dX8_isPlace_25 (by decide) ?_
      exact vv_zret1 C hR dX8_isPlace_29 (qI_of ((bI_t ⟨h_2, h_4⟩).symm) (rfl))
theorem iX8_columns_X8 : ∀ w ∈ u_ws RX8 TX8 5, w ∈ wsX8_columns := fun w hw => (List.mem_cons_of_mem _ (List.mem_append_left _ (List.mem_append_left _ (List.mem_append_left _ (List.mem_append_left _ (List.mem_append_left _ (List.mem_append_right _ hw)))))))
set_option maxRecDepth 100000 in
set_option maxHeartbeats 4000000 in
theorem c_X8_columns {l : Launch} {G : mw_GG} (M : mw_M) (hw : wfV M) (hh : hiV M) (ht : txV M) (x y : Int32) : mw_Met l yX8_columns wsX8_columns ({ frames := 6, cells := 0, slots := 0, locals := 127 } : Room) G [.ref (G.1 144), .int x, .int y] M (qIP (fun r M2 => r = (op_columns M x y).1 ∧ clO M2 (op_columns M x y).2)) := by
  refine mw_ofV (cc := cX8_columns) 3 (by decide) rfl rfl (Nat.le_of_ble_eq_true rfl) ?_
  intro p e s m args below meth c C hR hN0
  refine vv_loc (ls2 := [some (.ref (G.1 144)), some (.int x), some (.int y)]) rfl ?_
  have hR0 := hw.wfR
  refine vv_iload_n C 1 dX8_columns_0 rfl rfl ?_
  refine vv_callSI C [.int x] (c_X8_isBit M x) (cwS 1 C.1.2.2.2.2 gX8_columns_X8_isBit rfl rfl rfl (by decide +kernel) ⟨Nat.le_of_ble_eq_true rfl, Nat.le_of_ble_eq_true rfl⟩) rfl rfl rfl (Nat.le_of_ble_eq_true rfl) dX8_columns_1 ⟨Nat.le_refl _, Nat.le_refl _⟩ ?_
  refine vv_bif_eq C 17 dX8_columns_4 (by decide) (fun h_1 => ?_) (fun h_2 => ?_)
  · refine vv_bipush (v := (-11)) C dX8_columns_17 (by decide) ?_
    exact vv_iret C hR dX8_columns_19 (qIP_of (by rw [show op_columns M x y = (-11, M) from if_neg (fun z => h_1 z.1)]; exact ⟨rfl, clO.rf⟩))
  · refine vv_iload_n C 2 dX8_columns_7 rfl rfl ?_
    refine vv_iconst (v := 1) C dX8_columns_8 (by decide) ?_
    refine vv_icmp_lt C 17 dX8_columns_9 (by decide) (fun h_3 => ?_) (fun h_4 => ?_)
    · refine vv_bipush (v := (-11)) C dX8_columns_17 (by decide) ?_
      exact vv_iret C hR dX8_columns_19 (qIP_of (by rw [show op_columns M x y = (-11, M) from if_neg (fun z => z.2.1 h_3)]; exact ⟨rfl, clO.rf⟩))
    · refine vv_iload_n C 2 dX8_columns_12 rfl rfl ?_
      refine vv_iconst (v := 4) C dX8_columns_13 (by decide) ?_
      refine vv_icmp_le C 20 dX8_columns_14 (by decide) (fun h_5 => ?_) (fun h_6 => ?_)
      · refine vv_aload_n C 0 dX8_columns_20 rfl rfl ?_
        refine vv_getr C (Cn := RX8) (T := TX8) (N := 5) sh_144 1 rfl rfl (by decide) iX8_columns_X8 (List.mem_of_getElem? (i := 1) rfl) rfl dX8_columns_21 ?_
        refine vv_aload_n C 0 dX8_columns_24 rfl rfl ?_
        refine vv_getr C (Cn := RX8) (T := TX8) (N := 5) sh_144 0 rfl rfl (by decide) iX8_columns_X8 (List.mem_of_getElem? (i := 2) rfl) rfl dX8_columns_25 ?_
        refine vv_callVV C [.ref (G.1 0)] (c_X2_keep M (h := (hN M)) hh.1 hh.2) sh_125 rfl (cwV 1 C.1.2.2.2.2 gX8_columns_X2_keep rfl rfl rfl (by decide +kernel) ⟨Nat.le_of_ble_eq_true rfl, Nat.le_of_ble_eq_true rfl⟩) rfl rfl rfl (Nat.le_of_ble_eq_true rfl) dX8_columns_28 ⟨Nat.le_refl _, Nat.le_refl _⟩ ?_
        refine vv_mem (M2 := kpS M) rfl ?_
        refine vv_aload_n C 0 dX8_columns_31 rfl rfl ?_
        refine vv_getr C (Cn := RX8) (T := TX8) (N := 5) sh_144 0 rfl rfl (by decide) iX8_columns_X8 (List.mem_of_getElem? (i := 2) rfl) rfl dX8_columns_32 ?_
        refine vv_iload_n C 1 dX8_columns_35 rfl rfl ?_
        refine vv_callVR C [.int x] (c_X6_drawer (kpS M) x) sh_0 rfl (cwV 1 C.1.2.2.2.2 gX8_columns_X6_drawer rfl rfl rfl (by decide +kernel) ⟨Nat.le_of_ble_eq_true rfl, Nat.le_of_ble_eq_true rfl⟩) rfl rfl rfl (Nat.le_of_ble_eq_true rfl) dX8_columns_36 ⟨Nat.le_refl _, Nat.le_refl _⟩ ?_
        refine vv_iload_n C 2 dX8_columns_39 rfl rfl ?_
        refine vv_callVI C [.int y] (c_X0_remake (d := (dN x)) (dN_lt x) (kpS M) y) (mw_Dw_d (dN_lt x)).1 rfl (cwV 1 C.1.2.2.2.2 gX8_columns_X0_remake rfl rfl rfl (by decide +kernel) ⟨Nat.le_of_ble_eq_true rfl, Nat.le_of_ble_eq_true rfl⟩) rfl rfl rfl (Nat.le_of_ble_eq_true rfl) dX8_columns_40 ⟨Nat.le_refl _, Nat.le_refl _⟩ ?_
        exact vv_iret C hR dX8_columns_43 (qIP_of (by rw [show op_columns M x y = (M (2 + dN x), s_zero (upd (upd (kpS M) (dN x) y) (2 + dN x) 0) (100 + 12 * dN x)) from if_pos ⟨h_2, h_4, Int32.not_lt.mpr h_5⟩]; exact ⟨(kpS_lo (by have := dN_lt x; omega)), clO.rf⟩))
      · refine vv_bipush (v := (-11)) C dX8_columns_17 (by decide) ?_
        exact vv_iret C hR dX8_columns_19 (qIP_of (by rw [show op_columns M x y = (-11, M) from if_neg (fun z => z.2.2 (Int32.not_le.mp h_6))]; exact ⟨rfl, clO.rf⟩))
theorem iX8_card_X8 : ∀ w ∈ u_ws RX8 TX8 5, w ∈ wsX8_card := fun w hw => (List.mem_cons_of_mem _ (List.mem_append_left _ (List.mem_append_left _ (List.mem_append_left _ (List.mem_append_left _ (List.mem_append_left _ (List.mem_append_right _ hw)))))))
set_option maxRecDepth 100000 in
set_option maxHeartbeats 4000000 in
theorem c_X8_card {l : Launch} {G : mw_GG} (M : mw_M) (hw : wfV M) (hh : hiV M) (ht : txV M) (x a b g d : Int32) : mw_Met l yX8_card wsX8_card ({ frames := 6, cells := 0, slots := 0, locals := 127 } : Room) G [.ref (G.1 144), .int x, .int a, .int b, .int g, .int d] M (qIP (fun r M2 => r = (op_card M x a b g d).1 ∧ clO M2 (op_card M x a b g d).2)) := by
  refine mw_ofV (cc := cX8_card) 7 (by decide) rfl rfl (Nat.le_of_ble_eq_true rfl) ?_
  intro p e s m args below meth c C hR hN0
  refine vv_loc (ls2 := [some (.ref (G.1 144)), some (.int x), some (.int a), some (.int b), some (.int g), some (.int d), none]) rfl ?_
  have hR0 := hw.wfR
  have hz : szP M (dN x) := szD hw x
  refine vv_iload_n C 1 dX8_card_0 rfl rfl ?_
  refine vv_callSI C [.int x] (c_X8_isBit M x) (cwS 1 C.1.2.2.2.2 gX8_card_X8_isBit rfl rfl rfl (by decide +kernel) ⟨Nat.le_of_ble_eq_true rfl, Nat.le_of_ble_eq_true rfl⟩) rfl rfl rfl (Nat.le_of_ble_eq_true rfl) dX8_card_1 ⟨Nat.le_refl _, Nat.le_refl _⟩ ?_
  refine vv_bif_eq C 37 dX8_card_4 (by decide) (fun h_1 => ?_) (fun h_2 => ?_)
  · refine vv_bipush (v := (-11)) C dX8_card_37 (by decide) ?_
    exact vv_iret C hR dX8_card_39 (qIP_of (by rw [show op_card M x a b g d = (-11, M) from if_neg (fun z => h_1 z.1)]; exact ⟨rfl, clO.rf⟩))
  · refine vv_iload_n C 2 dX8_card_7 rfl rfl ?_
    refine vv_callSI C [.int a] (c_X8_isEntry M a) (cwS 1 C.1.2.2.2.2 gX8_card_X8_isEntry rfl rfl rfl (by decide +kernel) ⟨Nat.le_of_ble_eq_true rfl, Nat.le_of_ble_eq_true rfl⟩) rfl rfl rfl (Nat.le_of_ble_eq_true rfl) dX8_card_8 ⟨Nat.le_refl _, Nat.le_refl _⟩ ?_
    refine vv_bif_eq C 37 dX8_card_11 (by decide) (fun h_3 => ?_) (fun h_4 => ?_)
    · refine vv_bipush (v := (-11)) C dX8_card_37 (by decide) ?_
      exact vv_iret C hR dX8_card_39 (qIP_of (by rw [show op_card M x a b g d = (-11, M) from if_neg (fun z => h_3 z.2.1)]; exact ⟨rfl, clO.rf⟩))
    · refine vv_iload_n C 3 dX8_card_14 rfl rfl ?_
      refine vv_callSI C [.int b] (c_X8_isEntry M b) (cwS 1 C.1.2.2.2.2 gX8_card_X8_isEntry rfl rfl rfl (by decide +kernel) ⟨Nat.le_of_ble_eq_true rfl, Nat.le_of_ble_eq_true rfl⟩) rfl rfl rfl (Nat.le_of_ble_eq_true rfl) dX8_card_15 ⟨Nat.le_refl _, Nat.le_refl _⟩ ?_
      refine vv_bif_eq C 37 dX8_card_18 (by decide) (fun h_5 => ?_) (fun h_6 => ?_)
      · refine vv_bipush (v := (-11)) C dX8_card_37 (by decide) ?_
        exact vv_iret C hR dX8_card_39 (qIP_of (by rw [show op_card M x a b g d = (-11, M) from if_neg (fun z => h_5 z.2.2.1)]; exact ⟨rfl, clO.rf⟩))
      · refine vv_iload C 4 dX8_card_21 rfl ?_
        refine vv_callSI C [.int g] (c_X8_isEntry M g) (cwS 1 C.1.2.2.2.2 gX8_card_X8_isEntry rfl rfl rfl (by decide +kernel) ⟨Nat.le_of_ble_eq_true rfl, Nat.le_of_ble_eq_true rfl⟩) rfl rfl rfl (Nat.le_of_ble_eq_true rfl) dX8_card_23 ⟨Nat.le_refl _, Nat.le_refl _⟩ ?_
        refine vv_bif_eq C 37 dX8_card_26 (by decide) (fun h_7 => ?_) (fun h_8 => ?_)
        · refine vv_bipush (v := (-11)) C dX8_card_37 (by decide) ?_
          exact vv_iret C hR dX8_card_39 (qIP_of (by rw [show op_card M x a b g d = (-11, M) from if_neg (fun z => h_7 z.2.2.2.1)]; exact ⟨rfl, clO.rf⟩))
        · refine vv_iload C 5 dX8_card_29 rfl ?_
          refine vv_callSI C [.int d] (c_X8_isEntry M d) (cwS 1 C.1.2.2.2.2 gX8_card_X8_isEntry rfl rfl rfl (by decide +kernel) ⟨Nat.le_of_ble_eq_true rfl, Nat.le_of_ble_eq_true rfl⟩) rfl rfl rfl (Nat.le_of_ble_eq_true rfl) dX8_card_31 ⟨Nat.le_refl _, Nat.le_refl _⟩ ?_
          refine vv_bif_ne C 40 dX8_card_34 (by decide) (fun h_9 => ?_) (fun h_10 => ?_)
          · refine vv_aload_n C 0 dX8_card_40 rfl rfl ?_
            refine vv_getr C (Cn := RX8) (T := TX8) (N := 5) sh_144 0 rfl rfl (by decide) iX8_card_X8 (List.mem_of_getElem? (i := 1) rfl) rfl dX8_card_41 ?_
            refine vv_iload_n C 1 dX8_card_44 rfl rfl ?_
            refine vv_callVR C [.int x] (c_X6_drawer M x) sh_0 rfl (cwV 1 C.1.2.2.2.2 gX8_card_X6_drawer rfl rfl rfl (by decide +kernel) ⟨Nat.le_of_ble_eq_true rfl, Nat.le_of_ble_eq_true rfl⟩) rfl rfl rfl (Nat.le_of_ble_eq_true rfl) dX8_card_45 ⟨Nat.le_refl _, Nat.le_refl _⟩ ?_
            refine vv_astore (ls2 := [some (.ref (G.1 144)), some (.int x), some (.int a), some (.int b), some (.int g), some (.int d), some (.ref (G.1 (1 + 10 * (dN x))))]) C 6 dX8_card_48 (Nat.le_of_ble_eq_true rfl) rfl ?_
            refine vv_aload C 6 dX8_card_50 rfl ?_
            refine vv_callVI C [] (c_X0_size (d := (dN x)) (dN_lt x) M) (mw_Dw_d (dN_lt x)).1 rfl (cwV 0 C.1.2.2.2.2 gX8_card_X0_size rfl rfl rfl (by decide +kernel) ⟨Nat.le_of_ble_eq_true rfl, Nat.le_of_ble_eq_true rfl⟩) rfl rfl rfl (Nat.le_of_ble_eq_true rfl) dX8_card_52 ⟨Nat.le_refl _, Nat.le_refl _⟩ ?_
            refine vv_bipush (v := 12) C dX8_card_55 (by decide) ?_
            refine vv_icmp_lt C 63 dX8_card_57 (by decide) (fun h_lt => ?_) (fun h_nlt => ?_)
            · refine vv_aload_n C 0 dX8_card_63 rfl rfl ?_
              refine vv_getr C (Cn := RX8) (T := TX8) (N := 5) sh_144 1 rfl rfl (by decide) iX8_card_X8 (List.mem_of_getElem? (i := 2) rfl) rfl dX8_card_64 ?_
              refine vv_aload_n C 0 dX8_card_67 rfl rfl ?_
              refine vv_getr C (Cn := RX8) (T := TX8) (N := 5) sh_144 0 rfl rfl (by decide) iX8_card_X8 (List.mem_of_getElem? (i := 1) rfl) rfl dX8_card_68 ?_
              refine vv_callVV C [.ref (G.1 0)] (c_X2_keep M (h := (hN M)) hh.1 hh.2) sh_125 rfl (cwV 1 C.1.2.2.2.2 gX8_card_X2_keep rfl rfl rfl (by decide +kernel) ⟨Nat.le_of_ble_eq_true rfl, Nat.le_of_ble_eq_true rfl⟩) rfl rfl rfl (Nat.le_of_ble_eq_true rfl) dX8_card_71 ⟨Nat.le_refl _, Nat.le_refl _⟩ ?_
              refine vv_mem (M2 := kpS M) rfl ?_
              refine vv_aload C 6 dX8_card_74 rfl ?_
              refine vv_iload_n C 2 dX8_card_76 rfl rfl ?_
              refine vv_iload_n C 3 dX8_card_77 rfl rfl ?_
              refine vv_iload C 4 dX8_card_78 rfl ?_
              refine vv_iload C 5 dX8_card_80 rfl ?_
              refine vv_callVI C [.int a, .int b, .int g, .int d] (c_X0_add (d := (dN x)) (dN_lt x) (kpS M) (n := (nN M (dN x))) (by rw [kpS_lo (by have := dN_lt x; omega)]; exact hz.n.1) (by rw [hz.n.1] at h_lt; exact (nI_ltI (b := 12) (by have := hz.n.2; omega) (by omega)).mp h_lt) a b g d) (mw_Dw_d (dN_lt x)).1 rfl (cwV 4 C.1.2.2.2.2 gX8_card_X0_add rfl rfl rfl (by decide +kernel) ⟨Nat.le_of_ble_eq_true rfl, Nat.le_of_ble_eq_true rfl⟩) rfl rfl rfl (Nat.le_of_ble_eq_true rfl) dX8_card_82 ⟨Nat.le_refl _, Nat.le_refl _⟩ ?_
              exact vv_iret C hR dX8_card_85 (qIP_of (by rw [show op_card M x a b g d = (M (2 + dN x), s_add (kpS M) (dN x) (nN M (dN x)) a b g d) from (if_pos ⟨h_2, h_4, h_6, h_8, h_9⟩).trans (if_pos h_lt)]; exact ⟨hz.n.1.symm, clO.rf⟩))
            · refine vv_bipush (v := (-13)) C dX8_card_60 (by decide) ?_
              exact vv_iret C hR dX8_card_62 (qIP_of (by rw [show op_card M x a b g d = (-13, M) from (if_pos ⟨h_2, h_4, h_6, h_8, h_9⟩).trans (if_neg h_nlt)]; exact ⟨rfl, clO.rf⟩))
          · refine vv_bipush (v := (-11)) C dX8_card_37 (by decide) ?_
            exact vv_iret C hR dX8_card_39 (qIP_of (by rw [show op_card M x a b g d = (-11, M) from if_neg (fun z => h_10 z.2.2.2.2)]; exact ⟨rfl, clO.rf⟩))
theorem iX8_put_X8 : ∀ w ∈ u_ws RX8 TX8 5, w ∈ wsX8_put := fun w hw => (List.mem_cons_of_mem _ (List.mem_append_left _ (List.mem_append_left _ (List.mem_append_left _ (List.mem_append_left _ (List.mem_append_left _ (List.mem_append_right _ hw)))))))
set_option maxRecDepth 100000 in
set_option maxHeartbeats 4000000 in
theorem c_X8_put {l : Launch} {G : mw_GG} (M : mw_M) (hw : wfV M) (hh : hiV M) (ht : txV M) (x k g v : Int32) : mw_Met l yX8_put wsX8_put ({ frames := 6, cells := 0, slots := 0, locals := 127 } : Room) G [.ref (G.1 144), .int x, .int k, .int g, .int v] M (qIP (fun r M2 => r = (op_put M x k g v).1 ∧ clO M2 (op_put M x k g v).2)) := by
  refine mw_ofV (cc := cX8_put) 5 (by decide) rfl rfl (Nat.le_of_ble_eq_true rfl) ?_
  intro p e s m args below meth c C hR hN0
  refine vv_loc (ls2 := [some (.ref (G.1 144)), some (.int x), some (.int k), some (.int g), some (.int v)]) rfl ?_
  have hR0 := hw.wfR
  have hz : szP M (dN x) := szD hw x
  refine vv_aload_n C 0 dX8_put_0 rfl rfl ?_
  refine vv_iload_n C 1 dX8_put_1 rfl rfl ?_
  refine vv_iload_n C 2 dX8_put_2 rfl rfl ?_
  refine vv_iload_n C 3 dX8_put_3 rfl rfl ?_
  refine vv_callVI C [.int x, .int k, .int g] (c_X8_isPlace M x k g) sh_144 rfl (cwV 3 C.1.2.2.2.2 gX8_put_X8_isPlace rfl rfl rfl (by decide +kernel) ⟨Nat.le_of_ble_eq_true rfl, Nat.le_of_ble_eq_true rfl⟩) rfl rfl rfl (Nat.le_of_ble_eq_true rfl) dX8_put_4 ⟨Nat.le_refl _, Nat.le_refl _⟩ ?_
  refine vv_bif_eq C 18 dX8_put_7 (by decide) (fun h_n1 => ?_) (fun h_1 => ?_)
  · refine vv_bipush (v := (-11)) C dX8_put_18 (by decide) ?_
    exact vv_iret C hR dX8_put_20 (qIP_of (by rw [show op_put M x k g v = (-11, M) from if_neg (fun z => h_n1 z.1)]; exact ⟨rfl, clO.rf⟩))
  · refine vv_iload C 4 dX8_put_10 rfl ?_
    refine vv_callSI C [.int v] (c_X8_isEntry M v) (cwS 1 C.1.2.2.2.2 gX8_put_X8_isEntry rfl rfl rfl (by decide +kernel) ⟨Nat.le_of_ble_eq_true rfl, Nat.le_of_ble_eq_true rfl⟩) rfl rfl rfl (Nat.le_of_ble_eq_true rfl) dX8_put_12 ⟨Nat.le_refl _, Nat.le_refl _⟩ ?_
    refine vv_bif_ne C 21 dX8_put_15 (by decide) (fun h_3 => ?_) (fun h_4 => ?_)
    · refine vv_aload_n C 0 dX8_put_21 rfl rfl ?_
      refine vv_getr C (Cn := RX8) (T := TX8) (N := 5) sh_144 1 rfl rfl (by decide) iX8_put_X8 (List.mem_of_getElem? (i := 1) rfl) rfl dX8_put_22 ?_
      refine vv_aload_n C 0 dX8_put_25 rfl rfl ?_
      refine vv_getr C (Cn := RX8) (T := TX8) (N := 5) sh_144 0 rfl rfl (by decide) iX8_put_X8 (List.mem_of_getElem? (i := 2) rfl) rfl dX8_put_26 ?_
      refine vv_callVV C [.ref (G.1 0)] (c_X2_keep M (h := (hN M)) hh.1 hh.2) sh_125 rfl (cwV 1 C.1.2.2.2.2 gX8_put_X2_keep rfl rfl rfl (by decide +kernel) ⟨Nat.le_of_ble_eq_true rfl, Nat.le_of_ble_eq_true rfl⟩) rfl rfl rfl (Nat.le_of_ble_eq_true rfl) dX8_put_29 ⟨Nat.le_refl _, Nat.le_refl _⟩ ?_
      refine vv_mem (M2 := kpS M) rfl ?_
      refine vv_aload_n C 0 dX8_put_32 rfl rfl ?_
      refine vv_getr C (Cn := RX8) (T := TX8) (N := 5) sh_144 0 rfl rfl (by decide) iX8_put_X8 (List.mem_of_getElem? (i := 2) rfl) rfl dX8_put_33 ?_
      refine vv_iload_n C 1 dX8_put_36 rfl rfl ?_
      refine vv_callVR C [.int x] (c_X6_drawer (kpS M) x) sh_0 rfl (cwV 1 C.1.2.2.2.2 gX8_put_X6_drawer rfl rfl rfl (by decide +kernel) ⟨Nat.le_of_ble_eq_true rfl, Nat.le_of_ble_eq_true rfl⟩) rfl rfl rfl (Nat.le_of_ble_eq_true rfl) dX8_put_37 ⟨Nat.le_refl _, Nat.le_refl _⟩ ?_
      refine vv_iload_n C 2 dX8_put_40 rfl rfl ?_
      refine vv_iload_n C 3 dX8_put_41 rfl rfl ?_
      refine vv_iload C 4 dX8_put_42 rfl ?_
      refine vv_callVI C [.int k, .int g, .int v] (c_X0_replace (d := (dN x)) (dN_lt x) (kpS M) (kpS_eq.sz (dN_lt x) hz) (kp_hk (dN_lt x) h_1.2) (kp_hc (dN_lt x) h_1.1.2) v) (mw_Dw_d (dN_lt x)).1 rfl (cwV 3 C.1.2.2.2.2 gX8_put_X0_replace rfl rfl rfl (by decide +kernel) ⟨Nat.le_of_ble_eq_true rfl, Nat.le_of_ble_eq_true rfl⟩) rfl rfl rfl (Nat.le_of_ble_eq_true rfl) dX8_put_44 ⟨Nat.le_refl _, Nat.le_refl _⟩ ?_
      exact vv_iret C hR dX8_put_47 (qIP_of (by rw [show op_put M x k g v = (M (posS x k g), upd (kpS M) (posS x k g) v) from if_pos ⟨h_1, h_3⟩]; exact ⟨(kpS_lo (ps_lt hz h_1.2 h_1.1.2)), clO.rf⟩))
    · refine vv_bipush (v := (-11)) C dX8_put_18 (by decide) ?_
      exact vv_iret C hR dX8_put_20 (qIP_of (by rw [show op_put M x k g v = (-11, M) from if_neg (fun z => h_4 z.2)]; exact ⟨rfl, clO.rf⟩))
theorem iX8_drop_X8 : ∀ w ∈ u_ws RX8 TX8 5, w ∈ wsX8_drop := fun w hw => (List.mem_cons_of_mem _ (List.mem_append_left _ (List.mem_append_left _ (List.mem_append_left _ (List.mem_append_left _ (List.mem_append_left _ (List.mem_append_right _ hw)))))))
set_option maxRecDepth 100000 in
set_option maxHeartbeats 4000000 in
theorem c_X8_drop {l : Launch} {G : mw_GG} (M : mw_M) (hw : wfV M) (hh : hiV M) (ht : txV M) (x k : Int32) : mw_Met l yX8_drop wsX8_drop ({ frames := 6, cells := 0, slots := 0, locals := 127 } : Room) G [.ref (G.1 144), .int x, .int k] M (qIP (fun r M2 => r = (op_drop M x k).1 ∧ clO M2 (op_drop M x k).2)) := by
  refine mw_ofV (cc := cX8_drop) 3 (by decide) rfl rfl (Nat.le_of_ble_eq_true rfl) ?_
  intro p e s m args below meth c C hR hN0
  refine vv_loc (ls2 := [some (.ref (G.1 144)), some (.int x), some (.int k)]) rfl ?_
  have hR0 := hw.wfR
  have hz : szP M (dN x) := szD hw x
  refine vv_iload_n C 1 dX8_drop_0 rfl rfl ?_
  refine vv_callSI C [.int x] (c_X8_isBit M x) (cwS 1 C.1.2.2.2.2 gX8_drop_X8_isBit rfl rfl rfl (by decide +kernel) ⟨Nat.le_of_ble_eq_true rfl, Nat.le_of_ble_eq_true rfl⟩) rfl rfl rfl (Nat.le_of_ble_eq_true rfl) dX8_drop_1 ⟨Nat.le_refl _, Nat.le_refl _⟩ ?_
  refine vv_bif_eq C 22 dX8_drop_4 (by decide) (fun h_n1 => ?_) (fun h_1 => ?_)
  · refine vv_bipush (v := (-11)) C dX8_drop_22 (by decide) ?_
    exact vv_iret C hR dX8_drop_24 (qIP_of (by rw [show op_drop M x k = (-11, M) from if_neg (fun z => h_n1 z.1)]; exact ⟨rfl, clO.rf⟩))
  · refine vv_aload_n C 0 dX8_drop_7 rfl rfl ?_
    refine vv_getr C (Cn := RX8) (T := TX8) (N := 5) sh_144 0 rfl rfl (by decide) iX8_drop_X8 (List.mem_of_getElem? (i := 1) rfl) rfl dX8_drop_8 ?_
    refine vv_iload_n C 1 dX8_drop_11 rfl rfl ?_
    refine vv_callVR C [.int x] (c_X6_drawer M x) sh_0 rfl (cwV 1 C.1.2.2.2.2 gX8_drop_X6_drawer rfl rfl rfl (by decide +kernel) ⟨Nat.le_of_ble_eq_true rfl, Nat.le_of_ble_eq_true rfl⟩) rfl rfl rfl (Nat.le_of_ble_eq_true rfl) dX8_drop_12 ⟨Nat.le_refl _, Nat.le_refl _⟩ ?_
    refine vv_iload_n C 2 dX8_drop_15 rfl rfl ?_
    refine vv_callVI C [.int k] (c_X0_hasCard (d := (dN x)) (dN_lt x) M k) (mw_Dw_d (dN_lt x)).1 rfl (cwV 1 C.1.2.2.2.2 gX8_drop_X0_hasCard rfl rfl rfl (by decide +kernel) ⟨Nat.le_of_ble_eq_true rfl, Nat.le_of_ble_eq_true rfl⟩) rfl rfl rfl (Nat.le_of_ble_eq_true rfl) dX8_drop_16 ⟨Nat.le_refl _, Nat.le_refl _⟩ ?_
    refine vv_bif_ne C 25 dX8_drop_19 (by decide) (fun h_2 => ?_) (fun h_n2 => ?_)
    · obtain ⟨kn, hkn, hke, hkc⟩ := ix_of h_2.1 (by have := h_2.2; rw [hz.n.1] at this; exact this) (by have := hz.n.2; omega)
      refine vv_aload_n C 0 dX8_drop_25 rfl rfl ?_
      refine vv_getr C (Cn := RX8) (T := TX8) (N := 5) sh_144 1 rfl rfl (by decide) iX8_drop_X8 (List.mem_of_getElem? (i := 2) rfl) rfl dX8_drop_26 ?_
      refine vv_aload_n C 0 dX8_drop_29 rfl rfl ?_
      refine vv_getr C (Cn := RX8) (T := TX8) (N := 5) sh_144 0 rfl rfl (by decide) iX8_drop_X8 (List.mem_of_getElem? (i := 1) rfl) rfl dX8_drop_30 ?_
      refine vv_callVV C [.ref (G.1 0)] (c_X2_keep M (h := (hN M)) hh.1 hh.2) sh_125 rfl (cwV 1 C.1.2.2.2.2 gX8_drop_X2_keep rfl rfl rfl (by decide +kernel) ⟨Nat.le_of_ble_eq_true rfl, Nat.le_of_ble_eq_true rfl⟩) rfl rfl rfl (Nat.le_of_ble_eq_true rfl) dX8_drop_33 ⟨Nat.le_refl _, Nat.le_refl _⟩ ?_
      refine vv_mem (M2 := kpS M) rfl ?_
      refine vv_aload_n C 0 dX8_drop_36 rfl rfl ?_
      refine vv_getr C (Cn := RX8) (T := TX8) (N := 5) sh_144 0 rfl rfl (by decide) iX8_drop_X8 (List.mem_of_getElem? (i := 1) rfl) rfl dX8_drop_37 ?_
      refine vv_iload_n C 1 dX8_drop_40 rfl rfl ?_
      refine vv_callVR C [.int x] (c_X6_drawer (kpS M) x) sh_0 rfl (cwV 1 C.1.2.2.2.2 gX8_drop_X6_drawer rfl rfl rfl (by decide +kernel) ⟨Nat.le_of_ble_eq_true rfl, Nat.le_of_ble_eq_true rfl⟩) rfl rfl rfl (Nat.le_of_ble_eq_true rfl) dX8_drop_41 ⟨Nat.le_refl _, Nat.le_refl _⟩ ?_
      refine vv_iload_n C 2 dX8_drop_44 rfl rfl ?_
      refine vv_callVI C [.int k] (c_X0_remove (d := (dN x)) (dN_lt x) (kpS M) (n := (nN M (dN x))) (k := k.toNatClampNeg) (by rw [kpS_lo (by have := dN_lt x; omega)]; exact hz.n.1) hz.n.2 (by rw [hkc]; exact hkn) (x := k) (by rw [hkc]; exact hke)) (mw_Dw_d (dN_lt x)).1 rfl (cwV 1 C.1.2.2.2.2 gX8_drop_X0_remove rfl rfl rfl (by decide +kernel) ⟨Nat.le_of_ble_eq_true rfl, Nat.le_of_ble_eq_true rfl⟩) rfl rfl rfl (Nat.le_of_ble_eq_true rfl) dX8_drop_45 ⟨Nat.le_refl _, Nat.le_refl _⟩ ?_
      exact vv_iret C hR dX8_drop_48 (qIP_of (by rw [show op_drop M x k = (nI (nN M (dN x) - 1), s_rem (kpS M) (dN x) (nN M (dN x)) k.toNatClampNeg (4 * (nN M (dN x) - 1))) from if_pos ⟨h_1, h_2⟩]; exact ⟨rfl, clO.rf⟩))
    · refine vv_bipush (v := (-11)) C dX8_drop_22 (by decide) ?_
      exact vv_iret C hR dX8_drop_24 (qIP_of (by rw [show op_drop M x k = (-11, M) from if_neg (fun z => h_n2 z.2)]; exact ⟨rfl, clO.rf⟩))
theorem iX8_valueOf_X8 : ∀ w ∈ u_ws RX8 TX8 5, w ∈ wsX8_valueOf := fun w hw => (List.mem_cons_of_mem _ (List.mem_append_left _ (List.mem_append_left _ (List.mem_append_left _ (List.mem_append_right _ hw)))))
set_option maxRecDepth 100000 in
set_option maxHeartbeats 4000000 in
theorem c_X8_valueOf {l : Launch} {G : mw_GG} (M : mw_M) (hw : wfV M) (hh : hiV M) (ht : txV M) (x k g : Int32) : mw_Met l yX8_valueOf wsX8_valueOf ({ frames := 3, cells := 0, slots := 0, locals := 66 } : Room) G [.ref (G.1 144), .int x, .int k, .int g] M (qIP (fun r M2 => r = (op_valueOf M x k g).1 ∧ clO M2 (op_valueOf M x k g).2)) := by
  refine mw_ofV (cc := cX8_valueOf) 4 (by decide) rfl rfl (Nat.le_of_ble_eq_true rfl) ?_
  intro p e s m args below meth c C hR hN0
  refine vv_loc (ls2 := [some (.ref (G.1 144)), some (.int x), some (.int k), some (.int g)]) rfl ?_
  have hR0 := hw.wfR
  have hz : szP M (dN x) := szD hw x
  refine vv_aload_n C 0 dX8_valueOf_0 rfl rfl ?_
  refine vv_iload_n C 1 dX8_valueOf_1 rfl rfl ?_
  refine vv_iload_n C 2 dX8_valueOf_2 rfl rfl ?_
  refine vv_iload_n C 3 dX8_valueOf_3 rfl rfl ?_
  refine vv_callVI C [.int x, .int k, .int g] (c_X8_isPlace M x k g) sh_144 rfl (cwV 3 C.1.2.2.2.2 gX8_valueOf_X8_isPlace rfl rfl rfl (by decide +kernel) ⟨Nat.le_of_ble_eq_true rfl, Nat.le_of_ble_eq_true rfl⟩) rfl rfl rfl (Nat.le_of_ble_eq_true rfl) dX8_valueOf_4 ⟨Nat.le_refl _, Nat.le_refl _⟩ ?_
  refine vv_bif_ne C 13 dX8_valueOf_7 (by decide) (fun h_1 => ?_) (fun h_2 => ?_)
  · refine vv_aload_n C 0 dX8_valueOf_13 rfl rfl ?_
    refine vv_getr C (Cn := RX8) (T := TX8) (N := 5) sh_144 0 rfl rfl (by decide) iX8_valueOf_X8 (List.mem_of_getElem? (i := 1) rfl) rfl dX8_valueOf_14 ?_
    refine vv_iload_n C 1 dX8_valueOf_17 rfl rfl ?_
    refine vv_callVR C [.int x] (c_X6_drawer M x) sh_0 rfl (cwV 1 C.1.2.2.2.2 gX8_valueOf_X6_drawer rfl rfl rfl (by decide +kernel) ⟨Nat.le_of_ble_eq_true rfl, Nat.le_of_ble_eq_true rfl⟩) rfl rfl rfl (Nat.le_of_ble_eq_true rfl) dX8_valueOf_18 ⟨Nat.le_refl _, Nat.le_refl _⟩ ?_
    refine vv_iload_n C 2 dX8_valueOf_21 rfl rfl ?_
    refine vv_iload_n C 3 dX8_valueOf_22 rfl rfl ?_
    refine vv_callVI C [.int k, .int g] (c_X0_entry (d := (dN x)) (dN_lt x) M hz k g) (mw_Dw_d (dN_lt x)).1 rfl (cwV 2 C.1.2.2.2.2 gX8_valueOf_X0_entry rfl rfl rfl (by decide +kernel) ⟨Nat.le_of_ble_eq_true rfl, Nat.le_of_ble_eq_true rfl⟩) rfl rfl rfl (Nat.le_of_ble_eq_true rfl) dX8_valueOf_23 ⟨Nat.le_refl _, Nat.le_refl _⟩ ?_
    exact vv_iret C hR dX8_valueOf_26 (qIP_of (by rw [show op_valueOf M x k g = (M (posS x k g), M) from if_pos h_1]; exact ⟨(if_pos ⟨h_1.2, h_1.1.2⟩), clO.rf⟩))
  · refine vv_bipush (v := (-11)) C dX8_valueOf_10 (by decide) ?_
    exact vv_iret C hR dX8_valueOf_12 (qIP_of (by rw [show op_valueOf M x k g = (-11, M) from if_neg h_2]; exact ⟨rfl, clO.rf⟩))
theorem iX8_cell_X8 : ∀ w ∈ u_ws RX8 TX8 5, w ∈ wsX8_cell := fun w hw => (List.mem_cons_of_mem _ (List.mem_append_left _ (List.mem_append_left _ (List.mem_append_left _ (List.mem_append_left _ (List.mem_append_left _ (List.mem_append_right _ hw)))))))
set_option maxRecDepth 100000 in
set_option maxHeartbeats 4000000 in
theorem c_X8_cell {l : Launch} {G : mw_GG} (M : mw_M) (hw : wfV M) (hh : hiV M) (ht : txV M) (x g k a b : Int32) : mw_Met l yX8_cell wsX8_cell ({ frames := 6, cells := 0, slots := 0, locals := 127 } : Room) G [.ref (G.1 144), .int x, .int g, .int k, .int a, .int b] M (qIP (fun r M2 => r = (op_cell M x g k a b).1 ∧ clO M2 (op_cell M x g k a b).2)) := by
  refine mw_ofV (cc := cX8_cell) 8 (by decide) rfl rfl (Nat.le_of_ble_eq_true rfl) ?_
  intro p e s m args below meth c C hR hN0
  refine vv_loc (ls2 := [some (.ref (G.1 144)), some (.int x), some (.int g), some (.int k), some (.int a), some (.int b), none, none]) rfl ?_
  have hR0 := hw.wfR
  have hz : szP M (dN x) := szD hw x
  refine vv_aload_n C 0 dX8_cell_0 rfl rfl ?_
  refine vv_iload_n C 1 dX8_cell_1 rfl rfl ?_
  refine vv_iload_n C 2 dX8_cell_2 rfl rfl ?_
  refine vv_callVI C [.int x, .int g] (c_X8_isCell M x g) sh_144 rfl (cwV 2 C.1.2.2.2.2 gX8_cell_X8_isCell rfl rfl rfl (by decide +kernel) ⟨Nat.le_of_ble_eq_true rfl, Nat.le_of_ble_eq_true rfl⟩) rfl rfl rfl (Nat.le_of_ble_eq_true rfl) dX8_cell_3 ⟨Nat.le_refl _, Nat.le_refl _⟩ ?_
  refine vv_bif_eq C 20 dX8_cell_6 (by decide) (fun h_n1 => ?_) (fun h_1 => ?_)
  · refine vv_bipush (v := (-11)) C dX8_cell_20 (by decide) ?_
    exact vv_iret C hR dX8_cell_22 (qIP_of (by rw [show op_cell M x g k a b = (-11, M) from if_neg (fun z => h_n1 z.1)]; exact ⟨rfl, clO.rf⟩))
  · refine vv_iload_n C 3 dX8_cell_9 rfl rfl ?_
    refine vv_iload C 4 dX8_cell_10 rfl ?_
    refine vv_iload C 5 dX8_cell_12 rfl ?_
    refine vv_callSI C [.int k, .int a, .int b] (c_X8_isContent M k a b) (cwS 3 C.1.2.2.2.2 gX8_cell_X8_isContent rfl rfl rfl (by decide +kernel) ⟨Nat.le_of_ble_eq_true rfl, Nat.le_of_ble_eq_true rfl⟩) rfl rfl rfl (Nat.le_of_ble_eq_true rfl) dX8_cell_14 ⟨Nat.le_refl _, Nat.le_refl _⟩ ?_
    refine vv_bif_ne C 23 dX8_cell_17 (by decide) (fun h_2 => ?_) (fun h_n2 => ?_)
    · obtain ⟨gn, hgn, hge, hgc⟩ := ix_of h_1.2.1 (n := 4) (fun z => h_1.2.2 (Int32.le_trans (sz_w hz) z)) (by omega)
      refine vv_aload_n C 0 dX8_cell_23 rfl rfl ?_
      refine vv_getr C (Cn := RX8) (T := TX8) (N := 5) sh_144 1 rfl rfl (by decide) iX8_cell_X8 (List.mem_of_getElem? (i := 1) rfl) rfl dX8_cell_24 ?_
      refine vv_aload_n C 0 dX8_cell_27 rfl rfl ?_
      refine vv_getr C (Cn := RX8) (T := TX8) (N := 5) sh_144 0 rfl rfl (by decide) iX8_cell_X8 (List.mem_of_getElem? (i := 2) rfl) rfl dX8_cell_28 ?_
      refine vv_callVV C [.ref (G.1 0)] (c_X2_keep M (h := (hN M)) hh.1 hh.2) sh_125 rfl (cwV 1 C.1.2.2.2.2 gX8_cell_X2_keep rfl rfl rfl (by decide +kernel) ⟨Nat.le_of_ble_eq_true rfl, Nat.le_of_ble_eq_true rfl⟩) rfl rfl rfl (Nat.le_of_ble_eq_true rfl) dX8_cell_31 ⟨Nat.le_refl _, Nat.le_refl _⟩ ?_
      refine vv_mem (M2 := kpS M) rfl ?_
      refine vv_aload_n C 0 dX8_cell_34 rfl rfl ?_
      refine vv_getr C (Cn := RX8) (T := TX8) (N := 5) sh_144 0 rfl rfl (by decide) iX8_cell_X8 (List.mem_of_getElem? (i := 2) rfl) rfl dX8_cell_35 ?_
      refine vv_iload_n C 1 dX8_cell_38 rfl rfl ?_
      refine vv_callVR C [.int x] (c_X6_drawer (kpS M) x) sh_0 rfl (cwV 1 C.1.2.2.2.2 gX8_cell_X6_drawer rfl rfl rfl (by decide +kernel) ⟨Nat.le_of_ble_eq_true rfl, Nat.le_of_ble_eq_true rfl⟩) rfl rfl rfl (Nat.le_of_ble_eq_true rfl) dX8_cell_39 ⟨Nat.le_refl _, Nat.le_refl _⟩ ?_
      refine vv_callVR C [] (c_X0_example (d := (dN x)) (dN_lt x) (kpS M)) (mw_Dw_d (dN_lt x)).1 rfl (cwV 0 C.1.2.2.2.2 gX8_cell_X0_example rfl rfl rfl (by decide +kernel) ⟨Nat.le_of_ble_eq_true rfl, Nat.le_of_ble_eq_true rfl⟩) rfl rfl rfl (Nat.le_of_ble_eq_true rfl) dX8_cell_42 ⟨Nat.le_refl _, Nat.le_refl _⟩ ?_
      refine vv_astore (ls2 := [some (.ref (G.1 144)), some (.int x), some (.int g), some (.int k), some (.int a), some (.int b), some (.ref (G.1 (4 + 10 * (dN x)))), none]) C 6 dX8_cell_45 (Nat.le_of_ble_eq_true rfl) rfl ?_
      refine vv_aload C 6 dX8_cell_47 rfl ?_
      refine vv_iload_n C 2 dX8_cell_49 rfl rfl ?_
      refine vv_callVI C [.int g] (c_X1_kindAt (mw_DwE (dN_lt x)) (kpS M) (i := g) (j := g.toNatClampNeg) (by rw [hgc]; exact hge) (by rw [hgc]; exact hgn)) (mw_DwE (dN_lt x)).1 rfl (cwV 1 C.1.2.2.2.2 gX8_cell_X1_kindAt rfl rfl rfl (by decide +kernel) ⟨Nat.le_of_ble_eq_true rfl, Nat.le_of_ble_eq_true rfl⟩) rfl rfl rfl (Nat.le_of_ble_eq_true rfl) dX8_cell_50 ⟨Nat.le_refl _, Nat.le_refl _⟩ ?_
      refine vv_istore (ls2 := [some (.ref (G.1 144)), some (.int x), some (.int g), some (.int k), some (.int a), some (.int b), some (.ref (G.1 (4 + 10 * (dN x)))), some (.int ((kpS M) (100 + 12 * (dN x) + 3 * g.toNatClampNeg)))]) C 7 dX8_cell_53 (Nat.le_of_ble_eq_true rfl) rfl ?_
      refine vv_aload C 6 dX8_cell_55 rfl ?_
      refine vv_iload_n C 2 dX8_cell_57 rfl rfl ?_
      refine vv_iload_n C 3 dX8_cell_58 rfl rfl ?_
      refine vv_iload C 4 dX8_cell_59 rfl ?_
      refine vv_iload C 5 dX8_cell_61 rfl ?_
      refine vv_callVV C [.int g, .int k, .int a, .int b] (c_X1_fill (mw_DwE (dN_lt x)) (kpS M) (i := g) (j := g.toNatClampNeg) (by rw [hgc]; exact hge) (by rw [hgc]; exact hgn) k a b) (mw_DwE (dN_lt x)).1 rfl (cwV 4 C.1.2.2.2.2 gX8_cell_X1_fill rfl rfl rfl (by decide +kernel) ⟨Nat.le_of_ble_eq_true rfl, Nat.le_of_ble_eq_true rfl⟩) rfl rfl rfl (Nat.le_of_ble_eq_true rfl) dX8_cell_63 ⟨Nat.le_refl _, Nat.le_refl _⟩ ?_
      refine vv_iload C 7 dX8_cell_66 rfl ?_
      exact vv_iret C hR dX8_cell_68 (qIP_of (by rw [show op_cell M x g k a b = (M (100 + 12 * dN x + 3 * g.toNatClampNeg), upd (upd (upd (kpS M) (100 + 12 * dN x + 3 * g.toNatClampNeg) k) (100 + 12 * dN x + 1 + 3 * g.toNatClampNeg) a) (100 + 12 * dN x + 2 + 3 * g.toNatClampNeg) b) from if_pos ⟨h_1, h_2⟩]; exact ⟨(kpS_lo (by have := dN_lt x; omega)), clO.rf⟩))
    · refine vv_bipush (v := (-11)) C dX8_cell_20 (by decide) ?_
      exact vv_iret C hR dX8_cell_22 (qIP_of (by rw [show op_cell M x g k a b = (-11, M) from if_neg (fun z => h_n2 z.2)]; exact ⟨rfl, clO.rf⟩))
theorem iX8_clear_X8 : ∀ w ∈ u_ws RX8 TX8 5, w ∈ wsX8_clear := fun w hw => (List.mem_cons_of_mem _ (List.mem_append_left _ (List.mem_append_left _ (List.mem_append_left _ (List.mem_append_left _ (List.mem_append_left _ (List.mem_append_right _ hw)))))))
set_option maxRecDepth 100000 in
set_option maxHeartbeats 4000000 in
theorem c_X8_clear {l : Launch} {G : mw_GG} (M : mw_M) (hw : wfV M) (hh : hiV M) (ht : txV M) (x : Int32) : mw_Met l yX8_clear wsX8_clear ({ frames := 6, cells := 0, slots := 0, locals := 127 } : Room) G [.ref (G.1 144), .int x] M (qIP (fun r M2 => r = (op_clear M x).1 ∧ clO M2 (op_clear M x).2)) := by
  refine mw_ofV (cc := cX8_clear) 4 (by decide) rfl rfl (Nat.le_of_ble_eq_true rfl) ?_
  intro p e s m args below meth c C hR hN0
  refine vv_loc (ls2 := [some (.ref (G.1 144)), some (.int x), none, none]) rfl ?_
  have hR0 := hw.wfR
  refine vv_iload_n C 1 dX8_clear_0 rfl rfl ?_
  refine vv_callSI C [.int x] (c_X8_isBit M x) (cwS 1 C.1.2.2.2.2 gX8_clear_X8_isBit rfl rfl rfl (by decide +kernel) ⟨Nat.le_of_ble_eq_true rfl, Nat.le_of_ble_eq_true rfl⟩) rfl rfl rfl (Nat.le_of_ble_eq_true rfl) dX8_clear_1 ⟨Nat.le_refl _, Nat.le_refl _⟩ ?_
  refine vv_bif_ne C 10 dX8_clear_4 (by decide) (fun h_1 => ?_) (fun h_2 => ?_)
  · refine vv_aload_n C 0 dX8_clear_10 rfl rfl ?_
    refine vv_getr C (Cn := RX8) (T := TX8) (N := 5) sh_144 1 rfl rfl (by decide) iX8_clear_X8 (List.mem_of_getElem? (i := 1) rfl) rfl dX8_clear_11 ?_
    refine vv_aload_n C 0 dX8_clear_14 rfl rfl ?_
    refine vv_getr C (Cn := RX8) (T := TX8) (N := 5) sh_144 0 rfl rfl (by decide) iX8_clear_X8 (List.mem_of_getElem? (i := 2) rfl) rfl dX8_clear_15 ?_
    refine vv_callVV C [.ref (G.1 0)] (c_X2_keep M (h := (hN M)) hh.1 hh.2) sh_125 rfl (cwV 1 C.1.2.2.2.2 gX8_clear_X2_keep rfl rfl rfl (by decide +kernel) ⟨Nat.le_of_ble_eq_true rfl, Nat.le_of_ble_eq_true rfl⟩) rfl rfl rfl (Nat.le_of_ble_eq_true rfl) dX8_clear_18 ⟨Nat.le_refl _, Nat.le_refl _⟩ ?_
    refine vv_mem (M2 := kpS M) rfl ?_
    refine vv_aload_n C 0 dX8_clear_21 rfl rfl ?_
    refine vv_getr C (Cn := RX8) (T := TX8) (N := 5) sh_144 0 rfl rfl (by decide) iX8_clear_X8 (List.mem_of_getElem? (i := 2) rfl) rfl dX8_clear_22 ?_
    refine vv_iload_n C 1 dX8_clear_25 rfl rfl ?_
    refine vv_callVR C [.int x] (c_X6_drawer (kpS M) x) sh_0 rfl (cwV 1 C.1.2.2.2.2 gX8_clear_X6_drawer rfl rfl rfl (by decide +kernel) ⟨Nat.le_of_ble_eq_true rfl, Nat.le_of_ble_eq_true rfl⟩) rfl rfl rfl (Nat.le_of_ble_eq_true rfl) dX8_clear_26 ⟨Nat.le_refl _, Nat.le_refl _⟩ ?_
    refine vv_callVR C [] (c_X0_example (d := (dN x)) (dN_lt x) (kpS M)) (mw_Dw_d (dN_lt x)).1 rfl (cwV 0 C.1.2.2.2.2 gX8_clear_X0_example rfl rfl rfl (by decide +kernel) ⟨Nat.le_of_ble_eq_true rfl, Nat.le_of_ble_eq_true rfl⟩) rfl rfl rfl (Nat.le_of_ble_eq_true rfl) dX8_clear_29 ⟨Nat.le_refl _, Nat.le_refl _⟩ ?_
    refine vv_astore_n (ls2 := [some (.ref (G.1 144)), some (.int x), some (.ref (G.1 (4 + 10 * (dN x)))), none]) C 2 dX8_clear_32 rfl (Nat.le_of_ble_eq_true rfl) rfl ?_
    refine vv_aload_n C 2 dX8_clear_33 rfl rfl ?_
    refine vv_callVI C [] (c_X1_otherKinds (mw_DwE (dN_lt x)) (kpS M) (fun i => decide (¬ (kpS M) (100 + 12 * (dN x) + 3 * i) = 0)) (fun i _ => rfl)) (mw_DwE (dN_lt x)).1 rfl (cwV 0 C.1.2.2.2.2 gX8_clear_X1_otherKinds rfl rfl rfl (by decide +kernel) ⟨Nat.le_of_ble_eq_true rfl, Nat.le_of_ble_eq_true rfl⟩) rfl rfl rfl (Nat.le_of_ble_eq_true rfl) dX8_clear_34 ⟨Nat.le_refl _, Nat.le_refl _⟩ ?_
    refine vv_istore_n (ls2 := [some (.ref (G.1 144)), some (.int x), some (.ref (G.1 (4 + 10 * (dN x)))), some (.int (nI (cntB (fun i => decide (¬ (kpS M) (100 + 12 * (dN x) + 3 * i) = 0)) 4)))]) C 3 dX8_clear_37 rfl (Nat.le_of_ble_eq_true rfl) rfl ?_
    refine vv_aload_n C 2 dX8_clear_38 rfl rfl ?_
    refine vv_callVV C [] (c_X1_wipe (mw_DwE (dN_lt x)) (kpS M)) (mw_DwE (dN_lt x)).1 rfl (cwV 0 C.1.2.2.2.2 gX8_clear_X1_wipe rfl rfl rfl (by decide +kernel) ⟨Nat.le_of_ble_eq_true rfl, Nat.le_of_ble_eq_true rfl⟩) rfl rfl rfl (Nat.le_of_ble_eq_true rfl) dX8_clear_39 ⟨Nat.le_refl _, Nat.le_refl _⟩ ?_
    refine vv_iload_n C 3 dX8_clear_42 rfl rfl ?_
    exact vv_iret C hR dX8_clear_43 (qIP_of (by rw [show op_clear M x = (nI (othN M (dN x)), s_zero (kpS M) (100 + 12 * dN x)) from if_pos h_1]; exact ⟨(congrArg nI (cntB_c (fun i hi => by rw [kpS_lo (by have := dN_lt x; omega)]))), clO.rf⟩))
  · refine vv_bipush (v := (-11)) C dX8_clear_7 (by decide) ?_
    exact vv_iret C hR dX8_clear_9 (qIP_of (by rw [show op_clear M x = (-11, M) from if_neg h_2]; exact ⟨rfl, clO.rf⟩))
theorem iX8_both_X8 : ∀ w ∈ u_ws RX8 TX8 5, w ∈ wsX8_both := fun w hw => (List.mem_cons_of_mem _ (List.mem_append_left _ (List.mem_append_left _ (List.mem_append_left _ (List.mem_append_left _ (List.mem_append_left _ (List.mem_append_right _ hw)))))))
set_option maxRecDepth 100000 in
set_option maxHeartbeats 4000000 in
theorem c_X8_both {l : Launch} {G : mw_GG} (M : mw_M) (hw : wfV M) (hh : hiV M) (ht : txV M) (x : Int32) : mw_Met l yX8_both wsX8_both ({ frames := 6, cells := 0, slots := 0, locals := 127 } : Room) G [.ref (G.1 144), .int x] M (qIP (fun r M2 => r = (op_both M x).1 ∧ clO M2 (op_both M x).2)) := by
  refine mw_ofV (cc := cX8_both) 2 (by decide) rfl rfl (Nat.le_of_ble_eq_true rfl) ?_
  intro p e s m args below meth c C hR hN0
  refine vv_loc (ls2 := [some (.ref (G.1 144)), some (.int x)]) rfl ?_
  have hR0 := hw.wfR
  refine vv_iload_n C 1 dX8_both_0 rfl rfl ?_
  refine vv_callSI C [.int x] (c_X8_isBit M x) (cwS 1 C.1.2.2.2.2 gX8_both_X8_isBit rfl rfl rfl (by decide +kernel) ⟨Nat.le_of_ble_eq_true rfl, Nat.le_of_ble_eq_true rfl⟩) rfl rfl rfl (Nat.le_of_ble_eq_true rfl) dX8_both_1 ⟨Nat.le_refl _, Nat.le_refl _⟩ ?_
  refine vv_bif_ne C 10 dX8_both_4 (by decide) (fun h_1 => ?_) (fun h_2 => ?_)
  · refine vv_aload_n C 0 dX8_both_10 rfl rfl ?_
    refine vv_getr C (Cn := RX8) (T := TX8) (N := 5) sh_144 1 rfl rfl (by decide) iX8_both_X8 (List.mem_of_getElem? (i := 1) rfl) rfl dX8_both_11 ?_
    refine vv_aload_n C 0 dX8_both_14 rfl rfl ?_
    refine vv_getr C (Cn := RX8) (T := TX8) (N := 5) sh_144 0 rfl rfl (by decide) iX8_both_X8 (List.mem_of_getElem? (i := 2) rfl) rfl dX8_both_15 ?_
    refine vv_callVV C [.ref (G.1 0)] (c_X2_keep M (h := (hN M)) hh.1 hh.2) sh_125 rfl (cwV 1 C.1.2.2.2.2 gX8_both_X2_keep rfl rfl rfl (by decide +kernel) ⟨Nat.le_of_ble_eq_true rfl, Nat.le_of_ble_eq_true rfl⟩) rfl rfl rfl (Nat.le_of_ble_eq_true rfl) dX8_both_18 ⟨Nat.le_refl _, Nat.le_refl _⟩ ?_
    refine vv_mem (M2 := kpS M) rfl ?_
    refine vv_aload_n C 0 dX8_both_21 rfl rfl ?_
    refine vv_getr C (Cn := RX8) (T := TX8) (N := 5) sh_144 0 rfl rfl (by decide) iX8_both_X8 (List.mem_of_getElem? (i := 2) rfl) rfl dX8_both_22 ?_
    refine vv_iload_n C 1 dX8_both_25 rfl rfl ?_
    refine vv_callVI C [.int x] (c_X6_askBoth (kpS M) x) sh_0 rfl (cwV 1 C.1.2.2.2.2 gX8_both_X6_askBoth rfl rfl rfl (by decide +kernel) ⟨Nat.le_of_ble_eq_true rfl, Nat.le_of_ble_eq_true rfl⟩) rfl rfl rfl (Nat.le_of_ble_eq_true rfl) dX8_both_26 ⟨Nat.le_refl _, Nat.le_refl _⟩ ?_
    exact vv_iret C hR dX8_both_29 (qIP_of (by rw [show op_both M x = (M 124, upd (kpS M) 124 x) from if_pos h_1]; exact ⟨(kpS_lo (by omega)), clO.rf⟩))
  · refine vv_bipush (v := (-11)) C dX8_both_7 (by decide) ?_
    exact vv_iret C hR dX8_both_9 (qIP_of (by rw [show op_both M x = (-11, M) from if_neg h_2]; exact ⟨rfl, clO.rf⟩))
theorem iX8_cellOf_X8 : ∀ w ∈ u_ws RX8 TX8 5, w ∈ wsX8_cellOf := fun w hw => (List.mem_cons_of_mem _ (List.mem_append_left _ (List.mem_append_left _ (List.mem_append_left _ (List.mem_append_left _ (List.mem_append_right _ hw))))))
set_option maxRecDepth 100000 in
set_option maxHeartbeats 4000000 in
theorem c_X8_cellOf {l : Launch} {G : mw_GG} (M : mw_M) (hw : wfV M) (hh : hiV M) (ht : txV M) (x g w : Int32) : mw_Met l yX8_cellOf wsX8_cellOf ({ frames := 3, cells := 0, slots := 0, locals := 68 } : Room) G [.ref (G.1 144), .int x, .int g, .int w] M (qIP (fun r M2 => r = (op_cellOf M x g w).1 ∧ clO M2 (op_cellOf M x g w).2)) := by
  refine mw_ofV (cc := cX8_cellOf) 5 (by decide) rfl rfl (Nat.le_of_ble_eq_true rfl) ?_
  intro p e s m args below meth c C hR hN0
  refine vv_loc (ls2 := [some (.ref (G.1 144)), some (.int x), some (.int g), some (.int w), none]) rfl ?_
  have hR0 := hw.wfR
  have hz : szP M (dN x) := szD hw x
  refine vv_aload_n C 0 dX8_cellOf_0 rfl rfl ?_
  refine vv_iload_n C 1 dX8_cellOf_1 rfl rfl ?_
  refine vv_iload_n C 2 dX8_cellOf_2 rfl rfl ?_
  refine vv_callVI C [.int x, .int g] (c_X8_isCell M x g) sh_144 rfl (cwV 2 C.1.2.2.2.2 gX8_cellOf_X8_isCell rfl rfl rfl (by decide +kernel) ⟨Nat.le_of_ble_eq_true rfl, Nat.le_of_ble_eq_true rfl⟩) rfl rfl rfl (Nat.le_of_ble_eq_true rfl) dX8_cellOf_3 ⟨Nat.le_refl _, Nat.le_refl _⟩ ?_
  refine vv_bif_eq C 18 dX8_cellOf_6 (by decide) (fun h_n1 => ?_) (fun h_1 => ?_)
  · refine vv_bipush (v := (-11)) C dX8_cellOf_18 (by decide) ?_
    exact vv_iret C hR dX8_cellOf_20 (qIP_of (by rw [show op_cellOf M x g w = (-11, M) from if_neg (fun z => h_n1 z.1)]; exact ⟨rfl, clO.rf⟩))
  · refine vv_iload_n C 3 dX8_cellOf_9 rfl rfl ?_
    refine vv_if_lt C 18 dX8_cellOf_10 (by decide) (fun h_lt => ?_) (fun h_nlt => ?_)
    · refine vv_bipush (v := (-11)) C dX8_cellOf_18 (by decide) ?_
      exact vv_iret C hR dX8_cellOf_20 (qIP_of (by rw [show op_cellOf M x g w = (-11, M) from if_neg (fun z => z.2.1 h_lt)]; exact ⟨rfl, clO.rf⟩))
    · refine vv_iload_n C 3 dX8_cellOf_13 rfl rfl ?_
      refine vv_iconst (v := 3) C dX8_cellOf_14 (by decide) ?_
      refine vv_icmp_le C 21 dX8_cellOf_15 (by decide) (fun h_le => ?_) (fun h_gt => ?_)
      · obtain ⟨gn, hgn, hge, hgc⟩ := ix_of h_1.2.1 (n := 4) (fun z => h_1.2.2 (Int32.le_trans (sz_w hz) z)) (by omega)
        refine vv_aload_n C 0 dX8_cellOf_21 rfl rfl ?_
        refine vv_getr C (Cn := RX8) (T := TX8) (N := 5) sh_144 0 rfl rfl (by decide) iX8_cellOf_X8 (List.mem_of_getElem? (i := 1) rfl) rfl dX8_cellOf_22 ?_
        refine vv_iload_n C 1 dX8_cellOf_25 rfl rfl ?_
        refine vv_callVR C [.int x] (c_X6_drawer M x) sh_0 rfl (cwV 1 C.1.2.2.2.2 gX8_cellOf_X6_drawer rfl rfl rfl (by decide +kernel) ⟨Nat.le_of_ble_eq_true rfl, Nat.le_of_ble_eq_true rfl⟩) rfl rfl rfl (Nat.le_of_ble_eq_true rfl) dX8_cellOf_26 ⟨Nat.le_refl _, Nat.le_refl _⟩ ?_
        refine vv_astore (ls2 := [some (.ref (G.1 144)), some (.int x), some (.int g), some (.int w), some (.ref (G.1 (1 + 10 * (dN x))))]) C 4 dX8_cellOf_29 (Nat.le_of_ble_eq_true rfl) rfl ?_
        refine vv_iload_n C 3 dX8_cellOf_31 rfl rfl ?_
        rcases Classical.em (w = 0) with h_7 | h_8
        · refine vv_tsIn C 0 60 dX8_cellOf_32 h_7 (by decide) (by decide) rfl (by decide) ?_
          refine vv_aload C 4 dX8_cellOf_60 rfl ?_
          refine vv_callVR C [] (c_X0_example (d := (dN x)) (dN_lt x) M) (mw_Dw_d (dN_lt x)).1 rfl (cwV 0 C.1.2.2.2.2 gX8_cellOf_X0_example rfl rfl rfl (by decide +kernel) ⟨Nat.le_of_ble_eq_true rfl, Nat.le_of_ble_eq_true rfl⟩) rfl rfl rfl (Nat.le_of_ble_eq_true rfl) dX8_cellOf_62 ⟨Nat.le_refl _, Nat.le_refl _⟩ ?_
          refine vv_iload_n C 2 dX8_cellOf_65 rfl rfl ?_
          refine vv_callVI C [.int g] (c_X1_kindAt (mw_DwE (dN_lt x)) M (i := g) (j := g.toNatClampNeg) (by rw [hgc]; exact hge) (by rw [hgc]; exact hgn)) (mw_DwE (dN_lt x)).1 rfl (cwV 1 C.1.2.2.2.2 gX8_cellOf_X1_kindAt rfl rfl rfl (by decide +kernel) ⟨Nat.le_of_ble_eq_true rfl, Nat.le_of_ble_eq_true rfl⟩) rfl rfl rfl (Nat.le_of_ble_eq_true rfl) dX8_cellOf_66 ⟨Nat.le_refl _, Nat.le_refl _⟩ ?_
          exact vv_iret C hR dX8_cellOf_69 (qIP_of (by rw [show op_cellOf M x g w = (cofI M (dN x) g.toNatClampNeg w, M) from if_pos ⟨h_1, h_nlt, Int32.not_lt.mpr h_le⟩]; exact ⟨(by simp [cofI, h_7]), clO.rf⟩))
        rcases Classical.em (w = 1) with h_9 | h_10
        · refine vv_tsIn C 1 70 dX8_cellOf_32 h_9 (by decide) (by decide) rfl (by decide) ?_
          refine vv_aload C 4 dX8_cellOf_70 rfl ?_
          refine vv_callVR C [] (c_X0_example (d := (dN x)) (dN_lt x) M) (mw_Dw_d (dN_lt x)).1 rfl (cwV 0 C.1.2.2.2.2 gX8_cellOf_X0_example rfl rfl rfl (by decide +kernel) ⟨Nat.le_of_ble_eq_true rfl, Nat.le_of_ble_eq_true rfl⟩) rfl rfl rfl (Nat.le_of_ble_eq_true rfl) dX8_cellOf_72 ⟨Nat.le_refl _, Nat.le_refl _⟩ ?_
          refine vv_iload_n C 2 dX8_cellOf_75 rfl rfl ?_
          refine vv_callVI C [.int g] (c_X1_firstAt (mw_DwE (dN_lt x)) M (i := g) (j := g.toNatClampNeg) (by rw [hgc]; exact hge) (by rw [hgc]; exact hgn)) (mw_DwE (dN_lt x)).1 rfl (cwV 1 C.1.2.2.2.2 gX8_cellOf_X1_firstAt rfl rfl rfl (by decide +kernel) ⟨Nat.le_of_ble_eq_true rfl, Nat.le_of_ble_eq_true rfl⟩) rfl rfl rfl (Nat.le_of_ble_eq_true rfl) dX8_cellOf_76 ⟨Nat.le_refl _, Nat.le_refl _⟩ ?_
          exact vv_iret C hR dX8_cellOf_79 (qIP_of (by rw [show op_cellOf M x g w = (cofI M (dN x) g.toNatClampNeg w, M) from if_pos ⟨h_1, h_nlt, Int32.not_lt.mpr h_le⟩]; exact ⟨(by simp [cofI, h_8, h_9]), clO.rf⟩))
        rcases Classical.em (w = 2) with h_11 | h_12
        · refine vv_tsIn C 2 80 dX8_cellOf_32 h_11 (by decide) (by decide) rfl (by decide) ?_
          refine vv_aload C 4 dX8_cellOf_80 rfl ?_
          refine vv_callVR C [] (c_X0_example (d := (dN x)) (dN_lt x) M) (mw_Dw_d (dN_lt x)).1 rfl (cwV 0 C.1.2.2.2.2 gX8_cellOf_X0_example rfl rfl rfl (by decide +kernel) ⟨Nat.le_of_ble_eq_true rfl, Nat.le_of_ble_eq_true rfl⟩) rfl rfl rfl (Nat.le_of_ble_eq_true rfl) dX8_cellOf_82 ⟨Nat.le_refl _, Nat.le_refl _⟩ ?_
          refine vv_iload_n C 2 dX8_cellOf_85 rfl rfl ?_
          refine vv_callVI C [.int g] (c_X1_secondAt (mw_DwE (dN_lt x)) M (i := g) (j := g.toNatClampNeg) (by rw [hgc]; exact hge) (by rw [hgc]; exact hgn)) (mw_DwE (dN_lt x)).1 rfl (cwV 1 C.1.2.2.2.2 gX8_cellOf_X1_secondAt rfl rfl rfl (by decide +kernel) ⟨Nat.le_of_ble_eq_true rfl, Nat.le_of_ble_eq_true rfl⟩) rfl rfl rfl (Nat.le_of_ble_eq_true rfl) dX8_cellOf_86 ⟨Nat.le_refl _, Nat.le_refl _⟩ ?_
          exact vv_iret C hR dX8_cellOf_89 (qIP_of (by rw [show op_cellOf M x g w = (cofI M (dN x) g.toNatClampNeg w, M) from if_pos ⟨h_1, h_nlt, Int32.not_lt.mpr h_le⟩]; exact ⟨(by simp [cofI, h_8, h_10, h_11]), clO.rf⟩))
        refine vv_tsOut C 90 dX8_cellOf_32 (by have t0 := lv_neT (a := 0) h_8 (by decide); have t1 := lv_neT (a := 1) h_10 (by decide); have t2 := lv_neT (a := 2) h_12 (by decide); omega) (by decide) ?_
        refine vv_aload C 4 dX8_cellOf_90 rfl ?_
        refine vv_iload_n C 2 dX8_cellOf_92 rfl rfl ?_
        refine vv_callVI C [.int g] (c_X0_countFitting (d := (dN x)) (dN_lt x) M hz (n := (nN M (dN x))) (j := g.toNatClampNeg) hz.n.1 hz.n.2 (by rw [hgc]; exact hgn) (x := g) (by rw [hgc]; exact hge)) (mw_Dw_d (dN_lt x)).1 rfl (cwV 1 C.1.2.2.2.2 gX8_cellOf_X0_countFitting rfl rfl rfl (by decide +kernel) ⟨Nat.le_of_ble_eq_true rfl, Nat.le_of_ble_eq_true rfl⟩) rfl rfl rfl (Nat.le_of_ble_eq_true rfl) dX8_cellOf_93 ⟨Nat.le_refl _, Nat.le_refl _⟩ ?_
        exact vv_iret C hR dX8_cellOf_96 (qIP_of (by rw [show op_cellOf M x g w = (cofI M (dN x) g.toNatClampNeg w, M) from if_pos ⟨h_1, h_nlt, Int32.not_lt.mpr h_le⟩]; exact ⟨(by simp [cofI, h_8, h_10, h_12]), clO.rf⟩))
      · refine vv_bipush (v := (-11)) C dX8_cellOf_18 (by decide) ?_
        exact vv_iret C hR dX8_cellOf_20 (qIP_of (by rw [show op_cellOf M x g w = (-11, M) from if_neg (fun z => z.2.2 (Int32.not_le.mp h_gt))]; exact ⟨rfl, clO.rf⟩))
theorem iX8_type_X8 : ∀ w ∈ u_ws RX8 TX8 5, w ∈ wsX8_type := fun w hw => (List.mem_cons_of_mem _ (List.mem_append_left _ (List.mem_append_left _ (List.mem_append_right _ hw))))
set_option maxRecDepth 100000 in
set_option maxHeartbeats 4000000 in
theorem c_X8_type {l : Launch} {G : mw_GG} (M : mw_M) (hw : wfV M) (hh : hiV M) (ht : txV M) (x : Int32) : mw_Met l yX8_type wsX8_type ({ frames := 2, cells := 0, slots := 0, locals := 43 } : Room) G [.ref (G.1 144), .int x] M (qIP (fun r M2 => r = (op_type M x).1 ∧ clO M2 (op_type M x).2)) := by
  refine mw_ofV (cc := cX8_type) 2 (by decide) rfl rfl (Nat.le_of_ble_eq_true rfl) ?_
  intro p e s m args below meth c C hR hN0
  refine vv_loc (ls2 := [some (.ref (G.1 144)), some (.int x)]) rfl ?_
  have hR0 := hw.wfR
  refine vv_iload_n C 1 dX8_type_0 rfl rfl ?_
  refine vv_bipush (v := 32) C dX8_type_1 (by decide) ?_
  refine vv_icmp_lt C 12 dX8_type_3 (by decide) (fun h_1 => ?_) (fun h_2 => ?_)
  · refine vv_bipush (v := (-11)) C dX8_type_12 (by decide) ?_
    exact vv_iret C hR dX8_type_14 (qIP_of (by rw [show op_type M x = (-11, M) from if_neg (fun z => z.1 h_1)]; exact ⟨rfl, clO.rf⟩))
  · refine vv_iload_n C 1 dX8_type_6 rfl rfl ?_
    refine vv_bipush (v := 126) C dX8_type_7 (by decide) ?_
    refine vv_icmp_le C 15 dX8_type_9 (by decide) (fun h_3 => ?_) (fun h_4 => ?_)
    · refine vv_aload_n C 0 dX8_type_15 rfl rfl ?_
      refine vv_getr C (Cn := RX8) (T := TX8) (N := 5) sh_144 3 rfl rfl (by decide) iX8_type_X8 (List.mem_of_getElem? (i := 1) rfl) rfl dX8_type_16 ?_
      refine vv_callVI C [] (c_X7_length M) sh_133 rfl (cwV 0 C.1.2.2.2.2 gX8_type_X7_length rfl rfl rfl (by decide +kernel) ⟨Nat.le_of_ble_eq_true rfl, Nat.le_of_ble_eq_true rfl⟩) rfl rfl rfl (Nat.le_of_ble_eq_true rfl) dX8_type_19 ⟨Nat.le_refl _, Nat.le_refl _⟩ ?_
      refine vv_bipush (v := 60) C dX8_type_22 (by decide) ?_
      refine vv_icmp_lt C 30 dX8_type_24 (by decide) (fun h_lt => ?_) (fun h_nlt => ?_)
      · refine vv_aload_n C 0 dX8_type_30 rfl rfl ?_
        refine vv_getr C (Cn := RX8) (T := TX8) (N := 5) sh_144 3 rfl rfl (by decide) iX8_type_X8 (List.mem_of_getElem? (i := 1) rfl) rfl dX8_type_31 ?_
        refine vv_iload_n C 1 dX8_type_34 rfl rfl ?_
        refine vv_callVI C [.int x] (c_X7_append M (t := tN M) ht.1 (by rw [ht.1] at h_lt; exact (nI_ltI (b := 60) (by have := ht.2; omega) (by omega)).mp h_lt) x) sh_133 rfl (cwV 1 C.1.2.2.2.2 gX8_type_X7_append rfl rfl rfl (by decide +kernel) ⟨Nat.le_of_ble_eq_true rfl, Nat.le_of_ble_eq_true rfl⟩) rfl rfl rfl (Nat.le_of_ble_eq_true rfl) dX8_type_35 ⟨Nat.le_refl _, Nat.le_refl _⟩ ?_
        exact vv_iret C hR dX8_type_38 (qIP_of (by rw [show op_type M x = (nI (tN M + 1), upd (upd M (1000 + tN M) x) 653 (nI (tN M + 1))) from (if_pos ⟨h_2, Int32.not_lt.mpr h_3⟩).trans (if_pos h_lt)]; exact ⟨rfl, clO.rf⟩))
      · refine vv_bipush (v := (-13)) C dX8_type_27 (by decide) ?_
        exact vv_iret C hR dX8_type_29 (qIP_of (by rw [show op_type M x = (-13, M) from (if_pos ⟨h_2, Int32.not_lt.mpr h_3⟩).trans (if_neg h_nlt)]; exact ⟨rfl, clO.rf⟩))
    · refine vv_bipush (v := (-11)) C dX8_type_12 (by decide) ?_
      exact vv_iret C hR dX8_type_14 (qIP_of (by rw [show op_type M x = (-11, M) from if_neg (fun z => z.2 (Int32.not_le.mp h_4))]; exact ⟨rfl, clO.rf⟩))
theorem iX8_clearText_X8 : ∀ w ∈ u_ws RX8 TX8 5, w ∈ wsX8_clearText := fun w hw => (List.mem_cons_of_mem _ (List.mem_append_left _ (List.mem_append_right _ hw)))
set_option maxRecDepth 100000 in
set_option maxHeartbeats 4000000 in
theorem c_X8_clearText {l : Launch} {G : mw_GG} (M : mw_M) (hw : wfV M) (hh : hiV M) (ht : txV M) : mw_Met l yX8_clearText wsX8_clearText ({ frames := 1, cells := 0, slots := 0, locals := 21 } : Room) G [.ref (G.1 144)] M (qIP (fun r M2 => r = (op_clearText M).1 ∧ clO M2 (op_clearText M).2)) := by
  refine mw_ofV (cc := cX8_clearText) 1 (by decide) rfl rfl (Nat.le_of_ble_eq_true rfl) ?_
  intro p e s m args below meth c C hR hN0
  refine vv_loc (ls2 := [some (.ref (G.1 144))]) rfl ?_
  have hR0 := hw.wfR
  refine vv_aload_n C 0 dX8_clearText_0 rfl rfl ?_
  refine vv_getr C (Cn := RX8) (T := TX8) (N := 5) sh_144 3 rfl rfl (by decide) iX8_clearText_X8 (List.mem_of_getElem? (i := 1) rfl) rfl dX8_clearText_1 ?_
  refine vv_callVI C [] (c_X7_empty M) sh_133 rfl (cwV 0 C.1.2.2.2.2 gX8_clearText_X7_empty rfl rfl rfl (by decide +kernel) ⟨Nat.le_of_ble_eq_true rfl, Nat.le_of_ble_eq_true rfl⟩) rfl rfl rfl (Nat.le_of_ble_eq_true rfl) dX8_clearText_4 ⟨Nat.le_refl _, Nat.le_refl _⟩ ?_
  exact vv_iret C hR dX8_clearText_7 (qIP_of ⟨rfl, clO.rf⟩)
theorem iX8_count_X8 : ∀ w ∈ u_ws RX8 TX8 5, w ∈ wsX8_count := fun w hw => (List.mem_cons_of_mem _ (List.mem_append_left _ (List.mem_append_left _ (List.mem_append_left _ (List.mem_append_left _ (List.mem_append_left _ (List.mem_append_left _ (List.mem_append_right _ hw))))))))
set_option maxRecDepth 100000 in
set_option maxHeartbeats 4000000 in
theorem c_X8_count {l : Launch} {G : mw_GG} (M : mw_M) (hw : wfV M) (hh : hiV M) (ht : txV M) (w : Int32) : mw_Met l yX8_count wsX8_count ({ frames := 2, cells := 0, slots := 0, locals := 43 } : Room) G [.ref (G.1 144), .int w] M (qIP (fun r M2 => r = (op_count M w).1 ∧ clO M2 (op_count M w).2)) := by
  refine mw_ofV (cc := cX8_count) 2 (by decide) rfl rfl (Nat.le_of_ble_eq_true rfl) ?_
  intro p e s m args below meth c C hR hN0
  refine vv_loc (ls2 := [some (.ref (G.1 144)), some (.int w)]) rfl ?_
  have hR0 := hw.wfR
  refine vv_iload_n C 1 dX8_count_0 rfl rfl ?_
  rcases Classical.em (w = 0) with h_1 | h_2
  · refine vv_tsIn C 0 72 dX8_count_1 h_1 (by decide) (by decide) rfl (by decide) ?_
    refine vv_aload_n C 0 dX8_count_72 rfl rfl ?_
    refine vv_getr C (Cn := RX8) (T := TX8) (N := 5) sh_144 0 rfl rfl (by decide) iX8_count_X8 (List.mem_of_getElem? (i := 1) rfl) rfl dX8_count_73 ?_
    refine vv_iload_n C 1 dX8_count_76 rfl rfl ?_
    refine vv_callVR C [.int w] (c_X6_drawer M w) sh_0 rfl (cwV 1 C.1.2.2.2.2 gX8_count_X6_drawer rfl rfl rfl (by decide +kernel) ⟨Nat.le_of_ble_eq_true rfl, Nat.le_of_ble_eq_true rfl⟩) rfl rfl rfl (Nat.le_of_ble_eq_true rfl) dX8_count_77 ⟨Nat.le_refl _, Nat.le_refl _⟩ ?_
    refine vv_topr (b := G.1 (1 + 10 * 0)) (congrArg G.1 (show 1 + 10 * dN w = 1 + 10 * 0 by rw [h_1]; decide)) ?_
    refine vv_callVI C [] (c_X0_size (d := 0) (show 0 < 2 by decide) M) dw_0.1 rfl (cwV 0 C.1.2.2.2.2 gX8_count_X0_size rfl rfl rfl (by decide +kernel) ⟨Nat.le_of_ble_eq_true rfl, Nat.le_of_ble_eq_true rfl⟩) rfl rfl rfl (Nat.le_of_ble_eq_true rfl) dX8_count_80 ⟨Nat.le_refl _, Nat.le_refl _⟩ ?_
    exact vv_iret C hR dX8_count_83 (qIP_of ⟨by simp [op_count, cntI, othN, bI, h_1], clO.rf⟩)
  rcases Classical.em (w = 1) with h_3 | h_4
  · refine vv_tsIn C 1 72 dX8_count_1 h_3 (by decide) (by decide) rfl (by decide) ?_
    refine vv_aload_n C 0 dX8_count_72 rfl rfl ?_
    refine vv_getr C (Cn := RX8) (T := TX8) (N := 5) sh_144 0 rfl rfl (by decide) iX8_count_X8 (List.mem_of_getElem? (i := 1) rfl) rfl dX8_count_73 ?_
    refine vv_iload_n C 1 dX8_count_76 rfl rfl ?_
    refine vv_callVR C [.int w] (c_X6_drawer M w) sh_0 rfl (cwV 1 C.1.2.2.2.2 gX8_count_X6_drawer rfl rfl rfl (by decide +kernel) ⟨Nat.le_of_ble_eq_true rfl, Nat.le_of_ble_eq_true rfl⟩) rfl rfl rfl (Nat.le_of_ble_eq_true rfl) dX8_count_77 ⟨Nat.le_refl _, Nat.le_refl _⟩ ?_
    refine vv_topr (b := G.1 (1 + 10 * 1)) (congrArg G.1 (show 1 + 10 * dN w = 1 + 10 * 1 by rw [h_3]; decide)) ?_
    refine vv_callVI C [] (c_X0_size (d := 1) (show 1 < 2 by decide) M) dw_1.1 rfl (cwV 0 C.1.2.2.2.2 gX8_count_X0_size rfl rfl rfl (by decide +kernel) ⟨Nat.le_of_ble_eq_true rfl, Nat.le_of_ble_eq_true rfl⟩) rfl rfl rfl (Nat.le_of_ble_eq_true rfl) dX8_count_80 ⟨Nat.le_refl _, Nat.le_refl _⟩ ?_
    exact vv_iret C hR dX8_count_83 (qIP_of ⟨by simp [op_count, cntI, othN, bI, h_2, h_3], clO.rf⟩)
  rcases Classical.em (w = 2) with h_5 | h_6
  · refine vv_tsIn C 2 84 dX8_count_1 h_5 (by decide) (by decide) rfl (by decide) ?_
    refine vv_aload_n C 0 dX8_count_84 rfl rfl ?_
    refine vv_getr C (Cn := RX8) (T := TX8) (N := 5) sh_144 0 rfl rfl (by decide) iX8_count_X8 (List.mem_of_getElem? (i := 1) rfl) rfl dX8_count_85 ?_
    refine vv_iload_n C 1 dX8_count_88 rfl rfl ?_
    refine vv_iconst (v := 2) C dX8_count_89 (by decide) ?_
    refine vv_isub C dX8_count_90 ?_
    refine vv_callVR C [.int (w - 2)] (c_X6_drawer M (w - 2)) sh_0 rfl (cwV 1 C.1.2.2.2.2 gX8_count_X6_drawer rfl rfl rfl (by decide +kernel) ⟨Nat.le_of_ble_eq_true rfl, Nat.le_of_ble_eq_true rfl⟩) rfl rfl rfl (Nat.le_of_ble_eq_true rfl) dX8_count_91 ⟨Nat.le_refl _, Nat.le_refl _⟩ ?_
    refine vv_topr (b := G.1 (1 + 10 * 0)) (congrArg G.1 (show 1 + 10 * dN (w - 2) = 1 + 10 * 0 by rw [h_5]; decide)) ?_
    refine vv_callVI C [] (c_X0_width (d := 0) (show 0 < 2 by decide) M) dw_0.1 rfl (cwV 0 C.1.2.2.2.2 gX8_count_X0_width rfl rfl rfl (by decide +kernel) ⟨Nat.le_of_ble_eq_true rfl, Nat.le_of_ble_eq_true rfl⟩) rfl rfl rfl (Nat.le_of_ble_eq_true rfl) dX8_count_94 ⟨Nat.le_refl _, Nat.le_refl _⟩ ?_
    exact vv_iret C hR dX8_count_97 (qIP_of ⟨by simp [op_count, cntI, othN, bI, h_2, h_4, h_5], clO.rf⟩)
  rcases Classical.em (w = 3) with h_7 | h_8
  · refine vv_tsIn C 3 84 dX8_count_1 h_7 (by decide) (by decide) rfl (by decide) ?_
    refine vv_aload_n C 0 dX8_count_84 rfl rfl ?_
    refine vv_getr C (Cn := RX8) (T := TX8) (N := 5) sh_144 0 rfl rfl (by decide) iX8_count_X8 (List.mem_of_getElem? (i := 1) rfl) rfl dX8_count_85 ?_
    refine vv_iload_n C 1 dX8_count_88 rfl rfl ?_
    refine vv_iconst (v := 2) C dX8_count_89 (by decide) ?_
    refine vv_isub C dX8_count_90 ?_
    refine vv_callVR C [.int (w - 2)] (c_X6_drawer M (w - 2)) sh_0 rfl (cwV 1 C.1.2.2.2.2 gX8_count_X6_drawer rfl rfl rfl (by decide +kernel) ⟨Nat.le_of_ble_eq_true rfl, Nat.le_of_ble_eq_true rfl⟩) rfl rfl rfl (Nat.le_of_ble_eq_true rfl) dX8_count_91 ⟨Nat.le_refl _, Nat.le_refl _⟩ ?_
    refine vv_topr (b := G.1 (1 + 10 * 1)) (congrArg G.1 (show 1 + 10 * dN (w - 2) = 1 + 10 * 1 by rw [h_7]; decide)) ?_
    refine vv_callVI C [] (c_X0_width (d := 1) (show 1 < 2 by decide) M) dw_1.1 rfl (cwV 0 C.1.2.2.2.2 gX8_count_X0_width rfl rfl rfl (by decide +kernel) ⟨Nat.le_of_ble_eq_true rfl, Nat.le_of_ble_eq_true rfl⟩) rfl rfl rfl (Nat.le_of_ble_eq_true rfl) dX8_count_94 ⟨Nat.le_refl _, Nat.le_refl _⟩ ?_
    exact vv_iret C hR dX8_count_97 (qIP_of ⟨by simp [op_count, cntI, othN, bI, h_2, h_4, h_6, h_7], clO.rf⟩)
  rcases Classical.em (w = 4) with h_9 | h_10
  · refine vv_tsIn C 4 98 dX8_count_1 h_9 (by decide) (by decide) rfl (by decide) ?_
    refine vv_aload_n C 0 dX8_count_98 rfl rfl ?_
    refine vv_getr C (Cn := RX8) (T := TX8) (N := 5) sh_144 0 rfl rfl (by decide) iX8_count_X8 (List.mem_of_getElem? (i := 1) rfl) rfl dX8_count_99 ?_
    refine vv_callVI C [] (c_X6_isOfBoth M) sh_0 rfl (cwV 0 C.1.2.2.2.2 gX8_count_X6_isOfBoth rfl rfl rfl (by decide +kernel) ⟨Nat.le_of_ble_eq_true rfl, Nat.le_of_ble_eq_true rfl⟩) rfl rfl rfl (Nat.le_of_ble_eq_true rfl) dX8_count_102 ⟨Nat.le_refl _, Nat.le_refl _⟩ ?_
    refine vv_bif_eq C 112 dX8_count_105 (by decide) (fun h_11 => ?_) (fun h_12 => ?_)
    · refine vv_iconst (v := 0) C dX8_count_112 (by decide) ?_
      exact vv_iret C hR dX8_count_113 (qIP_of ⟨by simp [op_count, cntI, othN, bI, h_2, h_4, h_6, h_8, h_9, h_11], clO.rf⟩)
    · refine vv_iconst (v := 1) C dX8_count_108 (by decide) ?_
      refine vv_goto C 113 dX8_count_109 (by decide) ?_
      exact vv_iret C hR dX8_count_113 (qIP_of ⟨by simp [op_count, cntI, othN, bI, h_2, h_4, h_6, h_8, h_9, h_12], clO.rf⟩)
  rcases Classical.em (w = 5) with h_13 | h_14
  · refine vv_tsIn C 5 114 dX8_count_1 h_13 (by decide) (by decide) rfl (by decide) ?_
    refine vv_aload_n C 0 dX8_count_114 rfl rfl ?_
    refine vv_getr C (Cn := RX8) (T := TX8) (N := 5) sh_144 0 rfl rfl (by decide) iX8_count_X8 (List.mem_of_getElem? (i := 1) rfl) rfl dX8_count_115 ?_
    refine vv_iconst (v := 0) C dX8_count_118 (by decide) ?_
    refine vv_callVR C [.int 0] (c_X6_drawer M 0) sh_0 rfl (cwV 1 C.1.2.2.2.2 gX8_count_X6_drawer rfl rfl rfl (by decide +kernel) ⟨Nat.le_of_ble_eq_true rfl, Nat.le_of_ble_eq_true rfl⟩) rfl rfl rfl (Nat.le_of_ble_eq_true rfl) dX8_count_119 ⟨Nat.le_refl _, Nat.le_refl _⟩ ?_
    refine vv_topr (b := G.1 (1 + 10 * 0)) (by simp [dN]) ?_
    refine vv_callVR C [] (c_X0_example (d := 0) (show 0 < 2 by decide) M) dw_0.1 rfl (cwV 0 C.1.2.2.2.2 gX8_count_X0_example rfl rfl rfl (by decide +kernel) ⟨Nat.le_of_ble_eq_true rfl, Nat.le_of_ble_eq_true rfl⟩) rfl rfl rfl (Nat.le_of_ble_eq_true rfl) dX8_count_122 ⟨Nat.le_refl _, Nat.le_refl _⟩ ?_
    refine vv_callVI C [] (c_X1_otherKinds (mw_DwE (show 0 < 2 by decide)) M (fun i => decide (¬ M (100 + 12 * 0 + 3 * i) = 0)) (fun i _ => rfl)) (mw_DwE (show 0 < 2 by decide)).1 rfl (cwV 0 C.1.2.2.2.2 gX8_count_X1_otherKinds rfl rfl rfl (by decide +kernel) ⟨Nat.le_of_ble_eq_true rfl, Nat.le_of_ble_eq_true rfl⟩) rfl rfl rfl (Nat.le_of_ble_eq_true rfl) dX8_count_125 ⟨Nat.le_refl _, Nat.le_refl _⟩ ?_
    refine vv_aload_n C 0 dX8_count_128 rfl rfl ?_
    refine vv_getr C (Cn := RX8) (T := TX8) (N := 5) sh_144 0 rfl rfl (by decide) iX8_count_X8 (List.mem_of_getElem? (i := 1) rfl) rfl dX8_count_129 ?_
    refine vv_iconst (v := 1) C dX8_count_132 (by decide) ?_
    refine vv_callVR C [.int 1] (c_X6_drawer M 1) sh_0 rfl (cwV 1 C.1.2.2.2.2 gX8_count_X6_drawer rfl rfl rfl (by decide +kernel) ⟨Nat.le_of_ble_eq_true rfl, Nat.le_of_ble_eq_true rfl⟩) rfl rfl rfl (Nat.le_of_ble_eq_true rfl) dX8_count_133 ⟨Nat.le_refl _, Nat.le_refl _⟩ ?_
    refine vv_topr (b := G.1 (1 + 10 * 1)) (by simp [dN]) ?_
    refine vv_callVR C [] (c_X0_example (d := 1) (show 1 < 2 by decide) M) dw_1.1 rfl (cwV 0 C.1.2.2.2.2 gX8_count_X0_example rfl rfl rfl (by decide +kernel) ⟨Nat.le_of_ble_eq_true rfl, Nat.le_of_ble_eq_true rfl⟩) rfl rfl rfl (Nat.le_of_ble_eq_true rfl) dX8_count_136 ⟨Nat.le_refl _, Nat.le_refl _⟩ ?_
    refine vv_callVI C [] (c_X1_otherKinds (mw_DwE (show 1 < 2 by decide)) M (fun i => decide (¬ M (100 + 12 * 1 + 3 * i) = 0)) (fun i _ => rfl)) (mw_DwE (show 1 < 2 by decide)).1 rfl (cwV 0 C.1.2.2.2.2 gX8_count_X1_otherKinds rfl rfl rfl (by decide +kernel) ⟨Nat.le_of_ble_eq_true rfl, Nat.le_of_ble_eq_true rfl⟩) rfl rfl rfl (Nat.le_of_ble_eq_true rfl) dX8_count_139 ⟨Nat.le_refl _, Nat.le_refl _⟩ ?_
    refine vv_iadd C dX8_count_142 ?_
    exact vv_iret C hR dX8_count_143 (qIP_of ⟨by simp [op_count, cntI, othN, bI, h_2, h_4, h_6, h_8, h_10, h_13], clO.rf⟩)
  rcases Classical.em (w = 6) with h_15 | h_16
  · refine vv_tsIn C 6 144 dX8_count_1 h_15 (by decide) (by decide) rfl (by decide) ?_
    refine vv_aload_n C 0 dX8_count_144 rfl rfl ?_
    refine vv_getr C (Cn := RX8) (T := TX8) (N := 5) sh_144 0 rfl rfl (by decide) iX8_count_X8 (List.mem_of_getElem? (i := 1) rfl) rfl dX8_count_145 ?_
    refine vv_callVI C [] (c_X6_shownSet M) sh_0 rfl (cwV 0 C.1.2.2.2.2 gX8_count_X6_shownSet rfl rfl rfl (by decide +kernel) ⟨Nat.le_of_ble_eq_true rfl, Nat.le_of_ble_eq_true rfl⟩) rfl rfl rfl (Nat.le_of_ble_eq_true rfl) dX8_count_148 ⟨Nat.le_refl _, Nat.le_refl _⟩ ?_
    exact vv_iret C hR dX8_count_151 (qIP_of ⟨by simp [op_count, cntI, othN, bI, h_2, h_4, h_6, h_8, h_10, h_14, h_15], clO.rf⟩)
  rcases Classical.em (w = 7) with h_17 | h_18
  · refine vv_tsIn C 7 152 dX8_count_1 h_17 (by decide) (by decide) rfl (by decide) ?_
    refine vv_aload_n C 0 dX8_count_152 rfl rfl ?_
    refine vv_getr C (Cn := RX8) (T := TX8) (N := 5) sh_144 1 rfl rfl (by decide) iX8_count_X8 (List.mem_of_getElem? (i := 2) rfl) rfl dX8_count_153 ?_
    refine vv_callVI C [] (c_X2_size M) sh_125 rfl (cwV 0 C.1.2.2.2.2 gX8_count_X2_size rfl rfl rfl (by decide +kernel) ⟨Nat.le_of_ble_eq_true rfl, Nat.le_of_ble_eq_true rfl⟩) rfl rfl rfl (Nat.le_of_ble_eq_true rfl) dX8_count_156 ⟨Nat.le_refl _, Nat.le_refl _⟩ ?_
    exact vv_iret C hR dX8_count_159 (qIP_of ⟨by simp [op_count, cntI, othN, bI, h_2, h_4, h_6, h_8, h_10, h_14, h_16, h_17], clO.rf⟩)
  rcases Classical.em (w = 8) with h_19 | h_20
  · refine vv_tsIn C 8 160 dX8_count_1 h_19 (by decide) (by decide) rfl (by decide) ?_
    refine vv_aload_n C 0 dX8_count_160 rfl rfl ?_
    refine vv_getr C (Cn := RX8) (T := TX8) (N := 5) sh_144 3 rfl rfl (by decide) iX8_count_X8 (List.mem_of_getElem? (i := 3) rfl) rfl dX8_count_161 ?_
    refine vv_callVI C [] (c_X7_length M) sh_133 rfl (cwV 0 C.1.2.2.2.2 gX8_count_X7_length rfl rfl rfl (by decide +kernel) ⟨Nat.le_of_ble_eq_true rfl, Nat.le_of_ble_eq_true rfl⟩) rfl rfl rfl (Nat.le_of_ble_eq_true rfl) dX8_count_164 ⟨Nat.le_refl _, Nat.le_refl _⟩ ?_
    exact vv_iret C hR dX8_count_167 (qIP_of ⟨by simp [op_count, cntI, othN, bI, h_2, h_4, h_6, h_8, h_10, h_14, h_16, h_18, h_19], clO.rf⟩)
  rcases Classical.em (w = 10) with h_21 | h_22
  · refine vv_tsIn C 10 168 dX8_count_1 h_21 (by decide) (by decide) rfl (by decide) ?_
    refine vv_aload_n C 0 dX8_count_168 rfl rfl ?_
    refine vv_getr C (Cn := RX8) (T := TX8) (N := 5) sh_144 0 rfl rfl (by decide) iX8_count_X8 (List.mem_of_getElem? (i := 1) rfl) rfl dX8_count_169 ?_
    refine vv_iload_n C 1 dX8_count_172 rfl rfl ?_
    refine vv_bipush (v := 10) C dX8_count_173 (by decide) ?_
    refine vv_isub C dX8_count_175 ?_
    refine vv_callVI C [.int (w - 10)] (c_X6_orderColumn M (i := (w - 10)) (j := 0) (by rw [h_21]; decide) (by decide)) sh_0 rfl (cwV 1 C.1.2.2.2.2 gX8_count_X6_orderColumn rfl rfl rfl (by decide +kernel) ⟨Nat.le_of_ble_eq_true rfl, Nat.le_of_ble_eq_true rfl⟩) rfl rfl rfl (Nat.le_of_ble_eq_true rfl) dX8_count_176 ⟨Nat.le_refl _, Nat.le_refl _⟩ ?_
    exact vv_iret C hR dX8_count_179 (qIP_of ⟨by simp [op_count, cntI, othN, bI, h_2, h_4, h_6, h_8, h_10, h_14, h_16, h_18, h_20, h_21], clO.rf⟩)
  rcases Classical.em (w = 11) with h_23 | h_24
  · refine vv_tsIn C 11 168 dX8_count_1 h_23 (by decide) (by decide) rfl (by decide) ?_
    refine vv_aload_n C 0 dX8_count_168 rfl rfl ?_
    refine vv_getr C (Cn := RX8) (T := TX8) (N := 5) sh_144 0 rfl rfl (by decide) iX8_count_X8 (List.mem_of_getElem? (i := 1) rfl) rfl dX8_count_169 ?_
    refine vv_iload_n C 1 dX8_count_172 rfl rfl ?_
    refine vv_bipush (v := 10) C dX8_count_173 (by decide) ?_
    refine vv_isub C dX8_count_175 ?_
    refine vv_callVI C [.int (w - 10)] (c_X6_orderColumn M (i := (w - 10)) (j := 1) (by rw [h_23]; decide) (by decide)) sh_0 rfl (cwV 1 C.1.2.2.2.2 gX8_count_X6_orderColumn rfl rfl rfl (by decide +kernel) ⟨Nat.le_of_ble_eq_true rfl, Nat.le_of_ble_eq_true rfl⟩) rfl rfl rfl (Nat.le_of_ble_eq_true rfl) dX8_count_176 ⟨Nat.le_refl _, Nat.le_refl _⟩ ?_
    exact vv_iret C hR dX8_count_179 (qIP_of ⟨by simp [op_count, cntI, othN, bI, h_2, h_4, h_6, h_8, h_10, h_14, h_16, h_18, h_20, h_22, h_23], clO.rf⟩)
  rcases Classical.em (w = 12) with h_25 | h_26
  · refine vv_tsIn C 12 180 dX8_count_1 h_25 (by decide) (by decide) rfl (by decide) ?_
    refine vv_aload_n C 0 dX8_count_180 rfl rfl ?_
    refine vv_getr C (Cn := RX8) (T := TX8) (N := 5) sh_144 0 rfl rfl (by decide) iX8_count_X8 (List.mem_of_getElem? (i := 1) rfl) rfl dX8_count_181 ?_
    refine vv_iload_n C 1 dX8_count_184 rfl rfl ?_
    refine vv_bipush (v := 12) C dX8_count_185 (by decide) ?_
    refine vv_isub C dX8_count_187 ?_
    refine vv_callVI C [.int (w - 12)] (c_X6_isDownwards M (i := (w - 12)) (j := 0) (by rw [h_25]; decide) (by decide)) sh_0 rfl (cwV 1 C.1.2.2.2.2 gX8_count_X6_isDownwards rfl rfl rfl (by decide +kernel) ⟨Nat.le_of_ble_eq_true rfl, Nat.le_of_ble_eq_true rfl⟩) rfl rfl rfl (Nat.le_of_ble_eq_true rfl) dX8_count_188 ⟨Nat.le_refl _, Nat.le_refl _⟩ ?_
    refine vv_bif_eq C 198 dX8_count_191 (by decide) (fun h_27 => ?_) (fun h_28 => ?_)
    · refine vv_iconst (v := 0) C dX8_count_198 (by decide) ?_
      exact vv_iret C hR dX8_count_199 (qIP_of ⟨by simp [op_count, cntI, othN, bI, h_2, h_4, h_6, h_8, h_10, h_14, h_16, h_18, h_20, h_22, h_24, h_25, h_27], clO.rf⟩)
    · refine vv_iconst (v := 1) C dX8_count_194 (by decide) ?_
      refine vv_goto C 199 dX8_count_195 (by decide) ?_
      exact vv_iret C hR dX8_count_199 (qIP_of ⟨by simp [op_count, cntI, othN, bI, h_2, h_4, h_6, h_8, h_10, h_14, h_16, h_18, h_20, h_22, h_24, h_25, h_28], clO.rf⟩)
  rcases Classical.em (w = 13) with h_29 | h_30
  · refine vv_tsIn C 13 180 dX8_count_1 h_29 (by decide) (by decide) rfl (by decide) ?_
    refine vv_aload_n C 0 dX8_count_180 rfl rfl ?_
    refine vv_getr C (Cn := RX8) (T := TX8) (N := 5) sh_144 0 rfl rfl (by decide) iX8_count_X8 (List.mem_of_getElem? (i := 1) rfl) rfl dX8_count_181 ?_
    refine vv_iload_n C 1 dX8_count_184 rfl rfl ?_
    refine vv_bipush (v := 12) C dX8_count_185 (by decide) ?_
    refine vv_isub C dX8_count_187 ?_
    refine vv_callVI C [.int (w - 12)] (c_X6_isDownwards M (i := (w - 12)) (j := 1) (by rw [h_29]; decide) (by decide)) sh_0 rfl (cwV 1 C.1.2.2.2.2 gX8_count_X6_isDownwards rfl rfl rfl (by decide +kernel) ⟨Nat.le_of_ble_eq_true rfl, Nat.le_of_ble_eq_true rfl⟩) rfl rfl rfl (Nat.le_of_ble_eq_true rfl) dX8_count_188 ⟨Nat.le_refl _, Nat.le_refl _⟩ ?_
    refine vv_bif_eq C 198 dX8_count_191 (by decide) (fun h_31 => ?_) (fun h_32 => ?_)
    · refine vv_iconst (v := 0) C dX8_count_198 (by decide) ?_
      exact vv_iret C hR dX8_count_199 (qIP_of ⟨by simp [op_count, cntI, othN, bI, h_2, h_4, h_6, h_8, h_10, h_14, h_16, h_18, h_20, h_22, h_24, h_26, h_29, h_31], clO.rf⟩)
    · refine vv_iconst (v := 1) C dX8_count_194 (by decide) ?_
      refine vv_goto C 199 dX8_count_195 (by decide) ?_
      exact vv_iret C hR dX8_count_199 (qIP_of ⟨by simp [op_count, cntI, othN, bI, h_2, h_4, h_6, h_8, h_10, h_14, h_16, h_18, h_20, h_22, h_24, h_26, h_29, h_32], clO.rf⟩)
  rcases Classical.em (w = 9) with h_34 | h_35
  · refine vv_tsIn C 9 200 dX8_count_1 h_34 (by decide) (by decide) rfl (by decide) ?_
    refine vv_bipush (v := (-11)) C dX8_count_200 (by decide) ?_
    exact vv_iret C hR dX8_count_202 (qIP_of ⟨by simp [op_count, cntI, othN, bI, h_2, h_4, h_6, h_8, h_10, h_14, h_16, h_18, h_20, h_22, h_24, h_26, h_30, h_34], clO.rf⟩)
  refine vv_tsOut C 200 dX8_count_1 (by have t0 := lv_neT (a := 0) h_2 (by decide); have t1 := lv_neT (a := 1) h_4 (by decide); have t2 := lv_neT (a := 2) h_6 (by decide); have t3 := lv_neT (a := 3) h_8 (by decide); have t4 := lv_neT (a := 4) h_10 (by decide); have t5 := lv_neT (a := 5) h_14 (by decide); have t6 := lv_neT (a := 6) h_16 (by decide); have t7 := lv_neT (a := 7) h_18 (by decide); have t8 := lv_neT (a := 8) h_20 (by decide); have t9 := lv_neT (a := 9) h_35 (by decide); have t10 := lv_neT (a := 10) h_22 (by decide); have t11 := lv_neT (a := 11) h_24 (by decide); have t12 := lv_neT (a := 12) h_26 (by decide); have t13 := lv_neT (a := 13) h_30 (by decide); omega) (by decide) ?_
  refine vv_bipush (v := (-11)) C dX8_count_200 (by decide) ?_
  exact vv_iret C hR dX8_count_202 (qIP_of ⟨by simp [op_count, cntI, othN, bI, h_2, h_4, h_6, h_8, h_10, h_14, h_16, h_18, h_20, h_22, h_24, h_26, h_30, h_35], clO.rf⟩)
