theorem tcI_m1 {k : Nat} : tcI k = -1 ↔ ¬ k < 8 := by
  unfold tcI
  by_cases h : k < 8
  · rw [if_pos h]
    constructor
    · intro e
      rcases (show k = 0 ∨ k = 1 ∨ k = 2 ∨ k = 3 ∨ k = 4 ∨ k = 5 ∨ k = 6 ∨ k = 7 by omega) with rfl | rfl | rfl | rfl | rfl | rfl | rfl | rfl <;> exact absurd e (by decide)
    · intro e
      exact absurd h e
  · rw [if_neg h]
    exact ⟨fun _ => h, fun _ => rfl⟩
def nN (S : mw_M) (d : Nat) : Nat := (S (2 + d)).toNatClampNeg
theorem nN_of {S : mw_M} {d n : Nat} (h : S (2 + d) = nI n) (hn : n ≤ 12) : nN S d = n := by unfold nN; rw [h]; exact nI_clamp (by omega)
theorem szP.n {S : mw_M} {d : Nat} (h : szP S d) : S (2 + d) = nI (nN S d) ∧ nN S d ≤ 12 := by
  obtain ⟨w, n, h1, h2, h3, h4⟩ := h
  rw [nN_of h3 h4]
  exact ⟨h3, h4⟩
/-- how many cards of the second drawer a row goes through -/
def n1 (S : mw_M) : Nat := if S 124 = 1 then nN S 1 else 1
theorem n1_le {S : mw_M} (h : szP S 1) : n1 S ≤ 12 := by
  unfold n1
  split
  · exact h.n.2
  · omega
def lstG (S : mw_M) (lo f g : Nat) : List Nat := ((List.range g).filter (fun j => decide (misS S lo f j = 8))).map (fun j => 12 * f + j)
def lstF (S : mw_M) (lo m f : Nat) : List Nat := (List.range f).flatMap (fun i => lstG S lo i m)
/-- the rows that fit, if the cell lo is left out, in their plain order -/
def lstS (S : mw_M) (lo : Nat) : List Nat := lstF S lo (n1 S) (nN S 0)
theorem lstG_y {S : mw_M} {lo f g : Nat} (h : misS S lo f g = 8) : lstG S lo f (g + 1) = lstG S lo f g ++ [12 * f + g] := by
  unfold lstG
  rw [List.range_succ, List.filter_append, List.map_append, List.filter_cons_of_pos (by simp [h])]
  rfl
theorem lstG_n {S : mw_M} {lo f g : Nat} (h : ¬ misS S lo f g = 8) : lstG S lo f (g + 1) = lstG S lo f g := by
  unfold lstG
  rw [List.range_succ, List.filter_append, List.filter_cons_of_neg (by simp [h])]
  simp
theorem lstF_s {S : mw_M} {lo m f : Nat} : lstF S lo m (f + 1) = lstF S lo m f ++ lstG S lo f m := by
  unfold lstF
  rw [List.range_succ, List.flatMap_append]
  simp
theorem lstG_len {S : mw_M} {lo f : Nat} (g : Nat) : (lstG S lo f g).length ≤ g := by
  unfold lstG
  rw [List.length_map]
  exact Nat.le_trans (List.length_filter_le _ _) (by rw [List.length_range]; exact Nat.le_refl g)
theorem lstF_len {S : mw_M} {lo m : Nat} (hm : m ≤ 12) : ∀ f, (lstF S lo m f).length ≤ 12 * f
  | 0 => Nat.le_refl 0
  | f + 1 => by
    rw [lstF_s, List.length_append]
    have h1 := lstF_len (S := S) (lo := lo) hm f
    have h2 := lstG_len (S := S) (lo := lo) (f := f) m
    omega
theorem lstG_mem {S : mw_M} {lo f g r : Nat} : r ∈ lstG S lo f g ↔ ∃ j, j < g ∧ misS S lo f j = 8 ∧ r = 12 * f + j := by
  unfold lstG
  simp only [List.mem_map, List.mem_filter, List.mem_range, decide_eq_true_eq]
  constructor
  · rintro ⟨j, ⟨h1, h2⟩, h3⟩
    exact ⟨j, h1, h2, h3.symm⟩
  · rintro ⟨j, h1, h2, h3⟩
    exact ⟨j, ⟨h1, h2⟩, h3.symm⟩
theorem lstF_mem {S : mw_M} {lo m f r : Nat} : r ∈ lstF S lo m f ↔ ∃ i j, i < f ∧ j < m ∧ misS S lo i j = 8 ∧ r = 12 * i + j := by
  unfold lstF
  simp only [List.mem_flatMap, List.mem_range, lstG_mem]
  constructor
  · rintro ⟨i, h1, j, h2, h3, h4⟩
    exact ⟨i, j, h1, h2, h3, h4⟩
  · rintro ⟨i, j, h1, h2, h3, h4⟩
    exact ⟨i, h1, j, h2, h3, h4⟩
/-- scratch of a finding -/
def scF (q : Nat) : Prop := q = 651 ∨ q = 652 ∨ (660 ≤ q ∧ q < 664) ∨ (700 ≤ q ∧ q < 844)
def fndI (M M1 : mw_M) (lo : Nat) (L : List Nat) : Prop := (∀ q, ¬ scF q → M1 q = M q) ∧ telM M1 lo ∧ M1 651 = nI L.length ∧ ∀ i, i < L.length → M1 (700 + i) = nI (L.getD i 0)
theorem fndI.eq {M M1 : mw_M} {lo : Nat} {L : List Nat} (h : fndI M M1 lo L) : eqS M M1 := fun q hq => h.1 q (by unfold scF; omega)
theorem fndI.start {M M1 : mw_M} {lo : Nat} (h : telI M M1 lo 0) : fndI M (upd M1 651 0) lo [] := by
  have hd := h.done
  have e : eqS M1 (upd M1 651 0) := fun q hq => upd_o (by omega)
  refine ⟨fun q hq => ?_, ⟨?_, fun a ha => ?_⟩, upd_s, fun i hi => absurd hi (Nat.not_lt_zero i)⟩
  · unfold scF at hq
    rw [upd_o (by omega)]
    exact h.1 q (by omega) (by omega)
  · rw [upd_o (by omega)]
    exact hd.1
  · rw [upd_o (by omega), e.tels]
    exact hd.2 a ha
theorem fndI.add {M M1 : mw_M} {lo r : Nat} {L : List Nat} (h : fndI M M1 lo L) (hl : L.length < 144) : fndI M (upd (upd M1 (700 + 1 * L.length) (nI r)) 651 (nI (L.length + 1))) lo (L ++ [r]) := by
  have e : eqS M1 (upd (upd M1 (700 + 1 * L.length) (nI r)) 651 (nI (L.length + 1))) := fun q hq => by rw [upd_o (by omega), upd_o (by omega)]
  refine ⟨fun q hq => ?_, ⟨?_, fun a ha => ?_⟩, ?_, fun i hi => ?_⟩
  · have hq2 := hq
    unfold scF at hq2
    rw [upd_o (by omega), upd_o (by omega)]
    exact h.1 q hq
  · rw [upd_o (by omega), upd_o (by omega)]
    exact h.2.1.1
  · rw [upd_o (by omega), upd_o (by omega), e.tels]
    exact h.2.1.2 a ha
  · rw [upd_s, List.length_append]
    rfl
  · rw [upd_o (by omega)]
    rw [List.length_append, List.length_singleton] at hi
    rw [List.getD_eq_getElem?_getD]
    by_cases z : i = L.length
    · subst z
      rw [Nat.one_mul, upd_s]
      simp
    · rw [upd_o (by omega), List.getElem?_append_left (by omega), ← List.getD_eq_getElem?_getD]
      exact h.2.2.2 i (by omega)
/-! the order of the rows -/
theorem ask_nI {S : mw_M} {x : Int32} (h1 : szP S 1) (h : askP S x) : ∃ c, c < 8 ∧ x = nI c := by
  rcases h with ⟨a1, a2, -⟩ | ⟨a1, a2, a3, a4⟩
  · obtain ⟨j, hj, e, -⟩ := ix_of a2 (n := 4) a1 (by omega)
    exact ⟨j, by omega, e⟩
  · obtain ⟨w, n, hw, hw4, -⟩ := h1
    rw [hw] at a4
    obtain ⟨j, hj, e, -⟩ := ix_of a3 a4 (by omega)
    refine ⟨j + 4, by omega, ?_⟩
    rw [← nI_add, ← e]
    show x = x - 4 + 4
    rw [Int32.sub_add_cancel]
def cmpS (S : mw_M) (k f g f2 g2 : Nat) : Int32 := if askP S (S (125 + 2 * k)) then (if S (126 + 2 * k) = 1 then -(vS S (S (125 + 2 * k)).toNatClampNeg f g - vS S (S (125 + 2 * k)).toNatClampNeg f2 g2) else vS S (S (125 + 2 * k)).toNatClampNeg f g - vS S (S (125 + 2 * k)).toNatClampNeg f2 g2) else 0
def ahdS (S : mw_M) (f g f2 g2 : Nat) : Bool := decide (¬ 0 ≤ (if cmpS S 0 f g f2 g2 = 0 then cmpS S 1 f g f2 g2 else cmpS S 0 f g f2 g2))
def ahR (S : mw_M) (r r2 : Nat) : Bool := ahdS S (r / 12) (r % 12) (r2 / 12) (r2 % 12)
theorem rowE_ask {S : mw_M} {x : Int32} {f g : Nat} (h1 : szP S 1) (hv : valP S f g) (ha : askP S x) : rowE S x (nI (12 * f + g)) = vS S x.toNatClampNeg f g := by
  obtain ⟨c, hc, e⟩ := ask_nI h1 ha
  subst e
  rw [rowE_vS hc hv ha, nI_clamp (by omega)]
theorem eqS.cmp {S S2 : mw_M} (h : eqS S S2) (h1 : szP S 1) {k f g f2 g2 : Nat} (hk : k < 2) (hf : f < 12) (hg : g < 12) (hf2 : f2 < 12) (hg2 : g2 < 12) : cmpS S2 k f g f2 g2 = cmpS S k f g f2 g2 := by
  unfold cmpS
  rw [h (125 + 2 * k) (by omega), h (126 + 2 * k) (by omega)]
  by_cases ha : askP S (S (125 + 2 * k))
  · obtain ⟨c, hc, e⟩ := ask_nI h1 ha
    rw [if_pos ha, if_pos (h.ask.mpr ha), e, nI_clamp (by omega), h.col hc hf hg, h.col hc hf2 hg2]
  · rw [if_neg ha, if_neg (fun z => ha (h.ask.mp z))]
theorem eqS.ahr {S S2 : mw_M} (h : eqS S S2) (h1 : szP S 1) {r r2 : Nat} (hr : r < 144) (hr2 : r2 < 144) : ahR S2 r r2 = ahR S r r2 := by
  unfold ahR ahdS
  rw [h.cmp h1 (by omega) (by omega) (by omega) (by omega) (by omega), h.cmp h1 (by omega) (by omega) (by omega) (by omega) (by omega)]

theorem iX5_find_X5 : ∀ w ∈ u_ws RX5 TX5 6, w ∈ wsX5_find := fun w hw => (List.mem_cons_of_mem _ (List.mem_append_left _ (List.mem_append_left _ (List.mem_append_left _ (List.mem_append_left _ (List.mem_append_right _ hw))))))
set_option maxRecDepth 100000 in
set_option maxHeartbeats 4000000 in
theorem lp_X5_find_in {p : Program} {l : Launch} {e : Env} {s : State} {m : MethodId} {args : Array Value} {below : List Frame} {meth : Method} {c : Code} {G : mw_GG} {Q : State → Prop} (C : vv_C p s m args c G cX5_find 7 wsX5_find RX5) (M : mw_M) (hw : wfR M) {lo n mm f : Nat} (hn : M 2 = nI n) (hn12 : n ≤ 12) (hm : mm = n1 M) (hf : f < n) (hk : ∀ M1, fndI M M1 lo (lstF M lo mm (f + 1)) → vv p l e ({ frames := 5, cells := 0, slots := 0, locals := 114 } : Room) s m args below meth c G 0 0 Q M1 115 [some (.ref (G.1 126)), some (.int (tcI lo)), some (.int (nI n)), some (.int (nI mm)), some (.int (nI f)), none, none] []) : ∀ (k g : Nat) (M1 : mw_M), mm + 1 ≤ g + k → g ≤ mm → fndI M M1 lo (lstF M lo mm f ++ lstG M lo f g) → vv p l e ({ frames := 5, cells := 0, slots := 0, locals := 114 } : Room) s m args below meth c G 0 0 Q M1 60 [some (.ref (G.1 126)), some (.int (tcI lo)), some (.int (nI n)), some (.int (nI mm)), some (.int (nI f)), some (.int (nI g)), none] [] := by
  intro k
  induction k with
  | zero => intro g M1 h1 h2 _; omega
  | succ k ih =>
    intro g M1 h1 h2 hI
    have hm12 : mm ≤ 12 := by rw [hm]; exact n1_le hw.2.1
    have hlen : (lstF M lo mm f ++ lstG M lo f g).length ≤ 12 * f + g := by
      rw [List.length_append]
      have := lstF_len (S := M) (lo := lo) hm12 f
      have := lstG_len (S := M) (lo := lo) (f := f) g
      omega
    have hE := hI.eq
    refine vv_iload C 5 dX5_find_60 rfl ?_
    refine vv_iload_n C 3 dX5_find_62 rfl rfl ?_
    refine vv_icmp_ge C 115 dX5_find_63 (by decide) (fun hge => ?_) (fun hlt => ?_)
    · have hin : g = mm := by
        rcases Nat.lt_or_ge g mm with z | z
        · exact absurd hge (nI_ge z (by omega))
        · omega
      refine vv_keep (ls2 := [some (.ref (G.1 126)), some (.int (tcI lo)), some (.int (nI n)), some (.int (nI mm)), some (.int (nI f)), none, none]) ⟨rfl, rfl, rfl, rfl, rfl, trivial⟩ ?_
      subst hin
      exact hk M1 (by rw [lstF_s]; exact hI)
    · have hg2 : g < mm := by
        rcases Nat.lt_or_ge g mm with z | z
        · exact z
        · exact absurd (nI_le z (by omega)) hlt
      have hv : valP M f g := ⟨by omega, by omega, by rw [hn]; exact nI_ge hf (by omega), fun e => by
        have e2 : n1 M = nN M 1 := by unfold n1; rw [if_pos e]
        rw [show (3 : Nat) = 2 + 1 from rfl, (hw.2.1.n).1, ← e2, ← hm]
        exact nI_ge hg2 (by omega)⟩
      refine vv_iload C 4 dX5_find_66 rfl ?_
      refine vv_bipush (v := 12) C dX5_find_68 (by decide) ?_
      refine vv_imul C dX5_find_70 ?_
      refine vv_iload C 5 dX5_find_71 rfl ?_
      refine vv_iadd C dX5_find_73 ?_
      refine vv_top (y := nI (12 * f + g)) (by rw [show (12 : Int32) = nI 12 from rfl, pk_mul, nI_add, Nat.mul_comm]) ?_
      refine vv_istore (ls2 := [some (.ref (G.1 126)), some (.int (tcI lo)), some (.int (nI n)), some (.int (nI mm)), some (.int (nI f)), some (.int (nI g)), some (.int (nI (12 * f + g)))]) C 6 dX5_find_74 (Nat.le_of_ble_eq_true rfl) rfl ?_
      refine vv_aload_n C 0 dX5_find_76 rfl rfl ?_
      refine vv_iload C 6 dX5_find_77 rfl ?_
      refine vv_callVI C [.int (nI (12 * f + g))] (c_X5_firstMisfit M1 (hE.wf hw) (lo := lo) (f := f) (g := g) hI.2.1 (hE.val hv) (x := (nI (12 * f + g))) rfl) sh_126 rfl (cwV 1 C.1.2.2.2.2 gX5_find_X5_firstMisfit rfl rfl rfl (by decide +kernel) ⟨Nat.le_of_ble_eq_true rfl, Nat.le_of_ble_eq_true rfl⟩) rfl rfl rfl (Nat.le_of_ble_eq_true rfl) dX5_find_79 ⟨Nat.le_refl _, Nat.le_refl _⟩ ?_
      refine vv_top (y := tcI (misS M lo f g)) (by rw [hE.mis hv.1 hv.2.1]) ?_
      refine vv_iconst (v := (-1)) C dX5_find_82 (by decide) ?_
      refine vv_icmp_ne C 109 dX5_find_83 (by decide) (fun h_no => ?_) (fun h_fit => ?_)
      · refine vv_iinc (v := nI (g + 1)) (ls2 := [some (.ref (G.1 126)), some (.int (tcI lo)), some (.int (nI n)), some (.int (nI mm)), some (.int (nI f)), some (.int (nI (g + 1))), some (.int (nI (12 * f + g)))]) C 5 dX5_find_109 rfl (nI_1 _) rfl ?_
        refine vv_goto C 60 dX5_find_112 (by decide) ?_
        refine vv_keep (ls2 := [some (.ref (G.1 126)), some (.int (tcI lo)), some (.int (nI n)), some (.int (nI mm)), some (.int (nI f)), some (.int (nI (g + 1))), none]) ⟨rfl, rfl, rfl, rfl, rfl, rfl, trivial⟩ ?_
        exact ih (g + 1) _ (by omega) (by omega) (by rw [lstG_n (fun z => h_no (tcI_m1.mpr (by omega)))]; exact hI)
      · refine vv_aload_n C 0 dX5_find_86 rfl rfl ?_
        refine vv_getr C (Cn := RX5) (T := TX5) (N := 6) sh_126 1 rfl rfl (by decide) iX5_find_X5 (List.mem_of_getElem? (i := 3) rfl) rfl dX5_find_87 ?_
        refine vv_aload_n C 0 dX5_find_90 rfl rfl ?_
        refine vv_geti C (Cn := RX5) (T := TX5) (N := 6) sh_126 4 rfl rfl (by decide) iX5_find_X5 (List.mem_of_getElem? (i := 1) rfl) rfl dX5_find_91 ?_
        refine vv_iload C 6 dX5_find_94 rfl ?_
        refine vv_callVV C [.int (M1 651), .int (nI (12 * f + g))] (c_X3_set nu_127 M1 (i := (M1 651)) (j := ((lstF M lo mm f ++ lstG M lo f g).length)) hI.2.2.1 (by omega) (nI (12 * f + g))) nu_127.1 rfl (cwV 2 C.1.2.2.2.2 gX5_find_X3_set rfl rfl rfl (by decide +kernel) ⟨Nat.le_of_ble_eq_true rfl, Nat.le_of_ble_eq_true rfl⟩) rfl rfl rfl (Nat.le_of_ble_eq_true rfl) dX5_find_96 ⟨Nat.le_refl _, Nat.le_refl _⟩ ?_
        refine vv_aload_n C 0 dX5_find_99 rfl rfl ?_
        refine vv_dup C dX5_find_100 rfl ?_
        refine vv_geti C (Cn := RX5) (T := TX5) (N := 6) sh_126 4 rfl rfl (by decide) iX5_find_X5 (List.mem_of_getElem? (i := 1) rfl) rfl dX5_find_101 ?_
        refine vv_iconst (v := 1) C dX5_find_104 (by decide) ?_
        refine vv_iadd C dX5_find_105 ?_
        refine vv_top (y := nI ((lstF M lo mm f ++ lstG M lo f g).length + 1)) (by rw [upd_o (by omega), hI.2.2.1]; exact nI_1 _) ?_
        refine vv_putf C (Cn := RX5) (T := TX5) (N := 6) sh_126 4 rfl rfl (by decide) iX5_find_X5 (List.mem_of_getElem? (i := 1) rfl) rfl tyX5_ok nmX5 rfl rfl dX5_find_106 ?_
        refine vv_iinc (v := nI (g + 1)) (ls2 := [some (.ref (G.1 126)), some (.int (tcI lo)), some (.int (nI n)), some (.int (nI mm)), some (.int (nI f)), some (.int (nI (g + 1))), some (.int (nI (12 * f + g)))]) C 5 dX5_find_109 rfl (nI_1 _) rfl ?_
        refine vv_goto C 60 dX5_find_112 (by decide) ?_
        refine vv_keep (ls2 := [some (.ref (G.1 126)), some (.int (tcI lo)), some (.int (nI n)), some (.int (nI mm)), some (.int (nI f)), some (.int (nI (g + 1))), none]) ⟨rfl, rfl, rfl, rfl, rfl, rfl, trivial⟩ ?_
        exact ih (g + 1) _ (by omega) (by omega) (by
          have h8 := tlD_le (misP M lo f g) 8
          have h9 := tcI_m1.mp h_fit
          rw [lstG_y (show misS M lo f g = 8 by unfold misS at h9 ⊢; omega), ← List.append_assoc]
          exact hI.add (by omega))
set_option maxRecDepth 100000 in
set_option maxHeartbeats 4000000 in
theorem lp_X5_find_out {p : Program} {l : Launch} {e : Env} {s : State} {m : MethodId} {args : Array Value} {below : List Frame} {meth : Method} {c : Code} {G : mw_GG} {Q : State → Prop} (C : vv_C p s m args c G cX5_find 7 wsX5_find RX5) (M : mw_M) (hw : wfR M) {lo n mm : Nat} (hn : M 2 = nI n) (hn12 : n ≤ 12) (hm : mm = n1 M) (hk : ∀ M1, fndI M M1 lo (lstF M lo mm n) → vv p l e ({ frames := 5, cells := 0, slots := 0, locals := 114 } : Room) s m args below meth c G 0 0 Q M1 121 [some (.ref (G.1 126)), some (.int (tcI lo)), some (.int (nI n)), some (.int (nI mm)), some (.int (nI n)), none, none] []) : ∀ (k f : Nat) (M1 : mw_M), n + 1 ≤ f + k → f ≤ n → fndI M M1 lo (lstF M lo mm f) → vv p l e ({ frames := 5, cells := 0, slots := 0, locals := 114 } : Room) s m args below meth c G 0 0 Q M1 51 [some (.ref (G.1 126)), some (.int (tcI lo)), some (.int (nI n)), some (.int (nI mm)), some (.int (nI f)), none, none] [] := by
  intro k
  induction k with
  | zero => intro f M1 h1 h2 _; omega
  | succ k ih =>
    intro f M1 h1 h2 hI
    refine vv_iload C 4 dX5_find_51 rfl ?_
    refine vv_iload_n C 2 dX5_find_53 rfl rfl ?_
    refine vv_icmp_ge C 121 dX5_find_54 (by decide) (fun hge => ?_) (fun hlt => ?_)
    · have hin : f = n := by
        rcases Nat.lt_or_ge f n with z | z
        · exact absurd hge (nI_ge z (by omega))
        · omega
      subst hin
      exact hk M1 hI
    · have hf2 : f < n := by
        rcases Nat.lt_or_ge f n with z | z
        · exact z
        · exact absurd (nI_le z (by omega)) hlt
      refine vv_iconst (v := 0) C dX5_find_57 (by decide) ?_
      refine vv_istore (ls2 := [some (.ref (G.1 126)), some (.int (tcI lo)), some (.int (nI n)), some (.int (nI mm)), some (.int (nI f)), some (.int 0), none]) C 5 dX5_find_58 (Nat.le_of_ble_eq_true rfl) rfl ?_
      refine lp_X5_find_in C M hw hn hn12 hm hf2 (fun M2 hI2 => ?_) (mm + 1) 0 M1 (by omega) (by omega) (by rw [show lstG M lo f 0 = [] from rfl, List.append_nil]; exact hI)
      refine vv_iinc (v := nI (f + 1)) (ls2 := [some (.ref (G.1 126)), some (.int (tcI lo)), some (.int (nI n)), some (.int (nI mm)), some (.int (nI (f + 1))), none, none]) C 4 dX5_find_115 rfl (nI_1 _) rfl ?_
      refine vv_goto C 51 dX5_find_118 (by decide) ?_
      exact ih (f + 1) M2 (by omega) (by omega) hI2
set_option maxRecDepth 100000 in
set_option maxHeartbeats 4000000 in
theorem c_X5_find {l : Launch} {G : mw_GG} (M : mw_M) (hw : wfR M) {lo : Nat} {x : Int32} (hx : x = tcI lo) : mw_Met l yX5_find wsX5_find ({ frames := 5, cells := 0, slots := 0, locals := 114 } : Room) G [.ref (G.1 126), .int x] M (qIP (fun r M2 => r = nI (lstS M lo).length ∧ fndI M M2 lo (lstS M lo))) := by
  refine mw_ofV (cc := cX5_find) 7 (by decide) rfl rfl (Nat.le_of_ble_eq_true rfl) ?_
  intro p e s m args below meth c C hR hN0
  subst hx
  refine vv_loc (ls2 := [some (.ref (G.1 126)), some (.int (tcI lo)), none, none, none, none, none]) rfl ?_
  obtain ⟨hn, hn12⟩ := hw.1.n
  refine vv_aload_n C 0 dX5_find_0 rfl rfl ?_
  refine vv_iload_n C 1 dX5_find_1 rfl rfl ?_
  refine vv_callVVP C [.int (tcI lo)] (c_X5_findTellers M hw (lo := lo) (x := (tcI lo)) rfl) sh_126 rfl (cwV 1 C.1.2.2.2.2 gX5_find_X5_findTellers rfl rfl rfl (by decide +kernel) ⟨Nat.le_of_ble_eq_true rfl, Nat.le_of_ble_eq_true rfl⟩) rfl rfl rfl (Nat.le_of_ble_eq_true rfl) dX5_find_2 ⟨Nat.le_refl _, Nat.le_refl _⟩ (fun M_1 h_2 => ?_)
  have hE0 := h_2.eq
  have hE : eqS M (upd M_1 651 0) := fun q hq => by rw [upd_o (by omega)]; exact hE0 q hq
  refine vv_aload_n C 0 dX5_find_5 rfl rfl ?_
  refine vv_iconst (v := 0) C dX5_find_6 (by decide) ?_
  refine vv_putf C (Cn := RX5) (T := TX5) (N := 6) sh_126 4 rfl rfl (by decide) iX5_find_X5 (List.mem_of_getElem? (i := 1) rfl) rfl tyX5_ok nmX5 rfl rfl dX5_find_7 ?_
  refine vv_aload_n C 0 dX5_find_10 rfl rfl ?_
  refine vv_getr C (Cn := RX5) (T := TX5) (N := 6) sh_126 0 rfl rfl (by decide) iX5_find_X5 (List.mem_of_getElem? (i := 2) rfl) rfl dX5_find_11 ?_
  refine vv_iconst (v := 0) C dX5_find_14 (by decide) ?_
  refine vv_callVR C [.int 0] (c_X6_drawer (upd M_1 651 0) 0) sh_0 rfl (cwV 1 C.1.2.2.2.2 gX5_find_X6_drawer rfl rfl rfl (by decide +kernel) ⟨Nat.le_of_ble_eq_true rfl, Nat.le_of_ble_eq_true rfl⟩) rfl rfl rfl (Nat.le_of_ble_eq_true rfl) dX5_find_15 ⟨Nat.le_refl _, Nat.le_refl _⟩ ?_
  refine vv_topr (b := G.1 (1 + 10 * 0)) (by simp [dN]) ?_
  refine vv_callVI C [] (c_X0_size (d := 0) (show 0 < 2 by decide) (upd M_1 651 0)) dw_0.1 rfl (cwV 0 C.1.2.2.2.2 gX5_find_X0_size rfl rfl rfl (by decide +kernel) ⟨Nat.le_of_ble_eq_true rfl, Nat.le_of_ble_eq_true rfl⟩) rfl rfl rfl (Nat.le_of_ble_eq_true rfl) dX5_find_18 ⟨Nat.le_refl _, Nat.le_refl _⟩ ?_
  refine vv_top (y := nI (nN M 0)) (by rw [hE 2 (by omega)]; exact hn) ?_
  refine vv_istore_n (ls2 := [some (.ref (G.1 126)), some (.int (tcI lo)), some (.int (nI (nN M 0))), none, none, none, none]) C 2 dX5_find_21 rfl (Nat.le_of_ble_eq_true rfl) rfl ?_
  refine vv_aload_n C 0 dX5_find_22 rfl rfl ?_
  refine vv_getr C (Cn := RX5) (T := TX5) (N := 6) sh_126 0 rfl rfl (by decide) iX5_find_X5 (List.mem_of_getElem? (i := 2) rfl) rfl dX5_find_23 ?_
  refine vv_callVI C [] (c_X6_isOfBoth (upd M_1 651 0)) sh_0 rfl (cwV 0 C.1.2.2.2.2 gX5_find_X6_isOfBoth rfl rfl rfl (by decide +kernel) ⟨Nat.le_of_ble_eq_true rfl, Nat.le_of_ble_eq_true rfl⟩) rfl rfl rfl (Nat.le_of_ble_eq_true rfl) dX5_find_26 ⟨Nat.le_refl _, Nat.le_refl _⟩ ?_
  refine vv_bif_eq C 46 dX5_find_29 (by decide) (fun h_nb => ?_) (fun h_b => ?_)
  · refine vv_iconst (v := 1) C dX5_find_46 (by decide) ?_
    refine vv_top (y := nI (n1 M)) (by unfold n1; rw [if_neg (fun z => h_nb ((hE 124 (by omega)).trans z))]; rfl) ?_
    refine vv_istore_n (ls2 := [some (.ref (G.1 126)), some (.int (tcI lo)), some (.int (nI (nN M 0))), some (.int (nI (n1 M))), none, none, none]) C 3 dX5_find_47 rfl (Nat.le_of_ble_eq_true rfl) rfl ?_
    refine vv_iconst (v := 0) C dX5_find_48 (by decide) ?_
    refine vv_istore (ls2 := [some (.ref (G.1 126)), some (.int (tcI lo)), some (.int (nI (nN M 0))), some (.int (nI (n1 M))), some (.int 0), none, none]) C 4 dX5_find_49 (Nat.le_of_ble_eq_true rfl) rfl ?_
    refine lp_X5_find_out C M hw hn hn12 rfl (fun M2 hI2 => ?_) (nN M 0 + 1) 0 _ (by omega) (by omega) (show fndI M _ lo  [] from fndI.start h_2)
    refine vv_aload_n C 0 dX5_find_121 rfl rfl ?_
    refine vv_geti C (Cn := RX5) (T := TX5) (N := 6) sh_126 4 rfl rfl (by decide) iX5_find_X5 (List.mem_of_getElem? (i := 1) rfl) rfl dX5_find_122 ?_
    exact vv_iret C hR dX5_find_125 (qIP_of ⟨hI2.2.2.1, hI2⟩)
  · refine vv_aload_n C 0 dX5_find_32 rfl rfl ?_
    refine vv_getr C (Cn := RX5) (T := TX5) (N := 6) sh_126 0 rfl rfl (by decide) iX5_find_X5 (List.mem_of_getElem? (i := 2) rfl) rfl dX5_find_33 ?_
    refine vv_iconst (v := 1) C dX5_find_36 (by decide) ?_
    refine vv_callVR C [.int 1] (c_X6_drawer (upd M_1 651 0) 1) sh_0 rfl (cwV 1 C.1.2.2.2.2 gX5_find_X6_drawer rfl rfl rfl (by decide +kernel) ⟨Nat.le_of_ble_eq_true rfl, Nat.le_of_ble_eq_true rfl⟩) rfl rfl rfl (Nat.le_of_ble_eq_true rfl) dX5_find_37 ⟨Nat.le_refl _, Nat.le_refl _⟩ ?_
    refine vv_topr (b := G.1 (1 + 10 * 1)) (by simp [dN]) ?_
    refine vv_callVI C [] (c_X0_size (d := 1) (show 1 < 2 by decide) (upd M_1 651 0)) dw_1.1 rfl (cwV 0 C.1.2.2.2.2 gX5_find_X0_size rfl rfl rfl (by decide +kernel) ⟨Nat.le_of_ble_eq_true rfl, Nat.le_of_ble_eq_true rfl⟩) rfl rfl rfl (Nat.le_of_ble_eq_true rfl) dX5_find_40 ⟨Nat.le_refl _, Nat.le_refl _⟩ ?_
    refine vv_top (y := nI (n1 M)) (by rw [hE 3 (by omega)]; unfold n1; rw [if_pos ((hE 124 (by omega)).symm.trans h_b)]; exact (hw.2.1.n).1) ?_
    refine vv_goto C 47 dX5_find_43 (by decide) ?_
    refine vv_istore_n (ls2 := [some (.ref (G.1 126)), some (.int (tcI lo)), some (.int (nI (nN M 0))), some (.int (nI (n1 M))), none, none, none]) C 3 dX5_find_47 rfl (Nat.le_of_ble_eq_true rfl) rfl ?_
    refine vv_iconst (v := 0) C dX5_find_48 (by decide) ?_
    refine vv_istore (ls2 := [some (.ref (G.1 126)), some (.int (tcI lo)), some (.int (nI (nN M 0))), some (.int (nI (n1 M))), some (.int 0), none, none]) C 4 dX5_find_49 (Nat.le_of_ble_eq_true rfl) rfl ?_
    refine lp_X5_find_out C M hw hn hn12 rfl (fun M2 hI2 => ?_) (nN M 0 + 1) 0 _ (by omega) (by omega) (show fndI M _ lo  [] from fndI.start h_2)
    refine vv_aload_n C 0 dX5_find_121 rfl rfl ?_
    refine vv_geti C (Cn := RX5) (T := TX5) (N := 6) sh_126 4 rfl rfl (by decide) iX5_find_X5 (List.mem_of_getElem? (i := 1) rfl) rfl dX5_find_122 ?_
    exact vv_iret C hR dX5_find_125 (qIP_of ⟨hI2.2.2.1, hI2⟩)
theorem iX5_compareBy_X5 : ∀ w ∈ u_ws RX5 TX5 6, w ∈ wsX5_compareBy := fun w hw => (List.mem_cons_of_mem _ (List.mem_append_left _ (List.mem_append_left _ (List.mem_append_left _ (List.mem_append_right _ hw)))))
set_option maxRecDepth 100000 in
set_option maxHeartbeats 4000000 in
theorem c_X5_compareBy {l : Launch} {G : mw_GG} (M : mw_M) (hw : wfR M) {k f g f2 g2 : Nat} (hk2 : k < 2) (hv : valP M f g) (hv2 : valP M f2 g2) {x y z : Int32} (hx : x = nI k) (hy : y = nI (12 * f + g)) (hz : z = nI (12 * f2 + g2)) : mw_Met l yX5_compareBy wsX5_compareBy ({ frames := 3, cells := 0, slots := 0, locals := 65 } : Room) G [.ref (G.1 126), .int x, .int y, .int z] M (qI (cmpS M k f g f2 g2) M) := by
  refine mw_ofV (cc := cX5_compareBy) 6 (by decide) rfl rfl (Nat.le_of_ble_eq_true rfl) ?_
  intro p e s m args below meth c C hR hN0
  subst hx
  subst hy
  subst hz
  refine vv_loc (ls2 := [some (.ref (G.1 126)), some (.int (nI k)), some (.int (nI (12 * f + g))), some (.int (nI (12 * f2 + g2))), none, none]) rfl ?_
  refine vv_aload_n C 0 dX5_compareBy_0 rfl rfl ?_
  refine vv_getr C (Cn := RX5) (T := TX5) (N := 6) sh_126 0 rfl rfl (by decide) iX5_compareBy_X5 (List.mem_of_getElem? (i := 1) rfl) rfl dX5_compareBy_1 ?_
  refine vv_iload_n C 1 dX5_compareBy_4 rfl rfl ?_
  refine vv_callVI C [.int (nI k)] (c_X6_orderColumn M (i := (nI k)) (j := k) rfl hk2) sh_0 rfl (cwV 1 C.1.2.2.2.2 gX5_compareBy_X6_orderColumn rfl rfl rfl (by decide +kernel) ⟨Nat.le_of_ble_eq_true rfl, Nat.le_of_ble_eq_true rfl⟩) rfl rfl rfl (Nat.le_of_ble_eq_true rfl) dX5_compareBy_5 ⟨Nat.le_refl _, Nat.le_refl _⟩ ?_
  refine vv_istore (ls2 := [some (.ref (G.1 126)), some (.int (nI k)), some (.int (nI (12 * f + g))), some (.int (nI (12 * f2 + g2))), some (.int (M (125 + 2 * k))), none]) C 4 dX5_compareBy_8 (Nat.le_of_ble_eq_true rfl) rfl ?_
  refine vv_aload_n C 0 dX5_compareBy_10 rfl rfl ?_
  refine vv_getr C (Cn := RX5) (T := TX5) (N := 6) sh_126 0 rfl rfl (by decide) iX5_compareBy_X5 (List.mem_of_getElem? (i := 1) rfl) rfl dX5_compareBy_11 ?_
  refine vv_iload C 4 dX5_compareBy_14 rfl ?_
  refine vv_callVI C [.int (M (125 + 2 * k))] (c_X6_isAsked M (M (125 + 2 * k))) sh_0 rfl (cwV 1 C.1.2.2.2.2 gX5_compareBy_X6_isAsked rfl rfl rfl (by decide +kernel) ⟨Nat.le_of_ble_eq_true rfl, Nat.le_of_ble_eq_true rfl⟩) rfl rfl rfl (Nat.le_of_ble_eq_true rfl) dX5_compareBy_16 ⟨Nat.le_refl _, Nat.le_refl _⟩ ?_
  refine vv_bif_ne C 24 dX5_compareBy_19 (by decide) (fun h_ask => ?_) (fun h_nask => ?_)
  · refine vv_aload_n C 0 dX5_compareBy_24 rfl rfl ?_
    refine vv_getr C (Cn := RX5) (T := TX5) (N := 6) sh_126 0 rfl rfl (by decide) iX5_compareBy_X5 (List.mem_of_getElem? (i := 1) rfl) rfl dX5_compareBy_25 ?_
    refine vv_iload C 4 dX5_compareBy_28 rfl ?_
    refine vv_iload_n C 2 dX5_compareBy_30 rfl rfl ?_
    refine vv_callVI C [.int (M (125 + 2 * k)), .int (nI (12 * f + g))] (c_X6_entry M hw.1 hw.2.1 (M (125 + 2 * k)) (nI (12 * f + g))) sh_0 rfl (cwV 2 C.1.2.2.2.2 gX5_compareBy_X6_entry rfl rfl rfl (by decide +kernel) ⟨Nat.le_of_ble_eq_true rfl, Nat.le_of_ble_eq_true rfl⟩) rfl rfl rfl (Nat.le_of_ble_eq_true rfl) dX5_compareBy_31 ⟨Nat.le_refl _, Nat.le_refl _⟩ ?_
    refine vv_top (y := vS M (M (125 + 2 * k)).toNatClampNeg f g) (rowE_ask hw.2.1 hv h_ask) ?_
    refine vv_aload_n C 0 dX5_compareBy_34 rfl rfl ?_
    refine vv_getr C (Cn := RX5) (T := TX5) (N := 6) sh_126 0 rfl rfl (by decide) iX5_compareBy_X5 (List.mem_of_getElem? (i := 1) rfl) rfl dX5_compareBy_35 ?_
    refine vv_iload C 4 dX5_compareBy_38 rfl ?_
    refine vv_iload_n C 3 dX5_compareBy_40 rfl rfl ?_
    refine vv_callVI C [.int (M (125 + 2 * k)), .int (nI (12 * f2 + g2))] (c_X6_entry M hw.1 hw.2.1 (M (125 + 2 * k)) (nI (12 * f2 + g2))) sh_0 rfl (cwV 2 C.1.2.2.2.2 gX5_compareBy_X6_entry rfl rfl rfl (by decide +kernel) ⟨Nat.le_of_ble_eq_true rfl, Nat.le_of_ble_eq_true rfl⟩) rfl rfl rfl (Nat.le_of_ble_eq_true rfl) dX5_compareBy_41 ⟨Nat.le_refl _, Nat.le_refl _⟩ ?_
    refine vv_top (y := vS M (M (125 + 2 * k)).toNatClampNeg f2 g2) (rowE_ask hw.2.1 hv2 h_ask) ?_
    refine vv_isub C dX5_compareBy_44 ?_
    refine vv_istore (ls2 := [some (.ref (G.1 126)), some (.int (nI k)), some (.int (nI (12 * f + g))), some (.int (nI (12 * f2 + g2))), some (.int (M (125 + 2 * k))), some (.int ((vS M (M (125 + 2 * k)).toNatClampNeg f g) - (vS M (M (125 + 2 * k)).toNatClampNeg f2 g2)))]) C 5 dX5_compareBy_45 (Nat.le_of_ble_eq_true rfl) rfl ?_
    refine vv_aload_n C 0 dX5_compareBy_47 rfl rfl ?_
    refine vv_getr C (Cn := RX5) (T := TX5) (N := 6) sh_126 0 rfl rfl (by decide) iX5_compareBy_X5 (List.mem_of_getElem? (i := 1) rfl) rfl dX5_compareBy_48 ?_
    refine vv_iload_n C 1 dX5_compareBy_51 rfl rfl ?_
    refine vv_callVI C [.int (nI k)] (c_X6_isDownwards M (i := (nI k)) (j := k) rfl hk2) sh_0 rfl (cwV 1 C.1.2.2.2.2 gX5_compareBy_X6_isDownwards rfl rfl rfl (by decide +kernel) ⟨Nat.le_of_ble_eq_true rfl, Nat.le_of_ble_eq_true rfl⟩) rfl rfl rfl (Nat.le_of_ble_eq_true rfl) dX5_compareBy_52 ⟨Nat.le_refl _, Nat.le_refl _⟩ ?_
    refine vv_bif_eq C 64 dX5_compareBy_55 (by decide) (fun h_nd => ?_) (fun h_d => ?_)
    · refine vv_iload C 5 dX5_compareBy_64 rfl ?_
      exact vv_iret C hR dX5_compareBy_66 (qI_of (by unfold cmpS; rw [if_pos h_ask, if_neg h_nd]) (rfl))
    · refine vv_iload C 5 dX5_compareBy_58 rfl ?_
      refine vv_ineg C dX5_compareBy_60 ?_
      refine vv_goto C 66 dX5_compareBy_61 (by decide) ?_
      exact vv_iret C hR dX5_compareBy_66 (qI_of (by unfold cmpS; rw [if_pos h_ask, if_pos h_d]) (rfl))
  · refine vv_iconst (v := 0) C dX5_compareBy_22 (by decide) ?_
    exact vv_iret C hR dX5_compareBy_23 (qI_of (by unfold cmpS; rw [if_neg h_nask]) (rfl))
set_option maxRecDepth 100000 in
set_option maxHeartbeats 4000000 in
theorem c_X5_isAhead {l : Launch} {G : mw_GG} (M : mw_M) (hw : wfR M) {f g f2 g2 : Nat} (hv : valP M f g) (hv2 : valP M f2 g2) {y z : Int32} (hy : y = nI (12 * f + g)) (hz : z = nI (12 * f2 + g2)) : mw_Met l yX5_isAhead wsX5_isAhead ({ frames := 4, cells := 0, slots := 0, locals := 90 } : Room) G [.ref (G.1 126), .int y, .int z] M (qI (bI (ahdS M f g f2 g2 = true)) M) := by
  refine mw_ofV (cc := cX5_isAhead) 4 (by decide) rfl rfl (Nat.le_of_ble_eq_true rfl) ?_
  intro p e s m args below meth c C hR hN0
  subst hy
  subst hz
  refine vv_loc (ls2 := [some (.ref (G.1 126)), some (.int (nI (12 * f + g))), some (.int (nI (12 * f2 + g2))), none]) rfl ?_
  refine vv_aload_n C 0 dX5_isAhead_0 rfl rfl ?_
  refine vv_iconst (v := 0) C dX5_isAhead_1 (by decide) ?_
  refine vv_iload_n C 1 dX5_isAhead_2 rfl rfl ?_
  refine vv_iload_n C 2 dX5_isAhead_3 rfl rfl ?_
  refine vv_callVI C [.int 0, .int (nI (12 * f + g)), .int (nI (12 * f2 + g2))] (c_X5_compareBy M hw (k := 0) (f := f) (g := g) (f2 := f2) (g2 := g2) (by decide) hv hv2 (x := 0) (y := (nI (12 * f + g))) (z := (nI (12 * f2 + g2))) (by decide) rfl rfl) sh_126 rfl (cwV 3 C.1.2.2.2.2 gX5_isAhead_X5_compareBy rfl rfl rfl (by decide +kernel) ⟨Nat.le_of_ble_eq_true rfl, Nat.le_of_ble_eq_true rfl⟩) rfl rfl rfl (Nat.le_of_ble_eq_true rfl) dX5_isAhead_4 ⟨Nat.le_refl _, Nat.le_refl _⟩ ?_
  refine vv_istore_n (ls2 := [some (.ref (G.1 126)), some (.int (nI (12 * f + g))), some (.int (nI (12 * f2 + g2))), some (.int (cmpS M 0 f g f2 g2))]) C 3 dX5_isAhead_7 rfl (Nat.le_of_ble_eq_true rfl) rfl ?_
  refine vv_iload_n C 3 dX5_isAhead_8 rfl rfl ?_
  refine vv_if_ne C 20 dX5_isAhead_9 (by decide) (fun h_n0 => ?_) (fun h_0 => ?_)
  · refine vv_iload_n C 3 dX5_isAhead_20 rfl rfl ?_
    refine vv_if_ge C 28 dX5_isAhead_21 (by decide) (fun h_ge => ?_) (fun h_lt => ?_)
    · refine vv_iconst (v := 0) C dX5_isAhead_28 (by decide) ?_
      exact vv_zret0 C hR dX5_isAhead_29 (qI_of (by simp [bI, ahdS, h_n0, h_ge]) (rfl))
    · refine vv_iconst (v := 1) C dX5_isAhead_24 (by decide) ?_
      refine vv_goto C 29 dX5_isAhead_25 (by decide) ?_
      exact vv_zret1 C hR dX5_isAhead_29 (qI_of (by simp [bI, ahdS, h_n0, h_lt]) (rfl))
  · refine vv_aload_n C 0 dX5_isAhead_12 rfl rfl ?_
    refine vv_iconst (v := 1) C dX5_isAhead_13 (by decide) ?_
    refine vv_iload_n C 1 dX5_isAhead_14 rfl rfl ?_
    refine vv_iload_n C 2 dX5_isAhead_15 rfl rfl ?_
    refine vv_callVI C [.int 1, .int (nI (12 * f + g)), .int (nI (12 * f2 + g2))] (c_X5_compareBy M hw (k := 1) (f := f) (g := g) (f2 := f2) (g2 := g2) (by decide) hv hv2 (x := 1) (y := (nI (12 * f + g))) (z := (nI (12 * f2 + g2))) (by decide) rfl rfl) sh_126 rfl (cwV 3 C.1.2.2.2.2 gX5_isAhead_X5_compareBy rfl rfl rfl (by decide +kernel) ⟨Nat.le_of_ble_eq_true rfl, Nat.le_of_ble_eq_true rfl⟩) rfl rfl rfl (Nat.le_of_ble_eq_true rfl) dX5_isAhead_16 ⟨Nat.le_refl _, Nat.le_refl _⟩ ?_
    refine vv_istore_n (ls2 := [some (.ref (G.1 126)), some (.int (nI (12 * f + g))), some (.int (nI (12 * f2 + g2))), some (.int (cmpS M 1 f g f2 g2))]) C 3 dX5_isAhead_19 rfl (Nat.le_of_ble_eq_true rfl) rfl ?_
    refine vv_iload_n C 3 dX5_isAhead_20 rfl rfl ?_
    refine vv_if_ge C 28 dX5_isAhead_21 (by decide) (fun h_ge => ?_) (fun h_lt => ?_)
    · refine vv_iconst (v := 0) C dX5_isAhead_28 (by decide) ?_
      exact vv_zret0 C hR dX5_isAhead_29 (qI_of (by simp [bI, ahdS, h_0, h_ge]) (rfl))
    · refine vv_iconst (v := 1) C dX5_isAhead_24 (by decide) ?_
      refine vv_goto C 29 dX5_isAhead_25 (by decide) ?_
      exact vv_zret1 C hR dX5_isAhead_29 (qI_of (by simp [bI, ahdS, h_0, h_lt]) (rfl))
