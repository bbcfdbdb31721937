theorem cof_0 {V : mw_M} {d c : Nat} : cofI V d c 0 = V (100 + 12 * d + 3 * c) := if_pos rfl
theorem cof_1 {V : mw_M} {d c : Nat} : cofI V d c 1 = V (100 + 12 * d + 1 + 3 * c) := rfl
theorem cof_2 {V : mw_M} {d c : Nat} : cofI V d c 2 = V (100 + 12 * d + 2 + 3 * c) := rfl
theorem cof_j {V : mw_M} {d c j : Nat} (hj : j < 3) : cofI V d c (nI j) = V (100 + 12 * d + 3 * c + j) := by
  have h : j = 0 ∨ j = 1 ∨ j = 2 := by omega
  rcases h with rfl | rfl | rfl
  · exact cof_0
  · exact cof_1.trans (congrArg V (by omega))
  · exact cof_2.trans (congrArg V (by omega))
theorem cof_n {V : mw_M} {d c : Nat} {w : Int32} (h : 3 ≤ w) : cofI V d c w = nI (cntB (s_cf V d c) (nN V d)) := by
  have e : ∀ k : Nat, k < 3 → ¬ w = nI k := fun k hk z => by
    rw [z] at h
    exact nI_ge (b := 3) hk (by omega) h
  unfold cofI
  rw [if_neg (show ¬ w = 0 from e 0 (by omega)), if_neg (show ¬ w = 1 from e 1 (by omega)), if_neg (show ¬ w = 2 from e 2 (by omega))]
theorem cf_at {V : mw_M} (hw : wfV V) {d c i : Nat} (hd : d < 2) (hc4 : c < 4) (hc : ¬ V d ≤ nI c) (hi12 : i < 12) (hi : ¬ V (2 + d) ≤ nI i) : s_cf V d c i = true ↔ (¬ 9 ≤ V (100 + 12 * d + 3 * c + 0) ∧ fitR (V (100 + 12 * d + 3 * c + 0)) (V (100 + 12 * d + 3 * c + 1)) (V (100 + 12 * d + 3 * c + 2)) (V (4 + 48 * d + (4 * i + c))) = true) := by
  obtain ⟨k, a, b, h1, h2, h3, h4, h5, h6, h7⟩ := wf_cl hw hd hc4
  have e : s_cf V d c i = tkB (nI k) (nI a) (nI b) (V (4 + 48 * d + (4 * i + c))) := by
    unfold s_cf
    rw [ent_at hd hi hc hi12 hc4, h1, show 100 + 12 * d + 1 + 3 * c = 100 + 12 * d + 3 * c + 1 by omega, h3, show 100 + 12 * d + 2 + 3 * c = 100 + 12 * d + 3 * c + 2 by omega, h6]
  rw [e, Nat.add_zero, h1, h3, h6]
  rcases Nat.lt_or_ge k 9 with z | z
  · rw [fit_tk (by omega) (nI_pos (by omega))]
    exact ⟨fun w => ⟨nI_ge (b := 9) z (by omega), w⟩, fun w => w.2⟩
  · rw [tk_hi z h2]
    constructor
    · intro w
      exact absurd w (by decide)
    · intro w
      exact absurd (nI_le (a := 9) z (by omega)) w.1
theorem dv4 {k : Nat} (h : k < 8) : nI k / 4 = nI (k / 4) := by
  have h : k = 0 ∨ k = 1 ∨ k = 2 ∨ k = 3 ∨ k = 4 ∨ k = 5 ∨ k = 6 ∨ k = 7 := by omega
  rcases h with rfl | rfl | rfl | rfl | rfl | rfl | rfl | rfl <;> decide
theorem rm4 {k : Nat} (h : k < 8) : nI k - nI k / 4 * 4 = nI (k % 4) := rem4 (by omega)
theorem ask_iff {V : mw_M} {c : Nat} (hc : c < 8) : askP V (nI c) ↔ (hcP V (c / 4) (nI (c % 4)) ∧ (nI c < 4 ∨ V 124 = 1)) := by
  rcases Nat.lt_or_ge c 4 with z | z
  · have e1 : c / 4 = 0 := by omega
    have e2 : c % 4 = c := by omega
    have e3 : ¬ 4 ≤ nI c := nI_ge (b := 4) z (by omega)
    rw [e1, e2]
    constructor
    · intro h
      rcases h with h | h
      · exact ⟨h.2, Or.inl (nI_lt (b := 4) z (by omega))⟩
      · exact absurd h.1 e3
    · intro h
      exact Or.inl ⟨e3, h.1⟩
  · have e1 : c / 4 = 1 := by omega
    have e2 : c % 4 = c - 4 := by omega
    have e3 : 4 ≤ nI c := nI_le (a := 4) z (by omega)
    have e4 : nI c - 4 = nI (c - 4) := nI_subI (b := 4) z
    rw [e1, e2]
    constructor
    · intro h
      rcases h with h | h
      · exact absurd e3 h.1
      · rw [e4] at h
        exact ⟨h.2.2, Or.inr h.2.1⟩
    · intro h
      refine Or.inr ⟨e3, ?_, ?_⟩
      · rcases h.2 with w | w
        · exact absurd w (nI_nlt (b := 4) z (by omega))
        · exact w
      · rw [e4]
        exact h.1
/-- a column found, or -14 -/
def rtI (k : Nat) : Int32 := if k < 8 then nI k else -14
theorem rtI_lt {k : Nat} (h : k < 8) : rtI k = nI k := if_pos h
theorem rtI_no {k : Nat} (h : ¬ k < 8) : rtI k = -14 := if_neg h
def wS (V : mw_M) (a f g : Nat) : Int32 := if telS V 8 a < 8 then vS V (telS V 8 a) f g else -1
theorem fit_hi {V : mw_M} {c f g a : Nat} (h : ¬ V (100 + 3 * c) < 8) (ha : V (101 + 3 * c) = nI a) (ha4 : a < 4) : fitS V 8 c f g = (decide (¬ vS V c f g = -1) && (decide (¬ wS V a f g = -1) && (if V (100 + 3 * c) = 8 then decide (vS V c f g = wS V a f g) else if V (100 + 3 * c) = 9 then decide (¬ wS V a f g ≤ vS V c f g) else decide (¬ vS V c f g ≤ wS V a f g)))) := by
  unfold fitS
  rw [if_neg h, ha, nI_clamp (by omega)]
  rfl
theorem fit_lo {V : mw_M} (hw : wfV V) {c f g : Nat} (hc : c < 8) (h : V (100 + 3 * c) < 8) : fitS V 8 c f g = fitR (V (100 + 3 * c)) (V (101 + 3 * c)) (V (102 + 3 * c)) (vS V c f g) := by
  obtain ⟨k, a, b, h1, h2, h3, h4, h5, h6, h7⟩ := hw.2.2.2.1 c hc
  unfold fitS
  rw [if_pos h]
  rw [h1] at h ⊢
  rw [h3, fit_tk (by
    rcases Nat.lt_or_ge k 8 with z | z
    · omega
    · exact absurd h (nI_nlt (b := 8) z (by omega))) (nI_pos (by omega))]
theorem telP_f {V : mw_M} {a c : Nat} (h : ¬ (askP V (nI c) ∧ V (100 + 3 * c) = 8 ∧ V (101 + 3 * c) = nI a)) : telP V 8 a c = false := by
  unfold telP
  rw [Bool.eq_false_iff]
  intro z
  simp only [Bool.and_eq_true, decide_eq_true_eq] at z
  exact h ⟨z.1, z.2.2.1, z.2.2.2⟩
theorem telP_t {V : mw_M} {a c : Nat} (hc : c < 8) (h1 : askP V (nI c)) (h2 : V (100 + 3 * c) = 8) (h3 : V (101 + 3 * c) = nI a) : telP V 8 a c = true := by
  unfold telP
  simp only [Bool.and_eq_true, decide_eq_true_eq]
  exact ⟨h1, by omega, h2, h3⟩
theorem misP_f {V : mw_M} {f g c : Nat} (h : ¬ (askP V (nI c) ∧ ¬ fitS V 8 c f g = true)) : misP V 8 f g c = false := by
  unfold misP
  rw [Bool.eq_false_iff]
  intro z
  simp only [Bool.and_eq_true, decide_eq_true_eq, Bool.not_eq_true'] at z
  exact h ⟨z.1, fun w => by rw [z.2.2] at w; exact absurd w (by decide)⟩
theorem misP_t {V : mw_M} {f g c : Nat} (hc : c < 8) (h1 : askP V (nI c)) (h2 : ¬ fitS V 8 c f g = true) : misP V 8 f g c = true := by
  unfold misP
  simp only [Bool.and_eq_true, decide_eq_true_eq, Bool.not_eq_true']
  exact ⟨h1, by omega, Bool.eq_false_iff.mpr h2⟩
theorem iX9_cellOf_X9 : ∀ w ∈ u_ws RX9 TX9 13, w ∈ wsX9_cellOf := fun w hw => (List.mem_cons_of_mem _ (List.mem_append_right _ hw))
set_option maxRecDepth 100000 in
set_option maxHeartbeats 4000000 in
theorem lp_X9_cellOf {p : Program} {l : Launch} {e : Env} {s : State} {m : MethodId} {args : Array Value} {below : List Frame} {meth : Method} {c : Code} {G : mw_GG} {Q : State → Prop} (C : vv_C p s m args c G cX9_cellOf 8 wsX9_cellOf RX9) (M V : mw_M) (hV : vwO M V) (hw : wfV V) {d cc n : Nat} (hd : d < 2) (hc4 : cc < 4) (hcw : ¬ V d ≤ nI cc) (hn : V (2 + d) = nI n) (hn12 : n ≤ 12) {x g w : Int32} (hx : x = nI d) (hg : g = nI cc) (hk : vv p l e ({ frames := 2, cells := 0, slots := 0, locals := 45 } : Room) s m args below meth c G 0 0 Q M 130 [some (.ref (G.1 145)), some (.int x), some (.int g), some (.int w), some (.int (V (100 + 12 * d + 3 * cc + 0))), some (.int (nI (cntB (s_cf V d cc) n))), some (.int (nI n)), none] []) : ∀ (k i : Nat), n + 1 ≤ i + k → i ≤ n → vv p l e ({ frames := 2, cells := 0, slots := 0, locals := 45 } : Room) s m args below meth c G 0 0 Q M 56 [some (.ref (G.1 145)), some (.int x), some (.int g), some (.int w), some (.int (V (100 + 12 * d + 3 * cc + 0))), some (.int (nI (cntB (s_cf V d cc) i))), some (.int (nI i)), none] [] := by
  intro k
  induction k with
  | zero => intro i h1 h2; omega
  | succ k ih =>
    intro i h1 h2
    refine vv_iload C 6 dX9_cellOf_56 rfl ?_
    refine vv_aload_n C 0 dX9_cellOf_58 rfl rfl ?_
    refine vv_getr C (Cn := RX9) (T := TX9) (N := 13) sh_145 0 rfl rfl (by decide) iX9_cellOf_X9 (List.mem_of_getElem? (i := 1) rfl) rfl dX9_cellOf_59 ?_
    refine vv_iconst (v := 2) C dX9_cellOf_62 (by decide) ?_
    refine vv_iload_n C 1 dX9_cellOf_63 rfl rfl ?_
    refine vv_iadd C dX9_cellOf_64 ?_
    refine vv_ald (j := 2 + d) (q := 2000 + (2 + d)) C sh_146 (ix_2x hx) (by omega) (by omega) dX9_cellOf_65 ?_
    refine vv_top (y := nI n) (by rw [hV _ (by omega)]; exact hn) ?_
    refine vv_icmp_ge C 130 dX9_cellOf_66 (by decide) (fun hge => ?_) (fun hlt => ?_)
    · have hin : i = n := by
        rcases Nat.lt_or_ge i n with z | z
        · exact absurd hge (nI_ge (b := n) z (by omega))
        · omega
      subst hin
      exact hk
    · have hi4 : i < n := by
        rcases Nat.lt_or_ge i n with z | z
        · exact z
        · exact absurd (nI_le (a := n) z (by omega)) hlt
      refine vv_iload C 4 dX9_cellOf_69 rfl ?_
      refine vv_aload_n C 0 dX9_cellOf_71 rfl rfl ?_
      refine vv_iload_n C 1 dX9_cellOf_72 rfl rfl ?_
      refine vv_iload_n C 2 dX9_cellOf_73 rfl rfl ?_
      refine vv_iconst (v := 1) C dX9_cellOf_74 (by decide) ?_
      refine vv_callVI C [.int x, .int g, .int 1] (c_X9_cellAt M V hV (d := d) (cc := cc) (w := 1) ⟨hd, hc4, by decide⟩ (x := x) (y := g) (z := 1) hx hg (by decide)) sh_145 rfl (cwV 3 C.1.2.2.2.2 gX9_cellOf_X9_cellAt rfl rfl rfl (by decide +kernel) ⟨Nat.le_of_ble_eq_true rfl, Nat.le_of_ble_eq_true rfl⟩) rfl rfl rfl (Nat.le_of_ble_eq_true rfl) dX9_cellOf_75 ⟨Nat.le_refl _, Nat.le_refl _⟩ ?_
      refine vv_aload_n C 0 dX9_cellOf_78 rfl rfl ?_
      refine vv_iload_n C 1 dX9_cellOf_79 rfl rfl ?_
      refine vv_iload_n C 2 dX9_cellOf_80 rfl rfl ?_
      refine vv_iconst (v := 2) C dX9_cellOf_81 (by decide) ?_
      refine vv_callVI C [.int x, .int g, .int 2] (c_X9_cellAt M V hV (d := d) (cc := cc) (w := 2) ⟨hd, hc4, by decide⟩ (x := x) (y := g) (z := 2) hx hg (by decide)) sh_145 rfl (cwV 3 C.1.2.2.2.2 gX9_cellOf_X9_cellAt rfl rfl rfl (by decide +kernel) ⟨Nat.le_of_ble_eq_true rfl, Nat.le_of_ble_eq_true rfl⟩) rfl rfl rfl (Nat.le_of_ble_eq_true rfl) dX9_cellOf_82 ⟨Nat.le_refl _, Nat.le_refl _⟩ ?_
      refine vv_aload_n C 0 dX9_cellOf_85 rfl rfl ?_
      refine vv_getr C (Cn := RX9) (T := TX9) (N := 13) sh_145 0 rfl rfl (by decide) iX9_cellOf_X9 (List.mem_of_getElem? (i := 1) rfl) rfl dX9_cellOf_86 ?_
      refine vv_iload_n C 1 dX9_cellOf_89 rfl rfl ?_
      refine vv_iload C 6 dX9_cellOf_90 rfl ?_
      refine vv_iload_n C 2 dX9_cellOf_92 rfl rfl ?_
      refine vv_callSI C [.int x, .int (nI i), .int g] (c_X9_valueAt M x (nI i) g) (cwS 3 C.1.2.2.2.2 gX9_cellOf_X9_valueAt rfl rfl rfl (by decide +kernel) ⟨Nat.le_of_ble_eq_true rfl, Nat.le_of_ble_eq_true rfl⟩) rfl rfl rfl (Nat.le_of_ble_eq_true rfl) dX9_cellOf_93 ⟨Nat.le_refl _, Nat.le_refl _⟩ ?_
      refine vv_top (y := nI (4 + 48 * d + (4 * i + cc))) (ix_v3 hx rfl hg) ?_
      refine vv_ald (j := (4 + 48 * d + (4 * i + cc))) (q := 2000 + (4 + 48 * d + (4 * i + cc))) C sh_146 rfl (by omega) (by omega) dX9_cellOf_96 ?_
      refine vv_top (y := V (4 + 48 * d + (4 * i + cc))) (hV _ (by omega)) ?_
      refine vv_callSI C [.int (V (100 + 12 * d + 3 * cc + 0)), .int (V (100 + 12 * d + 3 * cc + 1)), .int (V (100 + 12 * d + 3 * cc + 2)), .int (V (4 + 48 * d + (4 * i + cc)))] (c_X9_fitsOne M (V (100 + 12 * d + 3 * cc + 0)) (V (100 + 12 * d + 3 * cc + 1)) (V (100 + 12 * d + 3 * cc + 2)) (V (4 + 48 * d + (4 * i + cc)))) (cwS 4 C.1.2.2.2.2 gX9_cellOf_X9_fitsOne rfl rfl rfl (by decide +kernel) ⟨Nat.le_of_ble_eq_true rfl, Nat.le_of_ble_eq_true rfl⟩) rfl rfl rfl (Nat.le_of_ble_eq_true rfl) dX9_cellOf_97 ⟨Nat.le_refl _, Nat.le_refl _⟩ ?_
      refine vv_istore (ls2 := [some (.ref (G.1 145)), some (.int x), some (.int g), some (.int w), some (.int (V (100 + 12 * d + 3 * cc + 0))), some (.int (nI (cntB (s_cf V d cc) i))), some (.int (nI i)), some (.int (bI (fitR (V (100 + 12 * d + 3 * cc + 0)) (V (100 + 12 * d + 3 * cc + 1)) (V (100 + 12 * d + 3 * cc + 2)) (V (4 + 48 * d + (4 * i + cc))) = true)))]) C 7 dX9_cellOf_100 (Nat.le_of_ble_eq_true rfl) rfl ?_
      refine vv_iload C 5 dX9_cellOf_102 rfl ?_
      refine vv_iload C 4 dX9_cellOf_104 rfl ?_
      refine vv_bipush (v := 9) C dX9_cellOf_106 (by decide) ?_
      refine vv_icmp_ge C 120 dX9_cellOf_108 (by decide) (fun h_g9 => ?_) (fun h_l9 => ?_)
      · refine vv_iconst (v := 0) C dX9_cellOf_120 (by decide) ?_
        refine vv_iadd C dX9_cellOf_121 ?_
        refine vv_top (y := nI (cntB (s_cf V d cc) i)) (Int32.add_zero _) ?_
        refine vv_istore (ls2 := [some (.ref (G.1 145)), some (.int x), some (.int g), some (.int w), some (.int (V (100 + 12 * d + 3 * cc + 0))), some (.int (nI (cntB (s_cf V d cc) i))), some (.int (nI i)), some (.int (bI (fitR (V (100 + 12 * d + 3 * cc + 0)) (V (100 + 12 * d + 3 * cc + 1)) (V (100 + 12 * d + 3 * cc + 2)) (V (4 + 48 * d + (4 * i + cc))) = true)))]) C 5 dX9_cellOf_122 (Nat.le_of_ble_eq_true rfl) rfl ?_
        refine vv_iinc (v := nI (i + 1)) (ls2 := [some (.ref (G.1 145)), some (.int x), some (.int g), some (.int w), some (.int (V (100 + 12 * d + 3 * cc + 0))), some (.int (nI (cntB (s_cf V d cc) i))), some (.int (nI (i + 1))), some (.int (bI (fitR (V (100 + 12 * d + 3 * cc + 0)) (V (100 + 12 * d + 3 * cc + 1)) (V (100 + 12 * d + 3 * cc + 2)) (V (4 + 48 * d + (4 * i + cc))) = true)))]) C 6 dX9_cellOf_124 rfl (nI_1 _) rfl ?_
        refine vv_goto C 56 dX9_cellOf_127 (by decide) ?_
        have hcf := cf_at hw hd hc4 hcw (i := i) (by omega) (by rw [hn]; exact nI_ge hi4 (by omega))
        have e := ih (i + 1) (by omega) (by omega)
        rw [cntB_f (Bool.eq_false_iff.mpr (fun z => (hcf.mp z).1 h_g9))] at e
        refine vv_keep (ls2 := [some (.ref (G.1 145)), some (.int x), some (.int g), some (.int w), some (.int (V (100 + 12 * d + 3 * cc + 0))), some (.int (nI (cntB (s_cf V d cc) i))), some (.int (nI (i + 1))), none]) ⟨rfl, rfl, rfl, rfl, rfl, rfl, rfl, trivial⟩ ?_
        exact e
      · refine vv_iload C 7 dX9_cellOf_111 rfl ?_
        refine vv_bif_eq C 120 dX9_cellOf_113 (by decide) (fun h_nf => ?_) (fun h_f => ?_)
        · refine vv_iconst (v := 0) C dX9_cellOf_120 (by decide) ?_
          refine vv_iadd C dX9_cellOf_121 ?_
          refine vv_top (y := nI (cntB (s_cf V d cc) i)) (Int32.add_zero _) ?_
          refine vv_istore (ls2 := [some (.ref (G.1 145)), some (.int x), some (.int g), some (.int w), some (.int (V (100 + 12 * d + 3 * cc + 0))), some (.int (nI (cntB (s_cf V d cc) i))), some (.int (nI i)), some (.int (bI (fitR (V (100 + 12 * d + 3 * cc + 0)) (V (100 + 12 * d + 3 * cc + 1)) (V (100 + 12 * d + 3 * cc + 2)) (V (4 + 48 * d + (4 * i + cc))) = true)))]) C 5 dX9_cellOf_122 (Nat.le_of_ble_eq_true rfl) rfl ?_
          refine vv_iinc (v := nI (i + 1)) (ls2 := [some (.ref (G.1 145)), some (.int x), some (.int g), some (.int w), some (.int (V (100 + 12 * d + 3 * cc + 0))), some (.int (nI (cntB (s_cf V d cc) i))), some (.int (nI (i + 1))), some (.int (bI (fitR (V (100 + 12 * d + 3 * cc + 0)) (V (100 + 12 * d + 3 * cc + 1)) (V (100 + 12 * d + 3 * cc + 2)) (V (4 + 48 * d + (4 * i + cc))) = true)))]) C 6 dX9_cellOf_124 rfl (nI_1 _) rfl ?_
          refine vv_goto C 56 dX9_cellOf_127 (by decide) ?_
          have hcf := cf_at hw hd hc4 hcw (i := i) (by omega) (by rw [hn]; exact nI_ge hi4 (by omega))
          have e := ih (i + 1) (by omega) (by omega)
          rw [cntB_f (Bool.eq_false_iff.mpr (fun z => h_nf (hcf.mp z).2))] at e
          refine vv_keep (ls2 := [some (.ref (G.1 145)), some (.int x), some (.int g), some (.int w), some (.int (V (100 + 12 * d + 3 * cc + 0))), some (.int (nI (cntB (s_cf V d cc) i))), some (.int (nI (i + 1))), none]) ⟨rfl, rfl, rfl, rfl, rfl, rfl, rfl, trivial⟩ ?_
          exact e
        · refine vv_iconst (v := 1) C dX9_cellOf_116 (by decide) ?_
          refine vv_goto C 121 dX9_cellOf_117 (by decide) ?_
          refine vv_iadd C dX9_cellOf_121 ?_
          refine vv_top (y := nI (cntB (s_cf V d cc) i + 1)) (nI_1 _) ?_
          refine vv_istore (ls2 := [some (.ref (G.1 145)), some (.int x), some (.int g), some (.int w), some (.int (V (100 + 12 * d + 3 * cc + 0))), some (.int (nI (cntB (s_cf V d cc) i + 1))), some (.int (nI i)), some (.int (bI (fitR (V (100 + 12 * d + 3 * cc + 0)) (V (100 + 12 * d + 3 * cc + 1)) (V (100 + 12 * d + 3 * cc + 2)) (V (4 + 48 * d + (4 * i + cc))) = true)))]) C 5 dX9_cellOf_122 (Nat.le_of_ble_eq_true rfl) rfl ?_
          refine vv_iinc (v := nI (i + 1)) (ls2 := [some (.ref (G.1 145)), some (.int x), some (.int g), some (.int w), some (.int (V (100 + 12 * d + 3 * cc + 0))), some (.int (nI (cntB (s_cf V d cc) i + 1))), some (.int (nI (i + 1))), some (.int (bI (fitR (V (100 + 12 * d + 3 * cc + 0)) (V (100 + 12 * d + 3 * cc + 1)) (V (100 + 12 * d + 3 * cc + 2)) (V (4 + 48 * d + (4 * i + cc))) = true)))]) C 6 dX9_cellOf_124 rfl (nI_1 _) rfl ?_
          refine vv_goto C 56 dX9_cellOf_127 (by decide) ?_
          have hcf := cf_at hw hd hc4 hcw (i := i) (by omega) (by rw [hn]; exact nI_ge hi4 (by omega))
          have e := ih (i + 1) (by omega) (by omega)
          rw [cntB_t (hcf.mpr ⟨h_l9, h_f⟩)] at e
          refine vv_keep (ls2 := [some (.ref (G.1 145)), some (.int x), some (.int g), some (.int w), some (.int (V (100 + 12 * d + 3 * cc + 0))), some (.int (nI (cntB (s_cf V d cc) i + 1))), some (.int (nI (i + 1))), none]) ⟨rfl, rfl, rfl, rfl, rfl, rfl, rfl, trivial⟩ ?_
          exact e
set_option maxRecDepth 100000 in
set_option maxHeartbeats 4000000 in
theorem c_X9_cellOf {l : Launch} {G : mw_GG} (M V : mw_M) (hV : relO M V) (hw : wfV V) (hh : hiV V) (ht : txV V) (x g w : Int32) : mw_Met l yX9_cellOf wsX9_cellOf ({ frames := 2, cells := 0, slots := 0, locals := 45 } : Room) G [.ref (G.1 145), .int x, .int g, .int w] M (qIP (fun r M2 => r = (op_cellOf V x g w).1 ∧ relO M2 (op_cellOf V x g w).2 ∧ rfO M M2)) := by
  refine mw_ofV (cc := cX9_cellOf) 8 (by decide) rfl rfl (Nat.le_of_ble_eq_true rfl) ?_
  intro p e s m args below meth c C hR hN0
  refine vv_loc (ls2 := [some (.ref (G.1 145)), some (.int x), some (.int g), some (.int w), none, none, none, none]) rfl ?_
  have hR0 := hw.wfR
  have hdx := dN_lt x
  have hz : szP V (dN x) := szD hw x
  refine vv_iload_n C 1 dX9_cellOf_0 rfl rfl ?_
  refine vv_callSI C [.int x] (c_X9_isDrawer M x) (cwS 1 C.1.2.2.2.2 gX9_cellOf_X9_isDrawer rfl rfl rfl (by decide +kernel) ⟨Nat.le_of_ble_eq_true rfl, Nat.le_of_ble_eq_true rfl⟩) rfl rfl rfl (Nat.le_of_ble_eq_true rfl) dX9_cellOf_1 ⟨Nat.le_refl _, Nat.le_refl _⟩ ?_
  refine vv_bif_eq C 25 dX9_cellOf_4 (by decide) (fun h_nd => ?_) (fun h_d => ?_)
  · refine vv_bipush (v := (-11)) C dX9_cellOf_25 (by decide) ?_
    exact vv_iret C hR dX9_cellOf_27 (qIP_of (by rw [show op_cellOf V x g w = (-11, V) from if_neg (fun z => h_nd z.1.1)]; exact ⟨rfl, hV, rfO.rf⟩))
  · refine vv_aload_n C 0 dX9_cellOf_7 rfl rfl ?_
    refine vv_iload_n C 1 dX9_cellOf_8 rfl rfl ?_
    refine vv_iload_n C 2 dX9_cellOf_9 rfl rfl ?_
    refine vv_callVI C [.int x, .int g] (c_X9_isColumn M V hV.1 (d := (dN x)) (dN_lt x) (x := x) (dN_nI h_d) g) sh_145 rfl (cwV 2 C.1.2.2.2.2 gX9_cellOf_X9_isColumn rfl rfl rfl (by decide +kernel) ⟨Nat.le_of_ble_eq_true rfl, Nat.le_of_ble_eq_true rfl⟩) rfl rfl rfl (Nat.le_of_ble_eq_true rfl) dX9_cellOf_10 ⟨Nat.le_refl _, Nat.le_refl _⟩ ?_
    refine vv_bif_eq C 25 dX9_cellOf_13 (by decide) (fun h_ng => ?_) (fun h_g => ?_)
    · refine vv_bipush (v := (-11)) C dX9_cellOf_25 (by decide) ?_
      exact vv_iret C hR dX9_cellOf_27 (qIP_of (by rw [show op_cellOf V x g w = (-11, V) from if_neg (fun z => h_ng z.1.2)]; exact ⟨rfl, hV, rfO.rf⟩))
    · refine vv_iload_n C 3 dX9_cellOf_16 rfl rfl ?_
      refine vv_iconst (v := 0) C dX9_cellOf_17 (by decide) ?_
      refine vv_iconst (v := 3) C dX9_cellOf_18 (by decide) ?_
      refine vv_callSI C [.int w, .int 0, .int 3] (c_X9_in M w 0 3) (cwS 3 C.1.2.2.2.2 gX9_cellOf_X9_in rfl rfl rfl (by decide +kernel) ⟨Nat.le_of_ble_eq_true rfl, Nat.le_of_ble_eq_true rfl⟩) rfl rfl rfl (Nat.le_of_ble_eq_true rfl) dX9_cellOf_19 ⟨Nat.le_refl _, Nat.le_refl _⟩ ?_
      refine vv_bif_ne C 28 dX9_cellOf_22 (by decide) (fun h_in => ?_) (fun h_nin => ?_)
      · have hgn := hc_nI hz h_g
        refine vv_iload_n C 3 dX9_cellOf_28 rfl rfl ?_
        refine vv_iconst (v := 3) C dX9_cellOf_29 (by decide) ?_
        refine vv_icmp_ge C 41 dX9_cellOf_30 (by decide) (fun h_ge => ?_) (fun h_lt => ?_)
        · refine vv_aload_n C 0 dX9_cellOf_41 rfl rfl ?_
          refine vv_iload_n C 1 dX9_cellOf_42 rfl rfl ?_
          refine vv_iload_n C 2 dX9_cellOf_43 rfl rfl ?_
          refine vv_iconst (v := 0) C dX9_cellOf_44 (by decide) ?_
          refine vv_callVI C [.int x, .int g, .int 0] (c_X9_cellAt M V hV.1 (d := (dN x)) (cc := g.toNatClampNeg) (w := 0) ⟨hdx, hgn.2, by decide⟩ (x := x) (y := g) (z := 0) (dN_nI h_d) hgn.1 (by decide)) sh_145 rfl (cwV 3 C.1.2.2.2.2 gX9_cellOf_X9_cellAt rfl rfl rfl (by decide +kernel) ⟨Nat.le_of_ble_eq_true rfl, Nat.le_of_ble_eq_true rfl⟩) rfl rfl rfl (Nat.le_of_ble_eq_true rfl) dX9_cellOf_45 ⟨Nat.le_refl _, Nat.le_refl _⟩ ?_
          refine vv_istore (ls2 := [some (.ref (G.1 145)), some (.int x), some (.int g), some (.int w), some (.int (V (100 + 12 * (dN x) + 3 * g.toNatClampNeg + 0))), none, none, none]) C 4 dX9_cellOf_48 (Nat.le_of_ble_eq_true rfl) rfl ?_
          refine vv_iconst (v := 0) C dX9_cellOf_50 (by decide) ?_
          refine vv_istore (ls2 := [some (.ref (G.1 145)), some (.int x), some (.int g), some (.int w), some (.int (V (100 + 12 * (dN x) + 3 * g.toNatClampNeg + 0))), some (.int 0), none, none]) C 5 dX9_cellOf_51 (Nat.le_of_ble_eq_true rfl) rfl ?_
          refine vv_iconst (v := 0) C dX9_cellOf_53 (by decide) ?_
          refine vv_istore (ls2 := [some (.ref (G.1 145)), some (.int x), some (.int g), some (.int w), some (.int (V (100 + 12 * (dN x) + 3 * g.toNatClampNeg + 0))), some (.int 0), some (.int 0), none]) C 6 dX9_cellOf_54 (Nat.le_of_ble_eq_true rfl) rfl ?_
          have hgw : ¬ V (dN x) ≤ nI g.toNatClampNeg := by rw [← hgn.1]; exact h_g.2
          refine vv_loc (ls2 := [some (.ref (G.1 145)), some (.int x), some (.int g), some (.int w), some (.int (V (100 + 12 * dN x + 3 * g.toNatClampNeg + 0))), some (.int (nI (cntB (s_cf V (dN x) g.toNatClampNeg) 0))), some (.int (nI 0)), none]) rfl ?_
          refine lp_X9_cellOf C M V hV.1 hw hdx hgn.2 hgw hz.n.1 hz.n.2 (dN_nI h_d) hgn.1 ?_ (nN V (dN x) + 1) 0 (by omega) (by omega)
          refine vv_iload C 5 dX9_cellOf_130 rfl ?_
          exact vv_iret C hR dX9_cellOf_132 (qIP_of (by rw [show op_cellOf V x g w = (cofI V (dN x) g.toNatClampNeg w, V) from if_pos ⟨⟨h_d, h_g⟩, h_in⟩]; exact ⟨(cof_n h_ge).symm, hV, rfO.rf⟩))
        · obtain ⟨j, hj, hje, hjc⟩ := ix_of h_in.1 (n := 3) h_lt (by omega)
          refine vv_aload_n C 0 dX9_cellOf_33 rfl rfl ?_
          refine vv_iload_n C 1 dX9_cellOf_34 rfl rfl ?_
          refine vv_iload_n C 2 dX9_cellOf_35 rfl rfl ?_
          refine vv_iload_n C 3 dX9_cellOf_36 rfl rfl ?_
          refine vv_callVI C [.int x, .int g, .int w] (c_X9_cellAt M V hV.1 (d := (dN x)) (cc := g.toNatClampNeg) (w := j) ⟨hdx, hgn.2, hj⟩ (x := x) (y := g) (z := w) (dN_nI h_d) hgn.1 hje) sh_145 rfl (cwV 3 C.1.2.2.2.2 gX9_cellOf_X9_cellAt rfl rfl rfl (by decide +kernel) ⟨Nat.le_of_ble_eq_true rfl, Nat.le_of_ble_eq_true rfl⟩) rfl rfl rfl (Nat.le_of_ble_eq_true rfl) dX9_cellOf_37 ⟨Nat.le_refl _, Nat.le_refl _⟩ ?_
          exact vv_iret C hR dX9_cellOf_40 (qIP_of (by rw [show op_cellOf V x g w = (cofI V (dN x) g.toNatClampNeg w, V) from if_pos ⟨⟨h_d, h_g⟩, h_in⟩]; exact ⟨(by rw [hje]; exact (cof_j hj).symm), hV, rfO.rf⟩))
      · refine vv_bipush (v := (-11)) C dX9_cellOf_25 (by decide) ?_
        exact vv_iret C hR dX9_cellOf_27 (qIP_of (by rw [show op_cellOf V x g w = (-11, V) from if_neg (fun z => h_nin z.2)]; exact ⟨rfl, hV, rfO.rf⟩))
theorem iX9_isAsked_X9 : ∀ w ∈ u_ws RX9 TX9 13, w ∈ wsX9_isAsked := fun w hw => (List.mem_cons_of_mem _ (List.mem_append_right _ hw))
set_option maxRecDepth 100000 in
set_option maxHeartbeats 4000000 in
theorem c_X9_isAsked {l : Launch} {G : mw_GG} (M V : mw_M) (hV : vwO M V) {cc : Nat} (hc : cc < 8) {x : Int32} (hx : x = nI cc) : mw_Met l yX9_isAsked wsX9_isAsked ({ frames := 1, cells := 0, slots := 0, locals := 22 } : Room) G [.ref (G.1 145), .int x] M (qI (bI (askP V (nI cc))) M) := by
  refine mw_ofV (cc := cX9_isAsked) 2 (by decide) rfl rfl (Nat.le_of_ble_eq_true rfl) ?_
  intro p e s m args below meth c C hR hN0
  subst hx
  refine vv_loc (ls2 := [some (.ref (G.1 145)), some (.int (nI cc))]) rfl ?_
  refine vv_aload_n C 0 dX9_isAsked_0 rfl rfl ?_
  refine vv_iload_n C 1 dX9_isAsked_1 rfl rfl ?_
  refine vv_iconst (v := 4) C dX9_isAsked_2 (by decide) ?_
  refine vv_idiv C dX9_isAsked_3 (by decide) ?_
  refine vv_top (y := nI (cc / 4)) (dv4 (by omega)) ?_
  refine vv_iload_n C 1 dX9_isAsked_4 rfl rfl ?_
  refine vv_iconst (v := 4) C dX9_isAsked_5 (by decide) ?_
  refine vv_irem C dX9_isAsked_6 (by decide) ?_
  refine vv_top (y := nI (cc % 4)) (rm4 (by omega)) ?_
  refine vv_callVI C [.int (nI (cc / 4)), .int (nI (cc % 4))] (c_X9_isColumn M V hV (d := cc / 4) (by omega) (x := (nI (cc / 4))) rfl (nI (cc % 4))) sh_145 rfl (cwV 2 C.1.2.2.2.2 gX9_isAsked_X9_isColumn rfl rfl rfl (by decide +kernel) ⟨Nat.le_of_ble_eq_true rfl, Nat.le_of_ble_eq_true rfl⟩) rfl rfl rfl (Nat.le_of_ble_eq_true rfl) dX9_isAsked_7 ⟨Nat.le_refl _, Nat.le_refl _⟩ ?_
  refine vv_bif_eq C 33 dX9_isAsked_10 (by decide) (fun h_nc => ?_) (fun h_c => ?_)
  · refine vv_iconst (v := 0) C dX9_isAsked_33 (by decide) ?_
    exact vv_zret0 C hR dX9_isAsked_34 (qI_of ((bI_f (fun z => h_nc ((ask_iff hc).mp z).1)).symm) (rfl))
  · refine vv_iload_n C 1 dX9_isAsked_13 rfl rfl ?_
    refine vv_iconst (v := 4) C dX9_isAsked_14 (by decide) ?_
    refine vv_icmp_lt C 29 dX9_isAsked_15 (by decide) (fun h_l4 => ?_) (fun h_g4 => ?_)
    · refine vv_iconst (v := 1) C dX9_isAsked_29 (by decide) ?_
      refine vv_goto C 34 dX9_isAsked_30 (by decide) ?_
      exact vv_zret1 C hR dX9_isAsked_34 (qI_of ((bI_t ((ask_iff hc).mpr ⟨h_c, Or.inl h_l4⟩)).symm) (rfl))
    · refine vv_aload_n C 0 dX9_isAsked_18 rfl rfl ?_
      refine vv_getr C (Cn := RX9) (T := TX9) (N := 13) sh_145 0 rfl rfl (by decide) iX9_isAsked_X9 (List.mem_of_getElem? (i := 1) rfl) rfl dX9_isAsked_19 ?_
      refine vv_bipush (v := 124) C dX9_isAsked_22 (by decide) ?_
      refine vv_ald (j := 124) (q := 2124) C sh_146 (by decide) (by decide) rfl dX9_isAsked_24 ?_
      refine vv_top (y := V 124) (hV 124 (by decide)) ?_
      refine vv_iconst (v := 1) C dX9_isAsked_25 (by decide) ?_
      refine vv_icmp_ne C 33 dX9_isAsked_26 (by decide) (fun h_n1 => ?_) (fun h_1 => ?_)
      · refine vv_iconst (v := 0) C dX9_isAsked_33 (by decide) ?_
        exact vv_zret0 C hR dX9_isAsked_34 (qI_of ((bI_f (fun z => ((ask_iff hc).mp z).2.elim h_g4 h_n1)).symm) (rfl))
      · refine vv_iconst (v := 1) C dX9_isAsked_29 (by decide) ?_
        refine vv_goto C 34 dX9_isAsked_30 (by decide) ?_
        exact vv_zret1 C hR dX9_isAsked_34 (qI_of ((bI_t ((ask_iff hc).mpr ⟨h_c, Or.inr h_1⟩)).symm) (rfl))
theorem iX9_at_X9 : ∀ w ∈ u_ws RX9 TX9 13, w ∈ wsX9_at := fun w hw => (List.mem_cons_of_mem _ (List.mem_append_right _ hw))
set_option maxRecDepth 100000 in
set_option maxHeartbeats 4000000 in
theorem c_X9_at {l : Launch} {G : mw_GG} (M V : mw_M) (hV : vwO M V) {f g cc : Nat} (hb : f < 12 ∧ g < 12 ∧ cc < 8) {x y z : Int32} (hx : x = nI f) (hy : y = nI g) (hz : z = nI cc) : mw_Met l yX9_at wsX9_at ({ frames := 1, cells := 0, slots := 0, locals := 22 } : Room) G [.ref (G.1 145), .int x, .int y, .int z] M (qI (vS V cc f g) M) := by
  refine mw_ofV (cc := cX9_at) 4 (by decide) rfl rfl (Nat.le_of_ble_eq_true rfl) ?_
  intro p e s m args below meth c C hR hN0
  subst hx
  subst hy
  subst hz
  refine vv_loc (ls2 := [some (.ref (G.1 145)), some (.int (nI f)), some (.int (nI g)), some (.int (nI cc))]) rfl ?_
  refine vv_aload_n C 0 dX9_at_0 rfl rfl ?_
  refine vv_getr C (Cn := RX9) (T := TX9) (N := 13) sh_145 0 rfl rfl (by decide) iX9_at_X9 (List.mem_of_getElem? (i := 1) rfl) rfl dX9_at_1 ?_
  refine vv_iload_n C 3 dX9_at_4 rfl rfl ?_
  refine vv_iconst (v := 4) C dX9_at_5 (by decide) ?_
  refine vv_idiv C dX9_at_6 (by decide) ?_
  refine vv_top (y := nI (cc / 4)) (dv4 (by omega)) ?_
  refine vv_iload_n C 3 dX9_at_7 rfl rfl ?_
  refine vv_iconst (v := 4) C dX9_at_8 (by decide) ?_
  refine vv_icmp_ge C 16 dX9_at_9 (by decide) (fun h_g4 => ?_) (fun h_l4 => ?_)
  · refine vv_iload_n C 2 dX9_at_16 rfl rfl ?_
    refine vv_iload_n C 3 dX9_at_17 rfl rfl ?_
    refine vv_iconst (v := 4) C dX9_at_18 (by decide) ?_
    refine vv_irem C dX9_at_19 (by decide) ?_
    refine vv_top (y := nI (cc % 4)) (rm4 (by omega)) ?_
    refine vv_callSI C [.int (nI (cc / 4)), .int (nI g), .int (nI (cc % 4))] (c_X9_valueAt M (nI (cc / 4)) (nI g) (nI (cc % 4))) (cwS 3 C.1.2.2.2.2 gX9_at_X9_valueAt rfl rfl rfl (by decide +kernel) ⟨Nat.le_of_ble_eq_true rfl, Nat.le_of_ble_eq_true rfl⟩) rfl rfl rfl (Nat.le_of_ble_eq_true rfl) dX9_at_20 ⟨Nat.le_refl _, Nat.le_refl _⟩ ?_
    refine vv_top (y := nI (4 + 48 * (cc / 4) + (4 * g + cc % 4))) (ix_v3 rfl rfl rfl) ?_
    have hcx : ¬ cc < 4 := fun z => absurd h_g4 (nI_ge (b := 4) z (by omega))
    refine vv_ald (j := (4 + 48 * (cc / 4) + (4 * g + cc % 4))) (q := 2000 + (4 + 48 * (cc / 4) + (4 * g + cc % 4))) C sh_146 rfl (by omega) (by omega) dX9_at_23 ?_
    refine vv_top (y := vS V cc f g) (by rw [hV _ (by omega)]; unfold vS; rw [if_neg hcx]) ?_
    exact vv_iret C hR dX9_at_24 (qI_of (rfl) (rfl))
  · refine vv_iload_n C 1 dX9_at_12 rfl rfl ?_
    refine vv_goto C 17 dX9_at_13 (by decide) ?_
    refine vv_iload_n C 3 dX9_at_17 rfl rfl ?_
    refine vv_iconst (v := 4) C dX9_at_18 (by decide) ?_
    refine vv_irem C dX9_at_19 (by decide) ?_
    refine vv_top (y := nI (cc % 4)) (rm4 (by omega)) ?_
    refine vv_callSI C [.int (nI (cc / 4)), .int (nI f), .int (nI (cc % 4))] (c_X9_valueAt M (nI (cc / 4)) (nI f) (nI (cc % 4))) (cwS 3 C.1.2.2.2.2 gX9_at_X9_valueAt rfl rfl rfl (by decide +kernel) ⟨Nat.le_of_ble_eq_true rfl, Nat.le_of_ble_eq_true rfl⟩) rfl rfl rfl (Nat.le_of_ble_eq_true rfl) dX9_at_20 ⟨Nat.le_refl _, Nat.le_refl _⟩ ?_
    refine vv_top (y := nI (4 + 48 * (cc / 4) + (4 * f + cc % 4))) (ix_v3 rfl rfl rfl) ?_
    have hcx : cc < 4 := by
      rcases Nat.lt_or_ge cc 4 with z | z
      · exact z
      · exact absurd (nI_le (a := 4) z (by omega)) h_l4
    refine vv_ald (j := (4 + 48 * (cc / 4) + (4 * f + cc % 4))) (q := 2000 + (4 + 48 * (cc / 4) + (4 * f + cc % 4))) C sh_146 rfl (by omega) (by omega) dX9_at_23 ?_
    refine vv_top (y := vS V cc f g) (by rw [hV _ (by omega)]; unfold vS; rw [if_pos hcx]) ?_
    exact vv_iret C hR dX9_at_24 (qI_of (rfl) (rfl))
set_option maxRecDepth 100000 in
set_option maxHeartbeats 4000000 in
theorem lp_X9_teller {p : Program} {l : Launch} {e : Env} {s : State} {m : MethodId} {args : Array Value} {below : List Frame} {meth : Method} {c : Code} {G : mw_GG} {hR : vv_R meth (some .int)} (C : vv_C p s m args c G cX9_teller 3 wsX9_teller RX9) (M V : mw_M) (hV : vwO M V) {a : Nat} : ∀ (k i : Nat), 9 ≤ i + k → i ≤ 8 → (∀ j, j < i → telP V 8 a j = false) → vv p l e ({ frames := 2, cells := 0, slots := 0, locals := 43 } : Room) s m args below meth c G 0 0 (mw_E below args s G (qI (rtI (telS V 8 a)) M)) M 2 [some (.ref (G.1 145)), some (.int (nI a)), some (.int (nI i))] [] := by
  intro k
  induction k with
  | zero => intro i h1 h2 _; omega
  | succ k ih =>
    intro i h1 h2 hI
    refine vv_iload_n C 2 dX9_teller_2 rfl rfl ?_
    refine vv_bipush (v := 8) C dX9_teller_3 (by decide) ?_
    refine vv_icmp_ge C 55 dX9_teller_5 (by decide) (fun hge => ?_) (fun hlt => ?_)
    · refine vv_bipush (v := (-14)) C dX9_teller_55 (by decide) ?_
      exact vv_iret C hR dX9_teller_57 (qI_of (by unfold telS; rw [tlD_none (fun j hj => hI j (by have := (nI_leI (a := 8) (by omega) (by omega)).mp hge; omega))]; rfl) rfl)
    · have hi4 : i < 8 := by
        rcases Nat.lt_or_ge i 8 with z | z
        · exact z
        · exact absurd (nI_le (a := 8) z (by omega)) hlt
      refine vv_aload_n C 0 dX9_teller_8 rfl rfl ?_
      refine vv_iload_n C 2 dX9_teller_9 rfl rfl ?_
      refine vv_callVI C [.int (nI i)] (c_X9_isAsked M V hV (cc := i) (by omega) (x := (nI i)) rfl) sh_145 rfl (cwV 1 C.1.2.2.2.2 gX9_teller_X9_isAsked rfl rfl rfl (by decide +kernel) ⟨Nat.le_of_ble_eq_true rfl, Nat.le_of_ble_eq_true rfl⟩) rfl rfl rfl (Nat.le_of_ble_eq_true rfl) dX9_teller_10 ⟨Nat.le_refl _, Nat.le_refl _⟩ ?_
      refine vv_bif_eq C 49 dX9_teller_13 (by decide) (fun h_na => ?_) (fun h_a => ?_)
      · refine vv_iinc (v := nI (i + 1)) (ls2 := [some (.ref (G.1 145)), some (.int (nI a)), some (.int (nI (i + 1)))]) C 2 dX9_teller_49 rfl (nI_1 _) rfl ?_
        refine vv_goto C 2 dX9_teller_52 (by decide) ?_
        refine ih (i + 1) (by omega) (by omega) (fun j hj => ?_)
        by_cases z : j = i
        · rw [z]
          exact telP_f (fun w => h_na w.1)
        · exact hI j (by omega)
      · refine vv_aload_n C 0 dX9_teller_16 rfl rfl ?_
        refine vv_iload_n C 2 dX9_teller_17 rfl rfl ?_
        refine vv_iconst (v := 4) C dX9_teller_18 (by decide) ?_
        refine vv_idiv C dX9_teller_19 (by decide) ?_
        refine vv_top (y := nI (i / 4)) (dv4 (by omega)) ?_
        refine vv_iload_n C 2 dX9_teller_20 rfl rfl ?_
        refine vv_iconst (v := 4) C dX9_teller_21 (by decide) ?_
        refine vv_irem C dX9_teller_22 (by decide) ?_
        refine vv_top (y := nI (i % 4)) (rm4 (by omega)) ?_
        refine vv_iconst (v := 0) C dX9_teller_23 (by decide) ?_
        refine vv_callVI C [.int (nI (i / 4)), .int (nI (i % 4)), .int 0] (c_X9_cellAt M V hV (d := (i / 4)) (cc := (i % 4)) (w := 0) ⟨by omega, by omega, by decide⟩ (x := (nI (i / 4))) (y := (nI (i % 4))) (z := 0) rfl rfl (by decide)) sh_145 rfl (cwV 3 C.1.2.2.2.2 gX9_teller_X9_cellAt rfl rfl rfl (by decide +kernel) ⟨Nat.le_of_ble_eq_true rfl, Nat.le_of_ble_eq_true rfl⟩) rfl rfl rfl (Nat.le_of_ble_eq_true rfl) dX9_teller_24 ⟨Nat.le_refl _, Nat.le_refl _⟩ ?_
        refine vv_top (y := V (100 + 3 * i)) (congrArg V (by omega)) ?_
        refine vv_bipush (v := 8) C dX9_teller_27 (by decide) ?_
        refine vv_icmp_ne C 49 dX9_teller_29 (by decide) (fun h_n8 => ?_) (fun h_8 => ?_)
        · refine vv_iinc (v := nI (i + 1)) (ls2 := [some (.ref (G.1 145)), some (.int (nI a)), some (.int (nI (i + 1)))]) C 2 dX9_teller_49 rfl (nI_1 _) rfl ?_
          refine vv_goto C 2 dX9_teller_52 (by decide) ?_
          refine ih (i + 1) (by omega) (by omega) (fun j hj => ?_)
          by_cases z : j = i
          · rw [z]
            exact telP_f (fun w => h_n8 w.2.1)
          · exact hI j (by omega)
        · refine vv_aload_n C 0 dX9_teller_32 rfl rfl ?_
          refine vv_iload_n C 2 dX9_teller_33 rfl rfl ?_
          refine vv_iconst (v := 4) C dX9_teller_34 (by decide) ?_
          refine vv_idiv C dX9_teller_35 (by decide) ?_
          refine vv_top (y := nI (i / 4)) (dv4 (by omega)) ?_
          refine vv_iload_n C 2 dX9_teller_36 rfl rfl ?_
          refine vv_iconst (v := 4) C dX9_teller_37 (by decide) ?_
          refine vv_irem C dX9_teller_38 (by decide) ?_
          refine vv_top (y := nI (i % 4)) (rm4 (by omega)) ?_
          refine vv_iconst (v := 1) C dX9_teller_39 (by decide) ?_
          refine vv_callVI C [.int (nI (i / 4)), .int (nI (i % 4)), .int 1] (c_X9_cellAt M V hV (d := (i / 4)) (cc := (i % 4)) (w := 1) ⟨by omega, by omega, by decide⟩ (x := (nI (i / 4))) (y := (nI (i % 4))) (z := 1) rfl rfl (by decide)) sh_145 rfl (cwV 3 C.1.2.2.2.2 gX9_teller_X9_cellAt rfl rfl rfl (by decide +kernel) ⟨Nat.le_of_ble_eq_true rfl, Nat.le_of_ble_eq_true rfl⟩) rfl rfl rfl (Nat.le_of_ble_eq_true rfl) dX9_teller_40 ⟨Nat.le_refl _, Nat.le_refl _⟩ ?_
          refine vv_top (y := V (101 + 3 * i)) (congrArg V (by omega)) ?_
          refine vv_iload_n C 1 dX9_teller_43 rfl rfl ?_
          refine vv_icmp_ne C 49 dX9_teller_44 (by decide) (fun h_nt => ?_) (fun h_t => ?_)
          · refine vv_iinc (v := nI (i + 1)) (ls2 := [some (.ref (G.1 145)), some (.int (nI a)), some (.int (nI (i + 1)))]) C 2 dX9_teller_49 rfl (nI_1 _) rfl ?_
            refine vv_goto C 2 dX9_teller_52 (by decide) ?_
            refine ih (i + 1) (by omega) (by omega) (fun j hj => ?_)
            by_cases z : j = i
            · rw [z]
              exact telP_f (fun w => h_nt w.2.2)
            · exact hI j (by omega)
          · refine vv_iload_n C 2 dX9_teller_47 rfl rfl ?_
            exact vv_iret C hR dX9_teller_48 (qI_of (by unfold telS; rw [tlD_first hi4 hI (telP_t hi4 h_a h_8 h_t)]; exact (rtI_lt hi4).symm) rfl)
set_option maxRecDepth 100000 in
set_option maxHeartbeats 4000000 in
theorem c_X9_teller {l : Launch} {G : mw_GG} (M V : mw_M) (hV : vwO M V) {a : Nat} {x : Int32} (hx : x = nI a) : mw_Met l yX9_teller wsX9_teller ({ frames := 2, cells := 0, slots := 0, locals := 43 } : Room) G [.ref (G.1 145), .int x] M (qI (rtI (telS V 8 a)) M) := by
  refine mw_ofV (cc := cX9_teller) 3 (by decide) rfl rfl (Nat.le_of_ble_eq_true rfl) ?_
  intro p e s m args below meth c C hR hN0
  subst hx
  refine vv_loc (ls2 := [some (.ref (G.1 145)), some (.int (nI a)), none]) rfl ?_
  refine vv_iconst (v := 0) C dX9_teller_0 (by decide) ?_
  refine vv_istore_n (ls2 := [some (.ref (G.1 145)), some (.int (nI a)), some (.int 0)]) C 2 dX9_teller_1 rfl (Nat.le_of_ble_eq_true rfl) rfl ?_
  refine vv_loc (ls2 := [some (.ref (G.1 145)), some (.int (nI a)), some (.int (nI 0))]) rfl ?_
  exact lp_X9_teller (hR := hR) C M V hV 9 0 (by omega) (by omega) (fun j hj => by omega)
set_option maxRecDepth 100000 in
set_option maxHeartbeats 4000000 in
theorem c_X9_fitsCell {l : Launch} {G : mw_GG} (M V : mw_M) (hV : vwO M V) (hw : wfV V) {f g cc : Nat} (hb : f < 12 ∧ g < 12 ∧ cc < 8) {x y z : Int32} (hx : x = nI f) (hy : y = nI g) (hz : z = nI cc) : mw_Met l yX9_fitsCell wsX9_fitsCell ({ frames := 3, cells := 0, slots := 0, locals := 65 } : Room) G [.ref (G.1 145), .int x, .int y, .int z] M (qI (bI (fitS V 8 cc f g = true)) M) := by
  refine mw_ofV (cc := cX9_fitsCell) 10 (by decide) rfl rfl (Nat.le_of_ble_eq_true rfl) ?_
  intro p e s m args below meth c C hR hN0
  subst hx
  subst hy
  subst hz
  refine vv_loc (ls2 := [some (.ref (G.1 145)), some (.int (nI f)), some (.int (nI g)), some (.int (nI cc)), none, none, none, none, none, none]) rfl ?_
  refine vv_aload_n C 0 dX9_fitsCell_0 rfl rfl ?_
  refine vv_iload_n C 3 dX9_fitsCell_1 rfl rfl ?_
  refine vv_iconst (v := 4) C dX9_fitsCell_2 (by decide) ?_
  refine vv_idiv C dX9_fitsCell_3 (by decide) ?_
  refine vv_top (y := nI (cc / 4)) (dv4 (by omega)) ?_
  refine vv_iload_n C 3 dX9_fitsCell_4 rfl rfl ?_
  refine vv_iconst (v := 4) C dX9_fitsCell_5 (by decide) ?_
  refine vv_irem C dX9_fitsCell_6 (by decide) ?_
  refine vv_top (y := nI (cc % 4)) (rm4 (by omega)) ?_
  refine vv_iconst (v := 0) C dX9_fitsCell_7 (by decide) ?_
  refine vv_callVI C [.int (nI (cc / 4)), .int (nI (cc % 4)), .int 0] (c_X9_cellAt M V hV (d := (cc / 4)) (cc := (cc % 4)) (w := 0) ⟨by omega, by omega, by decide⟩ (x := (nI (cc / 4))) (y := (nI (cc % 4))) (z := 0) rfl rfl (by decide)) sh_145 rfl (cwV 3 C.1.2.2.2.2 gX9_fitsCell_X9_cellAt rfl rfl rfl (by decide +kernel) ⟨Nat.le_of_ble_eq_true rfl, Nat.le_of_ble_eq_true rfl⟩) rfl rfl rfl (Nat.le_of_ble_eq_true rfl) dX9_fitsCell_8 ⟨Nat.le_refl _, Nat.le_refl _⟩ ?_
  refine vv_top (y := V (100 + 3 * cc)) (congrArg V (by omega)) ?_
  refine vv_istore (ls2 := [some (.ref (G.1 145)), some (.int (nI f)), some (.int (nI g)), some (.int (nI cc)), some (.int (V (100 + 3 * cc))), none, none, none, none, none]) C 4 dX9_fitsCell_11 (Nat.le_of_ble_eq_true rfl) rfl ?_
  refine vv_aload_n C 0 dX9_fitsCell_13 rfl rfl ?_
  refine vv_iload_n C 3 dX9_fitsCell_14 rfl rfl ?_
  refine vv_iconst (v := 4) C dX9_fitsCell_15 (by decide) ?_
  refine vv_idiv C dX9_fitsCell_16 (by decide) ?_
  refine vv_top (y := nI (cc / 4)) (dv4 (by omega)) ?_
  refine vv_iload_n C 3 dX9_fitsCell_17 rfl rfl ?_
  refine vv_iconst (v := 4) C dX9_fitsCell_18 (by decide) ?_
  refine vv_irem C dX9_fitsCell_19 (by decide) ?_
  refine vv_top (y := nI (cc % 4)) (rm4 (by omega)) ?_
  refine vv_iconst (v := 1) C dX9_fitsCell_20 (by decide) ?_
  refine vv_callVI C [.int (nI (cc / 4)), .int (nI (cc % 4)), .int 1] (c_X9_cellAt M V hV (d := (cc / 4)) (cc := (cc % 4)) (w := 1) ⟨by omega, by omega, by decide⟩ (x := (nI (cc / 4))) (y := (nI (cc % 4))) (z := 1) rfl rfl (by decide)) sh_145 rfl (cwV 3 C.1.2.2.2.2 gX9_fitsCell_X9_cellAt rfl rfl rfl (by decide +kernel) ⟨Nat.le_of_ble_eq_true rfl, Nat.le_of_ble_eq_true rfl⟩) rfl rfl rfl (Nat.le_of_ble_eq_true rfl) dX9_fitsCell_21 ⟨Nat.le_refl _, Nat.le_refl _⟩ ?_
  refine vv_top (y := V (101 + 3 * cc)) (congrArg V (by omega)) ?_
  refine vv_istore (ls2 := [some (.ref (G.1 145)), some (.int (nI f)), some (.int (nI g)), some (.int (nI cc)), some (.int (V (100 + 3 * cc))), some (.int (V (101 + 3 * cc))), none, none, none, none]) C 5 dX9_fitsCell_24 (Nat.le_of_ble_eq_true rfl) rfl ?_
  refine vv_aload_n C 0 dX9_fitsCell_26 rfl rfl ?_
  refine vv_iload_n C 1 dX9_fitsCell_27 rfl rfl ?_
  refine vv_iload_n C 2 dX9_fitsCell_28 rfl rfl ?_
  refine vv_iload_n C 3 dX9_fitsCell_29 rfl rfl ?_
  refine vv_callVI C [.int (nI f), .int (nI g), .int (nI cc)] (c_X9_at M V hV (f := f) (g := g) (cc := cc) hb (x := (nI f)) (y := (nI g)) (z := (nI cc)) rfl rfl rfl) sh_145 rfl (cwV 3 C.1.2.2.2.2 gX9_fitsCell_X9_at rfl rfl rfl (by decide +kernel) ⟨Nat.le_of_ble_eq_true rfl, Nat.le_of_ble_eq_true rfl⟩) rfl rfl rfl (Nat.le_of_ble_eq_true rfl) dX9_fitsCell_30 ⟨Nat.le_refl _, Nat.le_refl _⟩ ?_
  refine vv_istore (ls2 := [some (.ref (G.1 145)), some (.int (nI f)), some (.int (nI g)), some (.int (nI cc)), some (.int (V (100 + 3 * cc))), some (.int (V (101 + 3 * cc))), some (.int (vS V cc f g)), none, none, none]) C 6 dX9_fitsCell_33 (Nat.le_of_ble_eq_true rfl) rfl ?_
  refine vv_iload C 4 dX9_fitsCell_35 rfl ?_
  refine vv_bipush (v := 8) C dX9_fitsCell_37 (by decide) ?_
  refine vv_icmp_ge C 63 dX9_fitsCell_39 (by decide) (fun h_ge8 => ?_) (fun h_lt8 => ?_)
  · have h_n8 : ¬ V (100 + 3 * cc) < 8 := Int32.not_lt.mpr h_ge8
    obtain ⟨a, ha4, hka⟩ := hw.wfR.2.2 cc hb.2.2 h_n8
    refine vv_aload_n C 0 dX9_fitsCell_63 rfl rfl ?_
    refine vv_iload C 5 dX9_fitsCell_64 rfl ?_
    refine vv_callVI C [.int (V (101 + 3 * cc))] (c_X9_teller M V hV (a := a) (x := (V (101 + 3 * cc))) hka) sh_145 rfl (cwV 1 C.1.2.2.2.2 gX9_fitsCell_X9_teller rfl rfl rfl (by decide +kernel) ⟨Nat.le_of_ble_eq_true rfl, Nat.le_of_ble_eq_true rfl⟩) rfl rfl rfl (Nat.le_of_ble_eq_true rfl) dX9_fitsCell_66 ⟨Nat.le_refl _, Nat.le_refl _⟩ ?_
    refine vv_istore (ls2 := [some (.ref (G.1 145)), some (.int (nI f)), some (.int (nI g)), some (.int (nI cc)), some (.int (V (100 + 3 * cc))), some (.int (V (101 + 3 * cc))), some (.int (vS V cc f g)), some (.int (rtI (telS V 8 a))), none, none]) C 7 dX9_fitsCell_69 (Nat.le_of_ble_eq_true rfl) rfl ?_
    refine vv_iload C 7 dX9_fitsCell_71 rfl ?_
    refine vv_if_ge C 80 dX9_fitsCell_73 (by decide) (fun h_tge => ?_) (fun h_tlt => ?_)
    · have ht8 : telS V 8 a < 8 := by
        rcases Nat.lt_or_ge (telS V 8 a) 8 with z | z
        · exact z
        · rw [rtI_no (by omega)] at h_tge
          exact absurd h_tge (by decide)
      refine vv_aload_n C 0 dX9_fitsCell_80 rfl rfl ?_
      refine vv_iload_n C 1 dX9_fitsCell_81 rfl rfl ?_
      refine vv_iload_n C 2 dX9_fitsCell_82 rfl rfl ?_
      refine vv_iload C 7 dX9_fitsCell_83 rfl ?_
      refine vv_callVI C [.int (nI f), .int (nI g), .int (rtI (telS V 8 a))] (c_X9_at M V hV (f := f) (g := g) (cc := (telS V 8 a)) ⟨hb.1, hb.2.1, ht8⟩ (x := (nI f)) (y := (nI g)) (z := (rtI (telS V 8 a))) rfl rfl (rtI_lt ht8)) sh_145 rfl (cwV 3 C.1.2.2.2.2 gX9_fitsCell_X9_at rfl rfl rfl (by decide +kernel) ⟨Nat.le_of_ble_eq_true rfl, Nat.le_of_ble_eq_true rfl⟩) rfl rfl rfl (Nat.le_of_ble_eq_true rfl) dX9_fitsCell_85 ⟨Nat.le_refl _, Nat.le_refl _⟩ ?_
      refine vv_top (y := wS V a f g) (if_pos ht8).symm ?_
      refine vv_istore (ls2 := [some (.ref (G.1 145)), some (.int (nI f)), some (.int (nI g)), some (.int (nI cc)), some (.int (V (100 + 3 * cc))), some (.int (V (101 + 3 * cc))), some (.int (vS V cc f g)), some (.int (rtI (telS V 8 a))), some (.int (wS V a f g)), none]) C 8 dX9_fitsCell_88 (Nat.le_of_ble_eq_true rfl) rfl ?_
      refine vv_iload C 6 dX9_fitsCell_90 rfl ?_
      refine vv_iconst (v := (-1)) C dX9_fitsCell_92 (by decide) ?_
      refine vv_icmp_eq C 106 dX9_fitsCell_93 (by decide) (fun h_5 => ?_) (fun h_6 => ?_)
      · refine vv_iconst (v := 0) C dX9_fitsCell_106 (by decide) ?_
        refine vv_istore (ls2 := [some (.ref (G.1 145)), some (.int (nI f)), some (.int (nI g)), some (.int (nI cc)), some (.int (V (100 + 3 * cc))), some (.int (V (101 + 3 * cc))), some (.int (vS V cc f g)), some (.int (rtI (telS V 8 a))), some (.int (wS V a f g)), some (.int 0)]) C 9 dX9_fitsCell_107 (Nat.le_of_ble_eq_true rfl) rfl ?_
        refine vv_iload C 9 dX9_fitsCell_109 rfl ?_
        refine vv_if_eq C 159 dX9_fitsCell_111 (by decide) (fun h_8 => ?_) (fun h_7 => absurd h_7 (by decide))
        refine vv_iconst (v := 0) C dX9_fitsCell_159 (by decide) ?_
        exact vv_zret0 C hR dX9_fitsCell_160 (qI_of (by rw [fit_hi h_n8 hka ha4]; simp [bI, h_5, h_8]) rfl)
      · refine vv_iload C 8 dX9_fitsCell_96 rfl ?_
        refine vv_iconst (v := (-1)) C dX9_fitsCell_98 (by decide) ?_
        refine vv_icmp_eq C 106 dX9_fitsCell_99 (by decide) (fun h_9 => ?_) (fun h_10 => ?_)
        · refine vv_iconst (v := 0) C dX9_fitsCell_106 (by decide) ?_
          refine vv_istore (ls2 := [some (.ref (G.1 145)), some (.int (nI f)), some (.int (nI g)), some (.int (nI cc)), some (.int (V (100 + 3 * cc))), some (.int (V (101 + 3 * cc))), some (.int (vS V cc f g)), some (.int (rtI (telS V 8 a))), some (.int (wS V a f g)), some (.int 0)]) C 9 dX9_fitsCell_107 (Nat.le_of_ble_eq_true rfl) rfl ?_
          refine vv_iload C 9 dX9_fitsCell_109 rfl ?_
          refine vv_if_eq C 159 dX9_fitsCell_111 (by decide) (fun h_12 => ?_) (fun h_11 => absurd h_11 (by decide))
          refine vv_iconst (v := 0) C dX9_fitsCell_159 (by decide) ?_
          exact vv_zret0 C hR dX9_fitsCell_160 (qI_of (by rw [fit_hi h_n8 hka ha4]; simp [bI, h_6, h_9, h_12]) rfl)
        · refine vv_iconst (v := 1) C dX9_fitsCell_102 (by decide) ?_
          refine vv_goto C 107 dX9_fitsCell_103 (by decide) ?_
          refine vv_istore (ls2 := [some (.ref (G.1 145)), some (.int (nI f)), some (.int (nI g)), some (.int (nI cc)), some (.int (V (100 + 3 * cc))), some (.int (V (101 + 3 * cc))), some (.int (vS V cc f g)), some (.int (rtI (telS V 8 a))), some (.int (wS V a f g)), some (.int 1)]) C 9 dX9_fitsCell_107 (Nat.le_of_ble_eq_true rfl) rfl ?_
          refine vv_iload C 9 dX9_fitsCell_109 rfl ?_
          refine vv_if_eq C 159 dX9_fitsCell_111 (by decide) (fun h_13 => absurd h_13 (by decide)) (fun h_14 => ?_)
          refine vv_iload C 4 dX9_fitsCell_114 rfl ?_
          refine vv_bipush (v := 8) C dX9_fitsCell_116 (by decide) ?_
          refine vv_icmp_ne C 131 dX9_fitsCell_118 (by decide) (fun h_15 => ?_) (fun h_16 => ?_)
          · refine vv_iload C 4 dX9_fitsCell_131 rfl ?_
            refine vv_bipush (v := 9) C dX9_fitsCell_133 (by decide) ?_
            refine vv_icmp_ne C 148 dX9_fitsCell_135 (by decide) (fun h_17 => ?_) (fun h_18 => ?_)
            · refine vv_iload C 6 dX9_fitsCell_148 rfl ?_
              refine vv_iload C 8 dX9_fitsCell_150 rfl ?_
              refine vv_icmp_le C 159 dX9_fitsCell_152 (by decide) (fun h_19 => ?_) (fun h_20 => ?_)
              · refine vv_iconst (v := 0) C dX9_fitsCell_159 (by decide) ?_
                exact vv_zret0 C hR dX9_fitsCell_160 (qI_of (by rw [fit_hi h_n8 hka ha4]; simp [bI, h_6, h_10, h_14, h_15, h_17, h_19]) rfl)
              · refine vv_iconst (v := 1) C dX9_fitsCell_155 (by decide) ?_
                refine vv_goto C 160 dX9_fitsCell_156 (by decide) ?_
                exact vv_zret1 C hR dX9_fitsCell_160 (qI_of (by rw [fit_hi h_n8 hka ha4]; simp [bI, h_6, h_10, h_14, h_15, h_17, h_20]) rfl)
            · refine vv_iload C 6 dX9_fitsCell_138 rfl ?_
              refine vv_iload C 8 dX9_fitsCell_140 rfl ?_
              refine vv_icmp_ge C 159 dX9_fitsCell_142 (by decide) (fun h_21 => ?_) (fun h_22 => ?_)
              · refine vv_iconst (v := 0) C dX9_fitsCell_159 (by decide) ?_
                exact vv_zret0 C hR dX9_fitsCell_160 (qI_of (by rw [fit_hi h_n8 hka ha4]; simp [bI, h_6, h_10, h_14, h_15, h_18, h_21]) rfl)
              · refine vv_goto C 155 dX9_fitsCell_145 (by decide) ?_
                refine vv_iconst (v := 1) C dX9_fitsCell_155 (by decide) ?_
                refine vv_goto C 160 dX9_fitsCell_156 (by decide) ?_
                exact vv_zret1 C hR dX9_fitsCell_160 (qI_of (by rw [fit_hi h_n8 hka ha4]; simp [bI, h_6, h_10, h_14, h_15, h_18, h_22]) rfl)
          · refine vv_iload C 6 dX9_fitsCell_121 rfl ?_
            refine vv_iload C 8 dX9_fitsCell_123 rfl ?_
            refine vv_icmp_ne C 159 dX9_fitsCell_125 (by decide) (fun h_23 => ?_) (fun h_24 => ?_)
            · refine vv_iconst (v := 0) C dX9_fitsCell_159 (by decide) ?_
              exact vv_zret0 C hR dX9_fitsCell_160 (qI_of (by rw [fit_hi h_n8 hka ha4]; simp [bI, h_6, h_10, h_14, h_16, h_23]) rfl)
            · refine vv_goto C 155 dX9_fitsCell_128 (by decide) ?_
              refine vv_iconst (v := 1) C dX9_fitsCell_155 (by decide) ?_
              refine vv_goto C 160 dX9_fitsCell_156 (by decide) ?_
              exact vv_zret1 C hR dX9_fitsCell_160 (qI_of (by rw [fit_hi h_n8 hka ha4]; simp [bI, h_6, h_10, h_14, h_16, h_24]) rfl)
    · refine vv_iconst (v := (-1)) C dX9_fitsCell_76 (by decide) ?_
      refine vv_goto C 88 dX9_fitsCell_77 (by decide) ?_
      have ht8 : ¬ telS V 8 a < 8 := fun z => by
        rw [rtI_lt z] at h_tlt
        exact h_tlt (nI_pos' (by omega))
      refine vv_top (y := wS V a f g) (if_neg ht8).symm ?_
      refine vv_istore (ls2 := [some (.ref (G.1 145)), some (.int (nI f)), some (.int (nI g)), some (.int (nI cc)), some (.int (V (100 + 3 * cc))), some (.int (V (101 + 3 * cc))), some (.int (vS V cc f g)), some (.int (rtI (telS V 8 a))), some (.int (wS V a f g)), none]) C 8 dX9_fitsCell_88 (Nat.le_of_ble_eq_true rfl) rfl ?_
      refine vv_iload C 6 dX9_fitsCell_90 rfl ?_
      refine vv_iconst (v := (-1)) C dX9_fitsCell_92 (by decide) ?_
      refine vv_icmp_eq C 106 dX9_fitsCell_93 (by decide) (fun h_25 => ?_) (fun h_26 => ?_)
      · refine vv_iconst (v := 0) C dX9_fitsCell_106 (by decide) ?_
        refine vv_istore (ls2 := [some (.ref (G.1 145)), some (.int (nI f)), some (.int (nI g)), some (.int (nI cc)), some (.int (V (100 + 3 * cc))), some (.int (V (101 + 3 * cc))), some (.int (vS V cc f g)), some (.int (rtI (telS V 8 a))), some (.int (wS V a f g)), some (.int 0)]) C 9 dX9_fitsCell_107 (Nat.le_of_ble_eq_true rfl) rfl ?_
        refine vv_iload C 9 dX9_fitsCell_109 rfl ?_
        refine vv_if_eq C 159 dX9_fitsCell_111 (by decide) (fun h_28 => ?_) (fun h_27 => absurd h_27 (by decide))
        refine vv_iconst (v := 0) C dX9_fitsCell_159 (by decide) ?_
        exact vv_zret0 C hR dX9_fitsCell_160 (qI_of (by rw [fit_hi h_n8 hka ha4]; simp [bI, h_25, h_28]) rfl)
      · refine vv_iload C 8 dX9_fitsCell_96 rfl ?_
        refine vv_iconst (v := (-1)) C dX9_fitsCell_98 (by decide) ?_
        refine vv_icmp_eq C 106 dX9_fitsCell_99 (by decide) (fun h_29 => ?_) (fun h_30 => ?_)
        · refine vv_iconst (v := 0) C dX9_fitsCell_106 (by decide) ?_
          refine vv_istore (ls2 := [some (.ref (G.1 145)), some (.int (nI f)), some (.int (nI g)), some (.int (nI cc)), some (.int (V (100 + 3 * cc))), some (.int (V (101 + 3 * cc))), some (.int (vS V cc f g)), some (.int (rtI (telS V 8 a))), some (.int (wS V a f g)), some (.int 0)]) C 9 dX9_fitsCell_107 (Nat.le_of_ble_eq_true rfl) rfl ?_
          refine vv_iload C 9 dX9_fitsCell_109 rfl ?_
          refine vv_if_eq C 159 dX9_fitsCell_111 (by decide) (fun h_32 => ?_) (fun h_31 => absurd h_31 (by decide))
          refine vv_iconst (v := 0) C dX9_fitsCell_159 (by decide) ?_
          exact vv_zret0 C hR dX9_fitsCell_160 (qI_of (by rw [fit_hi h_n8 hka ha4]; simp [bI, h_26, h_29, h_32]) rfl)
        · refine vv_iconst (v := 1) C dX9_fitsCell_102 (by decide) ?_
          refine vv_goto C 107 dX9_fitsCell_103 (by decide) ?_
          refine vv_istore (ls2 := [some (.ref (G.1 145)), some (.int (nI f)), some (.int (nI g)), some (.int (nI cc)), some (.int (V (100 + 3 * cc))), some (.int (V (101 + 3 * cc))), some (.int (vS V cc f g)), some (.int (rtI (telS V 8 a))), some (.int (wS V a f g)), some (.int 1)]) C 9 dX9_fitsCell_107 (Nat.le_of_ble_eq_true rfl) rfl ?_
          refine vv_iload C 9 dX9_fitsCell_109 rfl ?_
          refine vv_if_eq C 159 dX9_fitsCell_111 (by decide) (fun h_33 => absurd h_33 (by decide)) (fun h_34 => ?_)
          refine vv_iload C 4 dX9_fitsCell_114 rfl ?_
          refine vv_bipush (v := 8) C dX9_fitsCell_116 (by decide) ?_
          refine vv_icmp_ne C 131 dX9_fitsCell_118 (by decide) (fun h_35 => ?_) (fun h_36 => ?_)
          · refine vv_iload C 4 dX9_fitsCell_131 rfl ?_
            refine vv_bipush (v := 9) C dX9_fitsCell_133 (by decide) ?_
            refine vv_icmp_ne C 148 dX9_fitsCell_135 (by decide) (fun h_37 => ?_) (fun h_38 => ?_)
            · refine vv_iload C 6 dX9_fitsCell_148 rfl ?_
              refine vv_iload C 8 dX9_fitsCell_150 rfl ?_
              refine vv_icmp_le C 159 dX9_fitsCell_152 (by decide) (fun h_39 => ?_) (fun h_40 => ?_)
              · refine vv_iconst (v := 0) C dX9_fitsCell_159 (by decide) ?_
                exact vv_zret0 C hR dX9_fitsCell_160 (qI_of (by rw [fit_hi h_n8 hka ha4]; simp [bI, h_26, h_30, h_34, h_35, h_37, h_39]) rfl)
              · refine vv_iconst (v := 1) C dX9_fitsCell_155 (by decide) ?_
                refine vv_goto C 160 dX9_fitsCell_156 (by decide) ?_
                exact vv_zret1 C hR dX9_fitsCell_160 (qI_of (by rw [fit_hi h_n8 hka ha4]; simp [bI, h_26, h_30, h_34, h_35, h_37, h_40]) rfl)
            · refine vv_iload C 6 dX9_fitsCell_138 rfl ?_
              refine vv_iload C 8 dX9_fitsCell_140 rfl ?_
              refine vv_icmp_ge C 159 dX9_fitsCell_142 (by decide) (fun h_41 => ?_) (fun h_42 => ?_)
              · refine vv_iconst (v := 0) C dX9_fitsCell_159 (by decide) ?_
                exact vv_zret0 C hR dX9_fitsCell_160 (qI_of (by rw [fit_hi h_n8 hka ha4]; simp [bI, h_26, h_30, h_34, h_35, h_38, h_41]) rfl)
              · refine vv_goto C 155 dX9_fitsCell_145 (by decide) ?_
                refine vv_iconst (v := 1) C dX9_fitsCell_155 (by decide) ?_
                refine vv_goto C 160 dX9_fitsCell_156 (by decide) ?_
                exact vv_zret1 C hR dX9_fitsCell_160 (qI_of (by rw [fit_hi h_n8 hka ha4]; simp [bI, h_26, h_30, h_34, h_35, h_38, h_42]) rfl)
          · refine vv_iload C 6 dX9_fitsCell_121 rfl ?_
            refine vv_iload C 8 dX9_fitsCell_123 rfl ?_
            refine vv_icmp_ne C 159 dX9_fitsCell_125 (by decide) (fun h_43 => ?_) (fun h_44 => ?_)
            · refine vv_iconst (v := 0) C dX9_fitsCell_159 (by decide) ?_
              exact vv_zret0 C hR dX9_fitsCell_160 (qI_of (by rw [fit_hi h_n8 hka ha4]; simp [bI, h_26, h_30, h_34, h_36, h_43]) rfl)
            · refine vv_goto C 155 dX9_fitsCell_128 (by decide) ?_
              refine vv_iconst (v := 1) C dX9_fitsCell_155 (by decide) ?_
              refine vv_goto C 160 dX9_fitsCell_156 (by decide) ?_
              exact vv_zret1 C hR dX9_fitsCell_160 (qI_of (by rw [fit_hi h_n8 hka ha4]; simp [bI, h_26, h_30, h_34, h_36, h_44]) rfl)
  · refine vv_iload C 4 dX9_fitsCell_42 rfl ?_
    refine vv_iload C 5 dX9_fitsCell_44 rfl ?_
    refine vv_aload_n C 0 dX9_fitsCell_46 rfl rfl ?_
    refine vv_iload_n C 3 dX9_fitsCell_47 rfl rfl ?_
    refine vv_iconst (v := 4) C dX9_fitsCell_48 (by decide) ?_
    refine vv_idiv C dX9_fitsCell_49 (by decide) ?_
    refine vv_top (y := nI (cc / 4)) (dv4 (by omega)) ?_
    refine vv_iload_n C 3 dX9_fitsCell_50 rfl rfl ?_
    refine vv_iconst (v := 4) C dX9_fitsCell_51 (by decide) ?_
    refine vv_irem C dX9_fitsCell_52 (by decide) ?_
    refine vv_top (y := nI (cc % 4)) (rm4 (by omega)) ?_
    refine vv_iconst (v := 2) C dX9_fitsCell_53 (by decide) ?_
    refine vv_callVI C [.int (nI (cc / 4)), .int (nI (cc % 4)), .int 2] (c_X9_cellAt M V hV (d := (cc / 4)) (cc := (cc % 4)) (w := 2) ⟨by omega, by omega, by decide⟩ (x := (nI (cc / 4))) (y := (nI (cc % 4))) (z := 2) rfl rfl (by decide)) sh_145 rfl (cwV 3 C.1.2.2.2.2 gX9_fitsCell_X9_cellAt rfl rfl rfl (by decide +kernel) ⟨Nat.le_of_ble_eq_true rfl, Nat.le_of_ble_eq_true rfl⟩) rfl rfl rfl (Nat.le_of_ble_eq_true rfl) dX9_fitsCell_54 ⟨Nat.le_refl _, Nat.le_refl _⟩ ?_
    refine vv_top (y := V (102 + 3 * cc)) (congrArg V (by omega)) ?_
    refine vv_iload C 6 dX9_fitsCell_57 rfl ?_
    refine vv_callSI C [.int (V (100 + 3 * cc)), .int (V (101 + 3 * cc)), .int (V (102 + 3 * cc)), .int (vS V cc f g)] (c_X9_fitsOne M (V (100 + 3 * cc)) (V (101 + 3 * cc)) (V (102 + 3 * cc)) (vS V cc f g)) (cwS 4 C.1.2.2.2.2 gX9_fitsCell_X9_fitsOne rfl rfl rfl (by decide +kernel) ⟨Nat.le_of_ble_eq_true rfl, Nat.le_of_ble_eq_true rfl⟩) rfl rfl rfl (Nat.le_of_ble_eq_true rfl) dX9_fitsCell_59 ⟨Nat.le_refl _, Nat.le_refl _⟩ ?_
    exact vv_zret C hR dX9_fitsCell_62 (qI_of (by rw [fit_lo hw hb.2.2 (Int32.not_le.mp h_lt8)]) rfl)
set_option maxRecDepth 100000 in
set_option maxHeartbeats 4000000 in
theorem lp_X9_unfit {p : Program} {l : Launch} {e : Env} {s : State} {m : MethodId} {args : Array Value} {below : List Frame} {meth : Method} {c : Code} {G : mw_GG} {hR : vv_R meth (some .int)} (C : vv_C p s m args c G cX9_unfit 4 wsX9_unfit RX9) (M V : mw_M) (hV : vwO M V) (hw : wfV V) {f g : Nat} (hb : f < 12 ∧ g < 12) : ∀ (k i : Nat), 9 ≤ i + k → i ≤ 8 → (∀ j, j < i → misP V 8 f g j = false) → vv p l e ({ frames := 4, cells := 0, slots := 0, locals := 94 } : Room) s m args below meth c G 0 0 (mw_E below args s G (qI (rtI (misS V 8 f g)) M)) M 2 [some (.ref (G.1 145)), some (.int (nI f)), some (.int (nI g)), some (.int (nI i))] [] := by
  intro k
  induction k with
  | zero => intro i h1 h2 _; omega
  | succ k ih =>
    intro i h1 h2 hI
    refine vv_iload_n C 3 dX9_unfit_2 rfl rfl ?_
    refine vv_bipush (v := 8) C dX9_unfit_3 (by decide) ?_
    refine vv_icmp_ge C 34 dX9_unfit_5 (by decide) (fun hge => ?_) (fun hlt => ?_)
    · refine vv_bipush (v := (-14)) C dX9_unfit_34 (by decide) ?_
      exact vv_iret C hR dX9_unfit_36 (qI_of (by unfold misS; rw [tlD_none (fun j hj => hI j (by have := (nI_leI (a := 8) (by omega) (by omega)).mp hge; omega))]; rfl) rfl)
    · have hi4 : i < 8 := by
        rcases Nat.lt_or_ge i 8 with z | z
        · exact z
        · exact absurd (nI_le (a := 8) z (by omega)) hlt
      refine vv_aload_n C 0 dX9_unfit_8 rfl rfl ?_
      refine vv_iload_n C 3 dX9_unfit_9 rfl rfl ?_
      refine vv_callVI C [.int (nI i)] (c_X9_isAsked M V hV (cc := i) (by omega) (x := (nI i)) rfl) sh_145 rfl (cwV 1 C.1.2.2.2.2 gX9_unfit_X9_isAsked rfl rfl rfl (by decide +kernel) ⟨Nat.le_of_ble_eq_true rfl, Nat.le_of_ble_eq_true rfl⟩) rfl rfl rfl (Nat.le_of_ble_eq_true rfl) dX9_unfit_10 ⟨Nat.le_refl _, Nat.le_refl _⟩ ?_
      refine vv_bif_eq C 28 dX9_unfit_13 (by decide) (fun h_na => ?_) (fun h_a => ?_)
      · refine vv_iinc (v := nI (i + 1)) (ls2 := [some (.ref (G.1 145)), some (.int (nI f)), some (.int (nI g)), some (.int (nI (i + 1)))]) C 3 dX9_unfit_28 rfl (nI_1 _) rfl ?_
        refine vv_goto C 2 dX9_unfit_31 (by decide) ?_
        refine ih (i + 1) (by omega) (by omega) (fun j hj => ?_)
        by_cases z : j = i
        · rw [z]
          exact misP_f (fun w => h_na w.1)
        · exact hI j (by omega)
      · refine vv_aload_n C 0 dX9_unfit_16 rfl rfl ?_
        refine vv_iload_n C 1 dX9_unfit_17 rfl rfl ?_
        refine vv_iload_n C 2 dX9_unfit_18 rfl rfl ?_
        refine vv_iload_n C 3 dX9_unfit_19 rfl rfl ?_
        refine vv_callVI C [.int (nI f), .int (nI g), .int (nI i)] (c_X9_fitsCell M V hV hw (f := f) (g := g) (cc := i) ⟨hb.1, hb.2, hi4⟩ (x := (nI f)) (y := (nI g)) (z := (nI i)) rfl rfl rfl) sh_145 rfl (cwV 3 C.1.2.2.2.2 gX9_unfit_X9_fitsCell rfl rfl rfl (by decide +kernel) ⟨Nat.le_of_ble_eq_true rfl, Nat.le_of_ble_eq_true rfl⟩) rfl rfl rfl (Nat.le_of_ble_eq_true rfl) dX9_unfit_20 ⟨Nat.le_refl _, Nat.le_refl _⟩ ?_
        refine vv_bif_ne C 28 dX9_unfit_23 (by decide) (fun h_t => ?_) (fun h_nt => ?_)
        · refine vv_iinc (v := nI (i + 1)) (ls2 := [some (.ref (G.1 145)), some (.int (nI f)), some (.int (nI g)), some (.int (nI (i + 1)))]) C 3 dX9_unfit_28 rfl (nI_1 _) rfl ?_
          refine vv_goto C 2 dX9_unfit_31 (by decide) ?_
          refine ih (i + 1) (by omega) (by omega) (fun j hj => ?_)
          by_cases z : j = i
          · rw [z]
            exact misP_f (fun w => w.2 h_t)
          · exact hI j (by omega)
        · refine vv_iload_n C 3 dX9_unfit_26 rfl rfl ?_
          exact vv_iret C hR dX9_unfit_27 (qI_of (by unfold misS; rw [tlD_first hi4 hI (misP_t hi4 h_a h_nt)]; exact (rtI_lt hi4).symm) rfl)
set_option maxRecDepth 100000 in
set_option maxHeartbeats 4000000 in
theorem c_X9_unfit {l : Launch} {G : mw_GG} (M V : mw_M) (hV : vwO M V) (hw : wfV V) {f g : Nat} (hb : f < 12 ∧ g < 12) {x y : Int32} (hx : x = nI f) (hy : y = nI g) : mw_Met l yX9_unfit wsX9_unfit ({ frames := 4, cells := 0, slots := 0, locals := 94 } : Room) G [.ref (G.1 145), .int x, .int y] M (qI (rtI (misS V 8 f g)) M) := by
  refine mw_ofV (cc := cX9_unfit) 4 (by decide) rfl rfl (Nat.le_of_ble_eq_true rfl) ?_
  intro p e s m args below meth c C hR hN0
  subst hx
  subst hy
  refine vv_loc (ls2 := [some (.ref (G.1 145)), some (.int (nI f)), some (.int (nI g)), none]) rfl ?_
  refine vv_iconst (v := 0) C dX9_unfit_0 (by decide) ?_
  refine vv_istore_n (ls2 := [some (.ref (G.1 145)), some (.int (nI f)), some (.int (nI g)), some (.int 0)]) C 3 dX9_unfit_1 rfl (Nat.le_of_ble_eq_true rfl) rfl ?_
  refine vv_loc (ls2 := [some (.ref (G.1 145)), some (.int (nI f)), some (.int (nI g)), some (.int (nI 0))]) rfl ?_
  exact lp_X9_unfit (hR := hR) C M V hV hw hb 9 0 (by omega) (by omega) (fun j hj => by omega)
