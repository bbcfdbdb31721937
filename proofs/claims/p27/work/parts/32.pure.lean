/-! pure rows of whole that the class alone needs -/
theorem ix_v (d k c : Nat) : (4 : Int32) + 48 * nI d + 4 * nI k + nI c = nI (4 + 48 * d + 4 * k + c) := by
  rw [show (48 : Int32) = nI 48 from rfl, show (4 : Int32) = nI 4 from rfl, pk_mul, pk_mul, nI_add, nI_add, nI_add]
/-- a cell of the array s is laid -/
def s_cl (M : mw_M) (b d c : Nat) (x y z : Int32) : mw_M := upd (upd (upd M (b + (100 + 12 * d + 3 * c)) x) (b + (100 + 12 * d + 3 * c + 1)) y) (b + (100 + 12 * d + 3 * c + 2)) z
theorem kpS_p {V : mw_M} {q : Nat} (h : 130 ≤ q ∧ q < 650) : kpS V q = V (q - 130) := by
  unfold kpS s_keep
  rw [if_neg (by omega), if_pos h]
theorem kpS_hi {V : mw_M} {q : Nat} (h : 651 ≤ q) : kpS V q = V q := keep_hi h
theorem kpS_h {V : mw_M} : kpS V 650 = nI (min (hN V + 1) 4) := by
  unfold kpS s_keep
  rw [if_pos rfl]
theorem kpS_hN {V : mw_M} : hN (kpS V) = min (hN V + 1) 4 := by
  unfold hN
  rw [kpS_h, nI_clamp (by omega)]
  rfl
theorem kp_hi {V : mw_M} : hiV (kpS V) := ⟨by rw [kpS_hN]; exact kpS_h, by rw [kpS_hN]; omega⟩
theorem ix_v3 {x y z : Int32} {d k c : Nat} (hx : x = nI d) (hy : y = nI k) (hz : z = nI c) : 4 + 48 * x + 4 * y + z = nI (4 + 48 * d + (4 * k + c)) := by
  rw [hx, hy, hz, ix_v]
  exact congrArg nI (by omega)
theorem hk_nI {V : mw_M} {d : Nat} (hz : szP V d) {k : Int32} (h : hkP V d k) : k = nI k.toNatClampNeg ∧ k.toNatClampNeg < 12 := by
  obtain ⟨hn, hn12⟩ := hz.n
  have h2 := h.2
  rw [hn] at h2
  obtain ⟨j, hj, e, c⟩ := ix_of h.1 h2 (by omega)
  rw [c]
  exact ⟨e, by omega⟩
theorem hc_nI {V : mw_M} {d : Nat} (hz : szP V d) {k : Int32} (h : hcP V d k) : k = nI k.toNatClampNeg ∧ k.toNatClampNeg < 4 := by
  obtain ⟨j, hj, e, c⟩ := ix_of h.1 (n := 4) (fun z => h.2 (Int32.le_trans (sz_w hz) z)) (by omega)
  rw [c]
  exact ⟨e, by omega⟩
def fitR (x a b v : Int32) : Bool := if x = 0 then true else if x = 1 then decide (v = -1) else if x = 3 then decide (v = a) else if x = 4 then decide (¬ v = -1 ∧ ¬ v = a) else if x = 5 then decide (¬ v = -1 ∧ ¬ a ≤ v) else if x = 6 then decide (¬ v ≤ a) else if x = 7 then decide (inP v a b) else decide (¬ v = -1)
theorem cnt_cut {f : Nat → Bool} {w : Nat} : ∀ n, w ≤ n → (∀ i, w ≤ i → i < n → f i = false) → cntB f n = cntB f w
  | 0, h, _ => by rw [show w = 0 by omega]
  | n + 1, h, hf => by
    by_cases z : w = n + 1
    · rw [z]
    · show cntB f n + (if f n then 1 else 0) = cntB f w
      rw [hf n (by omega) (by omega), ← cnt_cut n (by omega) (fun i h1 h2 => hf i h1 (by omega))]
      simp
theorem gt_nle {a b : Int32} : b < a ↔ ¬ a ≤ b := Int32.not_le.symm
theorem cl_set {V : mw_M} {d c : Nat} {x y z : Int32} : s_cl V 0 d c x y z = upd (upd (upd V (100 + 12 * d + 3 * c) x) (100 + 12 * d + 1 + 3 * c) y) (100 + 12 * d + 2 + 3 * c) z := by
  unfold s_cl
  rw [show 0 + (100 + 12 * d + 3 * c) = 100 + 12 * d + 3 * c by omega, show 0 + (100 + 12 * d + 3 * c + 1) = 100 + 12 * d + 1 + 3 * c by omega, show 0 + (100 + 12 * d + 3 * c + 2) = 100 + 12 * d + 2 + 3 * c by omega]
theorem bI_bit {x : Int32} (h : x = 0 ∨ x = 1) : bI (x = 1) = x := by
  rcases h with rfl | rfl <;> decide
theorem rest_hN {V : mw_M} (hh : hiV V) : hN (s_rest V (hN V)) = hN V - 1 := by
  have := hh.2
  show (s_rest V (hN V) 650).toNatClampNeg = _
  unfold s_rest
  rw [if_pos rfl]
  exact nI_clamp (by omega)
theorem rest_lo {V : mw_M} {h q : Nat} (hq : q < 520) : s_rest V h q = V (q + 130) := by
  unfold s_rest
  rw [if_neg (by omega), if_pos hq]
theorem rest_hi {V : mw_M} {h q : Nat} (hq : 651 ≤ q) : s_rest V h q = V q := by
  unfold s_rest
  rw [if_neg (by omega), if_neg (by omega)]
theorem m1_lt {a : Int32} (ha : ¬ a < 0) : -1 < a := by
  rw [Int32.lt_iff_toInt_lt] at ha ⊢
  have e0 : (0 : Int32).toInt = 0 := by decide
  have e1 : (-1 : Int32).toInt = -1 := by decide
  omega
theorem m1_le {a : Int32} (ha : ¬ a < 0) : -1 ≤ a := by
  rw [Int32.lt_iff_toInt_lt] at ha
  rw [Int32.le_iff_toInt_le]
  have e0 : (0 : Int32).toInt = 0 := by decide
  have e1 : (-1 : Int32).toInt = -1 := by decide
  omega
theorem m1_ne {a : Int32} (ha : ¬ a < 0) : ¬ -1 = a := fun z => ha (by rw [← z]; decide)
theorem fit_tk {kd : Nat} (hk : kd ≤ 8) {a b v : Int32} (ha : ¬ a < 0) : fitR (nI kd) a b v = tkB (nI kd) a b v := by
  have h : kd = 0 ∨ kd = 1 ∨ kd = 2 ∨ kd = 3 ∨ kd = 4 ∨ kd = 5 ∨ kd = 6 ∨ kd = 7 ∨ kd = 8 := by omega
  have h1 := m1_lt ha
  have h2 := m1_le ha
  have h3 := m1_ne ha
  rcases h with rfl | rfl | rfl | rfl | rfl | rfl | rfl | rfl | rfl
  · rfl
  · rfl
  · show decide (¬ v = -1) = if v = -1 then false else true
    by_cases hv : v = -1
    · rw [if_pos hv, decide_eq_false (fun z => z hv)]
    · rw [if_neg hv, decide_eq_true hv]
  · show decide (v = a) = if v = -1 then false else decide (v = a)
    by_cases hv : v = -1
    · rw [if_pos hv, hv, decide_eq_false h3]
    · rw [if_neg hv]
  · show decide (¬ v = -1 ∧ ¬ v = a) = if v = -1 then false else decide (¬ v = a)
    by_cases hv : v = -1
    · rw [if_pos hv, decide_eq_false (fun z => z.1 hv)]
    · rw [if_neg hv, decide_eq_decide]
      exact ⟨fun z => z.2, fun z => ⟨hv, z⟩⟩
  · show decide (¬ v = -1 ∧ ¬ a ≤ v) = if v = -1 then false else decide (¬ a ≤ v)
    by_cases hv : v = -1
    · rw [if_pos hv, decide_eq_false (fun z => z.1 hv)]
    · rw [if_neg hv, decide_eq_decide]
      exact ⟨fun z => z.2, fun z => ⟨hv, z⟩⟩
  · show decide (¬ v ≤ a) = if v = -1 then false else decide (¬ v ≤ a)
    by_cases hv : v = -1
    · rw [if_pos hv, hv, decide_eq_false (fun z => z h2)]
    · rw [if_neg hv]
  · show decide (inP v a b) = if v = -1 then false else decide (¬ v < a ∧ ¬ b < v)
    by_cases hv : v = -1
    · rw [if_pos hv, hv, decide_eq_false (fun z => z.1 h1)]
    · rw [if_neg hv]
  · show decide (¬ v = -1) = if v = -1 then false else true
    by_cases hv : v = -1
    · rw [if_pos hv, decide_eq_false (fun z => z hv)]
    · rw [if_neg hv, decide_eq_true hv]
theorem tk_hi {kd : Nat} (h : 9 ≤ kd) (h10 : kd ≤ 10) {a b v : Int32} : tkB (nI kd) a b v = false := by
  have h : kd = 9 ∨ kd = 10 := by omega
  rcases h with rfl | rfl
  · show (if v = -1 then false else false) = false
    split <;> rfl
  · show (if v = -1 then false else false) = false
    split <;> rfl
theorem wf_cl {V : mw_M} (hw : wfV V) {d c : Nat} (hd : d < 2) (hc : c < 4) : ∃ k a b, V (100 + 12 * d + 3 * c) = nI k ∧ k ≤ 10 ∧ V (100 + 12 * d + 3 * c + 1) = nI a ∧ a < 100 ∧ (8 ≤ k → a < 4) ∧ V (100 + 12 * d + 3 * c + 2) = nI b ∧ b < 100 := by
  obtain ⟨k, a, b, h1, h2, h3, h4, h5, h6, h7⟩ := hw.2.2.2.1 (4 * d + c) (by omega)
  refine ⟨k, a, b, ?_, h2, ?_, h4, h5, ?_, h7⟩
  · rw [← h1]
    exact congrArg V (by omega)
  · rw [← h3]
    exact congrArg V (by omega)
  · rw [← h6]
    exact congrArg V (by omega)
theorem ent_at {V : mw_M} {d k c : Nat} (hd : d < 2) (hk : ¬ V (2 + d) ≤ nI k) (hc : ¬ V d ≤ nI c) (h1 : k < 12) (h2 : c < 4) : entI V d (nI k) (nI c) = V (4 + 48 * d + (4 * k + c)) := by
  unfold entI
  rw [if_pos ⟨⟨nI_pos (by omega), hk⟩, nI_pos (by omega), hc⟩, nI_clamp (by omega), nI_clamp (by omega)]
theorem szd {V : mw_M} (hw : wfV V) {d : Nat} (hd : d < 2) : szP V d := by
  rcases Nat.lt_or_ge d 1 with z | z
  · rw [show d = 0 by omega]
    exact hw.1
  · rw [show d = 1 by omega]
    exact hw.2.1
theorem oth_cut {V : mw_M} {d n : Nat} (hn : V d = nI n) (hn4 : n ≤ 4) (hz : ∀ c, c < 4 → V d ≤ nI c → V (100 + 12 * d + 3 * c) = 0) : nI (cntB (fun j => decide (¬ V (100 + 12 * d + 3 * j) = 0)) n) = nI (othN V d) :=
  congrArg nI (cnt_cut 4 hn4 (fun i h1 h2 => decide_eq_false (fun z => z (hz i h2 (by rw [hn]; exact nI_le h1 (by omega)))))).symm
theorem cof_0 {V : mw_M} {d c : Nat} : cofI V d c 0 = V (100 + 12 * d + 3 * c) := if_pos rfl
theorem cof_1 {V : mw_M} {d c : Nat} : cofI V d c 1 = V (100 + 12 * d + 1 + 3 * c) := rfl
theorem cof_2 {V : mw_M} {d c : Nat} : cofI V d c 2 = V (100 + 12 * d + 2 + 3 * c) := rfl
theorem cof_j {V : mw_M} {d c j : Nat} (hj : j < 3) : cofI V d c (nI j) = V (100 + 12 * d + 3 * c + j) := by
  have h : j = 0 ∨ j = 1 ∨ j = 2 := by omega
  rcases h with rfl | rfl | rfl
  · exact cof_0
  · exact cof_1.trans (congrArg V (by omega))
  · exact cof_2.trans (congrArg V (by omega))
theorem cof_n {V : mw_M} {d c : Nat} {w : Int32} (h : 3 ≤ w) : cofI V d c w = nI (cntB (s_cf V d c) (nN V d)) := by
  have e : ∀ k : Nat, k < 3 → ¬ w = nI k := fun k hk z => by
    rw [z] at h
    exact nI_ge (b := 3) hk (by omega) h
  unfold cofI
  rw [if_neg (show ¬ w = 0 from e 0 (by omega)), if_neg (show ¬ w = 1 from e 1 (by omega)), if_neg (show ¬ w = 2 from e 2 (by omega))]
theorem cf_at {V : mw_M} (hw : wfV V) {d c i : Nat} (hd : d < 2) (hc4 : c < 4) (hc : ¬ V d ≤ nI c) (hi12 : i < 12) (hi : ¬ V (2 + d) ≤ nI i) : s_cf V d c i = true ↔ (¬ 9 ≤ V (100 + 12 * d + 3 * c + 0) ∧ fitR (V (100 + 12 * d + 3 * c + 0)) (V (100 + 12 * d + 3 * c + 1)) (V (100 + 12 * d + 3 * c + 2)) (V (4 + 48 * d + (4 * i + c))) = true) := by
  obtain ⟨k, a, b, h1, h2, h3, h4, h5, h6, h7⟩ := wf_cl hw hd hc4
  have e : s_cf V d c i = tkB (nI k) (nI a) (nI b) (V (4 + 48 * d + (4 * i + c))) := by
    unfold s_cf
    rw [ent_at hd hi hc hi12 hc4, h1, show 100 + 12 * d + 1 + 3 * c = 100 + 12 * d + 3 * c + 1 by omega, h3, show 100 + 12 * d + 2 + 3 * c = 100 + 12 * d + 3 * c + 2 by omega, h6]
  rw [e, Nat.add_zero, h1, h3, h6]
  rcases Nat.lt_or_ge k 9 with z | z
  · rw [fit_tk (by omega) (nI_pos (by omega))]
    exact ⟨fun w => ⟨nI_ge (b := 9) z (by omega), w⟩, fun w => w.2⟩
  · rw [tk_hi z h2]
    constructor
    · intro w
      exact absurd w (by decide)
    · intro w
      exact absurd (nI_le (a := 9) z (by omega)) w.1
theorem dv4 {k : Nat} (h : k < 8) : nI k / 4 = nI (k / 4) := by
  have h : k = 0 ∨ k = 1 ∨ k = 2 ∨ k = 3 ∨ k = 4 ∨ k = 5 ∨ k = 6 ∨ k = 7 := by omega
  rcases h with rfl | rfl | rfl | rfl | rfl | rfl | rfl | rfl <;> decide
theorem rm4 {k : Nat} (h : k < 8) : nI k - nI k / 4 * 4 = nI (k % 4) := rem4 (by omega)
theorem ask_iff {V : mw_M} {c : Nat} (hc : c < 8) : askP V (nI c) ↔ (hcP V (c / 4) (nI (c % 4)) ∧ (nI c < 4 ∨ V 124 = 1)) := by
  rcases Nat.lt_or_ge c 4 with z | z
  · have e1 : c / 4 = 0 := by omega
    have e2 : c % 4 = c := by omega
    have e3 : ¬ 4 ≤ nI c := nI_ge (b := 4) z (by omega)
    rw [e1, e2]
    constructor
    · intro h
      rcases h with h | h
      · exact ⟨h.2, Or.inl (nI_lt (b := 4) z (by omega))⟩
      · exact absurd h.1 e3
    · intro h
      exact Or.inl ⟨e3, h.1⟩
  · have e1 : c / 4 = 1 := by omega
    have e2 : c % 4 = c - 4 := by omega
    have e3 : 4 ≤ nI c := nI_le (a := 4) z (by omega)
    have e4 : nI c - 4 = nI (c - 4) := nI_subI (b := 4) z
    rw [e1, e2]
    constructor
    · intro h
      rcases h with h | h
      · exact absurd e3 h.1
      · rw [e4] at h
        exact ⟨h.2.2, Or.inr h.2.1⟩
    · intro h
      refine Or.inr ⟨e3, ?_, ?_⟩
      · rcases h.2 with w | w
        · exact absurd w (nI_nlt (b := 4) z (by omega))
        · exact w
      · rw [e4]
        exact h.1
/-- a column found, or -14 -/
def rtI (k : Nat) : Int32 := if k < 8 then nI k else -14
theorem rtI_lt {k : Nat} (h : k < 8) : rtI k = nI k := if_pos h
theorem rtI_no {k : Nat} (h : ¬ k < 8) : rtI k = -14 := if_neg h
def wS (V : mw_M) (a f g : Nat) : Int32 := if telS V 8 a < 8 then vS V (telS V 8 a) f g else -1
theorem fit_hi {V : mw_M} {c f g a : Nat} (h : ¬ V (100 + 3 * c) < 8) (ha : V (101 + 3 * c) = nI a) (ha4 : a < 4) : fitS V 8 c f g = (decide (¬ vS V c f g = -1) && (decide (¬ wS V a f g = -1) && (if V (100 + 3 * c) = 8 then decide (vS V c f g = wS V a f g) else if V (100 + 3 * c) = 9 then decide (¬ wS V a f g ≤ vS V c f g) else decide (¬ vS V c f g ≤ wS V a f g)))) := by
  unfold fitS
  rw [if_neg h, ha, nI_clamp (by omega)]
  rfl
theorem fit_lo {V : mw_M} (hw : wfV V) {c f g : Nat} (hc : c < 8) (h : V (100 + 3 * c) < 8) : fitS V 8 c f g = fitR (V (100 + 3 * c)) (V (101 + 3 * c)) (V (102 + 3 * c)) (vS V c f g) := by
  obtain ⟨k, a, b, h1, h2, h3, h4, h5, h6, h7⟩ := hw.2.2.2.1 c hc
  unfold fitS
  rw [if_pos h]
  rw [h1] at h ⊢
  rw [h3, fit_tk (by
    rcases Nat.lt_or_ge k 8 with z | z
    · omega
    · exact absurd h (nI_nlt (b := 8) z (by omega))) (nI_pos (by omega))]
theorem telP_f {V : mw_M} {a c : Nat} (h : ¬ (askP V (nI c) ∧ V (100 + 3 * c) = 8 ∧ V (101 + 3 * c) = nI a)) : telP V 8 a c = false := by
  unfold telP
  rw [Bool.eq_false_iff]
  intro z
  simp only [Bool.and_eq_true, decide_eq_true_eq] at z
  exact h ⟨z.1, z.2.2.1, z.2.2.2⟩
theorem telP_t {V : mw_M} {a c : Nat} (hc : c < 8) (h1 : askP V (nI c)) (h2 : V (100 + 3 * c) = 8) (h3 : V (101 + 3 * c) = nI a) : telP V 8 a c = true := by
  unfold telP
  simp only [Bool.and_eq_true, decide_eq_true_eq]
  exact ⟨h1, by omega, h2, h3⟩
theorem misP_f {V : mw_M} {f g c : Nat} (h : ¬ (askP V (nI c) ∧ ¬ fitS V 8 c f g = true)) : misP V 8 f g c = false := by
  unfold misP
  rw [Bool.eq_false_iff]
  intro z
  simp only [Bool.and_eq_true, decide_eq_true_eq, Bool.not_eq_true'] at z
  exact h ⟨z.1, fun w => by rw [z.2.2] at w; exact absurd w (by decide)⟩
theorem misP_t {V : mw_M} {f g c : Nat} (hc : c < 8) (h1 : askP V (nI c)) (h2 : ¬ fitS V 8 c f g = true) : misP V 8 f g c = true := by
  unfold misP
  simp only [Bool.and_eq_true, decide_eq_true_eq, Bool.not_eq_true']
  exact ⟨h1, by omega, Bool.eq_false_iff.mpr h2⟩
def byS (V : mw_M) (k f g o w : Nat) : Int32 := if askP V (V (125 + 2 * k)) then vS V (V (125 + 2 * k)).toNatClampNeg f g - vS V (V (125 + 2 * k)).toNatClampNeg o w else 0
def sgB (u x : Int32) : Bool := if u = 1 then decide (¬ 0 ≤ x) else decide (¬ x ≤ 0)
def bhS (V : mw_M) (f g o w : Nat) : Bool := if byS V 0 f g o w = 0 then (if byS V 1 f g o w = 0 then false else sgB (V 128) (byS V 1 f g o w)) else sgB (V 126) (byS V 0 f g o w)
theorem by_a {V : mw_M} {k f g o w c : Nat} (h : V (125 + 2 * k) = nI c) (hc : c < 8) (ha : askP V (nI c)) : byS V k f g o w = vS V c f g - vS V c o w := by
  unfold byS
  rw [h, if_pos ha, nI_clamp (by omega)]
theorem by_na {V : mw_M} {k f g o w : Nat} (ha : ¬ askP V (V (125 + 2 * k))) : byS V k f g o w = 0 := if_neg ha
theorem ask_neg {V : mw_M} {x : Int32} (h : x < 0) : ¬ askP V x := fun z => by
  rcases z with z | z
  · exact z.2.1 h
  · have := z.1
    rw [Int32.le_iff_toInt_le] at this
    rw [Int32.lt_iff_toInt_lt] at h
    have e0 : (0 : Int32).toInt = 0 := by decide
    have e4 : (4 : Int32).toInt = 4 := by decide
    omega
theorem sm_v {x : Int32} (h : vlP x) : -1 ≤ x.toInt ∧ x.toInt ≤ 99 := by
  rcases h with rfl | ⟨w, hw, rfl⟩
  · decide
  · rw [nI_toInt (by omega)]
    omega
theorem sub_int {a b : Int32} (ha : -1 ≤ a.toInt ∧ a.toInt ≤ 99) (hb : -1 ≤ b.toInt ∧ b.toInt ≤ 99) : (a - b).toInt = a.toInt - b.toInt := by
  rw [Int32.toInt_sub]
  unfold Int.bmod
  have e : ((2 : Nat) ^ 32 : Nat) = 4294967296 := by decide
  rw [e]
  dsimp only
  split <;> omega
theorem nI_dec {k : Nat} (h : 1 ≤ k) : nI k + -1 = nI (k - 1) := by
  obtain ⟨j, rfl⟩ : ∃ j, k = j + 1 := ⟨k - 1, by omega⟩
  exact pk_m1 j
theorem cmp_by {V : mw_M} (hw : wfV V) {k f g o w : Nat} (hk : k < 2) (hb : f < 12 ∧ g < 12 ∧ o < 12 ∧ w < 12) : (cmpS V k o w f g = 0 ↔ byS V k f g o w = 0) ∧ decide (¬ 0 ≤ cmpS V k o w f g) = sgB (V (126 + 2 * k)) (byS V k f g o w) := by
  unfold cmpS byS sgB
  by_cases ha : askP V (V (125 + 2 * k))
  · rw [if_pos ha, if_pos ha]
    obtain ⟨c, hc, e⟩ := ask_nI hw.2.1 ha
    rw [e, nI_clamp (by omega)]
    have h1 := sm_v (vlP_vS hw (c := c) (f := f) (g := g) hc hb.1 hb.2.1)
    have h2 := sm_v (vlP_vS hw (c := c) (f := o) (g := w) hc hb.2.2.1 hb.2.2.2)
    by_cases hu : V (126 + 2 * k) = 1
    · rw [if_pos hu, if_pos hu, Int32.neg_sub]
      exact ⟨Iff.rfl, rfl⟩
    · rw [if_neg hu, if_neg hu]
      have e0 : (0 : Int32).toInt = 0 := by decide
      constructor
      · rw [← Int32.toInt_inj, ← Int32.toInt_inj, sub_int h1 h2, sub_int h2 h1, e0]
        omega
      · rw [decide_eq_decide, Int32.le_iff_toInt_le, Int32.le_iff_toInt_le, sub_int h1 h2, sub_int h2 h1, e0]
        omega
  · rw [if_neg ha, if_neg ha]
    refine ⟨Iff.rfl, ?_⟩
    split <;> rfl
theorem bh_ahd {V : mw_M} (hw : wfV V) {f g o w : Nat} (hb : f < 12 ∧ g < 12 ∧ o < 12 ∧ w < 12) : ahdS V o w f g = bhS V f g o w := by
  have c0 := cmp_by hw (k := 0) (by decide) hb
  have c1 := cmp_by hw (k := 1) (by decide) hb
  unfold ahdS bhS
  by_cases z : byS V 0 f g o w = 0
  · rw [if_pos (c0.1.mpr z), if_pos z, c1.2]
    by_cases z1 : byS V 1 f g o w = 0
    · rw [if_pos z1, z1]
      unfold sgB
      split <;> rfl
    · rw [if_neg z1]
  · rw [if_neg (fun w => z (c0.1.mp w)), if_neg z, c0.2]
theorem lst_mem {S : mw_M} {lo mm f g : Nat} (hm : mm ≤ 12) (hf : f < 12) (hg : g ≤ 12) : ∀ r, r ∈ lstF S lo mm f ++ lstG S lo f g → r < 144 := by
  have hG : ∀ i k, i < 12 → k ≤ 12 → ∀ r, r ∈ lstG S lo i k → r < 144 := fun i k hi hk r hr => by
    unfold lstG at hr
    obtain ⟨j, hj, rfl⟩ := List.mem_map.mp hr
    have := List.mem_range.mp (List.mem_filter.mp hj).1
    omega
  intro r hr
  rcases List.mem_append.mp hr with z | z
  · unfold lstF at z
    obtain ⟨i, hi, hr2⟩ := List.mem_flatMap.mp z
    exact hG i mm (by have := List.mem_range.mp hi; omega) hm r hr2
  · exact hG f g hf hg r z
theorem lst_ln {S : mw_M} {lo mm f g : Nat} (hm : mm ≤ 12) (hf : f < 12) (hg : g < 12) : (lstF S lo mm f ++ lstG S lo f g).length < 144 := by
  rw [List.length_append]
  have h1 := lstF_len (S := S) (lo := lo) hm f
  have h2 := lstG_len (S := S) (lo := lo) (f := f) g
  omega
theorem rtI_m {k : Nat} (h : k ≤ 8) : rtI k = -14 ↔ k = 8 := by
  unfold rtI
  by_cases z : k < 8
  · rw [if_pos z]
    constructor
    · intro w
      exact absurd (show nI k < 0 by rw [w]; decide) (nI_pos (by omega))
    · intro w
      omega
  · rw [if_neg z]
    exact ⟨fun _ => by omega, fun _ => rfl⟩
theorem wf_low {S S2 : mw_M} (h : wfV S) (e : ∀ q, q < 125 → S2 q = S q) (h6 : ∀ w, w < 2 → (S2 (125 + 2 * w) = -1 ∨ ∃ c, c < 8 ∧ S2 (125 + 2 * w) = nI c) ∧ (S2 (126 + 2 * w) = 0 ∨ S2 (126 + 2 * w) = 1)) : wfV S2 := by
  obtain ⟨h0, h1, h2, h3, h4, h5, -⟩ := h
  refine ⟨?_, ?_, fun i hi => ?_, fun c hc => ?_, fun d hd c hc hle => ?_, ?_, h6⟩
  · obtain ⟨a, b, i1, i2, i3, i4⟩ := h0
    exact ⟨a, b, by rw [e _ (by omega)]; exact i1, i2, by rw [e _ (by omega)]; exact i3, i4⟩
  · obtain ⟨a, b, i1, i2, i3, i4⟩ := h1
    exact ⟨a, b, by rw [e _ (by omega)]; exact i1, i2, by rw [e _ (by omega)]; exact i3, i4⟩
  · rw [e _ (by omega)]
    exact h2 i hi
  · rw [e (100 + 3 * c) (by omega), e (101 + 3 * c) (by omega), e (102 + 3 * c) (by omega)]
    exact h3 c hc
  · rw [e d (by omega)] at hle
    rw [e _ (by omega)]
    exact h4 d hd c hc hle
  · rw [e 124 (by omega)]
    exact h5
theorem wf_ext {S S2 : mw_M} (h : wfV S) (e : ∀ q, q < 129 → S2 q = S q) : wfV S2 :=
  wf_low h (fun q hq => e q (by omega)) (fun w hw => by rw [e (125 + 2 * w) (by omega), e (126 + 2 * w) (by omega)]; exact h.2.2.2.2.2.2 w hw)
theorem wf_kp {V : mw_M} (h : wfV V) : wfV (kpS V) := wf_ext h (fun q hq => kpS_lo (by omega))
theorem wf_shw {V : mw_M} (h : wfV V) {x : Int32} : wfV (upd (kpS V) 129 x) := wf_ext h (fun q hq => by rw [upd_o (by omega), kpS_lo (by omega)])
theorem in_m1 {x : Int32} (h : inP x (-1) 7) : x = -1 ∨ ∃ c, c < 8 ∧ x = nI c := by
  by_cases z : x < 0
  · left
    have h1 := h.1
    rw [Int32.lt_iff_toInt_lt] at z h1
    rw [← Int32.toInt_inj]
    have e0 : (0 : Int32).toInt = 0 := by decide
    have e1 : (-1 : Int32).toInt = -1 := by decide
    omega
  · right
    obtain ⟨k, -, h2, e⟩ := btw (a := 0) (b := 7) z h.2 (by omega) (by omega)
    exact ⟨k, by omega, e⟩
theorem wf_ord {V : mw_M} (h : wfV V) {x k b : Int32} (hk : inP k (-1) 7) (hb : bitP b) : wfV (ordN V x k b) := by
  have hd := dN_lt x
  refine wf_low h (fun q hq => ?_) (fun w hw => ?_)
  · unfold ordN
    rw [upd_o (by omega), upd_o (by omega), kpS_lo (by omega)]
  · unfold ordN
    by_cases z : w = dN x
    · rw [← z, upd_s, upd_o (by omega), upd_s]
      exact ⟨in_m1 hk, hb⟩
    · rw [upd_o (by omega), upd_o (by omega), upd_o (by omega), upd_o (by omega), kpS_lo (by omega), kpS_lo (by omega)]
      exact h.2.2.2.2.2.2 w hw
def exB (f : Nat → Int32) (n v : Nat) : Bool := !noneB f (nI v) n
theorem none_s {f : Nat → Int32} {x : Int32} {n : Nat} : noneB f x (n + 1) = (noneB f x n && decide (¬ f n = x)) := by
  unfold noneB
  rw [← Bool.decide_and, decide_eq_decide]
  constructor
  · intro h
    exact ⟨fun j hj => h j (by omega), h n (by omega)⟩
  · intro h j hj
    rcases Nat.lt_or_ge j n with z | z
    · exact h.1 j z
    · rw [show j = n by omega]
      exact h.2
theorem cnt_flip {f g : Nat → Bool} {v : Nat} (h : ∀ i, ¬ i = v → g i = f i) (hf : f v = false) (hg : g v = true) : ∀ n, cntB g n = cntB f n + (if v < n then 1 else 0)
  | 0 => by simp [cntB]
  | n + 1 => by
    show cntB g n + (if g n then 1 else 0) = cntB f n + (if f n then 1 else 0) + _
    rw [cnt_flip h hf hg n]
    by_cases z : n = v
    · rw [z, hf, hg]
      simp
    · rw [h n z]
      by_cases z2 : v < n
      · rw [if_pos z2, if_pos (show v < n + 1 by omega)]
        omega
      · rw [if_neg z2, if_neg (show ¬ v < n + 1 by omega)]
        omega
theorem cnt_0 : ∀ n, cntB (fun _ => false) n = 0
  | 0 => rfl
  | n + 1 => by
    show cntB (fun _ => false) n + _ = 0
    rw [cnt_0 n]
    simp
theorem dc_cnt {f : Nat → Int32} {N : Nat} (hf : ∀ i, i < N → f i = -1 ∨ ∃ v, v < 144 ∧ f i = nI v) : ∀ n, n ≤ N → dcF f n = cntB (exB f n) 144
  | 0, _ => by
    rw [cntB_c (g := fun _ => false) (fun i hi => by unfold exB noneB; simp), cnt_0]
    rfl
  | n + 1, hn => by
    have ih := dc_cnt hf n (by omega)
    have e : dcF f (n + 1) = if f n = -1 then dcF f n else dcF f n + (if noneB f (f n) n then 1 else 0) := rfl
    rw [e, ih]
    have hx : ∀ v, exB f (n + 1) v = (exB f n v || decide (f n = nI v)) := fun v => by
      unfold exB
      rw [none_s]
      by_cases z : f n = nI v
      · rw [decide_eq_true z, decide_eq_false (fun w => w z)]
        simp
      · rw [decide_eq_false z, decide_eq_true z]
        simp
    rcases hf n (by omega) with z | ⟨v, hv, z⟩
    · rw [if_pos z]
      refine cntB_c (fun i hi => ?_)
      rw [hx i, decide_eq_false (fun w => nI_ne_m1 (n := i) (by omega) (w.symm.trans z))]
      simp
    · rw [if_neg (fun w => nI_ne_m1 (n := v) (by omega) (z.symm.trans w))]
      have hne : ∀ i, ¬ i = v → i < 144 → ¬ f n = nI i := fun i hi h144 w => hi ((nI_eq (by omega) (by omega)).mp (w.symm.trans z))
      by_cases hB : noneB f (f n) n = true
      · rw [hB, if_pos rfl]
        have hB2 : noneB f (nI v) n = true := by rw [← z]; exact hB
        have := cnt_flip (f := exB f n) (g := fun i => exB f n i || decide (i = v)) (v := v) (fun i hi => by simp [hi]) (by unfold exB; rw [hB2]; rfl) (by simp) 144
        rw [if_pos hv] at this
        rw [← this]
        refine cntB_c (fun i hi => ?_)
        rw [hx i]
        by_cases w : i = v
        · rw [w, decide_eq_true z]
          simp
        · rw [decide_eq_false (hne i w hi), decide_eq_false w]
      · have hB3 : noneB f (nI v) n = false := by rw [← z]; exact Bool.eq_false_iff.mpr hB
        rw [if_neg hB, Nat.add_zero]
        refine cntB_c (fun i hi => ?_)
        rw [hx i]
        by_cases w : i = v
        · rw [w]
          unfold exB
          rw [hB3]
          simp
        · rw [decide_eq_false (hne i w hi)]
          simp
theorem exB_perm {h : Nat → Int32} {L L2 : List Nat} (hp : L2.Perm L) {v : Nat} : exB (fun i => h (L2.getD i 0)) L2.length v = exB (fun i => h (L.getD i 0)) L.length v := by
  have key : ∀ {A B : List Nat}, A.Perm B → (∀ j, j < B.length → ¬ h (B.getD j 0) = nI v) → ∀ j, j < A.length → ¬ h (A.getD j 0) = nI v := fun {A B} hq hB j hj => by
    have hm := hq.mem_iff.mp (getD_mem hj)
    obtain ⟨k, hk, e⟩ := List.getElem_of_mem hm
    have := hB k hk
    rw [List.getD_eq_getElem?_getD, List.getElem?_eq_getElem hk] at this
    rw [← e]
    exact this
  unfold exB noneB
  refine congrArg (fun b => !b) ?_
  rw [decide_eq_decide]
  exact ⟨fun z => key hp.symm z, fun z => key hp z⟩
theorem dc_perm {h : Nat → Int32} {L L2 : List Nat} (hh : ∀ r, r ∈ L → h r = -1 ∨ ∃ v, v < 144 ∧ h r = nI v) (hp : L2.Perm L) : dcF (fun i => h (L2.getD i 0)) L2.length = dcF (fun i => h (L.getD i 0)) L.length := by
  rw [dc_cnt (N := L2.length) (fun i hi => hh _ (hp.mem_iff.mp (getD_mem hi))) _ (Nat.le_refl _), dc_cnt (N := L.length) (fun i hi => hh _ (getD_mem hi)) _ (Nat.le_refl _)]
  exact cntB_c (fun v hv => exB_perm hp)
theorem lst_144 {V : mw_M} (hw : wfR V) : ∀ r, r ∈ lstS V 8 → r < 144 := fun r hr => (valP_row hw hr).1
theorem rem_n9 {M : mw_M} {d n k i : Nat} : s_rem M d n k i (2 + d) = nI (n - 1) := by
  unfold s_rem
  rw [if_neg (by omega), if_pos rfl]
theorem alB_iff {p : Nat → Bool} : ∀ n, alB p n = true ↔ ∀ c, c < n → p c = true
  | 0 => ⟨fun _ c hc => absurd hc (Nat.not_lt_zero c), fun _ => rfl⟩
  | n + 1 => by
    unfold alB
    rw [Bool.and_eq_true, alB_iff n]
    constructor
    · rintro ⟨h1, h2⟩ c hc
      by_cases e : c = n
      · rw [e]; exact h2
      · exact h1 c (by omega)
    · intro h
      exact ⟨fun c hc => h c (by omega), h n (by omega)⟩
def alqC (V : mw_M) (r r2 c : Nat) : Bool := decide (vS V c (r / 12) (r % 12) = vS V c (r2 / 12) (r2 % 12)) || decide (¬ shwP V (nI c))
def alqB (V : mw_M) (r r2 : Nat) : Nat → Bool := alB (alqC V r r2)
theorem alqC_h {V : mw_M} {r r2 c : Nat} (h : ¬ shwP V (nI c)) : alqC V r r2 c = true := by
  unfold alqC
  rw [decide_eq_true h, Bool.or_true]
theorem alqC_0 {V : mw_M} {r r2 c : Nat} (hr : valP V (r / 12) (r % 12)) (hr2 : valP V (r2 / 12) (r2 % 12)) (hc : c < 4) : alqC V r r2 c = alkC V 0 (r / 12) (r2 / 12) c := by
  have e0 : shwP V (nI (4 * 0 + c)) ↔ shwP V (nI c) := by rw [show 4 * 0 + c = c by omega]
  by_cases hs : shwP V (nI c)
  · have ha := (ask_iff (by omega)).mp hs.1
    rw [show c / 4 = 0 by omega, show c % 4 = c by omega] at ha
    have e1 : entI V 0 (nI (r / 12)) (nI c) = vS V c (r / 12) (r % 12) := by
      rw [ent_at (by omega) hr.2.2.1 ha.1.2 hr.1 hc]
      unfold vS
      rw [if_pos hc, show c / 4 = 0 by omega, show c % 4 = c by omega]
    have e2 : entI V 0 (nI (r2 / 12)) (nI c) = vS V c (r2 / 12) (r2 % 12) := by
      rw [ent_at (by omega) hr2.2.2.1 ha.1.2 hr2.1 hc]
      unfold vS
      rw [if_pos hc, show c / 4 = 0 by omega, show c % 4 = c by omega]
    unfold alqC alkC
    rw [e1, e2]
    congr 1
    exact decide_eq_decide.mpr (not_congr e0.symm)
  · rw [alqC_h hs]
    unfold alkC
    rw [decide_eq_true (show ¬ shwP V (nI (4 * 0 + c)) from fun z => hs (e0.mp z)), Bool.or_true]
theorem alqC_1 {V : mw_M} {r r2 c : Nat} (hr : valP V (r / 12) (r % 12)) (hr2 : valP V (r2 / 12) (r2 % 12)) (hc : c < 4) : alqC V r r2 (4 + c) = alkC V 1 (r % 12) (r2 % 12) c := by
  have e0 : shwP V (nI (4 * 1 + c)) ↔ shwP V (nI (4 + c)) := Iff.rfl
  by_cases hs : shwP V (nI (4 + c))
  · have ha := (ask_iff (by omega)).mp hs.1
    rw [show (4 + c) / 4 = 1 by omega, show (4 + c) % 4 = c by omega] at ha
    have hb : V 124 = 1 := ha.2.elim (fun z => absurd z (fun z => absurd (nI_le (a := 4) (b := 4 + c) (by omega) (by omega)) (Int32.not_le.mpr z))) id
    have e1 : entI V 1 (nI (r % 12)) (nI c) = vS V (4 + c) (r / 12) (r % 12) := by
      rw [ent_at (by omega) (hr.2.2.2 hb) ha.1.2 hr.2.1 hc]
      unfold vS
      rw [if_neg (by omega), show (4 + c) / 4 = 1 by omega, show (4 + c) % 4 = c by omega]
    have e2 : entI V 1 (nI (r2 % 12)) (nI c) = vS V (4 + c) (r2 / 12) (r2 % 12) := by
      rw [ent_at (by omega) (hr2.2.2.2 hb) ha.1.2 hr2.2.1 hc]
      unfold vS
      rw [if_neg (by omega), show (4 + c) / 4 = 1 by omega, show (4 + c) % 4 = c by omega]
    unfold alqC alkC
    rw [e1, e2]
  · rw [alqC_h hs]
    unfold alkC
    rw [decide_eq_true (show ¬ shwP V (nI (4 * 1 + c)) from fun z => hs (e0.mp z)), Bool.or_true]
theorem alq_alk {V : mw_M} {r r2 : Nat} (hr : valP V (r / 12) (r % 12)) (hr2 : valP V (r2 / 12) (r2 % 12)) : alqB V r r2 8 = true ↔ (alkS V 0 (r / 12) (r2 / 12) = true ∧ alkS V 1 (r % 12) (r2 % 12) = true) := by
  unfold alqB alkS
  rw [alB_iff, alB_iff, alB_iff]
  constructor
  · intro h
    exact ⟨fun c hc => (alqC_0 hr hr2 hc).symm.trans (h c (by omega)), fun c hc => (alqC_1 hr hr2 hc).symm.trans (h (4 + c) (by omega))⟩
  · rintro ⟨h1, h2⟩ c hc
    rcases Nat.lt_or_ge c 4 with z | z
    · exact (alqC_0 hr hr2 z).trans (h1 c z)
    · rw [show c = 4 + (c - 4) by omega]
      exact (alqC_1 hr hr2 (by omega)).trans (h2 (c - 4) (by omega))
theorem alkC_or {V : mw_M} {d j k c : Nat} : alkC V d j k c = true ↔ (entI V d (nI j) (nI c) = entI V d (nI k) (nI c) ∨ ¬ shwP V (nI (4 * d + c))) := by
  unfold alkC
  rw [Bool.or_eq_true, decide_eq_true_eq, decide_eq_true_eq]
theorem alk_rf {V : mw_M} {d k : Nat} : alkS V d k k = true := (alB_iff 4).mpr (fun _ _ => alkC_or.mpr (Or.inl rfl))
theorem alk_sm {V : mw_M} {d j k : Nat} (h : alkS V d j k = true) : alkS V d k j = true := (alB_iff 4).mpr (fun c hc => alkC_or.mpr ((alkC_or.mp ((alB_iff 4).mp h c hc)).imp Eq.symm id))
theorem alk_tr {V : mw_M} {d j k m : Nat} (h : alkS V d j k = true) (h2 : alkS V d k m = true) : alkS V d j m = true := (alB_iff 4).mpr (fun c hc => alkC_or.mpr (by
  rcases alkC_or.mp ((alB_iff 4).mp h c hc) with a | a
  · rcases alkC_or.mp ((alB_iff 4).mp h2 c hc) with b | b
    · exact Or.inl (a.trans b)
    · exact Or.inr b
  · exact Or.inr a))
theorem fsN_spec {p : Nat → Bool} : ∀ n, (∀ j, j < fsN p n → p j = false) ∧ (fsN p n < n → p (fsN p n) = true)
  | 0 => ⟨fun j hj => absurd hj (Nat.not_lt_zero j), fun h => absurd h (Nat.not_lt_zero _)⟩
  | n + 1 => by
    have ih := fsN_spec (p := p) n
    have hle := fsN_le p n
    unfold fsN
    by_cases h : fsN p n < n
    · rw [if_pos h]
      exact ⟨ih.1, fun _ => ih.2 h⟩
    · rw [if_neg h]
      have e : fsN p n = n := by omega
      rw [e] at ih
      cases hp : p n with
      | true => exact ⟨ih.1, fun _ => hp⟩
      | false =>
        refine ⟨fun j hj => ?_, fun z => absurd z (Nat.lt_irrefl _)⟩
        have hj2 : j < n + 1 := hj
        by_cases ej : j = n
        · rw [ej]; exact hp
        · exact ih.1 j (by omega)
theorem fa_al {V : mw_M} {d k : Nat} : alkS V d (faS V d k) k = true := by
  have h := fsN_spec (p := fun j => alkS V d j k) k
  have hle := fsN_le (fun j => alkS V d j k) k
  unfold faS
  rcases Nat.lt_or_ge (fsN (fun j => alkS V d j k) k) k with z | z
  · exact h.2 z
  · rw [show fsN (fun j => alkS V d j k) k = k by omega]
    exact alk_rf
theorem fa_le {V : mw_M} {d k j : Nat} (h : alkS V d j k = true) : faS V d k ≤ j := by
  have h2 := fsN_spec (p := fun j => alkS V d j k) k
  unfold faS
  rcases Nat.lt_or_ge j (fsN (fun j => alkS V d j k) k) with z | z
  · have := h2.1 j z
    rw [h] at this
    exact absurd this (by decide)
  · exact z
theorem fa_eq {V : mw_M} {d j k : Nat} : faS V d j = faS V d k ↔ alkS V d j k = true := by
  constructor
  · intro e
    have h1 := fa_al (V := V) (d := d) (k := j)
    rw [e] at h1
    exact alk_tr (alk_sm h1) fa_al
  · intro h
    have h1 := fa_le (alk_tr (fa_al (V := V) (d := d) (k := j)) h)
    have h2 := fa_le (alk_tr (fa_al (V := V) (d := d) (k := k)) (alk_sm h))
    omega
theorem key_alq {V : mw_M} {r r2 : Nat} (h : r < 144) (h2 : r2 < 144) (hr : valP V (r / 12) (r % 12)) (hr2 : valP V (r2 / 12) (r2 % 12)) : keyS V r = keyS V r2 ↔ alqB V r r2 8 = true := by
  have a1 := faS_lt (S := V) (d := 0) (k := r / 12) (by omega)
  have a2 := faS_lt (S := V) (d := 1) (k := r % 12) (by omega)
  have a3 := faS_lt (S := V) (d := 0) (k := r2 / 12) (by omega)
  have a4 := faS_lt (S := V) (d := 1) (k := r2 % 12) (by omega)
  rw [alq_alk hr hr2, ← fa_eq, ← fa_eq]
  unfold keyS
  constructor
  · intro e
    exact ⟨by omega, by omega⟩
  · rintro ⟨e1, e2⟩
    rw [e1, e2]
theorem ky_alq {V : mw_M} {P : List Nat} {i j : Nat} (h144 : ∀ r, r ∈ P → r < 144) (hv : ∀ r, r ∈ P → valP V (r / 12) (r % 12)) (hi : i < P.length) (hj : j < P.length) : kyS V P j = kyS V P i ↔ alqB V (P.getD i 0) (P.getD j 0) 8 = true := by
  have m1 := getD_mem hi
  have m2 := getD_mem hj
  rw [← key_alq (h144 _ m1) (h144 _ m2) (hv _ m1) (hv _ m2)]
  have k1 := keyS_lt (S := V) (h144 _ m1)
  have k2 := keyS_lt (S := V) (h144 _ m2)
  unfold kyS
  rw [nI_eq (by omega) (by omega)]
  exact eq_comm
theorem srt_val {V : mw_M} (hw : wfR V) : ∀ r, r ∈ srtS V (lstS V 8) → valP V (r / 12) (r % 12) := fun r hr => (valP_row hw (srt_perm.mem_iff.mp hr)).2
theorem unl_srt {V : mw_M} (hw : wfR V) : nI (dcF (kyS V (srtS V (lstS V 8))) (srtS V (lstS V 8)).length) = unlI V :=
  congrArg nI (dc_perm (h := fun r => nI (keyS V r)) (fun r hr => Or.inr ⟨keyS V r, keyS_lt (lst_144 hw r hr), rfl⟩) srt_perm)
theorem ky_m1 {V : mw_M} {P : List Nat} {i : Nat} (h144 : ∀ r, r ∈ P → r < 144) (hi : i < P.length) : ¬ kyS V P i = -1 := nI_ne_m1 (by have := keyS_lt (S := V) (h144 _ (getD_mem hi)); omega)
/-! the cell that holds back most: with the cell n of kind 0 -/
def exP (W : mw_M) (d : Nat) (L : List (Int32 × Int32 × Int32)) : Nat → mw_M
  | 0 => W
  | i + 1 => s_cl (exP W d L i) 0 d i (L.getD i (0, 0, 0)).1 (L.getD i (0, 0, 0)).2.1 (L.getD i (0, 0, 0)).2.2
theorem upd_at {M : mw_M} {k q : Nat} {x : Int32} (h : q = k) : upd M k x q = x := by rw [h, upd_s]
theorem cl_i {W : mw_M} {d c w : Nat} {x y z : Int32} (hw : w < 3) : s_cl W 0 d c x y z (100 + 12 * d + 3 * c + w) = if w = 0 then x else if w = 1 then y else z := by
  unfold s_cl
  rcases (show w = 0 ∨ w = 1 ∨ w = 2 by omega) with rfl | rfl | rfl
  · rw [upd_o (by omega), upd_o (by omega), upd_at (by omega)]
    rfl
  · rw [upd_o (by omega), upd_at (by omega)]
    rfl
  · rw [upd_at (by omega)]
    rfl
theorem cl_out {W : mw_M} {d c q : Nat} {x y z : Int32} (h : ¬ (100 + 12 * d + 3 * c ≤ q ∧ q < 100 + 12 * d + 3 * c + 3)) : s_cl W 0 d c x y z q = W q := by
  unfold s_cl
  rw [upd_o (by omega), upd_o (by omega), upd_o (by omega)]
theorem exP_at {W : mw_M} {d : Nat} {L : List (Int32 × Int32 × Int32)} : ∀ n, n ≤ 4 → ∀ c w, w < 3 → c < n → exP W d L n (100 + 12 * d + 3 * c + w) = if w = 0 then (L.getD c (0, 0, 0)).1 else if w = 1 then (L.getD c (0, 0, 0)).2.1 else (L.getD c (0, 0, 0)).2.2
  | 0, _, c, w, _, hc => absurd hc (Nat.not_lt_zero c)
  | n + 1, hn, c, w, hw, hc => by
    show s_cl (exP W d L n) 0 d n _ _ _ _ = _
    by_cases z : c = n
    · rw [z]
      exact cl_i hw
    · rw [cl_out (by omega)]
      exact exP_at n (by omega) c w hw (by omega)
theorem exP_out {W : mw_M} {d q : Nat} {L : List (Int32 × Int32 × Int32)} (h : ¬ (100 + 12 * d ≤ q ∧ q < 100 + 12 * d + 12)) : ∀ n, n ≤ 4 → exP W d L n q = W q
  | 0, _ => rfl
  | n + 1, hn => by
    show s_cl (exP W d L n) 0 d n _ _ _ q = _
    rw [cl_out (by omega)]
    exact exP_out h n (by omega)
theorem exP_4 {W : mw_M} {d : Nat} {L : List (Int32 × Int32 × Int32)} : exP W d L 4 = exaS W (100 + 12 * d) L := by
  funext q
  unfold exaS
  by_cases h : 100 + 12 * d ≤ q ∧ q < 100 + 12 * d + 12
  · rw [if_pos h]
    have e := exP_at (W := W) (d := d) (L := L) 4 (by omega) ((q - (100 + 12 * d)) / 3) ((q - (100 + 12 * d)) % 3) (by omega) (by omega)
    rw [show 100 + 12 * d + 3 * ((q - (100 + 12 * d)) / 3) + (q - (100 + 12 * d)) % 3 = q by omega] at e
    exact e
  · rw [if_neg h]
    exact exP_out h 4 (by omega)
theorem getD_out {L : List (Int32 × Int32 × Int32)} {i : Nat} (h : L.length ≤ i) : L.getD i (0, 0, 0) = (0, 0, 0) := by
  rw [List.getD_eq_getElem?_getD, List.getElem?_eq_none h]
  rfl
theorem prs_len {V : mw_M} : (prsV V).2.2.length ≤ 4 := (ps_gd (ch := chA V (tN V)) (t := tN V) 4 0).2.1
theorem red_wfV {V : mw_M} (h : wfV V) {x : Int32} (hl : ¬ V (dN x) < nI (prsV V).2.2.length) : wfV (redN V x) := by
  have hd := dN_lt x
  have hz := szD h x
  obtain ⟨h0, h1, h2, h3, h4, h5, h6⟩ := h
  have lo : ∀ q, ¬ (100 + 12 * dN x ≤ q ∧ q < 100 + 12 * dN x + 12) → q < 130 → redN V x q = V q := fun q hq hq2 => by
    unfold redN
    rw [exa_lo (by omega), kpS_lo hq2]
  have inn : ∀ i w, i < 4 → w < 3 → redN V x (100 + 12 * dN x + 3 * i + w) = if w = 0 then ((prsV V).2.2.getD i (0, 0, 0)).1 else if w = 1 then ((prsV V).2.2.getD i (0, 0, 0)).2.1 else ((prsV V).2.2.getD i (0, 0, 0)).2.2 := fun i w hi hw => by
    unfold redN
    rw [← exP_4]
    exact exP_at 4 (by omega) i w hw hi
  refine ⟨?_, ?_, fun i hi2 => ?_, fun c hc => ?_, fun d hd2 c hc hle => ?_, ?_, fun w hw => ?_⟩
  · obtain ⟨a, b, i1, i2, i3, i4⟩ := h0
    exact ⟨a, b, by rw [lo _ (by omega) (by omega)]; exact i1, i2, by rw [lo _ (by omega) (by omega)]; exact i3, i4⟩
  · obtain ⟨a, b, i1, i2, i3, i4⟩ := h1
    exact ⟨a, b, by rw [lo _ (by omega) (by omega)]; exact i1, i2, by rw [lo _ (by omega) (by omega)]; exact i3, i4⟩
  · rw [lo _ (by omega) (by omega)]
    exact h2 i hi2
  · by_cases z : 4 * dN x ≤ c ∧ c < 4 * dN x + 4
    · obtain ⟨i, hi, rfl⟩ : ∃ i, i < 4 ∧ c = 4 * dN x + i := ⟨c - 4 * dN x, by omega, by omega⟩
      obtain ⟨k, a, b, f1, f2, f3, f4, f5, f6, f7⟩ := ps_at (ch := chA V (tN V)) (t := tN V) (k := 4) (q := 0) (i := i)
      refine ⟨k, a, b, ?_, f2, ?_, f4, f5, ?_, f7⟩
      · rw [show 100 + 3 * (4 * dN x + i) = 100 + 12 * dN x + 3 * i + 0 by omega, inn i 0 hi (by omega)]
        exact f1
      · rw [show 101 + 3 * (4 * dN x + i) = 100 + 12 * dN x + 3 * i + 1 by omega, inn i 1 hi (by omega)]
        exact f3
      · rw [show 102 + 3 * (4 * dN x + i) = 100 + 12 * dN x + 3 * i + 2 by omega, inn i 2 hi (by omega)]
        exact f6
    · rw [lo (100 + 3 * c) (by omega) (by omega), lo (101 + 3 * c) (by omega) (by omega), lo (102 + 3 * c) (by omega) (by omega)]
      exact h3 c hc
  · rw [lo d (by omega) (by omega)] at hle
    by_cases z : d = dN x
    · subst z
      rw [show 100 + 12 * dN x + 3 * c = 100 + 12 * dN x + 3 * c + 0 by omega, inn c 0 hc (by omega), if_pos rfl]
      obtain ⟨w, n, i1, i2, i3, i4⟩ := hz
      have hp := prs_len (V := V)
      rw [i1] at hle hl
      have a1 := (nI_leI (by omega) (by omega)).mp hle
      have a2 : (prsV V).2.2.length ≤ w := by
        rcases Nat.lt_or_ge w (prsV V).2.2.length with z | z
        · exact absurd ((nI_ltI (by omega) (by omega)).mpr z) hl
        · exact z
      rw [getD_out (by omega)]
    · rw [lo _ (by omega) (by omega)]
      exact h4 d hd2 c hc hle
  · rw [lo 124 (by omega) (by omega)]
    exact h5
  · rw [lo _ (by omega) (by omega), lo _ (by omega) (by omega)]
    exact h6 w hw
