/-! the rows: what fits, in numbers of cells, rows and columns; S is the flat memory, of which only places below 130 count -/
def tcI (k : Nat) : Int32 := if k < 8 then nI k else -1
theorem tcI_eq {k lo : Nat} (hk : k < 8) : nI k = tcI lo ↔ k = lo := by
  unfold tcI
  by_cases h : lo < 8
  · rw [if_pos h, nI_eq (by omega) (by omega)]
  · rw [if_neg h]
    constructor
    · intro e
      rcases (show k = 0 ∨ k = 1 ∨ k = 2 ∨ k = 3 ∨ k = 4 ∨ k = 5 ∨ k = 6 ∨ k = 7 by omega) with rfl | rfl | rfl | rfl | rfl | rfl | rfl | rfl <;> exact absurd e (by decide)
    · intro e
      omega
/-- the least c below 8 with P c, looked for from 7 - n down; 8 if there is none -/
def tlD (P : Nat → Bool) : Nat → Nat
  | 0 => 8
  | n + 1 => if P (7 - n) then 7 - n else tlD P n
theorem tlD_step (P : Nat → Bool) {k : Nat} (hk : k < 8) : tlD P (8 - k) = if P k then k else tlD P (7 - k) := by
  rw [show 8 - k = (7 - k) + 1 by omega]
  show (if P (7 - (7 - k)) then 7 - (7 - k) else tlD P (7 - k)) = _
  rw [show 7 - (7 - k) = k by omega]
theorem tlD_c {P Q : Nat → Bool} (h : ∀ c, c < 8 → P c = Q c) : ∀ n, n ≤ 8 → tlD P n = tlD Q n
  | 0, _ => rfl
  | n + 1, hn => by
    unfold tlD
    rw [h (7 - n) (by omega), tlD_c h n (by omega)]
theorem tlD_le (P : Nat → Bool) : ∀ n, tlD P n ≤ 8
  | 0 => Nat.le_refl 8
  | n + 1 => by
    unfold tlD
    split
    · omega
    · exact tlD_le P n
/-- nothing below k: the search goes on from k -/
theorem tlD_skip {P : Nat → Bool} : ∀ k, k ≤ 8 → (∀ j, j < k → P j = false) → tlD P 8 = tlD P (8 - k)
  | 0, _, _ => rfl
  | k + 1, hk, h => by
    rw [tlD_skip k (by omega) (fun j hj => h j (by omega)), tlD_step P (show k < 8 by omega), h k (by omega), show 8 - (k + 1) = 7 - k by omega, if_neg (by decide)]
theorem tlD_first {P : Nat → Bool} {k : Nat} (hk : k < 8) (h : ∀ j, j < k → P j = false) (hp : P k = true) : tlD P 8 = k := by
  rw [tlD_skip k (by omega) h, tlD_step P hk, hp]
  rfl
theorem tlD_none {P : Nat → Bool} (h : ∀ j, j < 8 → P j = false) : tlD P 8 = 8 := by
  rw [tlD_skip 8 (by omega) h]
  rfl
theorem tlD_p {P : Nat → Bool} : ∀ n, n ≤ 8 → tlD P n < 8 → P (tlD P n) = true
  | 0, _, h => absurd h (show ¬ (8 : Nat) < 8 by decide)
  | n + 1, hn, h => by
    unfold tlD at h ⊢
    split
    · assumption
    · rename_i hP
      rw [if_neg hP] at h
      exact tlD_p n (by omega) h
def telP (S : mw_M) (lo a c : Nat) : Bool := decide (askP S (nI c)) && (decide (¬ c = lo) && (decide (S (100 + 3 * c) = 8) && decide (S (101 + 3 * c) = nI a)))
def telS (S : mw_M) (lo a : Nat) : Nat := tlD (telP S lo a) 8
/-- what a row (f, g) has in the column c -/
def vS (S : mw_M) (c f g : Nat) : Int32 := S (4 + 48 * (c / 4) + (4 * (if c < 4 then f else g) + c % 4))
/-- whether a row fits the cell c, if the cell lo is left out -/
def fitS (S : mw_M) (lo c f g : Nat) : Bool :=
  if S (100 + 3 * c) < 8 then tkB (S (100 + 3 * c)) (S (101 + 3 * c)) (S (102 + 3 * c)) (vS S c f g)
  else (let t := telS S lo (S (101 + 3 * c)).toNatClampNeg
        let w := if t < 8 then vS S t f g else -1
        decide (¬ vS S c f g = -1) && (decide (¬ w = -1) && (if S (100 + 3 * c) = 8 then decide (vS S c f g = w) else if S (100 + 3 * c) = 9 then decide (¬ w ≤ vS S c f g) else decide (¬ vS S c f g ≤ w))))
def misP (S : mw_M) (lo f g c : Nat) : Bool := decide (askP S (nI c)) && (decide (¬ c = lo) && !fitS S lo c f g)
def misS (S : mw_M) (lo f g : Nat) : Nat := tlD (misP S lo f g) 8
/-- the sizes, and the letters of the cells, are within their limits -/
def wfR (S : mw_M) : Prop := szP S 0 ∧ szP S 1 ∧ ∀ c, c < 8 → ¬ S (100 + 3 * c) < 8 → ∃ a, a < 4 ∧ S (101 + 3 * c) = nI a
/-- the cards of a row are there -/
def valP (S : mw_M) (f g : Nat) : Prop := f < 12 ∧ g < 12 ∧ ¬ S 2 ≤ nI f ∧ (S 124 = 1 → ¬ S 3 ≤ nI g)
/-- two memories are alike where the question lies -/
def eqS (S S2 : mw_M) : Prop := ∀ q, q < 130 → S2 q = S q
theorem eqS.sz {S S2 : mw_M} (h : eqS S S2) {d : Nat} (hd : d < 2) (z : szP S d) : szP S2 d := by
  obtain ⟨w, n, h1, h2, h3, h4⟩ := z
  exact ⟨w, n, by rw [h d (by omega)]; exact h1, h2, by rw [h (2 + d) (by omega)]; exact h3, h4⟩
theorem eqS.wf {S S2 : mw_M} (h : eqS S S2) (z : wfR S) : wfR S2 := by
  refine ⟨h.sz (by omega) z.1, h.sz (by omega) z.2.1, fun c hc hk => ?_⟩
  rw [h (101 + 3 * c) (by omega)]
  rw [h (100 + 3 * c) (by omega)] at hk
  exact z.2.2 c hc hk
theorem eqS.val {S S2 : mw_M} (h : eqS S S2) {f g : Nat} (z : valP S f g) : valP S2 f g := by
  obtain ⟨h1, h2, h3, h4⟩ := z
  refine ⟨h1, h2, by rw [h 2 (by omega)]; exact h3, fun e => ?_⟩
  rw [h 124 (by omega)] at e
  rw [h 3 (by omega)]
  exact h4 e
theorem eqS.ask {S S2 : mw_M} (h : eqS S S2) {x : Int32} : askP S2 x ↔ askP S x := by
  unfold askP hcP
  rw [h 0 (by omega), h 124 (by omega), h 1 (by omega)]
theorem eqS.tel {S S2 : mw_M} (h : eqS S S2) {lo a c : Nat} (hc : c < 8) : telP S2 lo a c = telP S lo a c := by
  unfold telP
  rw [h (100 + 3 * c) (by omega), h (101 + 3 * c) (by omega), decide_eq_decide.mpr h.ask]
theorem eqS.tels {S S2 : mw_M} (h : eqS S S2) {lo a : Nat} : telS S2 lo a = telS S lo a := tlD_c (fun c hc => h.tel hc) 8 (by omega)
theorem eqS.col {S S2 : mw_M} (h : eqS S S2) {c f g : Nat} (hc : c < 8) (hf : f < 12) (hg : g < 12) : vS S2 c f g = vS S c f g := by
  refine h _ ?_
  split <;> omega
theorem eqS.fit {S S2 : mw_M} (h : eqS S S2) {lo c f g : Nat} (hc : c < 8) (hf : f < 12) (hg : g < 12) : fitS S2 lo c f g = fitS S lo c f g := by
  unfold fitS
  simp only [h (100 + 3 * c) (by omega), h (101 + 3 * c) (by omega), h (102 + 3 * c) (by omega), h.tels, h.col hc hf hg]
  by_cases ht : telS S lo (S (101 + 3 * c)).toNatClampNeg < 8
  · simp only [if_pos ht, h.col ht hf hg]
  · simp only [if_neg ht]
theorem eqS.mis {S S2 : mw_M} (h : eqS S S2) {lo f g : Nat} (hf : f < 12) (hg : g < 12) : misS S2 lo f g = misS S lo f g := by
  refine tlD_c (fun c hc => ?_) 8 (by omega)
  unfold misP
  rw [h.fit hc hf hg, decide_eq_decide.mpr h.ask]
theorem eqS.rf {S : mw_M} : eqS S S := fun _ _ => rfl
theorem eqS.tr {S S2 S3 : mw_M} (h : eqS S S2) (h2 : eqS S2 S3) : eqS S S3 := fun q hq => (h2 q hq).trans (h q hq)
/-! the places of cells and entries in the class's words -/
theorem xN_nI {k : Nat} (hk : k < 8) : xN (nI k) = k / 4 := by
  rcases (show k = 0 ∨ k = 1 ∨ k = 2 ∨ k = 3 ∨ k = 4 ∨ k = 5 ∨ k = 6 ∨ k = 7 by omega) with rfl | rfl | rfl | rfl | rfl | rfl | rfl | rfl <;> decide
theorem cell_pos {k : Nat} (hk : k < 8) (u : Nat) : 100 + 12 * xN (nI k) + u + 3 * (k % 4) = 100 + u + 3 * k := by
  rw [xN_nI hk]
  omega
theorem cell_pos0 {k : Nat} (hk : k < 8) : 100 + 12 * xN (nI k) + 3 * (k % 4) = 100 + 3 * k := by
  rw [xN_nI hk]
  omega
theorem rem4 {k : Nat} (hk : k < 1000) : nI k - nI k / 4 * 4 = nI (k % 4) := pk_rem (d := 4) (by omega) (by omega) (by omega)
theorem row_div {f g : Nat} (hf : f < 12) (hg : g < 12) : nI (12 * f + g) / 12 = nI f := by
  rw [show (12 : Int32) = nI 12 from rfl, pk_div (by omega) (by omega) (by omega)]
  congr 1
  omega
theorem row_rem {f g : Nat} (hf : f < 12) (hg : g < 12) : nI (12 * f + g) - nI (12 * f + g) / 12 * 12 = nI g := by
  rw [show (12 : Int32) = nI 12 from rfl, pk_rem (by omega) (by omega) (by omega)]
  congr 1
  omega
theorem c4_le {c : Nat} (hc : c < 8) : (4 : Int32) ≤ nI c ↔ 4 ≤ c := nI_leI (a := 4) (by omega) (by omega)
theorem c4_sub {c : Nat} (h : 4 ≤ c) : nI c - 4 = nI (c - 4) := pk_sub (b := 4) h
/-- what the class reads of a row in a column that is asked -/
theorem rowE_vS {S : mw_M} {c f g : Nat} (hc : c < 8) (hv : valP S f g) (ha : askP S (nI c)) : rowE S (nI c) (nI (12 * f + g)) = vS S c f g := by
  obtain ⟨hf, hg, h3, h4⟩ := hv
  unfold rowE vS entI
  rw [row_rem hf hg, row_div hf hg]
  rcases ha with ⟨a1, a2⟩ | ⟨a1, a2, a3⟩
  · rw [if_neg a1, if_pos ⟨⟨nI_pos (by omega), h3⟩, a2⟩, nI_clamp (by omega), nI_clamp (by omega)]
    have : c < 4 := by
      rcases Nat.lt_or_ge c 4 with z | z
      · exact z
      · exact absurd ((c4_le hc).mpr z) a1
    rw [if_pos this]
    congr 1
    omega
  · have z : 4 ≤ c := (c4_le hc).mp a1
    rw [if_pos a1, if_pos ⟨⟨nI_pos (by omega), h4 a2⟩, a3⟩, c4_sub z, nI_clamp (by omega), nI_clamp (by omega), if_neg (by omega)]
    congr 1
    omega
theorem rowE_none {S : mw_M} {r : Int32} : rowE S (-1) r = -1 := by
  unfold rowE entI
  rw [if_neg (by decide), if_neg (fun z => z.2.1 (by decide))]
/-! the letters, looked for from the last cell on -/
def telI (M M1 : mw_M) (lo c : Nat) : Prop := (∀ q, ¬ q = 652 → ¬ (660 ≤ q ∧ q < 664) → M1 q = M q) ∧ M1 652 = tcI lo ∧ ∀ a, a < 4 → M1 (660 + a) = tcI (tlD (telP M lo a) (8 - c))
theorem telI.eq {M M1 : mw_M} {lo c : Nat} (h : telI M M1 lo c) : eqS M M1 := fun q hq => h.1 q (by omega) (by omega)
theorem telI.start {M M1 : mw_M} {lo : Nat} (h : r_Put (upd M 652 (tcI lo)) M1 4 660 1 (fun _ => -1)) : telI M M1 lo 8 := by
  refine ⟨fun q h1 h2 => ?_, ?_, fun a ha => ?_⟩
  · rw [h.2 q (fun i hi => by omega), upd_o h1]
  · rw [h.2 652 (fun i hi => by omega), upd_s]
  · have := h.1 a ha
    rw [Nat.one_mul] at this
    rw [this]
    rfl
theorem telI.no {M M1 : mw_M} {lo k : Nat} (h : telI M M1 lo (k + 1)) (hk : k < 8) (hn : ¬ (askP M (nI k) ∧ ¬ k = lo ∧ M (100 + 3 * k) = 8)) : telI M M1 lo k := by
  refine ⟨h.1, h.2.1, fun a ha => ?_⟩
  have e : telP M lo a k = false := by
    unfold telP
    rw [Bool.eq_false_iff]
    intro z
    simp only [Bool.and_eq_true, decide_eq_true_eq] at z
    exact hn ⟨z.1, z.2.1, z.2.2.1⟩
  rw [h.2.2 a ha, tlD_step _ hk, e, show 8 - (k + 1) = 7 - k by omega]
  rfl
theorem telI.yes {M M1 : mw_M} {lo k b : Nat} (h : telI M M1 lo (k + 1)) (hk : k < 8) (h1 : askP M (nI k)) (h2 : ¬ k = lo) (h3 : M (100 + 3 * k) = 8) (hb : b < 4) (h4 : M (101 + 3 * k) = nI b) : telI M (upd M1 (660 + 1 * b) (nI k)) lo k := by
  refine ⟨fun q z1 z2 => by rw [upd_o (by omega)]; exact h.1 q z1 z2, by rw [upd_o (by omega)]; exact h.2.1, fun a ha => ?_⟩
  rw [tlD_step _ hk]
  by_cases e : a = b
  · subst e
    have ht : telP M lo a k = true := by
      unfold telP
      simp only [Bool.and_eq_true, decide_eq_true_eq]
      exact ⟨h1, h2, h3, h4⟩
    rw [ht, Nat.one_mul, upd_s]
    show nI k = tcI k
    unfold tcI
    rw [if_pos hk]
  · have ht : telP M lo a k = false := by
      unfold telP
      rw [Bool.eq_false_iff]
      intro z
      simp only [Bool.and_eq_true, decide_eq_true_eq] at z
      have := z.2.2.2
      rw [h4, nI_eq (by omega) (by omega)] at this
      exact e this.symm
    rw [ht, upd_o (by omega), h.2.2 a ha, show 8 - (k + 1) = 7 - k by omega]
    rfl
/-- the tellers stand in the memory -/
def telM (M : mw_M) (lo : Nat) : Prop := M 652 = tcI lo ∧ ∀ a, a < 4 → M (660 + a) = tcI (telS M lo a)
theorem telI.done {M M1 : mw_M} {lo : Nat} (h : telI M M1 lo 0) : telM M1 lo := ⟨h.2.1, fun a ha => by rw [h.2.2 a ha, h.eq.tels]; rfl⟩
theorem tel_asked {S : mw_M} {lo a : Nat} (h : telS S lo a < 8) : askP S (nI (telS S lo a)) := by
  have := tlD_p (P := telP S lo a) 8 (by omega) h
  unfold telP at this
  simp only [Bool.and_eq_true, decide_eq_true_eq] at this
  exact this.1
/-- what the told cell has -/
theorem rowE_tel {S : mw_M} {lo a f g : Nat} (hv : valP S f g) : rowE S (tcI (telS S lo a)) (nI (12 * f + g)) = if telS S lo a < 8 then vS S (telS S lo a) f g else -1 := by
  unfold tcI
  by_cases h : telS S lo a < 8
  · rw [if_pos h, if_pos h]
    exact rowE_vS h hv (tel_asked h)
  · rw [if_neg h, if_neg h]
    exact rowE_none

theorem iX5_tellerOf_X5 : ∀ w ∈ u_ws RX5 TX5 6, w ∈ wsX5_tellerOf := fun w hw => (List.mem_cons_of_mem _ (List.mem_append_left _ (List.mem_append_right _ hw)))
set_option maxRecDepth 100000 in
set_option maxHeartbeats 4000000 in
theorem c_X5_tellerOf {l : Launch} {G : mw_GG} (M : mw_M) {i : Int32} {j : Nat} (hi : i = nI j) (hj : j < 4) : mw_Met l yX5_tellerOf wsX5_tellerOf ({ frames := 1, cells := 0, slots := 0, locals := 21 } : Room) G [.ref (G.1 126), .int i] M (qI (M (660 + j)) M) := by
  refine mw_ofV (cc := cX5_tellerOf) 2 (by decide) rfl rfl (Nat.le_of_ble_eq_true rfl) ?_
  intro p e s m args below meth c C hR hN0
  refine vv_loc (ls2 := [some (.ref (G.1 126)), some (.int i)]) rfl ?_
  refine vv_aload_n C 0 dX5_tellerOf_0 rfl rfl ?_
  refine vv_getr C (Cn := RX5) (T := TX5) (N := 6) sh_126 3 rfl rfl (by decide) iX5_tellerOf_X5 (List.mem_of_getElem? (i := 1) rfl) rfl dX5_tellerOf_1 ?_
  refine vv_iload_n C 1 dX5_tellerOf_4 rfl rfl ?_
  refine vv_callVI C [.int i] (c_X3_at nu_131 M (i := i) (j := j) hi hj) nu_131.1 rfl (cwV 1 C.1.2.2.2.2 gX5_tellerOf_X3_at rfl rfl rfl (by decide +kernel) ⟨Nat.le_of_ble_eq_true rfl, Nat.le_of_ble_eq_true rfl⟩) rfl rfl rfl (Nat.le_of_ble_eq_true rfl) dX5_tellerOf_5 ⟨Nat.le_refl _, Nat.le_refl _⟩ ?_
  exact vv_iret C hR dX5_tellerOf_8 (qI_of (by rw [Nat.one_mul]) (rfl))
theorem iX5_findTellers_X5 : ∀ w ∈ u_ws RX5 TX5 6, w ∈ wsX5_findTellers := fun w hw => (List.mem_cons_of_mem _ (List.mem_append_left _ (List.mem_append_left _ (List.mem_append_left _ (List.mem_append_left _ (List.mem_append_right _ hw))))))
set_option maxRecDepth 100000 in
set_option maxHeartbeats 4000000 in
theorem lp_X5_findTellers {p : Program} {l : Launch} {e : Env} {s : State} {m : MethodId} {args : Array Value} {below : List Frame} {meth : Method} {c : Code} {G : mw_GG} {Q : State → Prop} (C : vv_C p s m args c G cX5_findTellers 6 wsX5_findTellers RX5) (M : mw_M) (hw : wfR M) {lo : Nat} (hk : ∀ M1, telI M M1 lo 0 → vv p l e ({ frames := 2, cells := 0, slots := 0, locals := 42 } : Room) s m args below meth c G 0 0 Q M1 96 [some (.ref (G.1 126)), some (.int (tcI lo)), some (.int (nI 0 + (-1))), none, none, none] []) : ∀ (n c0 : Nat) (M1 : mw_M), c0 + 1 ≤ n → c0 ≤ 8 → telI M M1 lo c0 → vv p l e ({ frames := 2, cells := 0, slots := 0, locals := 42 } : Room) s m args below meth c G 0 0 Q M1 16 [some (.ref (G.1 126)), some (.int (tcI lo)), some (.int (nI c0 + (-1))), none, none, none] [] := by
  intro n
  induction n with
  | zero => intro c0 M1 h1 h2 _; omega
  | succ n ih =>
    intro c0 M1 h1 h2 hI
    refine vv_iload_n C 2 dX5_findTellers_16 rfl rfl ?_
    refine vv_if_lt C 96 dX5_findTellers_17 (by decide) (fun h_end => ?_) (fun h_go => ?_)
    · have hc0 : c0 = 0 := by
        rcases Nat.eq_zero_or_pos c0 with z | z
        · exact z
        · obtain ⟨k, rfl⟩ : ∃ k, c0 = k + 1 := ⟨c0 - 1, by omega⟩
          rw [pk_m1] at h_end
          exact absurd h_end (nI_pos (by omega))
      subst hc0
      exact hk M1 hI
    · obtain ⟨k, rfl⟩ : ∃ k, c0 = k + 1 := ⟨c0 - 1, by
        rcases Nat.eq_zero_or_pos c0 with z | z
        · exact absurd (by rw [z]; decide) h_go
        · omega⟩
      have hk8 : k < 8 := by omega
      have hm1 : nI (k + 1) + (-1) = nI k := pk_m1 k
      refine vv_loc (ls2 := [some (.ref (G.1 126)), some (.int (tcI lo)), some (.int (nI k)), none, none, none]) (by rw [hm1]) ?_
      refine vv_aload_n C 0 dX5_findTellers_20 rfl rfl ?_
      refine vv_getr C (Cn := RX5) (T := TX5) (N := 6) sh_126 0 rfl rfl (by decide) iX5_findTellers_X5 (List.mem_of_getElem? (i := 3) rfl) rfl dX5_findTellers_21 ?_
      refine vv_iload_n C 2 dX5_findTellers_24 rfl rfl ?_
      refine vv_callVR C [.int (nI k)] (c_X6_exampleOf M1 (nI k)) sh_0 rfl (cwV 1 C.1.2.2.2.2 gX5_findTellers_X6_exampleOf rfl rfl rfl (by decide +kernel) ⟨Nat.le_of_ble_eq_true rfl, Nat.le_of_ble_eq_true rfl⟩) rfl rfl rfl (Nat.le_of_ble_eq_true rfl) dX5_findTellers_25 ⟨Nat.le_refl _, Nat.le_refl _⟩ ?_
      refine vv_astore_n (ls2 := [some (.ref (G.1 126)), some (.int (tcI lo)), some (.int (nI k)), some (.ref (G.1 (4 + 10 * xN (nI k)))), none, none]) C 3 dX5_findTellers_28 rfl (Nat.le_of_ble_eq_true rfl) rfl ?_
      refine vv_iload_n C 2 dX5_findTellers_29 rfl rfl ?_
      refine vv_iconst (v := 4) C dX5_findTellers_30 (by decide) ?_
      refine vv_irem C dX5_findTellers_31 (by decide) ?_
      refine vv_top (y := nI (k % 4)) (rem4 (by omega)) ?_
      refine vv_istore (ls2 := [some (.ref (G.1 126)), some (.int (tcI lo)), some (.int (nI k)), some (.ref (G.1 (4 + 10 * xN (nI k)))), some (.int (nI (k % 4))), none]) C 4 dX5_findTellers_32 (Nat.le_of_ble_eq_true rfl) rfl ?_
      refine vv_aload_n C 0 dX5_findTellers_34 rfl rfl ?_
      refine vv_getr C (Cn := RX5) (T := TX5) (N := 6) sh_126 0 rfl rfl (by decide) iX5_findTellers_X5 (List.mem_of_getElem? (i := 3) rfl) rfl dX5_findTellers_35 ?_
      refine vv_iload_n C 2 dX5_findTellers_38 rfl rfl ?_
      refine vv_callVI C [.int (nI k)] (c_X6_isAsked M1 (nI k)) sh_0 rfl (cwV 1 C.1.2.2.2.2 gX5_findTellers_X6_isAsked rfl rfl rfl (by decide +kernel) ⟨Nat.le_of_ble_eq_true rfl, Nat.le_of_ble_eq_true rfl⟩) rfl rfl rfl (Nat.le_of_ble_eq_true rfl) dX5_findTellers_39 ⟨Nat.le_refl _, Nat.le_refl _⟩ ?_
      refine vv_bif_eq C 57 dX5_findTellers_42 (by decide) (fun h_nask => ?_) (fun h_ask => ?_)
      · refine vv_iconst (v := 0) C dX5_findTellers_57 (by decide) ?_
        refine vv_istore (ls2 := [some (.ref (G.1 126)), some (.int (tcI lo)), some (.int (nI k)), some (.ref (G.1 (4 + 10 * xN (nI k)))), some (.int (nI (k % 4))), some (.int 0)]) C 5 dX5_findTellers_58 (Nat.le_of_ble_eq_true rfl) rfl ?_
        refine vv_iload C 5 dX5_findTellers_60 rfl ?_
        refine vv_if_eq C 90 dX5_findTellers_62 (by decide) (fun h_6 => ?_) (fun h_5 => absurd h_5 (by decide))
        refine vv_iinc (v := nI k + (-1)) (ls2 := [some (.ref (G.1 126)), some (.int (tcI lo)), some (.int (nI k + (-1))), some (.ref (G.1 (4 + 10 * xN (nI k)))), some (.int (nI (k % 4))), some (.int 0)]) C 2 dX5_findTellers_90 rfl rfl rfl ?_
        refine vv_goto C 16 dX5_findTellers_93 (by decide) ?_
        refine vv_keep (ls2 := [some (.ref (G.1 126)), some (.int (tcI lo)), some (.int (nI k + (-1))), none, none, none]) ⟨rfl, rfl, rfl, trivial⟩ ?_
        exact ih k _ (by omega) (by omega) (hI.no hk8 (fun z => h_nask (hI.eq.ask.mpr z.1)))
      · refine vv_iload_n C 2 dX5_findTellers_45 rfl rfl ?_
        refine vv_aload_n C 0 dX5_findTellers_46 rfl rfl ?_
        refine vv_geti C (Cn := RX5) (T := TX5) (N := 6) sh_126 5 rfl rfl (by decide) iX5_findTellers_X5 (List.mem_of_getElem? (i := 1) rfl) rfl dX5_findTellers_47 ?_
        refine vv_icmp_eq C 57 dX5_findTellers_50 (by decide) (fun h_lo => ?_) (fun h_nlo => ?_)
        · refine vv_iconst (v := 0) C dX5_findTellers_57 (by decide) ?_
          refine vv_istore (ls2 := [some (.ref (G.1 126)), some (.int (tcI lo)), some (.int (nI k)), some (.ref (G.1 (4 + 10 * xN (nI k)))), some (.int (nI (k % 4))), some (.int 0)]) C 5 dX5_findTellers_58 (Nat.le_of_ble_eq_true rfl) rfl ?_
          refine vv_iload C 5 dX5_findTellers_60 rfl ?_
          refine vv_if_eq C 90 dX5_findTellers_62 (by decide) (fun h_10 => ?_) (fun h_9 => absurd h_9 (by decide))
          refine vv_iinc (v := nI k + (-1)) (ls2 := [some (.ref (G.1 126)), some (.int (tcI lo)), some (.int (nI k + (-1))), some (.ref (G.1 (4 + 10 * xN (nI k)))), some (.int (nI (k % 4))), some (.int 0)]) C 2 dX5_findTellers_90 rfl rfl rfl ?_
          refine vv_goto C 16 dX5_findTellers_93 (by decide) ?_
          refine vv_keep (ls2 := [some (.ref (G.1 126)), some (.int (tcI lo)), some (.int (nI k + (-1))), none, none, none]) ⟨rfl, rfl, rfl, trivial⟩ ?_
          exact ih k _ (by omega) (by omega) (hI.no hk8 (fun z => z.2.1 ((tcI_eq hk8).mp (by rw [← hI.2.1]; exact h_lo))))
        · refine vv_iconst (v := 1) C dX5_findTellers_53 (by decide) ?_
          refine vv_goto C 58 dX5_findTellers_54 (by decide) ?_
          refine vv_istore (ls2 := [some (.ref (G.1 126)), some (.int (tcI lo)), some (.int (nI k)), some (.ref (G.1 (4 + 10 * xN (nI k)))), some (.int (nI (k % 4))), some (.int 1)]) C 5 dX5_findTellers_58 (Nat.le_of_ble_eq_true rfl) rfl ?_
          refine vv_iload C 5 dX5_findTellers_60 rfl ?_
          refine vv_if_eq C 90 dX5_findTellers_62 (by decide) (fun h_11 => absurd h_11 (by decide)) (fun h_12 => ?_)
          refine vv_aload_n C 3 dX5_findTellers_65 rfl rfl ?_
          refine vv_iload C 4 dX5_findTellers_66 rfl ?_
          refine vv_callVI C [.int (nI (k % 4))] (c_X1_kindAt (mw_DwE (xN_lt (nI k))) M1 (i := (nI (k % 4))) (j := (k % 4)) rfl (by omega)) (mw_DwE (xN_lt (nI k))).1 rfl (cwV 1 C.1.2.2.2.2 gX5_findTellers_X1_kindAt rfl rfl rfl (by decide +kernel) ⟨Nat.le_of_ble_eq_true rfl, Nat.le_of_ble_eq_true rfl⟩) rfl rfl rfl (Nat.le_of_ble_eq_true rfl) dX5_findTellers_68 ⟨Nat.le_refl _, Nat.le_refl _⟩ ?_
          refine vv_bipush (v := 8) C dX5_findTellers_71 (by decide) ?_
          refine vv_icmp_ne C 90 dX5_findTellers_73 (by decide) (fun h_nk => ?_) (fun h_k => ?_)
          · refine vv_iinc (v := nI k + (-1)) (ls2 := [some (.ref (G.1 126)), some (.int (tcI lo)), some (.int (nI k + (-1))), some (.ref (G.1 (4 + 10 * xN (nI k)))), some (.int (nI (k % 4))), some (.int 1)]) C 2 dX5_findTellers_90 rfl rfl rfl ?_
            refine vv_goto C 16 dX5_findTellers_93 (by decide) ?_
            refine vv_keep (ls2 := [some (.ref (G.1 126)), some (.int (tcI lo)), some (.int (nI k + (-1))), none, none, none]) ⟨rfl, rfl, rfl, trivial⟩ ?_
            exact ih k _ (by omega) (by omega) (hI.no hk8 (fun z => h_nk (by rw [cell_pos0 hk8, hI.eq _ (by omega)]; exact z.2.2)))
          · obtain ⟨b, hb4, hbe⟩ : ∃ b, b < 4 ∧ M (101 + 3 * k) = nI b := hw.2.2 k hk8 (by rw [← hI.eq _ (by omega), ← cell_pos0 hk8, h_k]; decide)
            refine vv_aload_n C 0 dX5_findTellers_76 rfl rfl ?_
            refine vv_getr C (Cn := RX5) (T := TX5) (N := 6) sh_126 3 rfl rfl (by decide) iX5_findTellers_X5 (List.mem_of_getElem? (i := 2) rfl) rfl dX5_findTellers_77 ?_
            refine vv_aload_n C 3 dX5_findTellers_80 rfl rfl ?_
            refine vv_iload C 4 dX5_findTellers_81 rfl ?_
            refine vv_callVI C [.int (nI (k % 4))] (c_X1_firstAt (mw_DwE (xN_lt (nI k))) M1 (i := (nI (k % 4))) (j := (k % 4)) rfl (by omega)) (mw_DwE (xN_lt (nI k))).1 rfl (cwV 1 C.1.2.2.2.2 gX5_findTellers_X1_firstAt rfl rfl rfl (by decide +kernel) ⟨Nat.le_of_ble_eq_true rfl, Nat.le_of_ble_eq_true rfl⟩) rfl rfl rfl (Nat.le_of_ble_eq_true rfl) dX5_findTellers_83 ⟨Nat.le_refl _, Nat.le_refl _⟩ ?_
            refine vv_iload_n C 2 dX5_findTellers_86 rfl rfl ?_
            refine vv_callVV C [.int (M1 (100 + 12 * xN (nI k) + 1 + 3 * (k % 4))), .int (nI k)] (c_X3_set nu_131 M1 (i := (M1 (100 + 12 * xN (nI k) + 1 + 3 * (k % 4)))) (j := b) (by rw [cell_pos hk8 1, hI.eq _ (by omega)]; exact hbe) hb4 (nI k)) nu_131.1 rfl (cwV 2 C.1.2.2.2.2 gX5_findTellers_X3_set rfl rfl rfl (by decide +kernel) ⟨Nat.le_of_ble_eq_true rfl, Nat.le_of_ble_eq_true rfl⟩) rfl rfl rfl (Nat.le_of_ble_eq_true rfl) dX5_findTellers_87 ⟨Nat.le_refl _, Nat.le_refl _⟩ ?_
            refine vv_iinc (v := nI k + (-1)) (ls2 := [some (.ref (G.1 126)), some (.int (tcI lo)), some (.int (nI k + (-1))), some (.ref (G.1 (4 + 10 * xN (nI k)))), some (.int (nI (k % 4))), some (.int 1)]) C 2 dX5_findTellers_90 rfl rfl rfl ?_
            refine vv_goto C 16 dX5_findTellers_93 (by decide) ?_
            refine vv_keep (ls2 := [some (.ref (G.1 126)), some (.int (tcI lo)), some (.int (nI k + (-1))), none, none, none]) ⟨rfl, rfl, rfl, trivial⟩ ?_
            exact ih k _ (by omega) (by omega) (hI.yes hk8 (hI.eq.ask.mp h_ask) (fun z => h_nlo (by rw [hI.2.1]; exact (tcI_eq hk8).mpr z)) (by rw [← hI.eq _ (by omega), ← cell_pos0 hk8]; exact h_k) hb4 hbe)
set_option maxRecDepth 100000 in
set_option maxHeartbeats 4000000 in
theorem c_X5_findTellers {l : Launch} {G : mw_GG} (M : mw_M) (hw : wfR M) {lo : Nat} {x : Int32} (hx : x = tcI lo) : mw_Met l yX5_findTellers wsX5_findTellers ({ frames := 2, cells := 0, slots := 0, locals := 42 } : Room) G [.ref (G.1 126), .int x] M (qVP (fun M2 => telI M M2 lo 0)) := by
  refine mw_ofV (cc := cX5_findTellers) 6 (by decide) rfl rfl (Nat.le_of_ble_eq_true rfl) ?_
  intro p e s m args below meth c C hR hN0
  subst hx
  refine vv_loc (ls2 := [some (.ref (G.1 126)), some (.int (tcI lo)), none, none, none, none]) rfl ?_
  refine vv_aload_n C 0 dX5_findTellers_0 rfl rfl ?_
  refine vv_iload_n C 1 dX5_findTellers_1 rfl rfl ?_
  refine vv_putf C (Cn := RX5) (T := TX5) (N := 6) sh_126 5 rfl rfl (by decide) iX5_findTellers_X5 (List.mem_of_getElem? (i := 1) rfl) rfl tyX5_ok nmX5 rfl rfl dX5_findTellers_2 ?_
  refine vv_aload_n C 0 dX5_findTellers_5 rfl rfl ?_
  refine vv_getr C (Cn := RX5) (T := TX5) (N := 6) sh_126 3 rfl rfl (by decide) iX5_findTellers_X5 (List.mem_of_getElem? (i := 2) rfl) rfl dX5_findTellers_6 ?_
  refine vv_iconst (v := (-1)) C dX5_findTellers_9 (by decide) ?_
  refine vv_callVVP C [.int (-1)] (c_X3_fill nu_131 (upd M 652 (tcI lo)) (-1)) nu_131.1 rfl (cwV 1 C.1.2.2.2.2 gX5_findTellers_X3_fill rfl rfl rfl (by decide +kernel) ⟨Nat.le_of_ble_eq_true rfl, Nat.le_of_ble_eq_true rfl⟩) rfl rfl rfl (Nat.le_of_ble_eq_true rfl) dX5_findTellers_10 ⟨Nat.le_refl _, Nat.le_refl _⟩ (fun M_1 h_2 => ?_)
  refine vv_bipush (v := 7) C dX5_findTellers_13 (by decide) ?_
  refine vv_istore_n (ls2 := [some (.ref (G.1 126)), some (.int (tcI lo)), some (.int 7), none, none, none]) C 2 dX5_findTellers_15 rfl (Nat.le_of_ble_eq_true rfl) rfl ?_
  refine vv_loc (ls2 := [some (.ref (G.1 126)), some (.int (tcI lo)), some (.int (nI 8 + (-1))), none, none, none]) (by rw [show nI 8 + (-1) = 7 by decide]) ?_
  refine lp_X5_findTellers C M hw (fun M1 hI => ?_) 9 8 _ (by omega) (by omega) (telI.start h_2)
  exact vv_vret C hR dX5_findTellers_96 (qVP_of hI)
theorem iX5_isFitted_X5 : ∀ w ∈ u_ws RX5 TX5 6, w ∈ wsX5_isFitted := fun w hw => (List.mem_cons_of_mem _ (List.mem_append_left _ (List.mem_append_left _ (List.mem_append_left _ (List.mem_append_left _ (List.mem_append_right _ hw))))))
set_option maxRecDepth 100000 in
set_option maxHeartbeats 4000000 in
theorem c_X5_isFitted {l : Launch} {G : mw_GG} (M : mw_M) (hw : wfR M) {lo k f g : Nat} (hT : telM M lo) (hk8 : k < 8) (hv : valP M f g) (ha : askP M (nI k)) {x y : Int32} (hx : x = nI k) (hy : y = nI (12 * f + g)) : mw_Met l yX5_isFitted wsX5_isFitted ({ frames := 3, cells := 0, slots := 0, locals := 65 } : Room) G [.ref (G.1 126), .int x, .int y] M (qI (bI (fitS M lo k f g = true)) M) := by
  refine mw_ofV (cc := cX5_isFitted) 8 (by decide) rfl rfl (Nat.le_of_ble_eq_true rfl) ?_
  intro p e s m args below meth c C hR hN0
  subst hx
  subst hy
  refine vv_loc (ls2 := [some (.ref (G.1 126)), some (.int (nI k)), some (.int (nI (12 * f + g))), none, none, none, none, none]) rfl ?_
  refine vv_aload_n C 0 dX5_isFitted_0 rfl rfl ?_
  refine vv_getr C (Cn := RX5) (T := TX5) (N := 6) sh_126 0 rfl rfl (by decide) iX5_isFitted_X5 (List.mem_of_getElem? (i := 1) rfl) rfl dX5_isFitted_1 ?_
  refine vv_iload_n C 1 dX5_isFitted_4 rfl rfl ?_
  refine vv_callVR C [.int (nI k)] (c_X6_exampleOf M (nI k)) sh_0 rfl (cwV 1 C.1.2.2.2.2 gX5_isFitted_X6_exampleOf rfl rfl rfl (by decide +kernel) ⟨Nat.le_of_ble_eq_true rfl, Nat.le_of_ble_eq_true rfl⟩) rfl rfl rfl (Nat.le_of_ble_eq_true rfl) dX5_isFitted_5 ⟨Nat.le_refl _, Nat.le_refl _⟩ ?_
  refine vv_astore_n (ls2 := [some (.ref (G.1 126)), some (.int (nI k)), some (.int (nI (12 * f + g))), some (.ref (G.1 (4 + 10 * xN (nI k)))), none, none, none, none]) C 3 dX5_isFitted_8 rfl (Nat.le_of_ble_eq_true rfl) rfl ?_
  refine vv_iload_n C 1 dX5_isFitted_9 rfl rfl ?_
  refine vv_iconst (v := 4) C dX5_isFitted_10 (by decide) ?_
  refine vv_irem C dX5_isFitted_11 (by decide) ?_
  refine vv_top (y := nI (k % 4)) (rem4 (by omega)) ?_
  refine vv_istore (ls2 := [some (.ref (G.1 126)), some (.int (nI k)), some (.int (nI (12 * f + g))), some (.ref (G.1 (4 + 10 * xN (nI k)))), some (.int (nI (k % 4))), none, none, none]) C 4 dX5_isFitted_12 (Nat.le_of_ble_eq_true rfl) rfl ?_
  refine vv_aload_n C 0 dX5_isFitted_14 rfl rfl ?_
  refine vv_getr C (Cn := RX5) (T := TX5) (N := 6) sh_126 0 rfl rfl (by decide) iX5_isFitted_X5 (List.mem_of_getElem? (i := 1) rfl) rfl dX5_isFitted_15 ?_
  refine vv_iload_n C 1 dX5_isFitted_18 rfl rfl ?_
  refine vv_iload_n C 2 dX5_isFitted_19 rfl rfl ?_
  refine vv_callVI C [.int (nI k), .int (nI (12 * f + g))] (c_X6_entry M hw.1 hw.2.1 (nI k) (nI (12 * f + g))) sh_0 rfl (cwV 2 C.1.2.2.2.2 gX5_isFitted_X6_entry rfl rfl rfl (by decide +kernel) ⟨Nat.le_of_ble_eq_true rfl, Nat.le_of_ble_eq_true rfl⟩) rfl rfl rfl (Nat.le_of_ble_eq_true rfl) dX5_isFitted_20 ⟨Nat.le_refl _, Nat.le_refl _⟩ ?_
  refine vv_top (y := vS M k f g) (rowE_vS hk8 hv ha) ?_
  refine vv_istore (ls2 := [some (.ref (G.1 126)), some (.int (nI k)), some (.int (nI (12 * f + g))), some (.ref (G.1 (4 + 10 * xN (nI k)))), some (.int (nI (k % 4))), some (.int (vS M k f g)), none, none]) C 5 dX5_isFitted_23 (Nat.le_of_ble_eq_true rfl) rfl ?_
  refine vv_aload_n C 3 dX5_isFitted_25 rfl rfl ?_
  refine vv_iload C 4 dX5_isFitted_26 rfl ?_
  refine vv_callVI C [.int (nI (k % 4))] (c_X1_kindAt (mw_DwE (xN_lt (nI k))) M (i := (nI (k % 4))) (j := (k % 4)) rfl (by omega)) (mw_DwE (xN_lt (nI k))).1 rfl (cwV 1 C.1.2.2.2.2 gX5_isFitted_X1_kindAt rfl rfl rfl (by decide +kernel) ⟨Nat.le_of_ble_eq_true rfl, Nat.le_of_ble_eq_true rfl⟩) rfl rfl rfl (Nat.le_of_ble_eq_true rfl) dX5_isFitted_28 ⟨Nat.le_refl _, Nat.le_refl _⟩ ?_
  refine vv_top (y := M (100 + 3 * k)) (by rw [cell_pos0 hk8]) ?_
  refine vv_istore (ls2 := [some (.ref (G.1 126)), some (.int (nI k)), some (.int (nI (12 * f + g))), some (.ref (G.1 (4 + 10 * xN (nI k)))), some (.int (nI (k % 4))), some (.int (vS M k f g)), some (.int (M (100 + 3 * k))), none]) C 6 dX5_isFitted_31 (Nat.le_of_ble_eq_true rfl) rfl ?_
  refine vv_iload C 6 dX5_isFitted_33 rfl ?_
  refine vv_bipush (v := 8) C dX5_isFitted_35 (by decide) ?_
  refine vv_icmp_ge C 49 dX5_isFitted_37 (by decide) (fun h_8 => ?_) (fun h_n8 => ?_)
  · have hnlt8 : ¬ M (100 + 3 * k) < 8 := Int32.not_lt.mpr h_8
    obtain ⟨b, hb4, hbe⟩ := hw.2.2 k hk8 hnlt8
    have hfit : fitS M lo k f g = (decide (¬ vS M k f g = -1) && (decide (¬ (if telS M lo b < 8 then vS M (telS M lo b) f g else -1) = -1) && (if M (100 + 3 * k) = 8 then decide (vS M k f g = (if telS M lo b < 8 then vS M (telS M lo b) f g else -1)) else if M (100 + 3 * k) = 9 then decide (¬ (if telS M lo b < 8 then vS M (telS M lo b) f g else -1) ≤ vS M k f g) else decide (¬ vS M k f g ≤ (if telS M lo b < 8 then vS M (telS M lo b) f g else -1))))) := by
      unfold fitS
      rw [if_neg hnlt8, hbe, nI_clamp (by omega)]
    generalize hwd : (if telS M lo b < 8 then vS M (telS M lo b) f g else -1) = w at hfit
    refine vv_aload_n C 0 dX5_isFitted_49 rfl rfl ?_
    refine vv_getr C (Cn := RX5) (T := TX5) (N := 6) sh_126 0 rfl rfl (by decide) iX5_isFitted_X5 (List.mem_of_getElem? (i := 1) rfl) rfl dX5_isFitted_50 ?_
    refine vv_aload_n C 0 dX5_isFitted_53 rfl rfl ?_
    refine vv_getr C (Cn := RX5) (T := TX5) (N := 6) sh_126 3 rfl rfl (by decide) iX5_isFitted_X5 (List.mem_of_getElem? (i := 2) rfl) rfl dX5_isFitted_54 ?_
    refine vv_aload_n C 3 dX5_isFitted_57 rfl rfl ?_
    refine vv_iload C 4 dX5_isFitted_58 rfl ?_
    refine vv_callVI C [.int (nI (k % 4))] (c_X1_firstAt (mw_DwE (xN_lt (nI k))) M (i := (nI (k % 4))) (j := (k % 4)) rfl (by omega)) (mw_DwE (xN_lt (nI k))).1 rfl (cwV 1 C.1.2.2.2.2 gX5_isFitted_X1_firstAt rfl rfl rfl (by decide +kernel) ⟨Nat.le_of_ble_eq_true rfl, Nat.le_of_ble_eq_true rfl⟩) rfl rfl rfl (Nat.le_of_ble_eq_true rfl) dX5_isFitted_60 ⟨Nat.le_refl _, Nat.le_refl _⟩ ?_
    refine vv_callVI C [.int (M (100 + 12 * xN (nI k) + 1 + 3 * (k % 4)))] (c_X3_at nu_131 M (i := (M (100 + 12 * xN (nI k) + 1 + 3 * (k % 4)))) (j := b) (by rw [cell_pos hk8 1]; exact hbe) hb4) nu_131.1 rfl (cwV 1 C.1.2.2.2.2 gX5_isFitted_X3_at rfl rfl rfl (by decide +kernel) ⟨Nat.le_of_ble_eq_true rfl, Nat.le_of_ble_eq_true rfl⟩) rfl rfl rfl (Nat.le_of_ble_eq_true rfl) dX5_isFitted_63 ⟨Nat.le_refl _, Nat.le_refl _⟩ ?_
    refine vv_top (y := tcI (telS M lo b)) (by rw [Nat.one_mul]; exact hT.2 b hb4) ?_
    refine vv_iload_n C 2 dX5_isFitted_66 rfl rfl ?_
    refine vv_callVI C [.int (tcI (telS M lo b)), .int (nI (12 * f + g))] (c_X6_entry M hw.1 hw.2.1 (tcI (telS M lo b)) (nI (12 * f + g))) sh_0 rfl (cwV 2 C.1.2.2.2.2 gX5_isFitted_X6_entry rfl rfl rfl (by decide +kernel) ⟨Nat.le_of_ble_eq_true rfl, Nat.le_of_ble_eq_true rfl⟩) rfl rfl rfl (Nat.le_of_ble_eq_true rfl) dX5_isFitted_67 ⟨Nat.le_refl _, Nat.le_refl _⟩ ?_
    refine vv_top (y := w) (by rw [rowE_tel hv]; exact hwd) ?_
    refine vv_istore (ls2 := [some (.ref (G.1 126)), some (.int (nI k)), some (.int (nI (12 * f + g))), some (.ref (G.1 (4 + 10 * xN (nI k)))), some (.int (nI (k % 4))), some (.int (vS M k f g)), some (.int (M (100 + 3 * k))), some (.int w)]) C 7 dX5_isFitted_70 (Nat.le_of_ble_eq_true rfl) rfl ?_
    refine vv_iload C 5 dX5_isFitted_72 rfl ?_
    refine vv_iconst (v := (-1)) C dX5_isFitted_74 (by decide) ?_
    refine vv_icmp_eq C 84 dX5_isFitted_75 (by decide) (fun q_v => ?_) (fun q_nv => ?_)
    · refine vv_iconst (v := 0) C dX5_isFitted_84 (by decide) ?_
      exact vv_zret0 C hR dX5_isFitted_85 (qI_of (by rw [hfit]; simp [bI, q_v]) rfl)
    · refine vv_iload C 7 dX5_isFitted_78 rfl ?_
      refine vv_iconst (v := (-1)) C dX5_isFitted_80 (by decide) ?_
      refine vv_icmp_ne C 86 dX5_isFitted_81 (by decide) (fun q_nw => ?_) (fun q_w => ?_)
      · refine vv_iload C 6 dX5_isFitted_86 rfl ?_
        refine vv_bipush (v := 8) C dX5_isFitted_88 (by decide) ?_
        refine vv_icmp_ne C 106 dX5_isFitted_90 (by decide) (fun q_n8 => ?_) (fun q_8 => ?_)
        · refine vv_iload C 6 dX5_isFitted_106 rfl ?_
          refine vv_bipush (v := 9) C dX5_isFitted_108 (by decide) ?_
          refine vv_icmp_ne C 128 dX5_isFitted_110 (by decide) (fun q_n9 => ?_) (fun q_9 => ?_)
          · refine vv_iload C 5 dX5_isFitted_128 rfl ?_
            refine vv_iload C 7 dX5_isFitted_130 rfl ?_
            refine vv_icmp_le C 139 dX5_isFitted_132 (by decide) (fun q_le => ?_) (fun q_gt => ?_)
            · refine vv_iconst (v := 0) C dX5_isFitted_139 (by decide) ?_
              exact vv_zret0 C hR dX5_isFitted_140 (qI_of (by rw [hfit]; simp [bI, q_nv, q_nw, q_n8, q_n9, q_le]) rfl)
            · refine vv_iconst (v := 1) C dX5_isFitted_135 (by decide) ?_
              refine vv_goto C 140 dX5_isFitted_136 (by decide) ?_
              exact vv_zret1 C hR dX5_isFitted_140 (qI_of (by rw [hfit]; simp [bI, q_nv, q_nw, q_n8, q_n9, q_gt]) rfl)
          · refine vv_iload C 5 dX5_isFitted_113 rfl ?_
            refine vv_iload C 7 dX5_isFitted_115 rfl ?_
            refine vv_icmp_ge C 124 dX5_isFitted_117 (by decide) (fun q_ge => ?_) (fun q_lt => ?_)
            · refine vv_iconst (v := 0) C dX5_isFitted_124 (by decide) ?_
              refine vv_goto C 140 dX5_isFitted_125 (by decide) ?_
              exact vv_zret0 C hR dX5_isFitted_140 (qI_of (by rw [hfit]; simp [bI, q_nv, q_nw, q_n8, q_9, q_ge]) rfl)
            · refine vv_iconst (v := 1) C dX5_isFitted_120 (by decide) ?_
              refine vv_goto C 140 dX5_isFitted_121 (by decide) ?_
              exact vv_zret1 C hR dX5_isFitted_140 (qI_of (by rw [hfit]; simp [bI, q_nv, q_nw, q_n8, q_9, q_lt]) rfl)
        · refine vv_iload C 5 dX5_isFitted_93 rfl ?_
          refine vv_iload C 7 dX5_isFitted_95 rfl ?_
          refine vv_icmp_ne C 104 dX5_isFitted_97 (by decide) (fun q_ne => ?_) (fun q_eq => ?_)
          · refine vv_iconst (v := 0) C dX5_isFitted_104 (by decide) ?_
            exact vv_zret0 C hR dX5_isFitted_105 (qI_of (by rw [hfit]; simp [bI, q_nv, q_nw, q_8, q_ne]) rfl)
          · refine vv_iconst (v := 1) C dX5_isFitted_100 (by decide) ?_
            refine vv_goto C 105 dX5_isFitted_101 (by decide) ?_
            exact vv_zret1 C hR dX5_isFitted_105 (qI_of (by rw [hfit]; simp [bI, q_nv, q_nw, q_8, q_eq]) rfl)
      · refine vv_iconst (v := 0) C dX5_isFitted_84 (by decide) ?_
        exact vv_zret0 C hR dX5_isFitted_85 (qI_of (by rw [hfit]; simp [bI, q_nv, q_w]) rfl)
  · have hlt8 : M (100 + 3 * k) < 8 := Int32.not_le.mp h_n8
    refine vv_aload_n C 3 dX5_isFitted_40 rfl rfl ?_
    refine vv_iload C 4 dX5_isFitted_41 rfl ?_
    refine vv_iload C 5 dX5_isFitted_43 rfl ?_
    refine vv_callVI C [.int (nI (k % 4)), .int (vS M k f g)] (c_X1_takesAlone (mw_DwE (xN_lt (nI k))) M (i := (nI (k % 4))) (j := (k % 4)) rfl (by omega) (vS M k f g)) (mw_DwE (xN_lt (nI k))).1 rfl (cwV 2 C.1.2.2.2.2 gX5_isFitted_X1_takesAlone rfl rfl rfl (by decide +kernel) ⟨Nat.le_of_ble_eq_true rfl, Nat.le_of_ble_eq_true rfl⟩) rfl rfl rfl (Nat.le_of_ble_eq_true rfl) dX5_isFitted_45 ⟨Nat.le_refl _, Nat.le_refl _⟩ ?_
    exact vv_zret C hR dX5_isFitted_48 (qI_of (by rw [cell_pos0 hk8, cell_pos hk8 1, cell_pos hk8 2]; unfold fitS; rw [if_pos hlt8]) rfl)
theorem iX5_firstMisfit_X5 : ∀ w ∈ u_ws RX5 TX5 6, w ∈ wsX5_firstMisfit := fun w hw => (List.mem_cons_of_mem _ (List.mem_append_left _ (List.mem_append_left _ (List.mem_append_left _ (List.mem_append_left _ (List.mem_append_right _ hw))))))
set_option maxRecDepth 100000 in
set_option maxHeartbeats 4000000 in
theorem lp_X5_firstMisfit {p : Program} {l : Launch} {e : Env} {s : State} {m : MethodId} {args : Array Value} {below : List Frame} {meth : Method} {c : Code} {G : mw_GG} (C : vv_C p s m args c G cX5_firstMisfit 3 wsX5_firstMisfit RX5) (hR : vv_R meth (some .int)) (M : mw_M) (hw : wfR M) {lo f g : Nat} (hT : telM M lo) (hv : valP M f g) : ∀ (n i : Nat), 9 ≤ i + n → i ≤ 8 → (∀ j, j < i → misP M lo f g j = false) → vv p l e ({ frames := 4, cells := 0, slots := 0, locals := 92 } : Room) s m args below meth c G 0 0 (mw_E below args s G (qI (tcI (misS M lo f g)) M)) M 2 [some (.ref (G.1 126)), some (.int (nI (12 * f + g))), some (.int (nI i))] [] := by
  intro n
  induction n with
  | zero => intro i h1 h2 _; omega
  | succ n ih =>
    intro i h1 h2 hno
    refine vv_iload_n C 2 dX5_firstMisfit_2 rfl rfl ?_
    refine vv_bipush (v := 8) C dX5_firstMisfit_3 (by decide) ?_
    refine vv_icmp_ge C 44 dX5_firstMisfit_5 (by decide) (fun hge => ?_) (fun hlt => ?_)
    · have hin : i = 8 := by
        rcases Nat.lt_or_ge i 8 with z | z
        · exact absurd hge (nI_ge (b := 8) z (by omega))
        · omega
      subst hin
      have e : misS M lo f g = 8 := tlD_none hno
      refine vv_iconst (v := (-1)) C dX5_firstMisfit_44 (by decide) ?_
      exact vv_iret C hR dX5_firstMisfit_45 (qI_of (by rw [e]; rfl) rfl)
    · have hi8 : i < 8 := by
        rcases Nat.lt_or_ge i 8 with z | z
        · exact z
        · exact absurd (nI_le (a := 8) z (by omega)) hlt
      refine vv_aload_n C 0 dX5_firstMisfit_8 rfl rfl ?_
      refine vv_getr C (Cn := RX5) (T := TX5) (N := 6) sh_126 0 rfl rfl (by decide) iX5_firstMisfit_X5 (List.mem_of_getElem? (i := 1) rfl) rfl dX5_firstMisfit_9 ?_
      refine vv_iload_n C 2 dX5_firstMisfit_12 rfl rfl ?_
      refine vv_callVI C [.int (nI i)] (c_X6_isAsked M (nI i)) sh_0 rfl (cwV 1 C.1.2.2.2.2 gX5_firstMisfit_X6_isAsked rfl rfl rfl (by decide +kernel) ⟨Nat.le_of_ble_eq_true rfl, Nat.le_of_ble_eq_true rfl⟩) rfl rfl rfl (Nat.le_of_ble_eq_true rfl) dX5_firstMisfit_13 ⟨Nat.le_refl _, Nat.le_refl _⟩ ?_
      refine vv_bif_eq C 38 dX5_firstMisfit_16 (by decide) (fun h_nask => ?_) (fun h_ask => ?_)
      · refine vv_iinc (v := nI (i + 1)) (ls2 := [some (.ref (G.1 126)), some (.int (nI (12 * f + g))), some (.int (nI (i + 1)))]) C 2 dX5_firstMisfit_38 rfl (nI_1 _) rfl ?_
        refine vv_goto C 2 dX5_firstMisfit_41 (by decide) ?_
        have hPi : misP M lo f g i = false := by simp [misP, h_nask]
        exact ih (i + 1) (by omega) (by omega) (fun j hj => by
          rcases Nat.lt_or_ge j i with z | z
          · exact hno j z
          · rw [show j = i by omega]; exact hPi)
      · refine vv_iload_n C 2 dX5_firstMisfit_19 rfl rfl ?_
        refine vv_aload_n C 0 dX5_firstMisfit_20 rfl rfl ?_
        refine vv_geti C (Cn := RX5) (T := TX5) (N := 6) sh_126 5 rfl rfl (by decide) iX5_firstMisfit_X5 (List.mem_of_getElem? (i := 2) rfl) rfl dX5_firstMisfit_21 ?_
        refine vv_icmp_eq C 38 dX5_firstMisfit_24 (by decide) (fun h_lo => ?_) (fun h_nlo => ?_)
        · refine vv_iinc (v := nI (i + 1)) (ls2 := [some (.ref (G.1 126)), some (.int (nI (12 * f + g))), some (.int (nI (i + 1)))]) C 2 dX5_firstMisfit_38 rfl (nI_1 _) rfl ?_
          refine vv_goto C 2 dX5_firstMisfit_41 (by decide) ?_
          have hPi : misP M lo f g i = false := by simp [misP, (tcI_eq hi8).mp (h_lo.trans hT.1)]
          exact ih (i + 1) (by omega) (by omega) (fun j hj => by
            rcases Nat.lt_or_ge j i with z | z
            · exact hno j z
            · rw [show j = i by omega]; exact hPi)
        · refine vv_aload_n C 0 dX5_firstMisfit_27 rfl rfl ?_
          refine vv_iload_n C 2 dX5_firstMisfit_28 rfl rfl ?_
          refine vv_iload_n C 1 dX5_firstMisfit_29 rfl rfl ?_
          refine vv_callVI C [.int (nI i), .int (nI (12 * f + g))] (c_X5_isFitted M hw (lo := lo) (k := i) (f := f) (g := g) hT hi8 hv h_ask (x := (nI i)) (y := (nI (12 * f + g))) rfl rfl) sh_126 rfl (cwV 2 C.1.2.2.2.2 gX5_firstMisfit_X5_isFitted rfl rfl rfl (by decide +kernel) ⟨Nat.le_of_ble_eq_true rfl, Nat.le_of_ble_eq_true rfl⟩) rfl rfl rfl (Nat.le_of_ble_eq_true rfl) dX5_firstMisfit_30 ⟨Nat.le_refl _, Nat.le_refl _⟩ ?_
          refine vv_bif_ne C 38 dX5_firstMisfit_33 (by decide) (fun h_fit => ?_) (fun h_nfit => ?_)
          · refine vv_iinc (v := nI (i + 1)) (ls2 := [some (.ref (G.1 126)), some (.int (nI (12 * f + g))), some (.int (nI (i + 1)))]) C 2 dX5_firstMisfit_38 rfl (nI_1 _) rfl ?_
            refine vv_goto C 2 dX5_firstMisfit_41 (by decide) ?_
            have hPi : misP M lo f g i = false := by simp [misP, h_fit]
            exact ih (i + 1) (by omega) (by omega) (fun j hj => by
              rcases Nat.lt_or_ge j i with z | z
              · exact hno j z
              · rw [show j = i by omega]; exact hPi)
          · refine vv_iload_n C 2 dX5_firstMisfit_36 rfl rfl ?_
            have hlo2 : ¬ i = lo := fun z => h_nlo (by rw [hT.1]; exact (tcI_eq hi8).mpr z)
            have e : misS M lo f g = i := tlD_first hi8 hno (by simp [misP, h_ask, h_nfit, hlo2])
            exact vv_iret C hR dX5_firstMisfit_37 (qI_of (by rw [e]; unfold tcI; rw [if_pos hi8]) rfl)
set_option maxRecDepth 100000 in
set_option maxHeartbeats 4000000 in
theorem c_X5_firstMisfit {l : Launch} {G : mw_GG} (M : mw_M) (hw : wfR M) {lo f g : Nat} (hT : telM M lo) (hv : valP M f g) {x : Int32} (hx : x = nI (12 * f + g)) : mw_Met l yX5_firstMisfit wsX5_firstMisfit ({ frames := 4, cells := 0, slots := 0, locals := 92 } : Room) G [.ref (G.1 126), .int x] M (qI (tcI (misS M lo f g)) M) := by
  refine mw_ofV (cc := cX5_firstMisfit) 3 (by decide) rfl rfl (Nat.le_of_ble_eq_true rfl) ?_
  intro p e s m args below meth c C hR hN0
  subst hx
  refine vv_loc (ls2 := [some (.ref (G.1 126)), some (.int (nI (12 * f + g))), none]) rfl ?_
  refine vv_iconst (v := 0) C dX5_firstMisfit_0 (by decide) ?_
  refine vv_istore_n (ls2 := [some (.ref (G.1 126)), some (.int (nI (12 * f + g))), some (.int 0)]) C 2 dX5_firstMisfit_1 rfl (Nat.le_of_ble_eq_true rfl) rfl ?_
  refine lp_X5_firstMisfit C hR M hw hT hv 9 0 (by omega) (by omega) (fun j hj => by omega)
set_option maxRecDepth 100000 in
set_option maxHeartbeats 4000000 in
theorem c_X5_explain {l : Launch} {G : mw_GG} (M : mw_M) (hw : wfR M) {f g : Nat} (hv : valP M f g) {x : Int32} (hx : x = nI (12 * f + g)) : mw_Met l yX5_explain wsX5_explain ({ frames := 5, cells := 0, slots := 0, locals := 114 } : Room) G [.ref (G.1 126), .int x] M (qIP (fun r M2 => r = tcI (misS M 8 f g) ∧ telI M M2 8 0)) := by
  refine mw_ofV (cc := cX5_explain) 2 (by decide) rfl rfl (Nat.le_of_ble_eq_true rfl) ?_
  intro p e s m args below meth c C hR hN0
  refine vv_loc (ls2 := [some (.ref (G.1 126)), some (.int x)]) rfl ?_
  refine vv_aload_n C 0 dX5_explain_0 rfl rfl ?_
  refine vv_iconst (v := (-1)) C dX5_explain_1 (by decide) ?_
  refine vv_callVVP C [.int (-1)] (c_X5_findTellers M hw (lo := 8) (x := (-1)) (by decide)) sh_126 rfl (cwV 1 C.1.2.2.2.2 gX5_explain_X5_findTellers rfl rfl rfl (by decide +kernel) ⟨Nat.le_of_ble_eq_true rfl, Nat.le_of_ble_eq_true rfl⟩) rfl rfl rfl (Nat.le_of_ble_eq_true rfl) dX5_explain_2 ⟨Nat.le_refl _, Nat.le_refl _⟩ (fun M_1 h_2 => ?_)
  have hE := h_2.eq
  have hTT := h_2.done
  refine vv_aload_n C 0 dX5_explain_5 rfl rfl ?_
  refine vv_iload_n C 1 dX5_explain_6 rfl rfl ?_
  refine vv_callVI C [.int x] (c_X5_firstMisfit M_1 (hE.wf hw) (lo := 8) (f := f) (g := g) hTT (hE.val hv) (x := x) hx) sh_126 rfl (cwV 1 C.1.2.2.2.2 gX5_explain_X5_firstMisfit rfl rfl rfl (by decide +kernel) ⟨Nat.le_of_ble_eq_true rfl, Nat.le_of_ble_eq_true rfl⟩) rfl rfl rfl (Nat.le_of_ble_eq_true rfl) dX5_explain_7 ⟨Nat.le_refl _, Nat.le_refl _⟩ ?_
  exact vv_iret C hR dX5_explain_10 (qIP_of (⟨by rw [hE.mis hv.1 hv.2.1], h_2⟩))
