/-! bits of three longs: which rows fit -/
theorem wb_tb (n : Nat) : (lN n).toBitVec = BitVec.ofNat 64 n := rfl
theorem wb_inj {a b : Int64} (h : a.toBitVec = b.toBitVec) : a = b := Int64.toBitVec_inj.mp h
theorem wb_tn {n : Nat} (h : n < 2 ^ 64) : (lN n).toBitVec.toNat = n := by rw [wb_tb, BitVec.toNat_ofNat, Nat.mod_eq_of_lt h]
theorem wb_c : ∀ k, k < 64 → ((nI k).toInt64 &&& 63) = lN k := by decide +kernel
theorem wb_sm : ∀ k, k < 64 → (BitVec.ofNat 64 k).smod 64 = BitVec.ofNat 64 k := by decide +kernel
theorem wb_pw {a b : Nat} (h : a ≤ b) : 2 ^ b = 2 ^ a * 2 ^ (b - a) := by rw [← Nat.pow_add]; congr 1; omega
theorem wb_lt2 {a b : Nat} (h : a < b) : 2 ^ a < 2 ^ b := Nat.pow_lt_pow_right (by decide) h
theorem wb_shl (n : Nat) {k : Nat} (hk : k < 64) : lN n <<< ((nI k).toInt64 &&& 63) = lN (n * 2 ^ k) := by
  rw [wb_c k hk]
  apply wb_inj
  rw [Int64.toBitVec_shiftLeft, wb_tb, wb_tb, wb_tb, wb_sm k hk]
  apply BitVec.eq_of_toNat_eq
  rw [BitVec.shiftLeft_eq', BitVec.toNat_shiftLeft, BitVec.toNat_ofNat, BitVec.toNat_ofNat, BitVec.toNat_ofNat, Nat.mod_eq_of_lt (show k < 2 ^ 64 by omega), Nat.shiftLeft_eq, Nat.mul_mod, Nat.mod_mod, ← Nat.mul_mod]
theorem wb_and {a b : Nat} (ha : a < 2 ^ 64) (hb : b < 2 ^ 64) : lN a &&& lN b = lN (a &&& b) := by
  apply wb_inj
  rw [Int64.toBitVec_and, wb_tb, wb_tb, wb_tb]
  apply BitVec.eq_of_toNat_eq
  rw [BitVec.toNat_and, BitVec.toNat_ofNat, BitVec.toNat_ofNat, BitVec.toNat_ofNat, Nat.mod_eq_of_lt ha, Nat.mod_eq_of_lt hb, Nat.mod_eq_of_lt (Nat.and_lt_two_pow _ hb)]
theorem wb_or {a b : Nat} (ha : a < 2 ^ 64) (hb : b < 2 ^ 64) : lN a ||| lN b = lN (a ||| b) := by
  apply wb_inj
  rw [Int64.toBitVec_or, wb_tb, wb_tb, wb_tb]
  apply BitVec.eq_of_toNat_eq
  rw [BitVec.toNat_or, BitVec.toNat_ofNat, BitVec.toNat_ofNat, BitVec.toNat_ofNat, Nat.mod_eq_of_lt ha, Nat.mod_eq_of_lt hb, Nat.mod_eq_of_lt (Nat.or_lt_two_pow ha hb)]
theorem wb_mask {n k : Nat} (hn : n < 2 ^ 64) (hk : k < 64) : lN n &&& lN (2 ^ k - 1) = lN (n % 2 ^ k) := by
  rw [wb_and hn (by have := wb_lt2 hk; omega), Nat.and_two_pow_sub_one_eq_mod]
theorem wb_a1 {n : Nat} (hn : n < 2 ^ 64) : lN n &&& 1 = lN (n % 2) := wb_mask (k := 1) hn (by decide)
theorem pf_lI {a : Nat} (h : a < 2 ^ 63) : (lN a).toInt = (a : Int) := lg_ofNat_toInt h
theorem pf_shr {a d : Nat} {D : Int64} (hD : (D.toBitVec.smod 64).toNat = d) (h : a < 2 ^ 62) : lN a >>> D = lN (a / 2 ^ d) := by
  have hd : a / 2 ^ d ≤ a := Nat.div_le_self _ _
  apply Int64.toInt_inj.mp
  have e : (lN a >>> D).toInt = (lN a).toInt >>> d := by
    rw [← hD]
    exact BitVec.toInt_sshiftRight ..
  rw [e, Int.shiftRight_eq_div_pow, pf_lI (by omega), pf_lI (by omega)]
  rfl
def wbP (W : Nat → Int64) (P : Nat → Bool) : Prop := ∀ j, j < 3 → ∃ n, n < 2 ^ 48 ∧ W j = lN n ∧ ∀ i, i < 48 → n.testBit i = P (48 * j + i)
theorem wbP.congr {W : Nat → Int64} {P P2 : Nat → Bool} (h : wbP W P) (e : ∀ q, q < 144 → P q = P2 q) : wbP W P2 := fun j hj => by
  obtain ⟨n, h1, h2, h3⟩ := h j hj
  exact ⟨n, h1, h2, fun i hi => (h3 i hi).trans (e _ (by omega))⟩
theorem wbP.zero {W : Nat → Int64} {P : Nat → Bool} (h0 : W 0 = 0) (h1 : W 1 = 0) (h2 : W 2 = 0) (hP : ∀ q, q < 144 → P q = false) : wbP W P := fun j hj => by
  refine ⟨0, by decide, ?_, fun i hi => by rw [hP _ (by omega)]; exact Nat.zero_testBit i⟩
  rcases (show j = 0 ∨ j = 1 ∨ j = 2 by omega) with rfl | rfl | rfl
  · exact h0
  · exact h1
  · exact h2
theorem wbP.or {W : Nat → Int64} {P P2 : Nat → Bool} {q : Nat} (h : wbP W P) (hq : q < 144) (e : ∀ r, r < 144 → P2 r = (P r || decide (r = q))) : wbP (vp_updL W (q / 48) (W (q / 48) ||| ((1 : Int64) <<< ((nI (q % 48)).toInt64 &&& 63)))) P2 := fun j hj => by
  obtain ⟨n, h1, h2, h3⟩ := h j hj
  by_cases hjq : j = q / 48
  · have hk : q % 48 < 48 := Nat.mod_lt _ (by decide)
    have hp : 2 ^ (q % 48) < 2 ^ 48 := Nat.pow_lt_pow_right (by decide) hk
    have h64 : (2 : Nat) ^ 48 < 2 ^ 64 := by decide
    refine ⟨n ||| 2 ^ (q % 48), Nat.or_lt_two_pow h1 hp, ?_, fun i hi => ?_⟩
    · rw [← hjq, pk_uLs, h2, show (1 : Int64) = lN 1 from rfl, wb_shl 1 (by omega), Nat.one_mul, wb_or (Nat.lt_trans h1 h64) (Nat.lt_trans hp h64)]
    · rw [Nat.testBit_or, h3 i hi, Nat.testBit_two_pow, e _ (by omega)]
      congr 1
      exact decide_eq_decide.mpr ⟨fun z => by omega, fun z => by omega⟩
  · refine ⟨n, h1, by rw [pk_uLn hjq]; exact h2, fun i hi => ?_⟩
    rw [h3 i hi, e _ (by omega), decide_eq_false (by omega), Bool.or_false]
theorem wbP.bit {W : Nat → Int64} {P : Nat → Bool} {q : Nat} (h : wbP W P) (hq : q < 144) : (W (q / 48) >>> ((nI (q % 48)).toInt64 &&& 63)) &&& 1 = if P q = true then 1 else 0 := by
  obtain ⟨n, h1, h2, h3⟩ := h (q / 48) (by omega)
  have hk : q % 48 < 48 := Nat.mod_lt _ (by decide)
  have h62 : (2 : Nat) ^ 48 < 2 ^ 62 := by decide
  have h64 : (2 : Nat) ^ 48 < 2 ^ 64 := by decide
  have hd : n / 2 ^ (q % 48) ≤ n := Nat.div_le_self _ _
  rw [h2, wb_c _ (by omega), pf_shr (d := q % 48) (by rw [wb_tb, wb_sm _ (by omega), BitVec.toNat_ofNat, Nat.mod_eq_of_lt (by omega)]) (Nat.lt_trans h1 h62), wb_a1 (Nat.lt_trans (Nat.lt_of_le_of_lt hd h1) h64)]
  have e := h3 (q % 48) hk
  rw [show 48 * (q / 48) + q % 48 = q by omega, Nat.testBit_eq_decide_div_mod_eq] at e
  rw [← e]
  by_cases z : n / 2 ^ (q % 48) % 2 = 1
  · rw [if_pos (decide_eq_true z), z]
    rfl
  · rw [if_neg (by simp [z]), show n / 2 ^ (q % 48) % 2 = 0 by omega]
    rfl
theorem lcm1 {b : Bool} : lg_cmp (if b = true then 1 else 0) 1 = if b = true then 0 else -1 := by cases b <;> decide
theorem lcm0 {b : Bool} : lg_cmp (if b = true then 1 else 0) 0 = if b = true then 1 else 0 := by cases b <;> decide
theorem lc1_ne {b : Bool} (h : ¬ (if b = true then (0 : Int32) else -1) = 0) : b = false := by cases b <;> simp_all
theorem lc1_eq {b : Bool} (h : (if b = true then (0 : Int32) else -1) = 0) : b = true := by
  cases b
  · exact absurd h (by decide)
  · rfl
theorem lc0_eq {b : Bool} (h : (if b = true then (1 : Int32) else 0) = 0) : b = false := by
  cases b
  · rfl
  · exact absurd h (by decide)
theorem lc0_ne {b : Bool} (h : ¬ (if b = true then (1 : Int32) else 0) = 0) : b = true := by
  cases b
  · exact absurd rfl h
  · rfl
/-- the bits of W tell the rows of L -/
def wbL (W : Nat → Int64) (L : List Nat) : Prop := wbP W (fun q => decide (q ∈ L))
theorem wbL.add {W : Nat → Int64} {L : List Nat} {q : Nat} (h : wbL W L) (hq : q < 144) : wbL (vp_updL W (q / 48) (W (q / 48) ||| ((1 : Int64) <<< ((nI (q % 48)).toInt64 &&& 63)))) (L ++ [q]) := wbP.or h hq (fun r _ => by
  rw [Bool.eq_iff_iff]
  simp)
/-! rows in their plain order -/
theorem lstG_lt {S : mw_M} {lo f g r : Nat} (h : r ∈ lstG S lo f g) : 12 * f ≤ r ∧ r < 12 * f + g := by
  obtain ⟨j, h1, -, rfl⟩ := lstG_mem.mp h
  omega
theorem lstF_lt {S : mw_M} {lo m f r : Nat} (hm : m ≤ 12) (h : r ∈ lstF S lo m f) : r < 12 * f := by
  obtain ⟨i, j, h1, h2, -, rfl⟩ := lstF_mem.mp h
  omega
theorem lstG_asc {S : mw_M} {lo f : Nat} : ∀ g, (lstG S lo f g).Pairwise (· < ·)
  | 0 => List.Pairwise.nil
  | g + 1 => by
    by_cases h : misS S lo f g = 8
    · rw [lstG_y h, List.pairwise_append]
      refine ⟨lstG_asc g, List.pairwise_singleton _ _, fun a ha b hb => ?_⟩
      rw [List.mem_singleton.mp hb]
      have := lstG_lt ha
      omega
    · rw [lstG_n h]
      exact lstG_asc g
theorem lstF_asc {S : mw_M} {lo m : Nat} (hm : m ≤ 12) : ∀ f, (lstF S lo m f).Pairwise (· < ·)
  | 0 => List.Pairwise.nil
  | f + 1 => by
    rw [lstF_s, List.pairwise_append]
    refine ⟨lstF_asc hm f, lstG_asc m, fun a ha b hb => ?_⟩
    have h1 := lstF_lt hm ha
    have h2 := lstG_lt hb
    omega
theorem lst_asc {S : mw_M} {lo : Nat} (hw : wfR S) : (lstS S lo).Pairwise (· < ·) := lstF_asc (n1_le hw.2.1) _
/-- an ascending list, cut at n and at n + 1 -/
theorem cut_s {n : Nat} : ∀ {L : List Nat}, L.Pairwise (· < ·) → L.filter (fun r => decide (r < n + 1)) = L.filter (fun r => decide (r < n)) ++ (if n ∈ L then [n] else [])
  | [], _ => by simp
  | a :: L, h => by
    obtain ⟨h1, h2⟩ := List.pairwise_cons.mp h
    have ih := cut_s (n := n) h2
    rcases Nat.lt_trichotomy a n with z | z | z
    · rw [List.filter_cons_of_pos (by simp; omega), List.filter_cons_of_pos (by simpa using z), ih, List.cons_append]
      congr 2
      by_cases hn : n ∈ L
      · rw [if_pos hn, if_pos (List.mem_cons_of_mem _ hn)]
      · rw [if_neg hn, if_neg (fun y => (List.mem_cons.mp y).elim (fun e => absurd e (by omega)) hn)]
    · subst z
      have e1 : L.filter (fun r => decide (r < a)) = [] := List.filter_eq_nil_iff.mpr (fun x hx => by have := h1 x hx; simp; omega)
      have e2 : L.filter (fun r => decide (r < a + 1)) = [] := List.filter_eq_nil_iff.mpr (fun x hx => by have := h1 x hx; simp; omega)
      rw [List.filter_cons_of_pos (by simp), List.filter_cons_of_neg (by simp), e1, e2, if_pos List.mem_cons_self]
      rfl
    · have e1 : L.filter (fun r => decide (r < n)) = [] := List.filter_eq_nil_iff.mpr (fun x hx => by have := h1 x hx; simp; omega)
      have e2 : L.filter (fun r => decide (r < n + 1)) = [] := List.filter_eq_nil_iff.mpr (fun x hx => by have := h1 x hx; simp; omega)
      rw [List.filter_cons_of_neg (by simp; omega), List.filter_cons_of_neg (by simp; omega), e1, e2, if_neg (fun y => by
        rcases List.mem_cons.mp y with y | y
        · omega
        · have := h1 n y; omega)]
      rfl
theorem cut_all {L : List Nat} {N : Nat} (h : ∀ r, r ∈ L → r < N) : L.filter (fun r => decide (r < N)) = L := List.filter_eq_self.mpr (fun r hr => decide_eq_true (h r hr))
/-- how many unlike rows there are among those below n -/
def unN (S : mw_M) (L : List Nat) (n : Nat) : Nat := dcF (kyS S (L.filter (fun r => decide (r < n)))) (L.filter (fun r => decide (r < n))).length
theorem unN_0 {S : mw_M} {L : List Nat} : unN S L 0 = 0 := by
  unfold unN
  rw [List.filter_eq_nil_iff.mpr (fun r hr => by simp)]
  rfl
theorem unN_n {S : mw_M} {L : List Nat} {n : Nat} (ha : L.Pairwise (· < ·)) (h : n ∉ L) : unN S L (n + 1) = unN S L n := by
  unfold unN
  rw [cut_s ha, if_neg h, List.append_nil]
theorem kyS_app {S : mw_M} {L K : List Nat} {i : Nat} (h : i < L.length) : kyS S (L ++ K) i = kyS S L i := by
  unfold kyS
  rw [List.getD_eq_getElem?_getD, List.getElem?_append_left h, ← List.getD_eq_getElem?_getD]
theorem kyS_end {S : mw_M} {L : List Nat} {r : Nat} : kyS S (L ++ [r]) L.length = nI (keyS S r) := by
  unfold kyS
  rw [List.getD_eq_getElem?_getD, List.getElem?_append_right (Nat.le_refl _), Nat.sub_self]
  rfl
theorem unN_y {S : mw_M} {L : List Nat} {n : Nat} (ha : L.Pairwise (· < ·)) (h144 : ∀ r, r ∈ L → r < 144) (hv : ∀ r, r ∈ L → valP S (r / 12) (r % 12)) (h : n ∈ L) {b : Bool} (hb : b = true ↔ ∀ q, q < n → q ∈ L → ¬ alqB S n q 8 = true) : unN S L (n + 1) = unN S L n + (if b = true then 1 else 0) := by
  unfold unN
  rw [cut_s ha, if_pos h]
  generalize hK : L.filter (fun r => decide (r < n)) = K
  have hm : ∀ r, r ∈ K ↔ r ∈ L ∧ r < n := fun r => by rw [← hK]; simp
  have hk := keyS_lt (S := S) (h144 n h)
  rw [List.length_append, List.length_singleton]
  show (if kyS S (K ++ [n]) K.length = -1 then _ else _) = _
  rw [kyS_end, if_neg (nI_ne_m1 (by omega)), eqS.dc (g := kyS S K) _ (fun i hi => kyS_app hi)]
  congr 1
  have e : noneB (kyS S (K ++ [n])) (nI (keyS S n)) K.length = b := by
    rw [Bool.eq_iff_iff, hb]
    unfold noneB
    rw [decide_eq_true_eq]
    constructor
    · intro z q hq hqL ht
      obtain ⟨i, hi⟩ := List.getElem?_of_mem ((hm q).mpr ⟨hqL, hq⟩)
      have hil := (List.getElem?_eq_some_iff.mp hi).1
      refine z i hil ?_
      rw [kyS_app hil]
      unfold kyS
      rw [List.getD_eq_getElem?_getD, hi]
      exact congrArg nI ((key_alq (h144 n h) (h144 q hqL) (hv n h) (hv q hqL)).mpr ht).symm
    · intro z i hi he
      have hq : K.getD i 0 ∈ K := getD_mem hi
      obtain ⟨hqL, hqn⟩ := (hm _).mp hq
      refine z _ hqn hqL ?_
      rw [kyS_app hi] at he
      unfold kyS at he
      have hk2 := keyS_lt (S := S) (h144 _ hqL)
      exact (key_alq (h144 n h) (h144 _ hqL) (hv n h) (hv _ hqL)).mp ((nI_eq (by omega) (by omega)).mp he).symm
  rw [e]
theorem unN_all {S : mw_M} (hw : wfR S) : nI (unN S (lstS S 8) 144) = unlI S := by
  unfold unN unlI
  rw [cut_all (fun r hr => lst_144 hw r hr)]
/-! the orders -/
def lsg (u x : Int32) : Bool := if u = 1 then decide (¬ x ≤ 0) else decide (¬ 0 ≤ x)
/-- whether the row r is told ahead of the row q -/
def ahL (S : mw_M) (r q : Nat) : Bool := if byS S 0 (r / 12) (r % 12) (q / 12) (q % 12) = 0 then (if byS S 1 (r / 12) (r % 12) (q / 12) (q % 12) = 0 then decide (r < q) else lsg (S 128) (byS S 1 (r / 12) (r % 12) (q / 12) (q % 12))) else lsg (S 126) (byS S 0 (r / 12) (r % 12) (q / 12) (q % 12))
theorem by_int {S : mw_M} (hw : wfV S) {k f g o w : Nat} (hb : f < 12 ∧ g < 12 ∧ o < 12 ∧ w < 12) : -200 ≤ (byS S k f g o w).toInt ∧ (byS S k f g o w).toInt ≤ 200 ∧ (byS S k o w f g).toInt = -(byS S k f g o w).toInt := by
  unfold byS
  by_cases ha : askP S (S (125 + 2 * k))
  · obtain ⟨c, hc, e⟩ := ask_nI hw.wfR.2.1 ha
    rw [if_pos ha, if_pos ha, e, nI_clamp (by omega)]
    have h1 := sm_v (vlP_vS hw hc hb.1 hb.2.1)
    have h2 := sm_v (vlP_vS hw hc hb.2.2.1 hb.2.2.2)
    rw [sub_int h1 h2, sub_int h2 h1]
    omega
  · rw [if_neg ha, if_neg ha]
    decide
theorem i_zero {x : Int32} : x = 0 ↔ x.toInt = 0 := ⟨fun h => by rw [h]; rfl, fun h => Int32.toInt_inj.mp (by rw [h]; rfl)⟩
theorem i_le0 {x : Int32} : x ≤ 0 ↔ x.toInt ≤ 0 := Int32.le_iff_toInt_le
theorem i_0le {x : Int32} : 0 ≤ x ↔ 0 ≤ x.toInt := Int32.le_iff_toInt_le
theorem sg_flip {u x y : Int32} (h : y.toInt = -x.toInt) : sgB u y = lsg u x := by
  unfold sgB lsg
  split
  · exact decide_eq_decide.mpr (by rw [i_0le, i_le0]; omega)
  · exact decide_eq_decide.mpr (by rw [i_0le, i_le0]; omega)
theorem sg_not {u x : Int32} (h0 : ¬ x = 0) (h : sgB u x = false) : lsg u x = true := by
  rw [i_zero] at h0
  unfold sgB at h
  unfold lsg
  split
  · rename_i hu
    rw [if_pos hu, decide_eq_false_iff_not, i_0le] at h
    exact decide_eq_true (by rw [i_le0]; omega)
  · rename_i hu
    rw [if_neg hu, decide_eq_false_iff_not, i_le0] at h
    exact decide_eq_true (by rw [i_0le]; omega)
theorem ah_ahL {S : mw_M} (hw : wfV S) {r q : Nat} (hr : r < 144) (hq : q < 144) (h : ahR S r q = true) : ahL S r q = true := by
  have hb : r / 12 < 12 ∧ r % 12 < 12 ∧ q / 12 < 12 ∧ q % 12 < 12 := ⟨by omega, by omega, by omega, by omega⟩
  have h0 := (by_int hw (k := 0) hb).2.2
  have h1 := (by_int hw (k := 1) hb).2.2
  unfold ahR at h
  rw [bh_ahd hw ⟨hb.2.2.1, hb.2.2.2, hb.1, hb.2.1⟩] at h
  unfold bhS at h
  unfold ahL
  have z0 : byS S 0 (q / 12) (q % 12) (r / 12) (r % 12) = 0 ↔ byS S 0 (r / 12) (r % 12) (q / 12) (q % 12) = 0 := by rw [i_zero, i_zero]; omega
  have z1 : byS S 1 (q / 12) (q % 12) (r / 12) (r % 12) = 0 ↔ byS S 1 (r / 12) (r % 12) (q / 12) (q % 12) = 0 := by rw [i_zero, i_zero]; omega
  by_cases e0 : byS S 0 (r / 12) (r % 12) (q / 12) (q % 12) = 0
  · rw [if_pos (z0.mpr e0)] at h
    rw [if_pos e0]
    by_cases e1 : byS S 1 (r / 12) (r % 12) (q / 12) (q % 12) = 0
    · rw [if_pos (z1.mpr e1)] at h
      exact absurd h (by decide)
    · rw [if_neg (fun z => e1 (z1.mp z)), sg_flip h1] at h
      rw [if_neg e1]
      exact h
  · rw [if_neg (fun z => e0 (z0.mp z)), sg_flip h0] at h
    rw [if_neg e0]
    exact h
theorem nah_ahL {S : mw_M} (hw : wfV S) {r q : Nat} (hr : r < 144) (hq : q < 144) (hlt : q < r) (h : ¬ ahR S r q = true) : ahL S q r = true := by
  have hb : q / 12 < 12 ∧ q % 12 < 12 ∧ r / 12 < 12 ∧ r % 12 < 12 := ⟨by omega, by omega, by omega, by omega⟩
  rw [Bool.not_eq_true] at h
  unfold ahR at h
  rw [bh_ahd hw hb] at h
  unfold bhS at h
  unfold ahL
  by_cases e0 : byS S 0 (q / 12) (q % 12) (r / 12) (r % 12) = 0
  · rw [if_pos e0] at h ⊢
    by_cases e1 : byS S 1 (q / 12) (q % 12) (r / 12) (r % 12) = 0
    · rw [if_pos e1]
      exact decide_eq_true hlt
    · rw [if_neg e1] at h ⊢
      exact sg_not e1 h
  · rw [if_neg e0] at h ⊢
    exact sg_not e0 h
/-- each row is told ahead of the next one -/
def adjS (S : mw_M) (P : List Nat) : Prop := ∀ j, j + 1 < P.length → ahL S (P.getD j 0) (P.getD (j + 1) 0) = true
theorem kpos_lo {S : mw_M} {r : Nat} {P : List Nat} : ∀ k, 0 < kpos S r P k → ¬ ahR S r (P.getD (kpos S r P k - 1) 0) = true
  | 0, h => absurd h (Nat.lt_irrefl 0)
  | k + 1, h => by
    unfold kpos at h ⊢
    by_cases z : ahR S r (P.getD k 0) = true
    · rw [if_pos z] at h ⊢
      exact kpos_lo k h
    · rw [if_neg z]
      exact z
theorem kpos_hi {S : mw_M} {r : Nat} {P : List Nat} : ∀ k, kpos S r P k < k → ahR S r (P.getD (kpos S r P k) 0) = true
  | 0, h => absurd h (Nat.not_lt_zero _)
  | k + 1, h => by
    unfold kpos at h ⊢
    by_cases z : ahR S r (P.getD k 0) = true
    · rw [if_pos z] at h ⊢
      rcases Nat.lt_or_ge (kpos S r P k) k with y | y
      · exact kpos_hi k y
      · have := kpos_le S r P k
        rw [show kpos S r P k = k by omega]
        exact z
    · rw [if_neg z] at h
      omega
theorem ins_adj {S : mw_M} (hw : wfV S) {r : Nat} {P : List Nat} (h : adjS S P) (hr : r < 144) (hP : ∀ q, q ∈ P → q < r) : adjS S (insS S r P) := by
  have hle := kpos_le S r P P.length
  have hlo := kpos_lo (S := S) (r := r) (P := P) P.length
  have hhi := kpos_hi (S := S) (r := r) (P := P) P.length
  generalize hk : kpos S r P P.length = k at hle hlo hhi
  intro j hj
  rw [insS_len] at hj
  rw [insS_get hk, insS_get hk]
  rcases Nat.lt_trichotomy (j + 1) k with z | z | z
  · rw [if_pos (by omega), if_pos z]
    exact h j (by omega)
  · rw [if_pos (by omega), if_neg (by omega), if_pos z]
    have hm := getD_mem (L := P) (i := k - 1) (by omega)
    rw [show j = k - 1 by omega]
    have := hP _ hm
    exact nah_ahL hw hr (by omega) this (hlo (by omega))
  · rw [if_neg (by omega : ¬ j + 1 < k), if_neg (by omega : ¬ j + 1 = k)]
    by_cases y : j = k
    · subst y
      rw [if_neg (Nat.lt_irrefl j), if_pos rfl, show j + 1 - 1 = j by omega]
      have hm := getD_mem (L := P) (i := j) (by omega)
      have := hP _ hm
      exact ah_ahL hw hr (by omega) (hhi (by omega))
    · rw [if_neg (by omega : ¬ j < k), if_neg y]
      have := h (j - 1) (by omega)
      rw [show j - 1 + 1 = j + 1 - 1 by omega] at this
      exact this
theorem srt_adj {S : mw_M} (hw : wfV S) {L : List Nat} (h144 : ∀ r, r ∈ L → r < 144) (ha : L.Pairwise (· < ·)) : ∀ i, i ≤ L.length → adjS S (srtS S (L.take i))
  | 0, _ => fun j hj => by
    have e : srtS S (L.take 0) = [] := rfl
    rw [e] at hj
    exact absurd hj (Nat.not_lt_zero _)
  | i + 1, hi => by
    rw [take_snoc (by omega), srt_snoc]
    refine ins_adj hw (srt_adj hw h144 ha i (by omega)) (h144 _ (getD_mem (by omega))) (fun q hq => ?_)
    have hq2 := srt_perm.mem_iff.mp hq
    obtain ⟨j, hj⟩ := List.getElem?_of_mem hq2
    have hjl := (List.getElem?_eq_some_iff.mp hj).1
    rw [List.length_take] at hjl
    rw [List.getElem?_take, if_pos (by omega)] at hj
    have e := (List.getElem?_eq_some_iff.mp hj).2
    have := List.pairwise_iff_getElem.mp ha j i (by omega) (by omega) (by omega)
    rw [e] at this
    rw [List.getD_eq_getElem?_getD, List.getElem?_eq_getElem (by omega)]
    exact this
theorem srt_ahL {S : mw_M} (hw : wfV S) {j : Nat} (hj : j + 1 < (lstS S 8).length) : ahL S ((srtS S (lstS S 8)).getD j 0) ((srtS S (lstS S 8)).getD (j + 1) 0) = true := by
  have h := srt_adj hw (fun r hr => lst_144 hw.wfR r hr) (lst_asc hw.wfR) _ (Nat.le_refl _)
  rw [List.take_length] at h
  exact h j (by rw [srt_len]; exact hj)
