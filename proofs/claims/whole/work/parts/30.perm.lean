theorem rec_fold {α : Type} (F : Nat → α) (step : α → Nat → α) (L : List Nat) (h : ∀ n, n < L.length → F (n + 1) = step (F n) (L.getD n 0)) : ∀ n, n ≤ L.length → F n = (L.take n).foldl step (F 0)
  | 0, _ => by simp
  | n + 1, hn => by
    rw [h n (by omega), rec_fold F step L h n (by omega), take_snoc (by omega), List.foldl_append]
    rfl
theorem rec_perm {α : Type} (F F2 : Nat → α) (step : α → Nat → α) {L L2 : List Nat} (hp : L2.Perm L) (h : ∀ n, n < L.length → F (n + 1) = step (F n) (L.getD n 0)) (h2 : ∀ n, n < L2.length → F2 (n + 1) = step (F2 n) (L2.getD n 0)) (h0 : F2 0 = F 0) (comm : ∀ x, x ∈ L → ∀ y, y ∈ L → ∀ z, step (step z x) y = step (step z y) x) : F2 L2.length = F L.length := by
  rw [rec_fold F step L h _ (Nat.le_refl _), rec_fold F2 step L2 h2 _ (Nat.le_refl _), List.take_length, List.take_length, h0]
  exact hp.foldl_eq' (fun x hx y hy z => comm x (hp.mem_iff.mp hx) y (hp.mem_iff.mp hy) z) _
theorem cs_perm {d : Nat} {L L2 : List Nat} (hp : L2.Perm L) : csF (cdS d L2) L2.length = csF (cdS d L) L.length :=
  rec_perm (csF (cdS d L)) (csF (cdS d L2)) (fun a r => a ||| ((1 : Int32) <<< (nI (if d = 0 then r / 12 else r % 12) &&& 31))) hp (fun _ _ => rfl) (fun _ _ => rfl) rfl (fun x _ y _ z => by rw [Int32.or_assoc, Int32.or_assoc, Int32.or_comm (_ <<< _)])
theorem sc_perm {V : mw_M} {c : Nat} {L L2 : List Nat} (hp : L2.Perm L) : svC (vlS V c L2) L2.length = svC (vlS V c L) L.length :=
  rec_perm (svC (vlS V c L)) (svC (vlS V c L2)) (fun a r => a + (if decide (¬ vS V c (r / 12) (r % 12) = -1) then 1 else 0)) hp (fun _ _ => rfl) (fun _ _ => rfl) rfl (fun x _ y _ z => by omega)
theorem ss_perm {V : mw_M} {c : Nat} {L L2 : List Nat} (hp : L2.Perm L) : svS (vlS V c L2) L2.length = svS (vlS V c L) L.length :=
  rec_perm (svS (vlS V c L)) (svS (vlS V c L2)) (fun a r => if vS V c (r / 12) (r % 12) = -1 then a else a + vS V c (r / 12) (r % 12)) hp (fun _ _ => rfl) (fun _ _ => rfl) rfl (fun x _ y _ z => by
    by_cases h1 : vS V c (x / 12) (x % 12) = -1
    · by_cases h2 : vS V c (y / 12) (y % 12) = -1
      · simp only [h1, h2, if_true]
      · simp only [h1, h2, if_true, if_false]
    · by_cases h2 : vS V c (y / 12) (y % 12) = -1
      · simp only [h1, h2, if_true, if_false]
      · simp only [h1, h2, if_false]
        rw [Int32.add_assoc, Int32.add_assoc, Int32.add_comm (vS V c (x / 12) (x % 12))])
def stL (a v : Int32) : Int32 := if v = -1 then a else if a < 0 ∨ v < a then v else a
def stG (a v : Int32) : Int32 := if v = -1 then a else if a < v then v else a
theorem vl_c {v : Int32} (h : vlP v) (h1 : ¬ v = -1) : 0 ≤ v.toInt ∧ v.toInt ≤ 99 := by
  rcases h with z | ⟨w, hw, rfl⟩
  · exact absurd z h1
  · rw [nI_toInt (by omega)]
    omega
theorem svLG {f : Nat → Int32} {n : Nat} (hf : ∀ i, i < n → vlP (f i)) : ∀ k, k ≤ n → (svC f k = 0 → svL f k = -14 ∧ svG f k = -14) ∧ (¬ svC f k = 0 → 0 ≤ (svL f k).toInt ∧ 0 ≤ (svG f k).toInt)
  | 0, _ => ⟨fun _ => ⟨rfl, rfl⟩, fun z => absurd rfl z⟩
  | k + 1, hk => by
    have ih := svLG hf k (by omega)
    have hv := hf k (by omega)
    have e : svC f (k + 1) = svC f k + (if decide (¬ f k = -1) then 1 else 0) := rfl
    have eL : svL f (k + 1) = if f k = -1 then svL f k else if svC f k = 0 then f k else if f k < svL f k then f k else svL f k := rfl
    have eG : svG f (k + 1) = if f k = -1 then svG f k else if svC f k = 0 then f k else if svG f k < f k then f k else svG f k := rfl
    rw [e, eL, eG]
    by_cases h1 : f k = -1
    · rw [if_pos h1, if_pos h1, decide_eq_false (fun z => z h1)]
      simpa using ih
    · have h2 := vl_c hv h1
      rw [if_neg h1, if_neg h1, decide_eq_true h1]
      refine ⟨fun z => absurd z (by simp), fun _ => ?_⟩
      by_cases h0 : svC f k = 0
      · rw [if_pos h0, if_pos h0]
        exact ⟨h2.1, h2.1⟩
      · rw [if_neg h0, if_neg h0]
        have := ih.2 h0
        refine ⟨?_, ?_⟩
        · split
          · exact h2.1
          · exact this.1
        · split
          · exact h2.1
          · exact this.2
theorem svL_st {f : Nat → Int32} {n k : Nat} (hf : ∀ i, i < n → vlP (f i)) (hk : k < n) : svL f (k + 1) = stL (svL f k) (f k) := by
  have ih := svLG hf k (by omega)
  have eL : svL f (k + 1) = if f k = -1 then svL f k else if svC f k = 0 then f k else if f k < svL f k then f k else svL f k := rfl
  rw [eL]
  unfold stL
  by_cases h1 : f k = -1
  · rw [if_pos h1, if_pos h1]
  · rw [if_neg h1, if_neg h1]
    by_cases h0 : svC f k = 0
    · rw [if_pos h0, if_pos (Or.inl (by rw [(ih.1 h0).1]; decide))]
    · have := (ih.2 h0).1
      have hn : ¬ svL f k < 0 := fun z => by
        rw [Int32.lt_iff_toInt_lt] at z
        have e0 : (0 : Int32).toInt = 0 := by decide
        omega
      rw [if_neg h0]
      by_cases h3 : f k < svL f k
      · rw [if_pos h3, if_pos (Or.inr h3)]
      · rw [if_neg h3, if_neg (fun z => z.elim hn h3)]
theorem svG_st {f : Nat → Int32} {n k : Nat} (hf : ∀ i, i < n → vlP (f i)) (hk : k < n) : svG f (k + 1) = stG (svG f k) (f k) := by
  have ih := svLG hf k (by omega)
  have eG : svG f (k + 1) = if f k = -1 then svG f k else if svC f k = 0 then f k else if svG f k < f k then f k else svG f k := rfl
  rw [eG]
  unfold stG
  by_cases h1 : f k = -1
  · rw [if_pos h1, if_pos h1]
  · rw [if_neg h1, if_neg h1]
    by_cases h0 : svC f k = 0
    · have h2 := vl_c (hf k hk) h1
      rw [if_pos h0, if_pos]
      rw [(ih.1 h0).2, Int32.lt_iff_toInt_lt]
      have e0 : (-14 : Int32).toInt = -14 := by decide
      omega
    · rw [if_neg h0]
theorem stL_comm {x y z : Int32} (hx : vlP x) (hy : vlP y) : stL (stL z x) y = stL (stL z y) x := by
  unfold stL
  by_cases h1 : x = -1
  · simp only [h1, if_true]
  by_cases h2 : y = -1
  · simp only [h2, if_true]
  have a1 := vl_c hx h1
  have a2 := vl_c hy h2
  simp only [h1, h2, if_false]
  have e0 : (0 : Int32).toInt = 0 := by decide
  simp only [Int32.lt_iff_toInt_lt, e0]
  rw [← Int32.toInt_inj]
  by_cases b1 : z.toInt < 0 ∨ x.toInt < z.toInt
  · by_cases b2 : z.toInt < 0 ∨ y.toInt < z.toInt
    · rw [if_pos b1, if_pos b2]
      (repeat' split) <;> omega
    · rw [if_pos b1, if_neg b2]
      (repeat' split) <;> omega
  · by_cases b2 : z.toInt < 0 ∨ y.toInt < z.toInt
    · rw [if_neg b1, if_pos b2]
      (repeat' split) <;> omega
    · rw [if_neg b1, if_neg b2]
      (repeat' split) <;> omega
theorem stG_comm {x y z : Int32} (hx : vlP x) (hy : vlP y) : stG (stG z x) y = stG (stG z y) x := by
  unfold stG
  by_cases h1 : x = -1
  · simp only [h1, if_true]
  by_cases h2 : y = -1
  · simp only [h2, if_true]
  simp only [h1, h2, if_false]
  simp only [Int32.lt_iff_toInt_lt]
  rw [← Int32.toInt_inj]
  by_cases b1 : z.toInt < x.toInt
  · by_cases b2 : z.toInt < y.toInt
    · rw [if_pos b1, if_pos b2]
      (repeat' split) <;> omega
    · rw [if_pos b1, if_neg b2]
      (repeat' split) <;> omega
  · by_cases b2 : z.toInt < y.toInt
    · rw [if_neg b1, if_pos b2]
      (repeat' split) <;> omega
    · rw [if_neg b1, if_neg b2]
      (repeat' split) <;> omega
theorem vl_row {V : mw_M} (hw : wfV V) {c : Nat} (hc : c < 8) {L : List Nat} (hL : ∀ r, r ∈ L → r < 144) : ∀ i, i < L.length → vlP (vlS V c L i) := fun i hi => by
  have := hL _ (getD_mem hi)
  exact vlP_vS hw hc (by omega) (by omega)
theorem sl_perm {V : mw_M} (hw : wfV V) {c : Nat} (hc : c < 8) {L L2 : List Nat} (hL : ∀ r, r ∈ L → r < 144) (hp : L2.Perm L) : svL (vlS V c L2) L2.length = svL (vlS V c L) L.length :=
  rec_perm (svL (vlS V c L)) (svL (vlS V c L2)) (fun a r => stL a (vS V c (r / 12) (r % 12))) hp (fun n hn => svL_st (vl_row hw hc hL) hn) (fun n hn => svL_st (vl_row hw hc (fun r hr => hL r (hp.mem_iff.mp hr))) hn) rfl
    (fun x hx y hy z => stL_comm (vlP_vS hw hc (by have := hL x hx; omega) (by omega)) (vlP_vS hw hc (by have := hL y hy; omega) (by omega)))
theorem sg_perm {V : mw_M} (hw : wfV V) {c : Nat} (hc : c < 8) {L L2 : List Nat} (hL : ∀ r, r ∈ L → r < 144) (hp : L2.Perm L) : svG (vlS V c L2) L2.length = svG (vlS V c L) L.length :=
  rec_perm (svG (vlS V c L)) (svG (vlS V c L2)) (fun a r => stG a (vS V c (r / 12) (r % 12))) hp (fun n hn => svG_st (vl_row hw hc hL) hn) (fun n hn => svG_st (vl_row hw hc (fun r hr => hL r (hp.mem_iff.mp hr))) hn) rfl
    (fun x hx y hy z => stG_comm (vlP_vS hw hc (by have := hL x hx; omega) (by omega)) (vlP_vS hw hc (by have := hL y hy; omega) (by omega)))
/-! how many unlike values: counted over the values -/
def exB (f : Nat → Int32) (n v : Nat) : Bool := !noneB f (nI v) n
theorem none_s {f : Nat → Int32} {x : Int32} {n : Nat} : noneB f x (n + 1) = (noneB f x n && decide (¬ f n = x)) := by
  unfold noneB
  rw [← Bool.decide_and, decide_eq_decide]
  constructor
  · intro h
    exact ⟨fun j hj => h j (by omega), h n (by omega)⟩
  · intro h j hj
    rcases Nat.lt_or_ge j n with z | z
    · exact h.1 j z
    · rw [show j = n by omega]
      exact h.2
theorem cnt_flip {f g : Nat → Bool} {v : Nat} (h : ∀ i, ¬ i = v → g i = f i) (hf : f v = false) (hg : g v = true) : ∀ n, cntB g n = cntB f n + (if v < n then 1 else 0)
  | 0 => by simp [cntB]
  | n + 1 => by
    show cntB g n + (if g n then 1 else 0) = cntB f n + (if f n then 1 else 0) + _
    rw [cnt_flip h hf hg n]
    by_cases z : n = v
    · rw [z, hf, hg]
      simp
    · rw [h n z]
      by_cases z2 : v < n
      · rw [if_pos z2, if_pos (show v < n + 1 by omega)]
        omega
      · rw [if_neg z2, if_neg (show ¬ v < n + 1 by omega)]
        omega
theorem cnt_0 : ∀ n, cntB (fun _ => false) n = 0
  | 0 => rfl
  | n + 1 => by
    show cntB (fun _ => false) n + _ = 0
    rw [cnt_0 n]
    simp
theorem dc_cnt {f : Nat → Int32} {N : Nat} (hf : ∀ i, i < N → f i = -1 ∨ ∃ v, v < 144 ∧ f i = nI v) : ∀ n, n ≤ N → dcF f n = cntB (exB f n) 144
  | 0, _ => by
    rw [cntB_c (g := fun _ => false) (fun i hi => by unfold exB noneB; simp), cnt_0]
    rfl
  | n + 1, hn => by
    have ih := dc_cnt hf n (by omega)
    have e : dcF f (n + 1) = if f n = -1 then dcF f n else dcF f n + (if noneB f (f n) n then 1 else 0) := rfl
    rw [e, ih]
    have hx : ∀ v, exB f (n + 1) v = (exB f n v || decide (f n = nI v)) := fun v => by
      unfold exB
      rw [none_s]
      by_cases z : f n = nI v
      · rw [decide_eq_true z, decide_eq_false (fun w => w z)]
        simp
      · rw [decide_eq_false z, decide_eq_true z]
        simp
    rcases hf n (by omega) with z | ⟨v, hv, z⟩
    · rw [if_pos z]
      refine cntB_c (fun i hi => ?_)
      rw [hx i, decide_eq_false (fun w => nI_ne_m1 (n := i) (by omega) (w.symm.trans z))]
      simp
    · rw [if_neg (fun w => nI_ne_m1 (n := v) (by omega) (z.symm.trans w))]
      have hne : ∀ i, ¬ i = v → i < 144 → ¬ f n = nI i := fun i hi h144 w => hi ((nI_eq (by omega) (by omega)).mp (w.symm.trans z))
      by_cases hB : noneB f (f n) n = true
      · rw [hB, if_pos rfl]
        have hB2 : noneB f (nI v) n = true := by rw [← z]; exact hB
        have := cnt_flip (f := exB f n) (g := fun i => exB f n i || decide (i = v)) (v := v) (fun i hi => by simp [hi]) (by unfold exB; rw [hB2]; rfl) (by simp) 144
        rw [if_pos hv] at this
        rw [← this]
        refine cntB_c (fun i hi => ?_)
        rw [hx i]
        by_cases w : i = v
        · rw [w, decide_eq_true z]
          simp
        · rw [decide_eq_false (hne i w hi), decide_eq_false w]
      · have hB3 : noneB f (nI v) n = false := by rw [← z]; exact Bool.eq_false_iff.mpr hB
        rw [if_neg hB, Nat.add_zero]
        refine cntB_c (fun i hi => ?_)
        rw [hx i]
        by_cases w : i = v
        · rw [w]
          unfold exB
          rw [hB3]
          simp
        · rw [decide_eq_false (hne i w hi)]
          simp
theorem exB_perm {h : Nat → Int32} {L L2 : List Nat} (hp : L2.Perm L) {v : Nat} : exB (fun i => h (L2.getD i 0)) L2.length v = exB (fun i => h (L.getD i 0)) L.length v := by
  have key : ∀ {A B : List Nat}, A.Perm B → (∀ j, j < B.length → ¬ h (B.getD j 0) = nI v) → ∀ j, j < A.length → ¬ h (A.getD j 0) = nI v := fun {A B} hq hB j hj => by
    have hm := hq.mem_iff.mp (getD_mem hj)
    obtain ⟨k, hk, e⟩ := List.getElem_of_mem hm
    have := hB k hk
    rw [List.getD_eq_getElem?_getD, List.getElem?_eq_getElem hk] at this
    rw [← e]
    exact this
  unfold exB noneB
  refine congrArg (fun b => !b) ?_
  rw [decide_eq_decide]
  exact ⟨fun z => key hp.symm z, fun z => key hp z⟩
theorem dc_perm {h : Nat → Int32} {L L2 : List Nat} (hh : ∀ r, r ∈ L → h r = -1 ∨ ∃ v, v < 144 ∧ h r = nI v) (hp : L2.Perm L) : dcF (fun i => h (L2.getD i 0)) L2.length = dcF (fun i => h (L.getD i 0)) L.length := by
  rw [dc_cnt (N := L2.length) (fun i hi => hh _ (hp.mem_iff.mp (getD_mem hi))) _ (Nat.le_refl _), dc_cnt (N := L.length) (fun i hi => hh _ (getD_mem hi)) _ (Nat.le_refl _)]
  exact cntB_c (fun v hv => exB_perm hp)
theorem tot_perm {V : mw_M} (hw : wfV V) {c : Nat} (hc : c < 8) {L L2 : List Nat} (hL : ∀ r, r ∈ L → r < 144) (hp : L2.Perm L) (x : Int32) : totS (vlS V c L2) L2.length x = totS (vlS V c L) L.length x := by
  unfold totS
  rw [sc_perm hp, ss_perm hp, sl_perm hw hc hL hp, sg_perm hw hc hL hp]
  rw [show dcF (vlS V c L2) L2.length = dcF (vlS V c L) L.length from dc_perm (h := fun r => vS V c (r / 12) (r % 12)) (fun r hr => by
    rcases vlP_vS hw hc (f := r / 12) (g := r % 12) (by have := hL r hr; omega) (by omega) with z | ⟨w, hw2, z⟩
    · exact Or.inl z
    · exact Or.inr ⟨w, by omega, z⟩) hp]
