/-! two memories that are alike but for what no card holds: the class begins with blanks there, the reference with 0 -/
def lvS (S S2 : mw_M) : Prop := (∀ q, q < 4 → S2 q = S q) ∧ (∀ q, 100 ≤ q → q < 130 → S2 q = S q) ∧ ∀ d, d < 2 → ∀ k, k < 12 → ¬ S (2 + d) ≤ nI k → ∀ c, c < 4 → S2 (4 + 48 * d + (4 * k + c)) = S (4 + 48 * d + (4 * k + c))
theorem lvS.cong {S S2 T T2 : mw_M} (h : lvS S S2) (e : ∀ q, q < 130 → T q = S q) (e2 : ∀ q, q < 130 → T2 q = S2 q) : lvS T T2 :=
  ⟨fun q hq => by rw [e q (by omega), e2 q (by omega)]; exact h.1 q hq, fun q h1 h2 => by rw [e q (by omega), e2 q (by omega)]; exact h.2.1 q h1 h2, fun d hd k hk hl c hc => by
    rw [e (2 + d) (by omega)] at hl
    rw [e _ (by omega), e2 _ (by omega)]
    exact h.2.2 d hd k hk hl c hc⟩
theorem lvS.hk {S S2 : mw_M} (h : lvS S S2) {d : Nat} (hd : d < 2) {k : Int32} : hkP S2 d k ↔ hkP S d k := by
  unfold hkP
  rw [h.1 (2 + d) (by omega)]
theorem lvS.hc {S S2 : mw_M} (h : lvS S S2) {d : Nat} (hd : d < 2) {k : Int32} : hcP S2 d k ↔ hcP S d k := by
  unfold hcP
  rw [h.1 d (by omega)]
theorem lvS.ask {S S2 : mw_M} (h : lvS S S2) {x : Int32} : askP S2 x ↔ askP S x := by
  unfold askP hcP
  rw [h.1 0 (by omega), h.2.1 124 (by omega) (by omega), h.1 1 (by omega)]
theorem lvS.shw {S S2 : mw_M} (h : lvS S S2) {x : Int32} : shwP S2 x ↔ shwP S x := by
  unfold shwP
  rw [h.ask, h.2.1 129 (by omega) (by omega)]
theorem lvS.tel {S S2 : mw_M} (h : lvS S S2) {lo a c : Nat} (hc : c < 8) : telP S2 lo a c = telP S lo a c := by
  unfold telP
  rw [h.2.1 (100 + 3 * c) (by omega) (by omega), h.2.1 (101 + 3 * c) (by omega) (by omega), decide_eq_decide.mpr h.ask]
theorem lvS.tels {S S2 : mw_M} (h : lvS S S2) {lo a : Nat} : telS S2 lo a = telS S lo a := tlD_c (fun c hc => h.tel hc) 8 (by omega)
theorem lvS.col {S S2 : mw_M} (h : lvS S S2) {c f g : Nat} (hc : c < 8) (hv : valP S f g) (ha : askP S (nI c)) : vS S2 c f g = vS S c f g := by
  have hq := (ask_iff hc).mp ha
  unfold vS
  by_cases z : c < 4
  · rw [if_pos z]
    exact h.2.2 (c / 4) (by omega) f hv.1 (by rw [show 2 + c / 4 = 2 by omega]; exact hv.2.2.1) (c % 4) (by omega)
  · rw [if_neg z]
    have hb : S 124 = 1 := hq.2.elim (fun w => absurd (nI_le (a := 4) (b := c) (by omega) (by omega)) (Int32.not_le.mpr w)) id
    exact h.2.2 (c / 4) (by omega) g hv.2.1 (by rw [show 2 + c / 4 = 3 by omega]; exact hv.2.2.2 hb) (c % 4) (by omega)
theorem tel_ask {S : mw_M} {lo a : Nat} (ht : telS S lo a < 8) : askP S (nI (telS S lo a)) := by
  have h := tlD_p (P := telP S lo a) 8 (by omega) ht
  unfold telP at h
  rw [Bool.and_eq_true, decide_eq_true_eq] at h
  exact h.1
theorem lvS.fit {S S2 : mw_M} (h : lvS S S2) {lo c f g : Nat} (hc : c < 8) (hv : valP S f g) (ha : askP S (nI c)) : fitS S2 lo c f g = fitS S lo c f g := by
  unfold fitS
  simp only [h.2.1 (100 + 3 * c) (by omega) (by omega), h.2.1 (101 + 3 * c) (by omega) (by omega), h.2.1 (102 + 3 * c) (by omega) (by omega), h.tels, h.col hc hv ha]
  by_cases ht : telS S lo (S (101 + 3 * c)).toNatClampNeg < 8
  · simp only [if_pos ht, h.col ht hv (tel_ask ht)]
  · simp only [if_neg ht]
theorem lvS.mis {S S2 : mw_M} (h : lvS S S2) {lo f g : Nat} (hv : valP S f g) : misS S2 lo f g = misS S lo f g := by
  refine tlD_c (fun c hc => ?_) 8 (by omega)
  unfold misP
  rw [decide_eq_decide.mpr h.ask]
  by_cases ha : askP S (nI c)
  · rw [h.fit hc hv ha]
  · rw [decide_eq_false ha, Bool.false_and, Bool.false_and]
theorem lvS.ones {S S2 : mw_M} (h : lvS S S2) : n1 S2 = n1 S := by
  unfold n1 nN
  rw [h.2.1 124 (by omega) (by omega), h.1 (2 + 1) (by omega)]
theorem lvS.nn {S S2 : mw_M} (h : lvS S S2) {d : Nat} (hd : d < 2) : nN S2 d = nN S d := by
  unfold nN
  rw [h.1 (2 + d) (by omega)]
theorem lstG_cb {S S2 : mw_M} {lo f m : Nat} (h : ∀ g, g < m → misS S2 lo f g = misS S lo f g) (g : Nat) : g ≤ m → lstG S2 lo f g = lstG S lo f g := by
  induction g with
  | zero => exact fun _ => lstG_0.trans lstG_0.symm
  | succ g ih =>
    intro hg
    have hm := h g (by omega)
    by_cases z : misS S lo f g = 8
    · rw [lstG_y z, lstG_y (hm.trans z), ih (by omega)]
    · rw [lstG_n z, lstG_n (fun w => z (hm.symm.trans w)), ih (by omega)]
theorem lstF_cb {S S2 : mw_M} {lo m n : Nat} (h : ∀ f, f < n → ∀ g, g < m → misS S2 lo f g = misS S lo f g) (f : Nat) : f ≤ n → lstF S2 lo m f = lstF S lo m f := by
  induction f with
  | zero => exact fun _ => lstF_0.trans lstF_0.symm
  | succ f ih =>
    intro hf
    rw [lstF_s, lstF_s, ih (by omega), lstG_cb (h f (by omega)) m (Nat.le_refl _)]
theorem val_mk {S : mw_M} (hw : wfR S) {i j : Nat} (h1 : i < nN S 0) (h2 : j < n1 S) : valP S i j := by
  obtain ⟨hn, hn12⟩ := hw.1.n
  have hm := n1_le hw.2.1
  refine ⟨by omega, by omega, ?_, fun e1 => ?_⟩
  · rw [show (2 : Nat) = 2 + 0 from rfl, hn]
    exact nI_ge h1 (by omega)
  · have e2 : n1 S = nN S 1 := by unfold n1; rw [if_pos e1]
    rw [show (3 : Nat) = 2 + 1 from rfl, (hw.2.1.n).1, ← e2]
    exact nI_ge h2 (by omega)
theorem lvS.lst {S S2 : mw_M} (h : lvS S S2) (hw : wfR S) {lo : Nat} : lstS S2 lo = lstS S lo := by
  unfold lstS
  rw [h.ones, h.nn (by omega)]
  exact lstF_cb (fun f hf g hg => h.mis (val_mk hw hf hg)) _ (Nat.le_refl _)
theorem lvS.cmp {S S2 : mw_M} (h : lvS S S2) (h1 : szP S 1) {k f g f2 g2 : Nat} (hk : k < 2) (hv : valP S f g) (hv2 : valP S f2 g2) : cmpS S2 k f g f2 g2 = cmpS S k f g f2 g2 := by
  unfold cmpS
  rw [h.2.1 (125 + 2 * k) (by omega) (by omega), h.2.1 (126 + 2 * k) (by omega) (by omega)]
  by_cases ha : askP S (S (125 + 2 * k))
  · obtain ⟨c, hc, e⟩ := ask_nI h1 ha
    rw [if_pos ha, if_pos (h.ask.mpr ha), e, nI_clamp (by omega)]
    rw [e] at ha
    rw [h.col hc hv ha, h.col hc hv2 ha]
  · rw [if_neg ha, if_neg (fun z => ha (h.ask.mp z))]
theorem lvS.ahr {S S2 : mw_M} (h : lvS S S2) (h1 : szP S 1) {r r2 : Nat} (hv : valP S (r / 12) (r % 12)) (hv2 : valP S (r2 / 12) (r2 % 12)) : ahR S2 r r2 = ahR S r r2 := by
  unfold ahR ahdS
  rw [h.cmp h1 (by omega) hv hv2, h.cmp h1 (by omega) hv hv2]
theorem lvS.kps {S S2 : mw_M} (h : lvS S S2) (h1 : szP S 1) {r : Nat} {P : List Nat} (hr : valP S (r / 12) (r % 12)) (hP : ∀ x, x ∈ P → valP S (x / 12) (x % 12)) (k : Nat) : k ≤ P.length → kpos S2 r P k = kpos S r P k := by
  induction k with
  | zero => exact fun _ => rfl
  | succ k ih =>
    intro hk
    show (if ahR S2 r (P.getD k 0) then _ else _) = (if ahR S r (P.getD k 0) then _ else _)
    rw [h.ahr h1 hr (hP _ (getD_mem (by omega))), ih (by omega)]
theorem lvS.srt {S S2 : mw_M} (h : lvS S S2) (h1 : szP S 1) (L : List Nat) : ∀ P : List Nat, (∀ r, r ∈ L → valP S (r / 12) (r % 12)) → (∀ r, r ∈ P → valP S (r / 12) (r % 12)) → L.foldl (fun P r => insS S2 r P) P = L.foldl (fun P r => insS S r P) P := by
  induction L with
  | nil => exact fun P _ _ => by rw [List.foldl_nil, List.foldl_nil]
  | cons r L ih =>
    intro P hL hP
    have e : insS S2 r P = insS S r P := by
      unfold insS
      rw [h.kps h1 (hL r (List.mem_cons_self ..)) hP P.length (Nat.le_refl _)]
    rw [List.foldl_cons, List.foldl_cons, e]
    refine ih (insS S r P) (fun z hz => hL z (List.mem_cons_of_mem _ hz)) (fun z hz => ?_)
    rcases List.mem_cons.mp ((insS_perm (S := S) (r := r) (P := P)).mem_iff.mp hz) with w | w
    · rw [w]
      exact hL r (List.mem_cons_self ..)
    · exact hP z w
theorem lvS.srts {S S2 : mw_M} (h : lvS S S2) (hw : wfR S) {lo : Nat} : srtS S2 (lstS S lo) = srtS S (lstS S lo) :=
  h.srt hw.2.1 _ [] (fun r hr => (valP_row hw hr).2) (fun r hr => absurd hr List.not_mem_nil)
theorem lvS.ent {S S2 : mw_M} (h : lvS S S2) {d : Nat} (hd : d < 2) (hz : szP S d) {k c : Int32} : entI S2 d k c = entI S d k c := by
  unfold entI
  by_cases z : hkP S d k ∧ hcP S d c
  · rw [if_pos z, if_pos ⟨(h.hk hd).mpr z.1, (h.hc hd).mpr z.2⟩]
    have a := hk_nI hz z.1
    have b := hc_nI hz z.2
    exact h.2.2 d hd _ a.2 (by rw [← a.1]; exact z.1.2) _ b.2
  · rw [if_neg z, if_neg (fun w => z ⟨(h.hk hd).mp w.1, (h.hc hd).mp w.2⟩)]
theorem lvS.alkc {S S2 : mw_M} (h : lvS S S2) {d j k c : Nat} (hd : d < 2) (hz : szP S d) : alkC S2 d j k c = alkC S d j k c := by
  have e2 : decide (¬ shwP S2 (nI (4 * d + c))) = decide (¬ shwP S (nI (4 * d + c))) := decide_eq_decide.mpr (not_congr h.shw)
  unfold alkC
  rw [h.ent hd hz, h.ent hd hz, e2]
theorem lvS.alk {S S2 : mw_M} (h : lvS S S2) {d j k : Nat} (hd : d < 2) (hz : szP S d) : alkS S2 d j k = alkS S d j k := alB_c 4 (fun c hc => h.alkc hd hz)
theorem lvS.fa {S S2 : mw_M} (h : lvS S S2) {d k : Nat} (hd : d < 2) (hz : szP S d) : faS S2 d k = faS S d k := fsN_c k (fun j hj => h.alk hd hz)
theorem lvS.key {S S2 : mw_M} (h : lvS S S2) (hw : wfR S) {r : Nat} : keyS S2 r = keyS S r := by
  unfold keyS
  rw [h.fa (d := 0) (by omega) hw.1, h.fa (d := 1) (by omega) hw.2.1]
theorem lvS.unl {S S2 : mw_M} (h : lvS S S2) (hw : wfR S) : unlI S2 = unlI S := by
  unfold unlI
  rw [h.lst hw]
  refine congrArg nI (eqS.dc _ (fun i hi => ?_))
  unfold kyS
  rw [h.key hw]
theorem lvS.many {S S2 : mw_M} (h : lvS S S2) (hw : wfR S) : manyI S2 = manyI S := by unfold manyI; rw [h.lst hw]
theorem svC_cg {f g : Nat → Int32} {n : Nat} (h : ∀ i, i < n → f i = g i) : svC f n = svC g n := cntB_c (fun i hi => by rw [h i hi])
theorem svS_cg {f g : Nat → Int32} (n : Nat) : (∀ i, i < n → f i = g i) → svS f n = svS g n := by
  induction n with
  | zero => exact fun _ => rfl
  | succ n ih =>
    intro h
    show (if f n = -1 then svS f n else svS f n + f n) = (if g n = -1 then svS g n else svS g n + g n)
    rw [h n (by omega), ih (fun i hi => h i (by omega))]
theorem svL_cg {f g : Nat → Int32} (n : Nat) : (∀ i, i < n → f i = g i) → svL f n = svL g n := by
  induction n with
  | zero => exact fun _ => rfl
  | succ n ih =>
    intro h
    show (if f n = -1 then svL f n else if svC f n = 0 then f n else if f n < svL f n then f n else svL f n) = (if g n = -1 then svL g n else if svC g n = 0 then g n else if g n < svL g n then g n else svL g n)
    rw [h n (by omega), ih (fun i hi => h i (by omega)), svC_cg (f := f) (g := g) (fun i hi => h i (by omega))]
theorem svG_cg {f g : Nat → Int32} (n : Nat) : (∀ i, i < n → f i = g i) → svG f n = svG g n := by
  induction n with
  | zero => exact fun _ => rfl
  | succ n ih =>
    intro h
    show (if f n = -1 then svG f n else if svC f n = 0 then f n else if svG f n < f n then f n else svG f n) = (if g n = -1 then svG g n else if svC g n = 0 then g n else if svG g n < g n then g n else svG g n)
    rw [h n (by omega), ih (fun i hi => h i (by omega)), svC_cg (f := f) (g := g) (fun i hi => h i (by omega))]
theorem tot_cg {f g : Nat → Int32} {n : Nat} (h : ∀ i, i < n → f i = g i) (x : Int32) : totS f n x = totS g n x := by
  unfold totS
  rw [svC_cg h, svS_cg n h, svL_cg n h, svG_cg n h, eqS.dc n h]
theorem lvS.tgf {S S2 : mw_M} (h : lvS S S2) (hw : wfR S) (n : Nat) : tgF S2 n = tgF S n := by
  induction n with
  | zero =>
    show ((manyI S2, -1) : Int32 × Int32) = (manyI S, -1)
    rw [h.many hw]
  | succ n ih =>
    have e : tgX S2 n = tgX S n := by
      unfold tgX
      by_cases z : askP S (nI n)
      · rw [if_pos z, if_pos (h.ask.mpr z), h.lst hw]
      · rw [if_neg z, if_neg (fun w => z (h.ask.mp w))]
    show (if (tgF S2 n).1 < tgX S2 n then (tgX S2 n, nI n) else tgF S2 n) = (if (tgF S n).1 < tgX S n then (tgX S n, nI n) else tgF S n)
    rw [e, ih]
theorem lvS.oth {S S2 : mw_M} (h : lvS S S2) {d : Nat} (hd : d < 2) : othN S2 d = othN S d := cntB_c (fun i hi => by rw [h.2.1 _ (by omega) (by omega)])
/-- nothing but what stands from 100 on is new -/
theorem lvS.up {W W2 N N2 : mw_M} (h : lvS W W2) (e : ∀ q, q < 100 → N q = W q) (e2 : ∀ q, q < 100 → N2 q = W2 q) (e3 : ∀ q, 100 ≤ q → q < 130 → N2 q = N q) : lvS N N2 :=
  ⟨fun q hq => by rw [e q (by omega), e2 q (by omega)]; exact h.1 q hq, e3, fun d hd k hk hl c hc => by
    rw [e (2 + d) (by omega)] at hl
    rw [e _ (by omega), e2 _ (by omega)]
    exact h.2.2 d hd k hk hl c hc⟩
theorem upd_cg {W W2 : mw_M} {k q : Nat} {x : Int32} (h : W2 q = W q) : upd W2 k x q = upd W k x q := by
  by_cases z : q = k
  · rw [z, upd_s, upd_s]
  · rw [upd_o z, upd_o z, h]
theorem zero_cg {W W2 : mw_M} {b q : Nat} (h : W2 q = W q) : s_zero W2 b q = s_zero W b q := by
  unfold s_zero
  rw [h]
def lvH (V V2 : mw_M) : Prop := lvS V V2 ∧ V2 650 = V 650 ∧ (∀ j, 1 ≤ j → j ≤ hN V → lvS (fun q => V (130 * j + q)) (fun q => V2 (130 * j + q))) ∧ V2 653 = V 653 ∧ ∀ j, j < 60 → V2 (1000 + j) = V (1000 + j)
theorem lv_hN {V V2 : mw_M} (h : lvH V V2) : hN V2 = hN V := by unfold hN; rw [h.2.1]
theorem lv_tN {V V2 : mw_M} (h : lvH V V2) : tN V2 = tN V := by unfold tN; rw [h.2.2.2.1]
theorem lv_kp {V V2 : mw_M} (h : lvH V V2) : lvS (kpS V) (kpS V2) := h.1.cong (fun q hq => kpS_lo hq) (fun q hq => kpS_lo hq)
theorem lvH.kp {V V2 N N2 : mw_M} (h : lvH V V2) (hh : hiV V) (e : ∀ q, 130 ≤ q → N q = kpS V q) (e2 : ∀ q, 130 ≤ q → N2 q = kpS V2 q) (hs : lvS N N2) : lvH N N2 := by
  have eh : hN N = min (hN V + 1) 4 := by
    rw [← kpS_hN]
    unfold hN
    rw [e 650 (by omega)]
  refine ⟨hs, ?_, fun j hj1 hj2 => ?_, ?_, fun j hj => ?_⟩
  · rw [e 650 (by omega), e2 650 (by omega), kpS_h, kpS_h, lv_hN h]
  · rw [eh] at hj2
    rcases Nat.lt_or_ge j 2 with z | z
    · refine h.1.cong (fun q hq => ?_) (fun q hq => ?_)
      · show N (130 * j + q) = V q
        rw [e _ (by omega), kpS_p (by omega)]
        exact congrArg V (by omega)
      · show N2 (130 * j + q) = V2 q
        rw [e2 _ (by omega), kpS_p (by omega)]
        exact congrArg V2 (by omega)
    · refine (h.2.2.1 (j - 1) (by omega) (by omega)).cong (fun q hq => ?_) (fun q hq => ?_)
      · show N (130 * j + q) = V (130 * (j - 1) + q)
        rw [e _ (by omega), kpS_p (by omega)]
        exact congrArg V (by omega)
      · show N2 (130 * j + q) = V2 (130 * (j - 1) + q)
        rw [e2 _ (by omega), kpS_p (by omega)]
        exact congrArg V2 (by omega)
  · rw [e 653 (by omega), e2 653 (by omega), kpS_hi (by omega), kpS_hi (by omega)]
    exact h.2.2.2.1
  · rw [e _ (by omega), e2 _ (by omega), kpS_hi (by omega), kpS_hi (by omega)]
    exact h.2.2.2.2 j hj
theorem lvH.cong {V V2 W : mw_M} (h : lvH V V2) (hh : hiV V) (e : ∀ q, q < 651 → W q = V q) (e2 : W 653 = V 653) (e3 : ∀ j, j < 60 → W (1000 + j) = V (1000 + j)) : lvH W V2 := by
  have eh : hN W = hN V := by unfold hN; rw [e 650 (by omega)]
  have hle := hh.2
  refine ⟨h.1.cong (fun q hq => e q (by omega)) (fun _ _ => rfl), by rw [e 650 (by omega)]; exact h.2.1, fun j hj1 hj2 => ?_, by rw [e2]; exact h.2.2.2.1, fun j hj => by rw [e3 j hj]; exact h.2.2.2.2 j hj⟩
  rw [eh] at hj2
  exact (h.2.2.1 j hj1 hj2).cong (fun q hq => e _ (by omega)) (fun _ _ => rfl)
theorem lv_chA {V V2 : mw_M} (h : lvH V V2) (ht : txV V) : prsV V2 = prsV V := by
  have e : chA V2 (tN V) = chA V (tN V) := by
    have hle := ht.2
    funext p
    unfold chA
    by_cases z : p < tN V
    · rw [if_pos z, if_pos z, h.2.2.2.2 p (by omega)]
    · rw [if_neg z, if_neg z]
  unfold prsV
  rw [lv_tN h, e]
/-- what a call answers and leaves, over both -/
def lvR (o o2 : opT) : Prop := o2.1 = o.1 ∧ lvH o.2 o2.2
theorem lvR.mk {x x2 : Int32} {N N2 : mw_M} (h1 : x2 = x) (h2 : lvH N N2) : lvR (x, N) (x2, N2) := ⟨h1, h2⟩
theorem lvR.if_ {V V2 : mw_M} {p p2 : Prop} [Decidable p] [Decidable p2] {o o2 : opT} {x : Int32} (hp : p2 ↔ p) (h : lvH V V2) (k : p → lvR o o2) : lvR (if p then o else (x, V)) (if p2 then o2 else (x, V2)) := by
  by_cases z : p
  · rw [if_pos z, if_pos (hp.mpr z)]
    exact k z
  · rw [if_neg z, if_neg (fun w => z (hp.mp w))]
    exact ⟨rfl, h⟩
theorem lv_columns {V V2 : mw_M} (h : lvH V V2) (i : invV V) (i2 : invV V2) (x y : Int32) : lvR (op_columns V x y) (op_columns V2 x y) := by
  unfold op_columns
  refine lvR.if_ Iff.rfl h (fun z => ?_)
  have hd := dN_lt x
  have o : ∀ W : mw_M, ∀ q, 130 ≤ q → s_zero (upd (upd (kpS W) (dN x) y) (2 + dN x) 0) (100 + 12 * dN x) q = kpS W q := fun W q hq => by rw [zero_o (by omega), upd_o (by omega), upd_o (by omega)]
  refine lvR.mk (h.1.1 _ (by omega)) (h.kp i.2.1 (o V) (o V2) ⟨fun q hq => zero_cg (upd_cg (upd_cg ((lv_kp h).1 q hq))), fun q h1 h2 => zero_cg (upd_cg (upd_cg ((lv_kp h).2.1 q h1 h2))), fun d hd2 k hk hl c hc => ?_⟩)
  rw [zero_o (by omega)] at hl
  by_cases e : d = dN x
  · subst e
    rw [upd_s] at hl
    exact absurd (nI_pos' (n := k) (by omega)) hl
  · rw [upd_o (by omega), upd_o (by omega)] at hl
    rw [zero_o (by omega), zero_o (by omega), upd_o (by omega), upd_o (by omega), upd_o (by omega), upd_o (by omega)]
    exact (lv_kp h).2.2 d hd2 k hk hl c hc
theorem add_new {W : mw_M} {d n c2 : Nat} {x y z w : Int32} (hc : c2 < 4) (hd : d < 2) : s_add W d n x y z w (4 + 48 * d + (4 * n + c2)) = if c2 = 0 then x else if c2 = 1 then y else if c2 = 2 then z else w := by
  unfold s_add
  rcases (show c2 = 0 ∨ c2 = 1 ∨ c2 = 2 ∨ c2 = 3 by omega) with rfl | rfl | rfl | rfl
  · rw [upd_o (by omega), upd_o (by omega), upd_o (by omega), upd_o (by omega), upd_at (by omega)]
    rfl
  · rw [upd_o (by omega), upd_o (by omega), upd_o (by omega), upd_at (by omega)]
    rfl
  · rw [upd_o (by omega), upd_o (by omega), upd_at (by omega)]
    rfl
  · rw [upd_o (by omega), upd_at (by omega)]
    rfl
theorem lv_card {V V2 : mw_M} (h : lvH V V2) (i : invV V) (i2 : invV V2) (x a b c d : Int32) : lvR (op_card V x a b c d) (op_card V2 x a b c d) := by
  have hd := dN_lt x
  have e2 : V2 (2 + dN x) = V (2 + dN x) := h.1.1 _ (by omega)
  unfold op_card
  refine lvR.if_ Iff.rfl h (fun z => lvR.if_ (by rw [e2]) h (fun k2 => ?_))
  have hz := (szD i.1 x).n
  have hn : nN V (dN x) < 12 := by
    rw [hz.1] at k2
    exact (nI_ltI (b := 12) (by omega) (by omega)).mp k2
  have o : ∀ W : mw_M, ∀ q, 130 ≤ q → s_add (kpS W) (dN x) (nN V (dN x)) a b c d q = kpS W q := fun W q hq => by
    unfold s_add
    rw [upd_o (by omega), upd_o (by omega), upd_o (by omega), upd_o (by omega), upd_o (by omega)]
  have cg : ∀ q, kpS V2 q = kpS V q → s_add (kpS V2) (dN x) (nN V (dN x)) a b c d q = s_add (kpS V) (dN x) (nN V (dN x)) a b c d q := fun q hq => by
    unfold s_add
    exact upd_cg (upd_cg (upd_cg (upd_cg (upd_cg hq))))
  refine lvR.mk e2 ?_
  show lvH (s_add (kpS V) (dN x) (nN V (dN x)) a b c d) (s_add (kpS V2) (dN x) (nN V2 (dN x)) a b c d)
  rw [h.1.nn hd]
  refine h.kp i.2.1 (o V) (o V2) ⟨fun q hq => cg q ((lv_kp h).1 q hq), fun q h1 h2 => cg q ((lv_kp h).2.1 q h1 h2), fun d2 hd2 k hk hl c2 hc2 => ?_⟩
  by_cases e : d2 = dN x ∧ k = nN V (dN x)
  · obtain ⟨e, ek⟩ := e
    subst e
    subst ek
    rw [add_new hc2 hd, add_new hc2 hd]
  · refine cg _ ((lv_kp h).2.2 d2 hd2 k hk ?_ c2 hc2)
    by_cases e3 : d2 = dN x
    · subst e3
      have hl2 : ¬ nI (nN V (dN x) + 1) ≤ nI k := by
        intro w
        apply hl
        unfold s_add
        rw [upd_s]
        exact w
      rw [kpS_lo (by omega), hz.1]
      refine nI_ge ?_ (by omega)
      have : k < nN V (dN x) + 1 := by
        rcases Nat.lt_or_ge k (nN V (dN x) + 1) with w | w
        · exact w
        · exact absurd (nI_le w (by omega)) hl2
      omega
    · intro w
      apply hl
      unfold s_add
      rw [upd_o (by omega), upd_o (by omega), upd_o (by omega), upd_o (by omega), upd_o (by omega)]
      exact w
theorem lv_live {V V2 : mw_M} (h : lvS V V2) (i : wfV V) {x k c : Int32} (hp : placeP V x k c) : V2 (posS x k c) = V (posS x k c) := by
  have hz := szD i x
  have a := hk_nI hz hp.2
  have b := hc_nI hz hp.1.2
  exact h.2.2 (dN x) (dN_lt x) _ a.2 (by rw [← a.1]; exact hp.2.2) _ b.2
theorem lv_place {V V2 : mw_M} (h : lvS V V2) {x k c : Int32} : placeP V2 x k c ↔ placeP V x k c := by
  unfold placeP cellP
  rw [h.hk (dN_lt x), h.hc (dN_lt x)]
theorem lv_put {V V2 : mw_M} (h : lvH V V2) (i : invV V) (i2 : invV V2) (x k c v : Int32) : lvR (op_put V x k c v) (op_put V2 x k c v) := by
  unfold op_put
  refine lvR.if_ (by rw [lv_place h.1]) h (fun z => ?_)
  have hp := pos_in i.1 z.1
  exact lvR.mk (lv_live h.1 i.1 z.1) (h.kp i.2.1 (fun q hq => upd_o (by omega)) (fun q hq => upd_o (by omega)) ⟨fun q hq => upd_cg ((lv_kp h).1 q hq), fun q h1 h2 => upd_cg ((lv_kp h).2.1 q h1 h2), fun d hd2 k2 hk hl c2 hc => upd_cg ((lv_kp h).2.2 d hd2 k2 hk (by rw [upd_o (by omega)] at hl; exact hl) c2 hc)⟩)
theorem lv_valueOf {V V2 : mw_M} (h : lvH V V2) (i : invV V) (i2 : invV V2) (x k c : Int32) : lvR (op_valueOf V x k c) (op_valueOf V2 x k c) := by
  unfold op_valueOf
  exact lvR.if_ (lv_place h.1) h (fun z => lvR.mk (lv_live h.1 i.1 z) h)
theorem o_hi {W W0 : mw_M} {x : Nat} {n k m q : Nat} (h1 : 100 ≤ q) (hd : x < 2) (hm : m ≤ 44) : s_rem W x n k m q = W q := by
  unfold s_rem
  rw [if_neg (by omega), if_neg (by omega)]
theorem lv_drop {V V2 : mw_M} (h : lvH V V2) (i : invV V) (i2 : invV V2) (x k : Int32) : lvR (op_drop V x k) (op_drop V2 x k) := by
  have hd := dN_lt x
  unfold op_drop
  refine lvR.if_ (by rw [h.1.hk hd]) h (fun z => ?_)
  rw [h.1.nn hd]
  have hz := (szD i.1 x).n
  have o : ∀ W : mw_M, ∀ q, 130 ≤ q → s_rem (kpS W) (dN x) (nN V (dN x)) k.toNatClampNeg (4 * (nN V (dN x) - 1)) q = kpS W q := fun W q hq => by
    unfold s_rem
    rw [if_neg (by omega), if_neg (by omega)]
  have ou : ∀ W : mw_M, ∀ q, ¬ (4 ≤ q ∧ q < 100) → W q = W q → ¬ q = 2 + dN x → s_rem (kpS W) (dN x) (nN V (dN x)) k.toNatClampNeg (4 * (nN V (dN x) - 1)) q = kpS W q := fun W q hq _ hq2 => by
    unfold s_rem
    rw [if_neg (by omega), if_neg hq2]
  refine lvR.mk rfl (h.kp i.2.1 (o V) (o V2) ⟨fun q hq => ?_, fun q h1 h2 => ?_, fun d hd2 k2 hk hl c2 hc => ?_⟩)
  · by_cases e : q = 2 + dN x
    · rw [e, rem_n9, rem_n9]
    · rw [ou V q (by omega) rfl e, ou V2 q (by omega) rfl e]
      exact (lv_kp h).1 q hq
  · rw [o_hi (W0 := V) h1 hd (by omega), o_hi (W0 := V) h1 hd (by omega)]
    exact (lv_kp h).2.1 q h1 h2
  · by_cases e : d = dN x
    · subst e
      rw [rem_n9] at hl
      have hk3 : k2 < nN V (dN x) - 1 := by
        rcases Nat.lt_or_ge k2 (nN V (dN x) - 1) with w | w
        · exact w
        · exact absurd (nI_le w (by omega)) hl
      unfold s_rem
      by_cases z2 : 4 + 48 * dN x + 4 * k.toNatClampNeg ≤ 4 + 48 * dN x + (4 * k2 + c2) ∧ 4 + 48 * dN x + (4 * k2 + c2) < 4 + 48 * dN x + 4 * (nN V (dN x) - 1)
      · rw [if_pos z2, if_pos z2, show 4 + 48 * dN x + (4 * k2 + c2) + 4 = 4 + 48 * dN x + (4 * (k2 + 1) + c2) by omega]
        exact (lv_kp h).2.2 (dN x) hd (k2 + 1) (by omega) (by rw [kpS_lo (by omega), hz.1]; exact nI_ge (by omega) (by omega)) c2 hc
      · rw [if_neg z2, if_neg z2, if_neg (by omega), if_neg (by omega)]
        exact (lv_kp h).2.2 (dN x) hd k2 hk (by rw [kpS_lo (by omega), hz.1]; exact nI_ge (by omega) (by omega)) c2 hc
    · unfold s_rem at hl ⊢
      rw [if_neg (by omega), if_neg (by omega)] at hl
      rw [if_neg (by omega), if_neg (by omega), if_neg (by omega), if_neg (by omega)]
      exact (lv_kp h).2.2 d hd2 k2 hk hl c2 hc
theorem lv_cell {V V2 : mw_M} (h : lvH V V2) (i : invV V) (i2 : invV V2) (x c k a b : Int32) : lvR (op_cell V x c k a b) (op_cell V2 x c k a b) := by
  have hd := dN_lt x
  unfold op_cell
  refine lvR.if_ (by unfold cellP; rw [h.1.hc hd]) h (fun z => ?_)
  have hc := hc_nI (szD i.1 x) z.1.2
  exact lvR.mk (h.1.2.1 _ (by omega) (by omega)) (h.kp i.2.1 (fun q hq => by rw [upd_o (by omega), upd_o (by omega), upd_o (by omega)]) (fun q hq => by rw [upd_o (by omega), upd_o (by omega), upd_o (by omega)]) ((lv_kp h).up (fun q hq => by rw [upd_o (by omega), upd_o (by omega), upd_o (by omega)]) (fun q hq => by rw [upd_o (by omega), upd_o (by omega), upd_o (by omega)]) (fun q h1 h2 => upd_cg (upd_cg (upd_cg ((lv_kp h).2.1 q h1 h2))))))
theorem lv_clear {V V2 : mw_M} (h : lvH V V2) (i : invV V) (i2 : invV V2) (x : Int32) : lvR (op_clear V x) (op_clear V2 x) := by
  have hd := dN_lt x
  unfold op_clear
  refine lvR.if_ Iff.rfl h (fun z => ?_)
  exact lvR.mk (congrArg nI (h.1.oth hd)) (h.kp i.2.1 (fun q hq => zero_o (by omega)) (fun q hq => zero_o (by omega)) ((lv_kp h).up (fun q hq => zero_o (by omega)) (fun q hq => zero_o (by omega)) (fun q h1 h2 => zero_cg ((lv_kp h).2.1 q h1 h2))))
theorem lv_both {V V2 : mw_M} (h : lvH V V2) (i : invV V) (i2 : invV V2) (x : Int32) : lvR (op_both V x) (op_both V2 x) := by
  unfold op_both
  refine lvR.if_ Iff.rfl h (fun z => ?_)
  exact lvR.mk (h.1.2.1 _ (by omega) (by omega)) (h.kp i.2.1 (fun q hq => upd_o (by omega)) (fun q hq => upd_o (by omega)) ((lv_kp h).up (fun q hq => upd_o (by omega)) (fun q hq => upd_o (by omega)) (fun q h1 h2 => upd_cg ((lv_kp h).2.1 q h1 h2))))
theorem lv_order {V V2 : mw_M} (h : lvH V V2) (i : invV V) (i2 : invV V2) (x c d : Int32) : lvR (op_order V x c d) (op_order V2 x c d) := by
  have hd := dN_lt x
  unfold op_order
  refine lvR.if_ Iff.rfl h (fun z => ?_)
  have o : ∀ W : mw_M, ∀ q, (q < 100 ∨ 130 ≤ q) → ordN W x c d q = kpS W q := fun W q hq => by
    unfold ordN
    rw [upd_o (by omega), upd_o (by omega)]
  have hs : lvS (ordN V x c d) (ordN V2 x c d) := (lv_kp h).up (fun q hq => o V q (Or.inl hq)) (fun q hq => o V2 q (Or.inl hq)) (fun q h1 h2 => by
    unfold ordN
    exact upd_cg (upd_cg ((lv_kp h).2.1 q h1 h2)))
  exact lvR.mk (hs.many (wf_ord i.1 z.2.1 z.2.2).wfR) (h.kp i.2.1 (fun q hq => o V q (Or.inr hq)) (fun q hq => o V2 q (Or.inr hq)) hs)
theorem lv_show {V V2 : mw_M} (h : lvH V V2) (i : invV V) (i2 : invV V2) (x : Int32) : lvR (op_show V x) (op_show V2 x) := by
  unfold op_show
  refine lvR.if_ Iff.rfl h (fun z => ?_)
  have hs : lvS (upd (kpS V) 129 x) (upd (kpS V2) 129 x) := (lv_kp h).up (fun q hq => upd_o (by omega)) (fun q hq => upd_o (by omega)) (fun q h1 h2 => upd_cg ((lv_kp h).2.1 q h1 h2))
  exact lvR.mk (hs.unl (wf_shw i.1).wfR) (h.kp i.2.1 (fun q hq => upd_o (by omega)) (fun q hq => upd_o (by omega)) hs)
theorem lv_cellOf {V V2 : mw_M} (h : lvH V V2) (i : invV V) (i2 : invV V2) (x c w : Int32) : lvR (op_cellOf V x c w) (op_cellOf V2 x c w) := by
  have hd := dN_lt x
  unfold op_cellOf
  refine lvR.if_ (by unfold cellP; rw [h.1.hc hd]) h (fun z => lvR.mk ?_ h)
  have hz := szD i.1 x
  have hc := hc_nI hz z.1.2
  show cofI V2 (dN x) c.toNatClampNeg w = cofI V (dN x) c.toNatClampNeg w
  have e : cntB (s_cf V2 (dN x) c.toNatClampNeg) (nN V (dN x)) = cntB (s_cf V (dN x) c.toNatClampNeg) (nN V (dN x)) := cntB_c (fun j hj => by
    unfold s_cf
    rw [h.1.2.1 _ (by omega) (by omega), h.1.2.1 _ (by omega) (by omega), h.1.2.1 _ (by omega) (by omega), h.1.ent hd hz])
  unfold cofI
  rw [h.1.2.1 _ (by omega) (by omega), h.1.2.1 _ (by omega) (by omega), h.1.2.1 _ (by omega) (by omega), h.1.nn hd, e]
theorem lv_many {V V2 : mw_M} (h : lvH V V2) (i : invV V) (i2 : invV V2) : lvR (op_many V) (op_many V2) := lvR.mk (h.1.many i.1.wfR) h
theorem lv_unlike {V V2 : mw_M} (h : lvH V V2) (i : invV V) (i2 : invV V2) : lvR (op_unlike V) (op_unlike V2) := lvR.mk (h.1.unl i.1.wfR) h
theorem lv_row {V V2 : mw_M} (h : lvH V V2) (i : invV V) (i2 : invV V2) (x w : Int32) : lvR (op_row V x w) (op_row V2 x w) := by
  have hR := i.1.wfR
  unfold op_row
  refine lvR.if_ Iff.rfl h (fun z => lvR.mk ?_ h)
  show (if x < manyI V2 then rowI V2 ((srtS V2 (lstS V2 8)).getD x.toNatClampNeg 0) w else -14) = (if x < manyI V then rowI V ((srtS V (lstS V 8)).getD x.toNatClampNeg 0) w else -14)
  rw [h.1.many hR, h.1.lst hR, h.1.srts hR]
  by_cases hx : x < manyI V
  · rw [if_pos hx, if_pos hx]
    obtain ⟨ix, hixl, hixe, hixc⟩ := ix_lt z.1 hx (by have := lstS_len (lo := 8) hR; omega)
    rw [hixc]
    have hv := (srt_row hR hixl).2
    have ec : colI V2 w = colI V w := by
      unfold colI
      rw [h.1.tels]
    unfold rowI
    simp only [ec, h.1.2.1 124 (by omega) (by omega)]
    by_cases ha : askP V (colI V w)
    · obtain ⟨c, hc, e⟩ := ask_nI hR.2.1 ha
      rw [if_pos ha, if_pos (h.1.ask.mpr ha), e, nI_clamp (by omega)]
      rw [e] at ha
      rw [h.1.col hc hv ha]
    · rw [if_neg ha, if_neg (fun q => ha (h.1.ask.mp q))]
  · rw [if_neg hx, if_neg hx]
theorem lv_total {V V2 : mw_M} (h : lvH V V2) (i : invV V) (i2 : invV V2) (c w : Int32) : lvR (op_total V c w) (op_total V2 c w) := by
  have hR := i.1.wfR
  unfold op_total
  refine lvR.if_ Iff.rfl h (fun z => lvR.mk ?_ h)
  show (if askP V2 c then totS (vlS V2 c.toNatClampNeg (lstS V2 8)) (lstS V2 8).length w else -14) = (if askP V c then totS (vlS V c.toNatClampNeg (lstS V 8)) (lstS V 8).length w else -14)
  rw [h.1.lst hR]
  by_cases ha : askP V c
  · rw [if_pos ha, if_pos (h.1.ask.mpr ha)]
    obtain ⟨cc, hc, e⟩ := ask_nI hR.2.1 ha
    rw [e] at ha
    rw [e, nI_clamp (by omega)]
    refine tot_cg (fun j hj => ?_) w
    exact h.1.col hc (valP_row hR (getD_mem hj)).2 ha
  · rw [if_neg ha, if_neg (fun q => ha (h.1.ask.mp q))]
theorem lv_cards {V V2 : mw_M} (h : lvH V V2) (i : invV V) (i2 : invV V2) (x : Int32) : lvR (op_cards V x) (op_cards V2 x) := by
  have hR := i.1.wfR
  unfold op_cards
  refine lvR.if_ Iff.rfl h (fun z => lvR.mk ?_ h)
  rw [h.1.lst hR, h.1.2.1 124 (by omega) (by omega)]
theorem lv_why {V V2 : mw_M} (h : lvH V V2) (i : invV V) (i2 : invV V2) (f g : Int32) : lvR (op_why V f g) (op_why V2 f g) := by
  have hR := i.1.wfR
  unfold op_why
  refine lvR.if_ (by unfold secP; rw [h.1.hk (by omega), h.1.hk (by omega), h.1.2.1 124 (by omega) (by omega)]) h (fun z => lvR.mk ?_ h)
  obtain ⟨a, b, e1, e2, e3, e4, hv⟩ := secP_val hR z.1 z.2
  show (if misS V2 8 f.toNatClampNeg g.toNatClampNeg < 8 then nI (misS V2 8 f.toNatClampNeg g.toNatClampNeg) else -14) = (if misS V 8 f.toNatClampNeg g.toNatClampNeg < 8 then nI (misS V 8 f.toNatClampNeg g.toNatClampNeg) else -14)
  rw [e3, e4, h.1.mis hv]
theorem lv_tightest {V V2 : mw_M} (h : lvH V V2) (i : invV V) (i2 : invV V2) (w : Int32) : lvR (op_tightest V w) (op_tightest V2 w) := by
  unfold op_tightest
  refine lvR.if_ Iff.rfl h (fun z => lvR.mk ?_ h)
  rw [h.1.tgf i.1.wfR]
theorem lv_count {V V2 : mw_M} (h : lvH V V2) (i : invV V) (i2 : invV V2) (w : Int32) : lvR (op_count V w) (op_count V2 w) := by
  refine lvR.mk ?_ h
  show cntI V2 w = cntI V w
  unfold cntI
  rw [h.1.1 0 (by omega), h.1.1 1 (by omega), h.1.1 2 (by omega), h.1.1 3 (by omega), h.1.2.1 124 (by omega) (by omega), h.1.oth (by omega), h.1.oth (by omega), h.1.2.1 129 (by omega) (by omega), h.2.1, h.2.2.2.1, h.1.2.1 125 (by omega) (by omega), h.1.2.1 127 (by omega) (by omega), h.1.2.1 126 (by omega) (by omega), h.1.2.1 128 (by omega) (by omega)]
theorem lv_undo {V V2 : mw_M} (h : lvH V V2) (i : invV V) (i2 : invV V2) : lvR (op_undo V) (op_undo V2) := by
  unfold op_undo
  by_cases z : V 650 = 0
  · rw [if_pos z, if_pos (h.2.1.trans z)]
    exact lvR.mk rfl h
  · rw [if_neg z, if_neg (fun w => z (h.2.1.symm.trans w))]
    have h1 : 1 ≤ hN V := by
      rcases Nat.eq_zero_or_pos (hN V) with w | w
      · exact absurd (by rw [i.2.1.1, w]; rfl) z
      · exact w
    have hle := i.2.1.2
    refine lvR.mk (by rw [lv_hN h]) ?_
    rw [lv_hN h]
    refine ⟨(h.2.2.1 1 (by omega) h1).cong (fun q hq => ?_) (fun q hq => ?_), rfl, fun j hj1 hj2 => ?_, ?_, fun j hj => ?_⟩
    · show s_rest V (hN V) q = V (130 * 1 + q)
      rw [rest_lo (by omega)]
      exact congrArg V (by omega)
    · show s_rest V2 (hN V) q = V2 (130 * 1 + q)
      rw [rest_lo (by omega)]
      exact congrArg V2 (by omega)
    · have hj3 : j ≤ hN V - 1 := by
        rw [← rest_hN i.2.1]
        exact hj2
      refine (h.2.2.1 (j + 1) (by omega) (by omega)).cong (fun q hq => ?_) (fun q hq => ?_)
      · show s_rest V (hN V) (130 * j + q) = V (130 * (j + 1) + q)
        rw [rest_lo (by omega)]
        exact congrArg V (by omega)
      · show s_rest V2 (hN V) (130 * j + q) = V2 (130 * (j + 1) + q)
        rw [rest_lo (by omega)]
        exact congrArg V2 (by omega)
    · rw [rest_hi (by omega), rest_hi (by omega)]
      exact h.2.2.2.1
    · rw [rest_hi (by omega), rest_hi (by omega)]
      exact h.2.2.2.2 j hj
theorem lvH.tx {V V2 N N2 : mw_M} (h : lvH V V2) (i : hiV V) (e : ∀ q, q < 651 → N q = V q) (e2 : ∀ q, q < 651 → N2 q = V2 q) (h3 : N2 653 = N 653) (h4 : ∀ j, j < 60 → N2 (1000 + j) = N (1000 + j)) : lvH N N2 := by
  have eh : hN N = hN V := by unfold hN; rw [e 650 (by omega)]
  have hle := i.2
  refine ⟨h.1.cong (fun q hq => e q (by omega)) (fun q hq => e2 q (by omega)), by rw [e 650 (by omega), e2 650 (by omega)]; exact h.2.1, fun j hj1 hj2 => ?_, h3, h4⟩
  rw [eh] at hj2
  exact (h.2.2.1 j hj1 hj2).cong (fun q hq => e _ (by omega)) (fun q hq => e2 _ (by omega))
theorem lv_type {V V2 : mw_M} (h : lvH V V2) (i : invV V) (i2 : invV V2) (x : Int32) : lvR (op_type V x) (op_type V2 x) := by
  unfold op_type
  refine lvR.if_ Iff.rfl h (fun z => lvR.if_ (by rw [h.2.2.2.1]) h (fun k2 => ?_))
  rw [lv_tN h]
  have hle := i.2.2.1.2
  exact lvR.mk rfl (h.tx i.2.1 (fun q hq => by rw [upd_o (by omega), upd_o (by omega)]) (fun q hq => by rw [upd_o (by omega), upd_o (by omega)]) (by rw [upd_s, upd_s]) (fun j hj => upd_cg (upd_cg (h.2.2.2.2 j hj))))
theorem lv_clearText {V V2 : mw_M} (h : lvH V V2) (i : invV V) (i2 : invV V2) : lvR (op_clearText V) (op_clearText V2) :=
  lvR.mk h.2.2.2.1 (h.tx i.2.1 (fun q hq => upd_o (by omega)) (fun q hq => upd_o (by omega)) (by rw [upd_s, upd_s]) (fun j hj => upd_cg (h.2.2.2.2 j hj)))
theorem lv_fault {V V2 : mw_M} (h : lvH V V2) (i : invV V) (i2 : invV V2) (w : Int32) : lvR (op_fault V w) (op_fault V2 w) := by
  unfold op_fault
  refine lvR.if_ Iff.rfl h (fun z => lvR.mk ?_ h)
  rw [lv_chA h i.2.2.1]
theorem lv_read {V V2 : mw_M} (h : lvH V V2) (i : invV V) (i2 : invV V2) (x : Int32) : lvR (op_read V x) (op_read V2 x) := by
  have hd := dN_lt x
  have ep := lv_chA h i.2.2.1
  unfold op_read
  refine lvR.if_ Iff.rfl h (fun z => lvR.if_ (by rw [ep, h.1.1 (dN x) (by omega)]) h (fun k2 => ?_))
  have o : ∀ W : mw_M, ∀ q, (q < 100 ∨ 130 ≤ q) → redN W x q = kpS W q := fun W q hq => by
    unfold redN
    exact exa_lo (by omega)
  have hs : lvS (redN V x) (redN V2 x) := (lv_kp h).up (fun q hq => o V q (Or.inl hq)) (fun q hq => o V2 q (Or.inl hq)) (fun q h1 h2 => by
    unfold redN exaS
    rw [ep, (lv_kp h).2.1 q h1 h2])
  exact lvR.mk (hs.many (red_wfV i.1 k2.2).wfR) (h.kp i.2.1 (fun q hq => o V q (Or.inr hq)) (fun q hq => o V2 q (Or.inr hq)) hs)
/-! between two calls -/
def lwV (M V : mw_M) : Prop := invV M ∧ invV V ∧ relO M V ∧ lvH M V
def lwJ (M : mw_M) : Prop := ∃ V, lwV M V
theorem lw_mid2 {M V M2 N : mw_M} (h : lwV M V) (ho : okN M N) (h2 : clO M2 N) : relO M2 V := by
  have e : ∀ q, 1100 ≤ q → M2 q = M q := fun q hq => (h2 q (by unfold clS; omega)).trans (ho.2 q hq)
  have hr := h.2.2.1
  exact ⟨fun k hk => (e _ (by omega)).trans (hr.1 k hk), ⟨(e _ (by omega)).trans hr.2.1.1, fun i hi k hk => (e _ (by omega)).trans (hr.2.1.2 i hi k hk)⟩, (e _ (by omega)).trans hr.2.2.1, fun j hj => (e _ (by omega)).trans (hr.2.2.2 j hj)⟩
theorem inv_cl {N M3 : mw_M} (ho : invV N) (e : ∀ q, q < 1100 → ¬ clS q → M3 q = N q) : invV M3 := by
  have c0 : ∀ q, q < 651 → ¬ clS q := fun q hq => by unfold clS; omega
  have hi : hN M3 = hN N := by
    unfold hN
    rw [e 650 (by omega) (c0 _ (by omega))]
  have hle := ho.2.1.2
  have t : tN M3 = tN N := by
    unfold tN
    rw [e 653 (by omega) (by unfold clS; omega)]
  refine ⟨wf_ext ho.1 (fun q hq => e q (by omega) (c0 _ (by omega))), ⟨by rw [hi, e 650 (by omega) (c0 _ (by omega))]; exact ho.2.1.1, by rw [hi]; exact hle⟩, ⟨by rw [t, e 653 (by omega) (by unfold clS; omega)]; exact ho.2.2.1.1, by rw [t]; exact ho.2.2.1.2⟩, fun j hj1 hj2 => ?_⟩
  rw [hi] at hj2
  refine wf_ext (ho.2.2.2 j hj1 hj2) (fun q hq => ?_)
  exact e (130 * j + q) (by omega) (c0 _ (by omega))
theorem lw_step2 {M V M2 M3 : mw_M} {o o2 : opT} (h : lwV M V) (ho : okN M o.2) (ho2 : okN V o2.2) (hr : lvR o o2) (h2 : clO M2 o.2) (h3 : relO M3 o2.2) (h4 : rfO M2 M3) : lwJ M3 := by
  have e : ∀ q, q < 1100 → ¬ clS q → M3 q = o.2 q := fun q hq hc => (h4 q hq).trans (h2 q hc)
  exact ⟨o2.2, inv_cl ho.1 e, ho2.1, h3, hr.2.cong ho.1.2.1 (fun q hq => e q (by omega) (by unfold clS; omega)) (e 653 (by omega) (by unfold clS; omega)) (fun j hj => e _ (by omega) (by unfold clS; omega))⟩
