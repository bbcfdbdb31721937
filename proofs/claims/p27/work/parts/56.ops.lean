/-! the class's changes beside the law's own numbers -/
theorem inv_cl {N M3 : mw_M} (ho : invV N) (e : ∀ q, q < 1100 → ¬ clS q → M3 q = N q) : invV M3 := by
  have c0 : ∀ q, q < 651 → ¬ clS q := fun q hq => by unfold clS; omega
  have hi : hN M3 = hN N := by
    unfold hN
    rw [e 650 (by omega) (c0 _ (by omega))]
  have hle := ho.2.1.2
  have t : tN M3 = tN N := by
    unfold tN
    rw [e 653 (by omega) (by unfold clS; omega)]
  refine ⟨wf_ext ho.1 (fun q hq => e q (by omega) (c0 _ (by omega))), ⟨by rw [hi, e 650 (by omega) (c0 _ (by omega))]; exact ho.2.1.1, by rw [hi]; exact hle⟩, ⟨by rw [t, e 653 (by omega) (by unfold clS; omega)]; exact ho.2.2.1.1, by rw [t]; exact ho.2.2.1.2⟩, fun j hj1 hj2 => ?_⟩
  rw [hi] at hj2
  refine wf_ext (ho.2.2.2 j hj1 hj2) (fun q hq => ?_)
  exact e (130 * j + q) (by omega) (c0 _ (by omega))
theorem dN_d {d : Nat} (h : d < 2) : dN (nI d) = d := by
  rcases (show d = 0 ∨ d = 1 by omega) with rfl | rfl <;> decide
theorem bit_d {d : Nat} (h : d < 2) : bitP (nI d) := by
  rcases (show d = 0 ∨ d = 1 by omega) with rfl | rfl
  · exact Or.inl rfl
  · exact Or.inr rfl
/-- the class's part of the memory is the same -/
def loM (M M2 : mw_M) : Prop := ∀ q, q < 1100 → M2 q = M q
theorem loM.rf {M : mw_M} : loM M M := fun _ _ => rfl
theorem loM.u {M M2 : mw_M} (h : loM M M2) {k : Nat} {x : Int32} (hk : 1100 ≤ k) : loM M (upd M2 k x) := fun q hq => by rw [upd_o (by omega)]; exact h q hq
theorem loM.tr {M M2 M3 : mw_M} (h : loM M M2) (h2 : loM M2 M3) : loM M M3 := fun q hq => (h2 q hq).trans (h q hq)
theorem loM.inv {M M2 : mw_M} (h : loM M M2) (hi : invV M) : invV M2 := inv_cl hi (fun q hq _ => h q hq)
theorem loM.eq {M M2 : mw_M} (h : loM M M2) : eqS M M2 := fun q hq => h q (by omega)
theorem loM.kp {M M2 : mw_M} (h : loM M M2) : ∀ q, q < 130 → kpS M2 q = M q := fun q hq => (kpS_lo hq).trans (h q (by omega))
theorem lgR.congr {L L2 S S2 : mw_M} (h : lgR L S) (hl : ∀ q, 1100 ≤ q → q < 1110 → L2 q = L q) (hs : ∀ q, q < 4 ∨ (124 ≤ q ∧ q < 130) → S2 q = S q) : lgR L2 S2 :=
  ⟨fun k hk => by rw [hl _ (by omega) (by omega), hs _ (by omega)]; exact h.1 k hk, by rw [hl _ (by omega) (by omega), hs _ (by omega)]; exact h.2.1, fun k hk => by rw [hl _ (by omega) (by omega), hs _ (by omega)]; exact h.2.2.1 k hk, by rw [hl _ (by omega) (by omega), hs _ (by omega)]; exact h.2.2.2⟩
theorem lvR.congr {L L2 S S2 : mw_M} (h : lvR L S) (hl : ∀ q, 1200 ≤ q → q < 1224 → L2 q = L q) (hs : ∀ q, 2 ≤ q → q < 100 → S2 q = S q) : lvR L2 S2 := fun d k hd hk hz => by
  rw [hs _ (by omega) (by omega)] at hz
  obtain ⟨u, h1, h2, h3⟩ := h d k hd hk hz
  exact ⟨u, h1, fun c hc => by rw [hs _ (by omega) (by omega)]; exact h2 c hc, by rw [hl _ (by omega) (by omega)]; exact h3⟩
theorem lcR.congr {L L2 S S2 : mw_M} (h : lcR L S) (hl : ∀ q, 1300 ≤ q → q < 1330 → L2 q = L q) (hs : ∀ q, 100 ≤ q → q < 124 → S2 q = S q) : lcR L2 S2 := fun c hc => by
  obtain ⟨h1, h2, h3⟩ := h c hc
  refine ⟨?_, ?_, ?_⟩
  · rw [hl _ (by omega) (by omega), hs _ (by omega) (by omega)]; exact h1
  · rw [hl _ (by omega) (by omega), hs _ (by omega) (by omega)]; exact h2
  · rw [hl _ (by omega) (by omega), hs _ (by omega) (by omega)]; exact h3
theorem lrel.cong {L L2 S S2 : mw_M} (h : lrel L S) (hl : ∀ q, 1100 ≤ q → L2 q = L q) (hs : ∀ q, q < 130 → S2 q = S q) : lrel L2 S2 :=
  ⟨h.1.congr (fun q h1 _ => hl q h1) (fun q h1 => hs q (by omega)), h.2.1.congr (fun q h1 _ => hl q (by omega)) (fun q _ h1 => hs q (by omega)), h.2.2.congr (fun q h1 _ => hl q (by omega)) (fun q _ h1 => hs q (by omega))⟩
/-- what holds of both, but for the text -/
def wdP (S : mw_M) : Prop := ∀ d, d < 2 → ∃ w, 1 ≤ w ∧ w ≤ 4 ∧ S d = nI w
theorem wdP.congr {S S2 : mw_M} (h : wdP S) (e : ∀ q, q < 2 → S2 q = S q) : wdP S2 := fun d hd => by
  obtain ⟨w, h1, h2, h3⟩ := h d hd
  exact ⟨w, h1, h2, (e d hd).trans h3⟩
def lin0 (M : mw_M) : Prop := invV M ∧ lrel M M ∧ wdP M
def linv (M : mw_M) : Prop := lin0 M ∧ M 653 = 0
theorem lstep {M N M2 : mw_M} (ok : okN M N) (cl : clO M2 N) (hr : lrel M N) (hwd : wdP N) : lin0 M2 := by
  refine ⟨inv_cl ok.1 (fun q _ hq => cl q hq), hr.cong (fun q hq => ?_) (fun q hq => cl q (by unfold clS; omega)), hwd.congr (fun q hq => cl q (by unfold clS; omega))⟩
  rw [cl q (by unfold clS; omega)]
  exact ok.2 q hq
theorem cl_653 {M2 N : mw_M} (cl : clO M2 N) : M2 653 = N 653 := cl 653 (by unfold clS; omega)
/-- a call that changes nothing -/
theorem lsame {M M2 : mw_M} (h : lin0 M) (cl : clO M2 M) : lin0 M2 := lstep (okN.rf h.1) cl h.2.1 h.2.2
theorem lsame1 {M M2 : mw_M} (h : linv M) (cl : clO M2 M) : linv M2 := ⟨lsame h.1 cl, (cl_653 cl).trans h.2⟩
theorem lsameR {M M2 S : mw_M} (h : lrel M S) (cl : clO M2 M) : lrel M2 S := h.cong (fun q hq => cl q (by unfold clS; omega)) (fun _ _ => rfl)
/-! cells of an example, laid one by one -/
abbrev celT : Type := Int32 × Int32 × Int32
def setC (S : mw_M) (d : Nat) (f : Nat → celT) (i : Nat) : mw_M := fun q => if 100 + 12 * d ≤ q ∧ q < 100 + 12 * d + 3 * i then (if (q - (100 + 12 * d)) % 3 = 0 then (f ((q - (100 + 12 * d)) / 3)).1 else if (q - (100 + 12 * d)) % 3 = 1 then (f ((q - (100 + 12 * d)) / 3)).2.1 else (f ((q - (100 + 12 * d)) / 3)).2.2) else S q
theorem setC_0 {S : mw_M} {d : Nat} {f : Nat → celT} : setC S d f 0 = S := by
  funext q
  unfold setC
  rw [if_neg (by omega)]
theorem setC_o {S : mw_M} {d i q : Nat} {f : Nat → celT} (h : ¬ (100 + 12 * d ≤ q ∧ q < 100 + 12 * d + 3 * i)) : setC S d f i q = S q := if_neg h
theorem setC_at {S : mw_M} {d i j : Nat} {f : Nat → celT} (h : j < i) : setC S d f i (100 + 12 * d + 3 * j) = (f j).1 ∧ setC S d f i (101 + 12 * d + 3 * j) = (f j).2.1 ∧ setC S d f i (102 + 12 * d + 3 * j) = (f j).2.2 := by
  unfold setC
  refine ⟨?_, ?_, ?_⟩
  · rw [if_pos (by omega), if_pos (by omega), show (100 + 12 * d + 3 * j - (100 + 12 * d)) / 3 = j by omega]
  · rw [if_pos (by omega), if_neg (by omega), if_pos (by omega), show (101 + 12 * d + 3 * j - (100 + 12 * d)) / 3 = j by omega]
  · rw [if_pos (by omega), if_neg (by omega), if_neg (by omega), show (102 + 12 * d + 3 * j - (100 + 12 * d)) / 3 = j by omega]
theorem setC_zero {S : mw_M} {d : Nat} : setC S d (fun _ => (0, 0, 0)) 4 = s_zero S (100 + 12 * d) := by
  funext q
  unfold setC s_zero
  by_cases h : 100 + 12 * d ≤ q ∧ q < 100 + 12 * d + 12
  · rw [if_pos h, if_pos h]
    split
    · rfl
    · split <;> rfl
  · rw [if_neg h, if_neg h]
theorem setC_exa {S : mw_M} {d : Nat} {L : List celT} : setC S d (fun i => L.getD i (0, 0, 0)) 4 = exaS S (100 + 12 * d) L := rfl
theorem lc_step {L S : mw_M} {d i : Nat} {f : Nat → celT} {x y z : Int32} (hd : d < 2) (hi : i < 4) (h : lrel L (setC S d f i)) (hf : f i = (x, y, z)) : lrel (upd (upd (upd L (1300 + (4 * d + i)) x) (1310 + (4 * d + i)) y) (1320 + (4 * d + i)) z) (setC S d f (i + 1)) := by
  refine ⟨h.1.congr (fun q h1 h2 => by rw [upd_o (by omega), upd_o (by omega), upd_o (by omega)]) (fun q h1 => by rw [setC_o (by omega), setC_o (by omega)]), h.2.1.congr (fun q h1 h2 => by rw [upd_o (by omega), upd_o (by omega), upd_o (by omega)]) (fun q h1 h2 => by rw [setC_o (by omega), setC_o (by omega)]), fun c hc => ?_⟩
  by_cases e : c = 4 * d + i
  · subst e
    obtain ⟨a1, a2, a3⟩ := setC_at (S := S) (d := d) (f := f) (show i < i + 1 by omega)
    rw [hf] at a1 a2 a3
    refine ⟨?_, ?_, ?_⟩
    · rw [upd_o (by omega), upd_o (by omega), upd_s, show 100 + 3 * (4 * d + i) = 100 + 12 * d + 3 * i by omega, a1]
    · rw [upd_o (by omega), upd_s, show 101 + 3 * (4 * d + i) = 101 + 12 * d + 3 * i by omega, a2]
    · rw [upd_s, show 102 + 3 * (4 * d + i) = 102 + 12 * d + 3 * i by omega, a3]
  · obtain ⟨h1, h2, h3⟩ := h.2.2 c hc
    have same : ∀ w, w < 3 → setC S d f (i + 1) (100 + w + 3 * c) = setC S d f i (100 + w + 3 * c) := fun w hw => by
      unfold setC
      by_cases z : 100 + 12 * d ≤ 100 + w + 3 * c ∧ 100 + w + 3 * c < 100 + 12 * d + 3 * i
      · rw [if_pos z, if_pos (by omega)]
      · rw [if_neg z, if_neg (by omega)]
    refine ⟨?_, ?_, ?_⟩
    · rw [upd_o (by omega), upd_o (by omega), upd_o (by omega), h1]; exact (same 0 (by omega)).symm
    · rw [upd_o (by omega), upd_o (by omega), upd_o (by omega), h2]; exact (same 1 (by omega)).symm
    · rw [upd_o (by omega), upd_o (by omega), upd_o (by omega), h3]; exact (same 2 (by omega)).symm
/-! card -/
def inEnt (x : Int32) : Prop := inP x (-1) 99
theorem ent_in {n : Nat} (h : n ≤ 100) {x : Int32} (hx : x = nI n - 1) : inP x (-1) 99 := by
  subst hx
  have e : (nI n - 1).toInt = (n : Int) - 1 := pk_sub_toInt (b := 1) (by omega) (by omega)
  have e1 : ((-1 : Int32)).toInt = -1 := by decide
  have e9 : ((99 : Int32)).toInt = 99 := by decide
  exact ⟨by rw [Int32.lt_iff_toInt_lt, e, e1]; omega, by rw [Int32.lt_iff_toInt_lt, e, e9]; omega⟩
theorem L_card {M M1 : mw_M} (h : linv M) {d k : Nat} (hd : d < 2) (hk : M (2 + d) = nI k) (hk12 : k < 12) {u : Nat → Nat} (hu : ∀ c, c < 4 → u c ≤ 100) {x y z w : Int32} (hx : x = nI (u 0) - 1) (hy : y = nI (u 1) - 1) (hz : z = nI (u 2) - 1) (hw : w = nI (u 3) - 1) (hM : M1 = upd (upd M (1200 + (12 * d + k)) (nI (pkN u))) (1102 + d) (nI (k + 1))) : loM M M1 ∧ (op_card M1 (nI d) x y z w).1 = nI k ∧ ∀ M2, clO M2 (op_card M1 (nI d) x y z w).2 → linv M2 := by
  have hlo : loM M M1 := by rw [hM]; exact (loM.rf.u (by omega)).u (by omega)
  have hi := hlo.inv h.1.1
  have hop : op_card M1 (nI d) x y z w = (M1 (2 + d), s_add (kpS M1) d (nN M1 d) x y z w) := by
    unfold op_card
    rw [dN_d hd, if_pos ⟨bit_d hd, ent_in (hu 0 (by omega)) hx, ent_in (hu 1 (by omega)) hy, ent_in (hu 2 (by omega)) hz, ent_in (hu 3 (by omega)) hw⟩, if_pos (by rw [hlo _ (by omega), hk]; exact (nI_ltI (b := 12) (by omega) (by omega)).mpr hk12)]
  have hn : nN M1 d = k := nN_of (by rw [hlo _ (by omega)]; exact hk) (by omega)
  have hok := op_card_ok hi (nI d) x y z w
  rw [hop] at hok ⊢
  dsimp only at hok ⊢
  rw [hn] at hok ⊢
  have hlo2 := hlo.kp
  have sO : ∀ q, q < 130 → ¬ q = 2 + d → ¬ (4 + 48 * d + 4 * k ≤ q ∧ q < 4 + 48 * d + 4 * k + 4) → s_add (kpS M1) d k x y z w q = M q := fun q h1 h2 h3 => by
    unfold s_add
    rw [upd_o h2, upd_o (by omega), upd_o (by omega), upd_o (by omega), upd_o (by omega)]
    exact hlo2 q h1
  have sN : s_add (kpS M1) d k x y z w (2 + d) = nI (k + 1) := by unfold s_add; rw [upd_s]
  have lO : ∀ q, ¬ q = 1102 + d → ¬ q = 1200 + (12 * d + k) → M1 q = M q := fun q h1 h2 => by rw [hM, upd_o h1, upd_o h2]
  have hr := h.1.2.1
  refine ⟨hlo, by rw [hlo _ (by omega)]; exact hk, fun M2 hcl => ⟨lstep hok hcl ⟨⟨fun j hj => ?_, ?_, fun j hj => ?_, ?_⟩, fun d2 k2 hd2 hk2 hz2 => ?_, ?_⟩ (h.1.2.2.congr (fun q hq => sO q (by omega) (by omega) (by omega))), ?_⟩⟩
  · by_cases e : j = 2 + d
    · subst e
      rw [sN, hM, show 1100 + (2 + d) = 1102 + d by omega, upd_s]
    · rw [sO _ (by omega) e (by omega), lO _ (by omega) (by omega)]
      exact hr.1.1 j hj
  · rw [sO _ (by omega) (by omega) (by omega), lO _ (by omega) (by omega)]
    exact hr.1.2.1
  · rw [sO _ (by omega) (by omega) (by omega), lO _ (by omega) (by omega)]
    exact hr.1.2.2.1 j hj
  · rw [sO _ (by omega) (by omega) (by omega), lO _ (by omega) (by omega)]
    exact hr.1.2.2.2
  · by_cases e : d2 = d ∧ k2 = k
    · obtain ⟨rfl, rfl⟩ := e
      refine ⟨u, hu, fun c hc => ?_, by rw [hM, upd_o (by omega), upd_s]⟩
      unfold s_add
      rcases c4 hc with rfl | rfl | rfl | rfl
      · rw [upd_o (by omega), upd_o (by omega), upd_o (by omega), upd_o (by omega), show 4 + 48 * d2 + (4 * k2 + 0) = 4 + 48 * d2 + 4 * k2 by omega, upd_s]; exact hx
      · rw [upd_o (by omega), upd_o (by omega), upd_o (by omega), upd_s]; exact hy
      · rw [upd_o (by omega), upd_o (by omega), upd_s]; exact hz
      · rw [upd_o (by omega), upd_s]; exact hw
    · have hz3 : ¬ M (2 + d2) ≤ nI k2 := by
        by_cases e2 : d2 = d
        · subst e2
          rw [sN] at hz2
          have : k2 < k + 1 := Nat.not_le.mp (fun y => hz2 (nI_le y (by omega)))
          rw [hk]
          exact nI_ge (by omega) (by omega)
        · rw [sO _ (by omega) (by omega) (by omega)] at hz2
          exact hz2
      obtain ⟨u2, a1, a2, a3⟩ := hr.2.1 d2 k2 hd2 hk2 hz3
      exact ⟨u2, a1, fun c hc => by rw [sO _ (by omega) (by omega) (by omega)]; exact a2 c hc, by rw [lO _ (by omega) (by omega)]; exact a3⟩
  · exact hr.2.2.congr (fun q h1 h2 => lO q (by omega) (by omega)) (fun q h1 h2 => sO q (by omega) (by omega) (by omega))
  · rw [cl_653 hcl]
    show s_add (kpS M1) d k x y z w 653 = 0
    unfold s_add
    rw [upd_o (by omega), upd_o (by omega), upd_o (by omega), upd_o (by omega), upd_o (by omega), kpS_hi (by omega), hlo _ (by omega)]
    exact h.2
theorem L_cardF {M : mw_M} {d : Nat} (hd : d < 2) (hk : M (2 + d) = nI 12) {x y z w : Int32} (hx : inP x (-1) 99) (hy : inP y (-1) 99) (hz : inP z (-1) 99) (hw : inP w (-1) 99) : op_card M (nI d) x y z w = (-13, M) := by
  unfold op_card
  rw [dN_d hd, if_pos ⟨bit_d hd, hx, hy, hz, hw⟩, if_neg (by rw [hk]; decide)]
/-! columns: the size is 0, the width w -/
def clmS (M : mw_M) (d w : Nat) : mw_M := upd (upd M d (nI w)) (2 + d) 0
theorem L_clm0 {M : mw_M} (hr : lrel M M) {d w : Nat} (hd : d < 2) : lrel (upd (upd M (1100 + d) (nI w)) (1102 + d) 0) (clmS M d w) := by
  refine ⟨⟨fun j hj => ?_, ?_, fun j hj => ?_, ?_⟩, fun d2 k2 hd2 hk2 hz2 => ?_, hr.2.2.congr (fun q h1 h2 => by rw [upd_o (by omega), upd_o (by omega)]) (fun q h1 h2 => by unfold clmS; rw [upd_o (by omega), upd_o (by omega)])⟩
  · unfold clmS
    by_cases e : j = 2 + d
    · subst e
      rw [show 1100 + (2 + d) = 1102 + d by omega, upd_s, upd_s]
    · by_cases e2 : j = d
      · subst e2
        rw [upd_o (by omega), upd_s, upd_o (by omega), upd_s]
      · rw [upd_o (by omega), upd_o (by omega), upd_o e, upd_o e2]
        exact hr.1.1 j hj
  · unfold clmS; rw [upd_o (by omega), upd_o (by omega), upd_o (by omega), upd_o (by omega)]; exact hr.1.2.1
  · unfold clmS; rw [upd_o (by omega), upd_o (by omega), upd_o (by omega), upd_o (by omega)]; exact hr.1.2.2.1 j hj
  · unfold clmS; rw [upd_o (by omega), upd_o (by omega), upd_o (by omega), upd_o (by omega)]; exact hr.1.2.2.2
  · by_cases e : d2 = d
    · subst e
      exfalso
      refine hz2 ?_
      unfold clmS
      rw [upd_s]
      exact nI_pos' (by omega)
    · unfold clmS at hz2 ⊢
      rw [upd_o (by omega), upd_o (by omega)] at hz2
      obtain ⟨u, a1, a2, a3⟩ := hr.2.1 d2 k2 hd2 hk2 hz2
      exact ⟨u, a1, fun c hc => by rw [upd_o (by omega), upd_o (by omega)]; exact a2 c hc, by rw [upd_o (by omega), upd_o (by omega)]; exact a3⟩
theorem L_columns {M M1 : mw_M} (h : linv M) {d w : Nat} (hd : d < 2) (hw1 : 1 ≤ w) (hw4 : w ≤ 4) (hlo : loM M M1) (hr : lrel M1 (setC (clmS M d w) d (fun _ => (0, 0, 0)) 4)) : (op_columns M1 (nI d) (nI w)).1 = M (2 + d) ∧ ∀ M2, clO M2 (op_columns M1 (nI d) (nI w)).2 → linv M2 := by
  have hi := hlo.inv h.1.1
  have hop : op_columns M1 (nI d) (nI w) = (M1 (2 + d), s_zero (upd (upd (kpS M1) d (nI w)) (2 + d) 0) (100 + 12 * d)) := by
    unfold op_columns
    rw [dN_d hd, if_pos ⟨bit_d hd, nI_nlt (a := w) (b := 1) hw1 (by omega), fun y => absurd ((nI_ltI (a := 4) (by omega) (by omega)).mp y) (by omega)⟩]
  have hok := op_columns_ok hi (nI d) (nI w)
  rw [hop] at hok ⊢
  dsimp only at hok ⊢
  refine ⟨hlo _ (by omega), fun M2 hcl => ⟨lstep hok hcl (hr.cong (fun _ _ => rfl) (fun q hq => ?_)) (fun d2 hd2 => ?_), ?_⟩⟩
  · rw [setC_zero]
    unfold s_zero clmS
    split
    · rfl
    · unfold upd
      split
      · rfl
      · split
        · rfl
        · exact hlo.kp q hq
  · unfold s_zero
    rw [if_neg (by omega), upd_o (by omega)]
    by_cases e : d2 = d
    · subst e
      exact ⟨w, hw1, hw4, upd_s⟩
    · rw [upd_o e, hlo.kp _ (by omega)]
      exact h.1.2.2 d2 hd2
  · rw [cl_653 hcl]
    show s_zero _ _ 653 = 0
    unfold s_zero
    rw [if_neg (by omega), upd_o (by omega), upd_o (by omega), kpS_hi (by omega), hlo _ (by omega)]
    exact h.2
theorem L_clear {M M1 : mw_M} (h : linv M) {d : Nat} (hd : d < 2) (hlo : loM M M1) (hr : lrel M1 (setC M d (fun _ => (0, 0, 0)) 4)) : (op_clear M1 (nI d)).1 = nI (othN M d) ∧ ∀ M2, clO M2 (op_clear M1 (nI d)).2 → linv M2 := by
  have hi := hlo.inv h.1.1
  have hop : op_clear M1 (nI d) = (nI (othN M1 d), s_zero (kpS M1) (100 + 12 * d)) := by
    unfold op_clear
    rw [dN_d hd, if_pos (bit_d hd)]
  have hok := op_clear_ok hi (nI d)
  rw [hop] at hok ⊢
  dsimp only at hok ⊢
  refine ⟨congrArg nI (cntB_c (fun i hi2 => by rw [hlo _ (by omega)])), fun M2 hcl => ⟨lstep hok hcl (hr.cong (fun _ _ => rfl) (fun q hq => ?_)) (h.1.2.2.congr (fun q hq => by unfold s_zero; rw [if_neg (by omega)]; exact hlo.kp q (by omega))), ?_⟩⟩
  · rw [setC_zero]
    unfold s_zero
    split
    · rfl
    · exact hlo.kp q hq
  · rw [cl_653 hcl]
    show s_zero _ _ 653 = 0
    unfold s_zero
    rw [if_neg (by omega), kpS_hi (by omega), hlo _ (by omega)]
    exact h.2
/-! drop -/
def shV (M : mw_M) (d k i : Nat) : mw_M := fun q => if 1200 + (12 * d + k) ≤ q ∧ q < 1200 + (12 * d + i) then M (q + 1) else M q
theorem shV_0 {M : mw_M} {d k : Nat} : shV M d k k = M := by
  funext q
  unfold shV
  rw [if_neg (by omega)]
theorem shV_s {M : mw_M} {d k i : Nat} (h : k ≤ i) : upd (shV M d k i) (1200 + (12 * d + i)) (shV M d k i (1200 + (12 * d + i + 1))) = shV M d k (i + 1) := by
  funext q
  unfold upd
  by_cases e : q = 1200 + (12 * d + i)
  · subst e
    rw [if_pos rfl]
    unfold shV
    rw [if_neg (by omega), if_pos (by omega)]
    exact congrArg M (by omega)
  · rw [if_neg e]
    unfold shV
    by_cases z : 1200 + (12 * d + k) ≤ q ∧ q < 1200 + (12 * d + i)
    · rw [if_pos z, if_pos (by omega)]
    · rw [if_neg z, if_neg (by omega)]
theorem shV_lo {M : mw_M} {d k i : Nat} : loM M (shV M d k i) := fun q hq => if_neg (by omega)
theorem L_drop {M : mw_M} (h : linv M) {d n k : Nat} (hd : d < 2) (hn : M (2 + d) = nI n) (hn12 : n ≤ 12) (hk : k < n) {M1 : mw_M} (hM : M1 = shV (upd M (1102 + d) (nI (n - 1))) d k (n - 1)) : loM M M1 ∧ (op_drop M1 (nI d) (nI k)).1 = nI (n - 1) ∧ ∀ M2, clO M2 (op_drop M1 (nI d) (nI k)).2 → linv M2 := by
  have hlo : loM M M1 := by rw [hM]; exact (loM.rf.u (by omega)).tr shV_lo
  have hi := hlo.inv h.1.1
  have hn1 : nN M1 d = n := nN_of (by rw [hlo _ (by omega)]; exact hn) hn12
  have hop : op_drop M1 (nI d) (nI k) = (nI (n - 1), s_rem (kpS M1) d n k (4 * (n - 1))) := by
    unfold op_drop
    rw [dN_d hd, hn1, nI_clamp (by omega), if_pos ⟨bit_d hd, nI_pos (by omega), by rw [hlo _ (by omega), hn]; exact nI_ge hk (by omega)⟩]
  have hok := op_drop_ok hi (nI d) (nI k)
  rw [hop] at hok ⊢
  dsimp only at hok ⊢
  have hr := h.1.2.1
  have lO : ∀ q, ¬ q = 1102 + d → ¬ (1200 + (12 * d + k) ≤ q ∧ q < 1200 + (12 * d + (n - 1))) → M1 q = M q := fun q h1 h2 => by rw [hM]; unfold shV; rw [if_neg h2, upd_o h1]
  have sO : ∀ q, q < 130 → ¬ q = 2 + d → ¬ (4 + 48 * d + 4 * k ≤ q ∧ q < 4 + 48 * d + 4 * (n - 1)) → s_rem (kpS M1) d n k (4 * (n - 1)) q = M q := fun q h1 h2 h3 => by
    unfold s_rem
    rw [if_neg h3, if_neg h2]
    exact hlo.kp q h1
  have sN : s_rem (kpS M1) d n k (4 * (n - 1)) (2 + d) = nI (n - 1) := rem_n9
  refine ⟨hlo, rfl, fun M2 hcl => ⟨lstep hok hcl ⟨⟨fun j hj => ?_, ?_, fun j hj => ?_, ?_⟩, fun d2 k2 hd2 hk2 hz2 => ?_, hr.2.2.congr (fun q h1 h2 => lO q (by omega) (by omega)) (fun q h1 h2 => sO q (by omega) (by omega) (by omega))⟩ (h.1.2.2.congr (fun q hq => sO q (by omega) (by omega) (by omega))), ?_⟩⟩
  · by_cases e : j = 2 + d
    · subst e
      show M1 _ = s_rem (kpS M1) d n k (4 * (n - 1)) (2 + d)
      rw [sN, hM]
      unfold shV
      rw [if_neg (by omega), show 1100 + (2 + d) = 1102 + d by omega, upd_s]
    · show M1 _ = s_rem (kpS M1) d n k (4 * (n - 1)) j
      rw [sO _ (by omega) e (by omega), lO _ (by omega) (by omega)]
      exact hr.1.1 j hj
  · show M1 _ = s_rem (kpS M1) d n k (4 * (n - 1)) _
    rw [sO _ (by omega) (by omega) (by omega), lO _ (by omega) (by omega)]
    exact hr.1.2.1
  · show M1 _ = s_rem (kpS M1) d n k (4 * (n - 1)) _
    rw [sO _ (by omega) (by omega) (by omega), lO _ (by omega) (by omega)]
    exact hr.1.2.2.1 j hj
  · show M1 _ = s_rem (kpS M1) d n k (4 * (n - 1)) _
    rw [sO _ (by omega) (by omega) (by omega), lO _ (by omega) (by omega)]
    exact hr.1.2.2.2
  · by_cases e : d2 = d
    · subst e
      have hz3 : ¬ s_rem (kpS M1) d2 n k (4 * (n - 1)) (2 + d2) ≤ nI k2 := hz2
      rw [sN] at hz3
      have hk3 : k2 < n - 1 := Nat.not_le.mp (fun y => hz3 (nI_le y (by omega)))
      by_cases e2 : k2 < k
      · obtain ⟨u, a1, a2, a3⟩ := hr.2.1 d2 k2 hd2 hk2 (by rw [hn]; exact nI_ge (by omega) (by omega))
        exact ⟨u, a1, fun c hc => (sO _ (by omega) (by omega) (by omega)).trans (a2 c hc), by rw [lO _ (by omega) (by omega)]; exact a3⟩
      · obtain ⟨u, a1, a2, a3⟩ := hr.2.1 d2 (k2 + 1) hd2 (by omega) (by rw [hn]; exact nI_ge (by omega) (by omega))
        refine ⟨u, a1, fun c hc => ?_, ?_⟩
        · rw [← a2 c hc]
          show s_rem (kpS M1) d2 n k (4 * (n - 1)) _ = _
          unfold s_rem
          rw [if_pos (by omega), hlo.kp _ (by omega)]
          exact congrArg M (by omega)
        · rw [← a3, hM]
          unfold shV
          rw [if_pos (by omega), upd_o (by omega)]
          exact congrArg M (by omega)
    · have hz3 : ¬ s_rem (kpS M1) d n k (4 * (n - 1)) (2 + d2) ≤ nI k2 := hz2
      rw [sO _ (by omega) (by omega) (by omega)] at hz3
      obtain ⟨u, a1, a2, a3⟩ := hr.2.1 d2 k2 hd2 hk2 hz3
      exact ⟨u, a1, fun c hc => (sO _ (by omega) (by omega) (by omega)).trans (a2 c hc), by rw [lO _ (by omega) (by omega)]; exact a3⟩
  · rw [cl_653 hcl]
    show s_rem (kpS M1) d n k (4 * (n - 1)) 653 = 0
    unfold s_rem
    rw [if_neg (by omega), if_neg (by omega), kpS_hi (by omega), hlo _ (by omega)]
    exact h.2
/-! put -/
theorem L_put {M : mw_M} (h : linv M) {d k i : Nat} (hd : d < 2) (hk12 : k < 12) (hi4 : i < 4) (hk : ¬ M (2 + d) ≤ nI k) (hi : ¬ M d ≤ nI i) {u : Nat → Nat} (hu : ∀ c, c < 4 → u c ≤ 100) (hS : ∀ c, c < 4 → M (4 + 48 * d + (4 * k + c)) = nI (u c) - 1) {n : Nat} (hn : n ≤ 100) {x : Int32} (hx : x = nI n - 1) {M1 : mw_M} (hM : M1 = upd M (1200 + (12 * d + k)) (nI (pkN (putN u i n)))) : loM M M1 ∧ (op_put M1 (nI d) (nI k) (nI i) x).1 = nI (u i) - 1 ∧ ∀ M2, clO M2 (op_put M1 (nI d) (nI k) (nI i) x).2 → linv M2 := by
  have hlo : loM M M1 := by rw [hM]; exact loM.rf.u (by omega)
  have hinv := hlo.inv h.1.1
  have hp : posS (nI d) (nI k) (nI i) = 4 + 48 * d + (4 * k + i) := by
    unfold posS
    rw [dN_d hd, nI_clamp (by omega), nI_clamp (by omega)]
  have hop : op_put M1 (nI d) (nI k) (nI i) x = (M1 (4 + 48 * d + (4 * k + i)), upd (kpS M1) (4 + 48 * d + (4 * k + i)) x) := by
    unfold op_put
    rw [hp, if_pos ⟨⟨⟨bit_d hd, by rw [dN_d hd]; exact ⟨nI_pos (by omega), by rw [hlo _ (by omega)]; exact hi⟩⟩, by rw [dN_d hd]; exact ⟨nI_pos (by omega), by rw [hlo _ (by omega)]; exact hk⟩⟩, ent_in hn hx⟩]
  have hok := op_put_ok hinv (nI d) (nI k) (nI i) x
  rw [hop] at hok ⊢
  dsimp only at hok ⊢
  have hr := h.1.2.1
  refine ⟨hlo, by rw [hlo _ (by omega)]; exact hS i hi4, fun M2 hcl => ⟨lstep hok hcl ⟨hr.1.congr (fun q h1 h2 => by rw [hM, upd_o (by omega)]) (fun q h1 => by rw [upd_o (by omega)]; exact hlo.kp q (by omega)), fun d2 k2 hd2 hk2 hz2 => ?_, hr.2.2.congr (fun q h1 h2 => by rw [hM, upd_o (by omega)]) (fun q h1 h2 => by rw [upd_o (by omega)]; exact hlo.kp q (by omega))⟩ (h.1.2.2.congr (fun q hq => by rw [upd_o (by omega)]; exact hlo.kp q (by omega))), ?_⟩⟩
  · rw [upd_o (by omega), hlo.kp _ (by omega)] at hz2
    by_cases e : d2 = d ∧ k2 = k
    · obtain ⟨rfl, rfl⟩ := e
      refine ⟨putN u i n, putN_le hu hn, fun c hc => ?_, by rw [hM, upd_s]⟩
      unfold putN
      by_cases ec : c = i
      · subst ec
        rw [upd_s, if_pos rfl]
        exact hx
      · rw [upd_o (by omega), if_neg ec, hlo.kp _ (by omega)]
        exact hS c hc
    · obtain ⟨u2, a1, a2, a3⟩ := hr.2.1 d2 k2 hd2 hk2 hz2
      exact ⟨u2, a1, fun c hc => by rw [upd_o (by omega), hlo.kp _ (by omega)]; exact a2 c hc, by rw [hM, upd_o (by omega)]; exact a3⟩
  · rw [cl_653 hcl]
    show upd _ _ _ 653 = 0
    rw [upd_o (by omega), kpS_hi (by omega), hlo _ (by omega)]
    exact h.2
/-! cell -/
theorem L_cell {M : mw_M} (h : linv M) {d i kd a b : Nat} (hd : d < 2) (hi4 : i < 4) (hi : ¬ M d ≤ nI i) (hc : conB (nI kd) (nI a) (nI b) = true) {M1 : mw_M} (hM : M1 = upd (upd (upd M (1300 + (4 * d + i)) (nI kd)) (1310 + (4 * d + i)) (nI a)) (1320 + (4 * d + i)) (nI b)) : loM M M1 ∧ (op_cell M1 (nI d) (nI i) (nI kd) (nI a) (nI b)).1 = M (1300 + (4 * d + i)) ∧ ∀ M2, clO M2 (op_cell M1 (nI d) (nI i) (nI kd) (nI a) (nI b)).2 → linv M2 := by
  have hlo : loM M M1 := by rw [hM]; exact ((loM.rf.u (by omega)).u (by omega)).u (by omega)
  have hinv := hlo.inv h.1.1
  have hop : op_cell M1 (nI d) (nI i) (nI kd) (nI a) (nI b) = (M1 (100 + 12 * d + 3 * i), upd (upd (upd (kpS M1) (100 + 12 * d + 3 * i) (nI kd)) (100 + 12 * d + 1 + 3 * i) (nI a)) (100 + 12 * d + 2 + 3 * i) (nI b)) := by
    unfold op_cell
    rw [if_pos ⟨⟨bit_d hd, by rw [dN_d hd]; exact ⟨nI_pos (by omega), by rw [hlo _ (by omega)]; exact hi⟩⟩, hc⟩, dN_d hd, nI_clamp (by omega)]
  have hok := op_cell_ok hinv (nI d) (nI i) (nI kd) (nI a) (nI b)
  rw [hop] at hok ⊢
  dsimp only at hok ⊢
  have hr := h.1.2.1
  refine ⟨hlo, ?_, fun M2 hcl => ⟨lstep hok hcl ⟨hr.1.congr (fun q h1 h2 => by rw [hM, upd_o (by omega), upd_o (by omega), upd_o (by omega)]) (fun q h1 => by rw [upd_o (by omega), upd_o (by omega), upd_o (by omega)]; exact hlo.kp q (by omega)), hr.2.1.congr (fun q h1 h2 => by rw [hM, upd_o (by omega), upd_o (by omega), upd_o (by omega)]) (fun q h1 h2 => by rw [upd_o (by omega), upd_o (by omega), upd_o (by omega)]; exact hlo.kp q (by omega)), fun c hc8 => ?_⟩ (h.1.2.2.congr (fun q hq => by rw [upd_o (by omega), upd_o (by omega), upd_o (by omega)]; exact hlo.kp q (by omega))), ?_⟩⟩
  · rw [hlo _ (by omega), (hr.2.2 (4 * d + i) (by omega)).1]
    exact congrArg M (by omega)
  · by_cases e : c = 4 * d + i
    · subst e
      refine ⟨?_, ?_, ?_⟩
      · rw [hM, upd_o (by omega), upd_o (by omega), upd_s, show 100 + 3 * (4 * d + i) = 100 + 12 * d + 3 * i by omega, upd_o (by omega), upd_o (by omega), upd_s]
      · rw [hM, upd_o (by omega), upd_s, show 101 + 3 * (4 * d + i) = 100 + 12 * d + 1 + 3 * i by omega, upd_o (by omega), upd_s]
      · rw [hM, upd_s, show 102 + 3 * (4 * d + i) = 100 + 12 * d + 2 + 3 * i by omega, upd_s]
    · obtain ⟨b1, b2, b3⟩ := hr.2.2 c hc8
      refine ⟨?_, ?_, ?_⟩
      · rw [upd_o (by omega), upd_o (by omega), upd_o (by omega), hlo.kp _ (by omega), hM, upd_o (by omega), upd_o (by omega), upd_o (by omega)]; exact b1
      · rw [upd_o (by omega), upd_o (by omega), upd_o (by omega), hlo.kp _ (by omega), hM, upd_o (by omega), upd_o (by omega), upd_o (by omega)]; exact b2
      · rw [upd_o (by omega), upd_o (by omega), upd_o (by omega), hlo.kp _ (by omega), hM, upd_o (by omega), upd_o (by omega), upd_o (by omega)]; exact b3
  · rw [cl_653 hcl]
    show upd _ _ _ 653 = 0
    rw [upd_o (by omega), upd_o (by omega), upd_o (by omega), kpS_hi (by omega), hlo _ (by omega)]
    exact h.2
/-! both, order, show -/
theorem L_both {M : mw_M} (h : linv M) {x : Nat} (hx : x < 2) {M1 : mw_M} (hM : M1 = upd M 1104 (nI x)) : loM M M1 ∧ (op_both M1 (nI x)).1 = M 124 ∧ ∀ M2, clO M2 (op_both M1 (nI x)).2 → linv M2 := by
  have hlo : loM M M1 := by rw [hM]; exact loM.rf.u (by omega)
  have hop : op_both M1 (nI x) = (M1 124, upd (kpS M1) 124 (nI x)) := if_pos (bit_d hx)
  have hok := op_both_ok (hlo.inv h.1.1) (nI x)
  rw [hop] at hok ⊢
  dsimp only at hok ⊢
  have hr := h.1.2.1
  refine ⟨hlo, hlo _ (by omega), fun M2 hcl => ⟨lstep hok hcl ⟨⟨fun j hj => ?_, ?_, fun j hj => ?_, ?_⟩, hr.2.1.congr (fun q h1 h2 => by rw [hM, upd_o (by omega)]) (fun q h1 h2 => by rw [upd_o (by omega)]; exact hlo.kp q (by omega)), hr.2.2.congr (fun q h1 h2 => by rw [hM, upd_o (by omega)]) (fun q h1 h2 => by rw [upd_o (by omega)]; exact hlo.kp q (by omega))⟩ (h.1.2.2.congr (fun q hq => by rw [upd_o (by omega)]; exact hlo.kp q (by omega))), ?_⟩⟩
  · rw [hM, upd_o (by omega), upd_o (by omega), ← hM, hlo.kp _ (by omega)]; exact hr.1.1 j hj
  · rw [hM, upd_s, upd_s]
  · rw [hM, upd_o (by omega), upd_o (by omega), ← hM, hlo.kp _ (by omega)]; exact hr.1.2.2.1 j hj
  · rw [hM, upd_o (by omega), upd_o (by omega), ← hM, hlo.kp _ (by omega)]; exact hr.1.2.2.2
  · rw [cl_653 hcl]
    show upd _ _ _ 653 = 0
    rw [upd_o (by omega), kpS_hi (by omega), hlo _ (by omega)]
    exact h.2
theorem L_order {M : mw_M} (h : linv M) {w b : Nat} {x : Int32} (hw : w < 2) (hb : b < 2) (hx : inP x (-1) 7) {M1 : mw_M} (hM : M1 = upd (upd M (1105 + 2 * w) x) (1106 + 2 * w) (nI b)) : loM M M1 ∧ ∀ M2, clO M2 (op_order M1 (nI w) x (nI b)).2 → linv M2 ∧ (op_order M1 (nI w) x (nI b)).1 = manyI M2 := by
  have hlo : loM M M1 := by rw [hM]; exact (loM.rf.u (by omega)).u (by omega)
  have hinv := hlo.inv h.1.1
  have hop : op_order M1 (nI w) x (nI b) = (manyI (ordN M1 (nI w) x (nI b)), ordN M1 (nI w) x (nI b)) := if_pos ⟨bit_d hw, hx, bit_d hb⟩
  have hok := op_order_ok hinv (nI w) x (nI b)
  rw [hop] at hok ⊢
  dsimp only at hok ⊢
  have hr := h.1.2.1
  have oN : ∀ q, ¬ q = 125 + 2 * w → ¬ q = 126 + 2 * w → ordN M1 (nI w) x (nI b) q = kpS M1 q := fun q h1 h2 => by unfold ordN; rw [dN_d hw, upd_o h2, upd_o h1]
  have hL : ∀ q, ¬ q = 1105 + 2 * w → ¬ q = 1106 + 2 * w → M1 q = M q := fun q h1 h2 => by rw [hM, upd_o h2, upd_o h1]
  refine ⟨hlo, fun M2 hcl => ⟨⟨lstep hok hcl ⟨⟨fun j hj => ?_, ?_, fun j hj => ?_, ?_⟩, hr.2.1.congr (fun q h1 h2 => hL q (by omega) (by omega)) (fun q h1 h2 => (oN q (by omega) (by omega)).trans (hlo.kp q (by omega))), hr.2.2.congr (fun q h1 h2 => hL q (by omega) (by omega)) (fun q h1 h2 => (oN q (by omega) (by omega)).trans (hlo.kp q (by omega)))⟩ (h.1.2.2.congr (fun q hq => (oN q (by omega) (by omega)).trans (hlo.kp q (by omega)))), ?_⟩, ?_⟩⟩
  · show _ = ordN M1 (nI w) x (nI b) j
    rw [hL _ (by omega) (by omega), oN _ (by omega) (by omega), hlo.kp _ (by omega)]; exact hr.1.1 j hj
  · show _ = ordN M1 (nI w) x (nI b) 124
    rw [hL _ (by omega) (by omega), oN _ (by omega) (by omega), hlo.kp _ (by omega)]; exact hr.1.2.1
  · show _ = ordN M1 (nI w) x (nI b) (125 + j)
    by_cases e : j = 2 * w
    · subst e
      rw [hM, upd_o (by omega), upd_s]
      unfold ordN
      rw [dN_d hw, upd_o (by omega), upd_s]
    · by_cases e2 : j = 2 * w + 1
      · subst e2
        rw [show 1105 + (2 * w + 1) = 1106 + 2 * w by omega, hM, upd_s]
        unfold ordN
        rw [dN_d hw, show 125 + (2 * w + 1) = 126 + 2 * w by omega, upd_s]
      · rw [hL _ (by omega) (by omega), oN _ (by omega) (by omega), hlo.kp _ (by omega)]; exact hr.1.2.2.1 j hj
  · show _ = ordN M1 (nI w) x (nI b) 129
    rw [hL _ (by omega) (by omega), oN _ (by omega) (by omega), hlo.kp _ (by omega)]; exact hr.1.2.2.2
  · rw [cl_653 hcl]
    show ordN M1 (nI w) x (nI b) 653 = 0
    rw [oN _ (by omega) (by omega), kpS_hi (by omega), hlo _ (by omega)]
    exact h.2
  · exact (eqS.many (fun q hq => hcl q (by unfold clS; omega)) hok.1.1.wfR).symm
theorem L_show {M : mw_M} (h : linv M) {x : Nat} (hx : x < 256) {M1 : mw_M} (hM : M1 = upd M 1109 (nI x)) : loM M M1 ∧ invV (upd (kpS M1) 129 (nI x)) ∧ lrel M1 (upd (kpS M1) 129 (nI x)) ∧ (op_show M1 (nI x)).1 = unlI (upd (kpS M1) 129 (nI x)) ∧ (op_show M1 (nI x)).2 = upd (kpS M1) 129 (nI x) ∧ ∀ M2, clO M2 (op_show M1 (nI x)).2 → linv M2 := by
  have hlo : loM M M1 := by rw [hM]; exact loM.rf.u (by omega)
  have hinv := hlo.inv h.1.1
  have hop : op_show M1 (nI x) = (unlI (upd (kpS M1) 129 (nI x)), upd (kpS M1) 129 (nI x)) := if_pos ⟨nI_pos (by omega), fun y => absurd ((nI_ltI (a := 255) (by omega) (by omega)).mp y) (by omega)⟩
  have hok := op_show_ok hinv (nI x)
  rw [hop] at hok ⊢
  dsimp only at hok ⊢
  have hr := h.1.2.1
  have hrel : lrel M1 (upd (kpS M1) 129 (nI x)) := by
    refine ⟨⟨fun j hj => ?_, ?_, fun j hj => ?_, ?_⟩, hr.2.1.congr (fun q h1 h2 => by rw [hM, upd_o (by omega)]) (fun q h1 h2 => by rw [upd_o (by omega)]; exact hlo.kp q (by omega)), hr.2.2.congr (fun q h1 h2 => by rw [hM, upd_o (by omega)]) (fun q h1 h2 => by rw [upd_o (by omega)]; exact hlo.kp q (by omega))⟩
    · rw [hM, upd_o (by omega), upd_o (by omega), ← hM, hlo.kp _ (by omega)]; exact hr.1.1 j hj
    · rw [hM, upd_o (by omega), upd_o (by omega), ← hM, hlo.kp _ (by omega)]; exact hr.1.2.1
    · rw [hM, upd_o (by omega), upd_o (by omega), ← hM, hlo.kp _ (by omega)]; exact hr.1.2.2.1 j hj
    · rw [hM, upd_s, upd_s]
  refine ⟨hlo, hok.1, hrel, rfl, rfl, fun M2 hcl => ⟨lstep hok hcl hrel (h.1.2.2.congr (fun q hq => by rw [upd_o (by omega)]; exact hlo.kp q (by omega))), ?_⟩⟩
  rw [cl_653 hcl]
  show upd _ _ _ 653 = 0
  rw [upd_o (by omega), kpS_hi (by omega), hlo _ (by omega)]
  exact h.2
theorem uF_pk (a b c d : Nat) : a + b * 2 ^ 7 + c * 2 ^ 14 + d * 2 ^ 21 = pkN (fun i => if i = 0 then a else if i = 1 then b else if i = 2 then c else d) := by
  unfold pkN
  show _ = a + 128 * b + 16384 * c + 2097152 * d
  omega
/-- the four numbers of a card -/
def uF (a b c d : Nat) : Nat → Nat := fun i => if i = 0 then a else if i = 1 then b else if i = 2 then c else d
theorem uF_le {a b c d : Nat} (ha : a ≤ 100) (hb : b ≤ 100) (hc : c ≤ 100) (hd : d ≤ 100) : ∀ i, i < 4 → uF a b c d i ≤ 100 := fun i _ => by
  unfold uF
  split
  · exact ha
  · split
    · exact hb
    · split
      · exact hc
      · exact hd
theorem L_drop0 {M : mw_M} {d : Nat} (hd : d < 2) (hk : M (2 + d) = nI 0) : op_drop M (nI d) 0 = (-11, M) := by
  unfold op_drop
  rw [dN_d hd, if_neg (fun z => z.2.2 (by rw [hk]; decide))]
theorem L_put0 {M : mw_M} {d : Nat} (hd : d < 2) (hk : M (2 + d) = nI 0) : op_put M (nI d) 0 0 1 = (-11, M) := by
  unfold op_put
  rw [if_neg (fun z => by
    have h2 := z.1.2
    rw [dN_d hd] at h2
    exact h2.2 (by rw [hk]; decide))]
theorem linv.sz {M : mw_M} (h : linv M) {d : Nat} (hd : d < 2) : ∃ n, n ≤ 12 ∧ M (2 + d) = nI n ∧ M (1100 + (2 + d)) = nI n := by
  obtain ⟨h1, h2⟩ := (szd h.1.1.1 hd).n
  exact ⟨_, h2, h1, (h.1.2.1.1.1 (2 + d) (by omega)).trans h1⟩
theorem linv.wd {M : mw_M} (h : linv M) {d : Nat} (hd : d < 2) : ∃ w, 1 ≤ w ∧ w ≤ 4 ∧ M d = nI w ∧ M (1100 + d) = nI w := by
  obtain ⟨w, h1, h2, h3⟩ := h.1.2.2 d hd
  exact ⟨w, h1, h2, h3, (h.1.2.1.1.1 d (by omega)).trans h3⟩
