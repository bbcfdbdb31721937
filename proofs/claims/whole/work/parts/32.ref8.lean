theorem rem_09 {M : mw_M} {d n k : Nat} : s_rem M d n k (4 * k) = upd M (2 + d) (nI (n - 1)) := by
  funext q
  unfold s_rem upd
  rw [if_neg (by omega)]
theorem rem_n9 {M : mw_M} {d n k i : Nat} : s_rem M d n k i (2 + d) = nI (n - 1) := by
  unfold s_rem
  rw [if_neg (by omega), if_pos rfl]
theorem rem_step9 {M : mw_M} {d n k i : Nat} (h : 4 * k ≤ i) : upd (s_rem M d n k i) (4 + 48 * d + i) (s_rem M d n k i (4 + 48 * d + i + 4)) = s_rem M d n k (i + 1) := by
  funext q
  by_cases z : q = 4 + 48 * d + i
  · rw [z, upd_s]
    unfold s_rem
    rw [if_neg (by omega), if_neg (by omega), if_pos (by omega)]
  · rw [upd_o z]
    unfold s_rem
    by_cases z2 : 4 + 48 * d + 4 * k ≤ q ∧ q < 4 + 48 * d + i
    · rw [if_pos z2, if_pos (by omega)]
    · rw [if_neg z2, if_neg (show ¬ (4 + 48 * d + 4 * k ≤ q ∧ q < 4 + 48 * d + (i + 1)) by omega)]
/-! rows that are alike -/
theorem alB_iff {p : Nat → Bool} : ∀ n, alB p n = true ↔ ∀ c, c < n → p c = true
  | 0 => ⟨fun _ c hc => absurd hc (Nat.not_lt_zero c), fun _ => rfl⟩
  | n + 1 => by
    unfold alB
    rw [Bool.and_eq_true, alB_iff n]
    constructor
    · rintro ⟨h1, h2⟩ c hc
      by_cases e : c = n
      · rw [e]; exact h2
      · exact h1 c (by omega)
    · intro h
      exact ⟨fun c hc => h c (by omega), h n (by omega)⟩
theorem alB_mono {p : Nat → Bool} {k n : Nat} (h : k ≤ n) (h2 : ¬ alB p k = true) : ¬ alB p n = true := fun z => h2 ((alB_iff k).mpr (fun c hc => (alB_iff n).mp z c (by omega)))
def alqC (V : mw_M) (r r2 c : Nat) : Bool := decide (vS V c (r / 12) (r % 12) = vS V c (r2 / 12) (r2 % 12)) || decide (¬ shwP V (nI c))
def alqB (V : mw_M) (r r2 : Nat) : Nat → Bool := alB (alqC V r r2)
theorem alqC_y {V : mw_M} {r r2 c : Nat} (h : vS V c (r / 12) (r % 12) = vS V c (r2 / 12) (r2 % 12)) : alqC V r r2 c = true := by
  unfold alqC
  rw [decide_eq_true h, Bool.true_or]
theorem alqC_h {V : mw_M} {r r2 c : Nat} (h : ¬ shwP V (nI c)) : alqC V r r2 c = true := by
  unfold alqC
  rw [decide_eq_true h, Bool.or_true]
theorem alqC_n {V : mw_M} {r r2 c : Nat} (h : ¬ vS V c (r / 12) (r % 12) = vS V c (r2 / 12) (r2 % 12)) (h2 : shwP V (nI c)) : ¬ alqC V r r2 c = true := by
  unfold alqC
  rw [decide_eq_false h, decide_eq_false (fun z => z h2)]
  decide
theorem bI_alq_y {V : mw_M} {r r2 c : Nat} (h : alqB V r r2 c = true) (h2 : alqC V r r2 c = true) : (1 : Int32) = bI (alqB V r r2 (c + 1) = true) := (bI_t (by
  show (alqB V r r2 c && alqC V r r2 c) = true
  rw [h, h2]
  rfl)).symm
theorem bI_alq_n {V : mw_M} {r r2 c : Nat} (h2 : ¬ alqC V r r2 c = true) : (0 : Int32) = bI (alqB V r r2 (c + 1) = true) := (bI_f (fun z => by
  have z2 : (alqB V r r2 c && alqC V r r2 c) = true := z
  rw [Bool.and_eq_true] at z2
  exact h2 z2.2)).symm
theorem alqC_0 {V : mw_M} {r r2 c : Nat} (hr : valP V (r / 12) (r % 12)) (hr2 : valP V (r2 / 12) (r2 % 12)) (hc : c < 4) : alqC V r r2 c = alkC V 0 (r / 12) (r2 / 12) c := by
  have e0 : shwP V (nI (4 * 0 + c)) ↔ shwP V (nI c) := by rw [show 4 * 0 + c = c by omega]
  by_cases hs : shwP V (nI c)
  · have ha := (ask_iff (by omega)).mp hs.1
    rw [show c / 4 = 0 by omega, show c % 4 = c by omega] at ha
    have e1 : entI V 0 (nI (r / 12)) (nI c) = vS V c (r / 12) (r % 12) := by
      rw [ent_at (by omega) hr.2.2.1 ha.1.2 hr.1 hc]
      unfold vS
      rw [if_pos hc, show c / 4 = 0 by omega, show c % 4 = c by omega]
    have e2 : entI V 0 (nI (r2 / 12)) (nI c) = vS V c (r2 / 12) (r2 % 12) := by
      rw [ent_at (by omega) hr2.2.2.1 ha.1.2 hr2.1 hc]
      unfold vS
      rw [if_pos hc, show c / 4 = 0 by omega, show c % 4 = c by omega]
    unfold alqC alkC
    rw [e1, e2]
    congr 1
    exact decide_eq_decide.mpr (not_congr e0.symm)
  · rw [alqC_h hs]
    unfold alkC
    rw [decide_eq_true (show ¬ shwP V (nI (4 * 0 + c)) from fun z => hs (e0.mp z)), Bool.or_true]
theorem alqC_1 {V : mw_M} {r r2 c : Nat} (hr : valP V (r / 12) (r % 12)) (hr2 : valP V (r2 / 12) (r2 % 12)) (hc : c < 4) : alqC V r r2 (4 + c) = alkC V 1 (r % 12) (r2 % 12) c := by
  have e0 : shwP V (nI (4 * 1 + c)) ↔ shwP V (nI (4 + c)) := Iff.rfl
  by_cases hs : shwP V (nI (4 + c))
  · have ha := (ask_iff (by omega)).mp hs.1
    rw [show (4 + c) / 4 = 1 by omega, show (4 + c) % 4 = c by omega] at ha
    have hb : V 124 = 1 := ha.2.elim (fun z => absurd z (fun z => absurd (nI_le (a := 4) (b := 4 + c) (by omega) (by omega)) (Int32.not_le.mpr z))) id
    have e1 : entI V 1 (nI (r % 12)) (nI c) = vS V (4 + c) (r / 12) (r % 12) := by
      rw [ent_at (by omega) (hr.2.2.2 hb) ha.1.2 hr.2.1 hc]
      unfold vS
      rw [if_neg (by omega), show (4 + c) / 4 = 1 by omega, show (4 + c) % 4 = c by omega]
    have e2 : entI V 1 (nI (r2 % 12)) (nI c) = vS V (4 + c) (r2 / 12) (r2 % 12) := by
      rw [ent_at (by omega) (hr2.2.2.2 hb) ha.1.2 hr2.2.1 hc]
      unfold vS
      rw [if_neg (by omega), show (4 + c) / 4 = 1 by omega, show (4 + c) % 4 = c by omega]
    unfold alqC alkC
    rw [e1, e2]
  · rw [alqC_h hs]
    unfold alkC
    rw [decide_eq_true (show ¬ shwP V (nI (4 * 1 + c)) from fun z => hs (e0.mp z)), Bool.or_true]
theorem alq_alk {V : mw_M} {r r2 : Nat} (hr : valP V (r / 12) (r % 12)) (hr2 : valP V (r2 / 12) (r2 % 12)) : alqB V r r2 8 = true ↔ (alkS V 0 (r / 12) (r2 / 12) = true ∧ alkS V 1 (r % 12) (r2 % 12) = true) := by
  unfold alqB alkS
  rw [alB_iff, alB_iff, alB_iff]
  constructor
  · intro h
    exact ⟨fun c hc => (alqC_0 hr hr2 hc).symm.trans (h c (by omega)), fun c hc => (alqC_1 hr hr2 hc).symm.trans (h (4 + c) (by omega))⟩
  · rintro ⟨h1, h2⟩ c hc
    rcases Nat.lt_or_ge c 4 with z | z
    · exact (alqC_0 hr hr2 z).trans (h1 c z)
    · rw [show c = 4 + (c - 4) by omega]
      exact (alqC_1 hr hr2 (by omega)).trans (h2 (c - 4) (by omega))
theorem alkC_or {V : mw_M} {d j k c : Nat} : alkC V d j k c = true ↔ (entI V d (nI j) (nI c) = entI V d (nI k) (nI c) ∨ ¬ shwP V (nI (4 * d + c))) := by
  unfold alkC
  rw [Bool.or_eq_true, decide_eq_true_eq, decide_eq_true_eq]
theorem alk_rf {V : mw_M} {d k : Nat} : alkS V d k k = true := (alB_iff 4).mpr (fun _ _ => alkC_or.mpr (Or.inl rfl))
theorem alk_sm {V : mw_M} {d j k : Nat} (h : alkS V d j k = true) : alkS V d k j = true := (alB_iff 4).mpr (fun c hc => alkC_or.mpr ((alkC_or.mp ((alB_iff 4).mp h c hc)).imp Eq.symm id))
theorem alk_tr {V : mw_M} {d j k m : Nat} (h : alkS V d j k = true) (h2 : alkS V d k m = true) : alkS V d j m = true := (alB_iff 4).mpr (fun c hc => alkC_or.mpr (by
  rcases alkC_or.mp ((alB_iff 4).mp h c hc) with a | a
  · rcases alkC_or.mp ((alB_iff 4).mp h2 c hc) with b | b
    · exact Or.inl (a.trans b)
    · exact Or.inr b
  · exact Or.inr a))
theorem fsN_spec {p : Nat → Bool} : ∀ n, (∀ j, j < fsN p n → p j = false) ∧ (fsN p n < n → p (fsN p n) = true)
  | 0 => ⟨fun j hj => absurd hj (Nat.not_lt_zero j), fun h => absurd h (Nat.not_lt_zero _)⟩
  | n + 1 => by
    have ih := fsN_spec (p := p) n
    have hle := fsN_le p n
    unfold fsN
    by_cases h : fsN p n < n
    · rw [if_pos h]
      exact ⟨ih.1, fun _ => ih.2 h⟩
    · rw [if_neg h]
      have e : fsN p n = n := by omega
      rw [e] at ih
      cases hp : p n with
      | true => exact ⟨ih.1, fun _ => hp⟩
      | false =>
        refine ⟨fun j hj => ?_, fun z => absurd z (Nat.lt_irrefl _)⟩
        have hj2 : j < n + 1 := hj
        by_cases ej : j = n
        · rw [ej]; exact hp
        · exact ih.1 j (by omega)
theorem fa_al {V : mw_M} {d k : Nat} : alkS V d (faS V d k) k = true := by
  have h := fsN_spec (p := fun j => alkS V d j k) k
  have hle := fsN_le (fun j => alkS V d j k) k
  unfold faS
  rcases Nat.lt_or_ge (fsN (fun j => alkS V d j k) k) k with z | z
  · exact h.2 z
  · rw [show fsN (fun j => alkS V d j k) k = k by omega]
    exact alk_rf
theorem fa_le {V : mw_M} {d k j : Nat} (h : alkS V d j k = true) : faS V d k ≤ j := by
  have h2 := fsN_spec (p := fun j => alkS V d j k) k
  unfold faS
  rcases Nat.lt_or_ge j (fsN (fun j => alkS V d j k) k) with z | z
  · have := h2.1 j z
    rw [h] at this
    exact absurd this (by decide)
  · exact z
theorem fa_eq {V : mw_M} {d j k : Nat} : faS V d j = faS V d k ↔ alkS V d j k = true := by
  constructor
  · intro e
    have h1 := fa_al (V := V) (d := d) (k := j)
    rw [e] at h1
    exact alk_tr (alk_sm h1) fa_al
  · intro h
    have h1 := fa_le (alk_tr (fa_al (V := V) (d := d) (k := j)) h)
    have h2 := fa_le (alk_tr (fa_al (V := V) (d := d) (k := k)) (alk_sm h))
    omega
theorem key_alq {V : mw_M} {r r2 : Nat} (h : r < 144) (h2 : r2 < 144) (hr : valP V (r / 12) (r % 12)) (hr2 : valP V (r2 / 12) (r2 % 12)) : keyS V r = keyS V r2 ↔ alqB V r r2 8 = true := by
  have a1 := faS_lt (S := V) (d := 0) (k := r / 12) (by omega)
  have a2 := faS_lt (S := V) (d := 1) (k := r % 12) (by omega)
  have a3 := faS_lt (S := V) (d := 0) (k := r2 / 12) (by omega)
  have a4 := faS_lt (S := V) (d := 1) (k := r2 % 12) (by omega)
  rw [alq_alk hr hr2, ← fa_eq, ← fa_eq]
  unfold keyS
  constructor
  · intro e
    exact ⟨by omega, by omega⟩
  · rintro ⟨e1, e2⟩
    rw [e1, e2]
theorem ky_alq {V : mw_M} {P : List Nat} {i j : Nat} (h144 : ∀ r, r ∈ P → r < 144) (hv : ∀ r, r ∈ P → valP V (r / 12) (r % 12)) (hi : i < P.length) (hj : j < P.length) : kyS V P j = kyS V P i ↔ alqB V (P.getD i 0) (P.getD j 0) 8 = true := by
  have m1 := getD_mem hi
  have m2 := getD_mem hj
  rw [← key_alq (h144 _ m1) (h144 _ m2) (hv _ m1) (hv _ m2)]
  have k1 := keyS_lt (S := V) (h144 _ m1)
  have k2 := keyS_lt (S := V) (h144 _ m2)
  unfold kyS
  rw [nI_eq (by omega) (by omega)]
  exact eq_comm
theorem srt_val {V : mw_M} (hw : wfR V) : ∀ r, r ∈ srtS V (lstS V 8) → valP V (r / 12) (r % 12) := fun r hr => (valP_row hw (srt_perm.mem_iff.mp hr)).2
theorem unl_srt {V : mw_M} (hw : wfR V) : nI (dcF (kyS V (srtS V (lstS V 8))) (srtS V (lstS V 8)).length) = unlI V :=
  congrArg nI (dc_perm (h := fun r => nI (keyS V r)) (fun r hr => Or.inr ⟨keyS V r, keyS_lt (lst_144 hw r hr), rfl⟩) srt_perm)
theorem ky_m1 {V : mw_M} {P : List Nat} {i : Nat} (h144 : ∀ r, r ∈ P → r < 144) (hi : i < P.length) : ¬ kyS V P i = -1 := nI_ne_m1 (by have := keyS_lt (S := V) (h144 _ (getD_mem hi)); omega)
/-! the cell that holds back most: with the cell n of kind 0 -/
def zrS (V : mw_M) (n : Nat) : mw_M := upd V (100 + 3 * n) 0
theorem zr_o {V : mw_M} {n q : Nat} (h : ¬ q = 100 + 3 * n) : zrS V n q = V q := upd_o h
theorem zr_wf {V : mw_M} (h : wfV V) {n : Nat} (hn : n < 8) : wfV (zrS V n) := by
  obtain ⟨h0, h1, h2, h3, h4, h5, h6⟩ := h
  have lo : ∀ q, q < 100 → zrS V n q = V q := fun q hq => zr_o (by omega)
  have hi : ∀ q, 124 ≤ q → zrS V n q = V q := fun q hq => zr_o (by omega)
  refine ⟨?_, ?_, fun i hi2 => ?_, fun c hc => ?_, fun d hd c hc hle => ?_, ?_, fun w hw => ?_⟩
  · obtain ⟨a, b, i1, i2, i3, i4⟩ := h0
    exact ⟨a, b, by rw [lo _ (by omega)]; exact i1, i2, by rw [lo _ (by omega)]; exact i3, i4⟩
  · obtain ⟨a, b, i1, i2, i3, i4⟩ := h1
    exact ⟨a, b, by rw [lo _ (by omega)]; exact i1, i2, by rw [lo _ (by omega)]; exact i3, i4⟩
  · rw [lo _ (by omega)]
    exact h2 i hi2
  · obtain ⟨k, a, b, e1, e2, e3, e4, e5, e6, e7⟩ := h3 c hc
    rw [zr_o (q := 101 + 3 * c) (by omega), zr_o (q := 102 + 3 * c) (by omega)]
    by_cases z : c = n
    · subst z
      exact ⟨0, a, b, upd_s, by omega, e3, e4, by omega, e6, e7⟩
    · rw [zr_o (q := 100 + 3 * c) (by omega)]
      exact ⟨k, a, b, e1, e2, e3, e4, e5, e6, e7⟩
  · rw [lo d (by omega)] at hle
    by_cases z : 100 + 12 * d + 3 * c = 100 + 3 * n
    · rw [z]
      exact upd_s
    · rw [zr_o z]
      exact h4 d hd c hc hle
  · rw [hi 124 (by omega)]
    exact h5
  · rw [hi _ (by omega), hi _ (by omega)]
    exact h6 w hw
theorem zr_ask {V : mw_M} {n : Nat} (hn : n < 8) {x : Int32} : askP (zrS V n) x ↔ askP V x := by
  unfold askP hcP
  rw [zr_o (q := 0) (by omega), zr_o (q := 1) (by omega), zr_o (q := 124) (by omega)]
theorem zr_vS {V : mw_M} {n c f g : Nat} (hc : c < 8) (hf : f < 12) (hg : g < 12) : vS (zrS V n) c f g = vS V c f g := by
  have h1 : c / 4 ≤ 1 := by omega
  have h2 : c % 4 ≤ 3 := by omega
  have h3 : (if c < 4 then f else g) < 12 := by split <;> assumption
  unfold vS
  exact zr_o (by omega)
theorem zr_tel {V : mw_M} {n a c : Nat} (hn : n < 8) (hc : c < 8) : telP (zrS V n) 8 a c = telP V n a c := by
  unfold telP
  rw [decide_eq_decide.mpr (zr_ask hn), decide_eq_true (show ¬ c = 8 by omega)]
  by_cases z : c = n
  · subst z
    rw [decide_eq_false (show ¬ ¬ c = c from fun z => z rfl), show zrS V c (100 + 3 * c) = 0 from upd_s]
    simp
  · rw [decide_eq_true z, zr_o (q := 100 + 3 * c) (by omega), zr_o (q := 101 + 3 * c) (by omega)]
theorem zr_tels {V : mw_M} {n a : Nat} (hn : n < 8) : telS (zrS V n) 8 a = telS V n a := tlD_c (fun c hc => zr_tel hn hc) 8 (by omega)
theorem zr_fit {V : mw_M} {n c f g : Nat} (hn : n < 8) (hc : c < 8) (hf : f < 12) (hg : g < 12) (h : ¬ c = n) : fitS (zrS V n) 8 c f g = fitS V n c f g := by
  unfold fitS
  rw [zr_o (q := 100 + 3 * c) (by omega), zr_o (q := 101 + 3 * c) (by omega), zr_o (q := 102 + 3 * c) (by omega), zr_vS hc hf hg, zr_tels hn]
  by_cases z : telS V n (V (101 + 3 * c)).toNatClampNeg < 8
  · simp only [zr_vS z hf hg]
  · simp only [if_neg z]
theorem zr_mis {V : mw_M} {n c f g : Nat} (hn : n < 8) (hc : c < 8) (hf : f < 12) (hg : g < 12) : misP (zrS V n) 8 f g c = misP V n f g c := by
  unfold misP
  rw [decide_eq_decide.mpr (zr_ask hn), decide_eq_true (show ¬ c = 8 by omega)]
  by_cases z : c = n
  · have hf1 : fitS (zrS V n) 8 c f g = true := by
      unfold fitS
      rw [show zrS V n (100 + 3 * c) = 0 by rw [z]; exact upd_s, if_pos (by decide)]
      rfl
    rw [hf1, decide_eq_false (show ¬ ¬ c = n from fun w => w z)]
    simp
  · rw [zr_fit hn hc hf hg z, decide_eq_true z]
theorem zr_miss {V : mw_M} {n f g : Nat} (hn : n < 8) (hf : f < 12) (hg : g < 12) : misS (zrS V n) 8 f g = misS V n f g := tlD_c (fun c hc => zr_mis hn hc hf hg) 8 (by omega)
theorem lstG_0 {S : mw_M} {lo f : Nat} : lstG S lo f 0 = [] := rfl
theorem lstF_0 {S : mw_M} {lo m : Nat} : lstF S lo m 0 = [] := rfl
theorem lstG_c {S S2 : mw_M} {lo lo2 f : Nat} (h : ∀ g, g < 12 → misS S lo f g = misS S2 lo2 f g) (g : Nat) : g ≤ 12 → lstG S lo f g = lstG S2 lo2 f g := by
  induction g with
  | zero => exact fun _ => lstG_0.trans lstG_0.symm
  | succ g ih =>
    intro hg
    have hm := h g (by omega)
    by_cases z : misS S lo f g = 8
    · rw [lstG_y z, lstG_y (hm.symm.trans z), ih (by omega)]
    · rw [lstG_n z, lstG_n (fun w => z (hm.trans w)), ih (by omega)]
theorem lstF_c {S S2 : mw_M} {lo lo2 m : Nat} (hm : m ≤ 12) (h : ∀ f g, f < 12 → g < 12 → misS S lo f g = misS S2 lo2 f g) (f : Nat) : f ≤ 12 → lstF S lo m f = lstF S2 lo2 m f := by
  induction f with
  | zero => exact fun _ => lstF_0.trans lstF_0.symm
  | succ f ih =>
    intro hf
    rw [lstF_s, lstF_s, ih (by omega), lstG_c (fun g hg => h f g (by omega) hg) m hm]
theorem zr_n1 {V : mw_M} {n : Nat} (hn : n < 8) : n1 (zrS V n) = n1 V := by
  unfold n1 nN
  rw [zr_o (q := 124) (by omega), zr_o (q := 2 + 1) (by omega)]
theorem zr_lst {V : mw_M} (hw : wfR V) {n : Nat} (hn : n < 8) : lstS (zrS V n) 8 = lstS V n := by
  have e2 : nN (zrS V n) 0 = nN V 0 := by
    unfold nN
    rw [zr_o (by omega)]
  unfold lstS
  rw [zr_n1 hn, e2]
  exact lstF_c (n1_le hw.2.1) (fun f g hf hg => zr_miss hn hf hg) _ hw.1.n.2
theorem zr_back {V : mw_M} {n : Nat} : upd (zrS V n) (100 + 3 * n) (V (100 + 3 * n)) = V := by
  funext q
  by_cases z : q = 100 + 3 * n
  · rw [z, upd_s]
  · rw [upd_o z, zr_o z]
theorem up_same {V : mw_M} {k : Nat} : upd V k (V k) = V := by
  funext q
  by_cases z : q = k
  · rw [z, upd_s]
  · rw [upd_o z]
theorem alq_mono {V : mw_M} {r r2 k n : Nat} (h : k ≤ n) (h2 : ¬ alqB V r r2 k = true) : ¬ alqB V r r2 n = true := alB_mono h h2
theorem alq_0 {V : mw_M} {r r2 : Nat} : alqB V r r2 0 = true := rfl
theorem zr_tx {V : mw_M} (h : txV V) {n : Nat} (hn : n < 8) : txV (zrS V n) := by
  unfold txV tN
  rw [zr_o (by omega)]
  exact h
theorem zr_tgx {V : mw_M} (hw : wfR V) {n : Nat} (hn : n < 8) (ha : askP V (nI n)) : (op_many (zrS V n)).1 = tgX V n := by
  show nI (lstS (zrS V n) 8).length = (if askP V (nI n) then nI (lstS V n).length else 0)
  rw [if_pos ha, zr_lst hw hn]
theorem tg_lo {V : mw_M} : ∀ n, manyI V ≤ (tgF V n).1
  | 0 => Int32.le_iff_toInt_le.mpr (Int.le_refl _)
  | n + 1 => by
    have ih := tg_lo (V := V) n
    by_cases z : (tgF V n).1 < tgX V n
    · rw [show tgF V (n + 1) = (tgX V n, nI n) from if_pos z]
      rw [Int32.le_iff_toInt_le] at ih ⊢
      rw [Int32.lt_iff_toInt_lt] at z
      show (manyI V).toInt ≤ (tgX V n).toInt
      omega
    · rw [show tgF V (n + 1) = tgF V n from if_neg z]
      exact ih
theorem tg_na {V : mw_M} (hw : wfR V) {n : Nat} (ha : ¬ askP V (nI n)) : tgF V (n + 1) = tgF V n := if_neg (by
  rw [show tgX V n = 0 from if_neg ha]
  have h := tg_lo (V := V) n
  have h2 := lstS_len (lo := 8) hw
  rw [Int32.le_iff_toInt_le, show manyI V = nI (lstS V 8).length from rfl, nI_toInt (by omega)] at h
  rw [Int32.lt_iff_toInt_lt, show (0 : Int32).toInt = 0 by decide]
  omega)
def tgB (V : mw_M) (n : Nat) : Int32 := if (tgF V n).2 = -1 then -14 else (tgF V n).2
theorem tgB_y {V : mw_M} {n : Nat} (hn : n < 8) (h : (tgF V n).1 < tgX V n) : tgB V (n + 1) = nI n := by
  unfold tgB
  rw [show tgF V (n + 1) = (tgX V n, nI n) from if_pos h]
  exact if_neg (nI_ne_m1 (by omega))
theorem tgB_e {V : mw_M} {n : Nat} (h : tgF V (n + 1) = tgF V n) : tgB V (n + 1) = tgB V n := by
  unfold tgB
  rw [h]
theorem tg_2 {V : mw_M} : ∀ n, n ≤ 8 → (tgF V n).2 = -1 ∨ ∃ k, k < 8 ∧ (tgF V n).2 = nI k
  | 0, _ => Or.inl rfl
  | n + 1, hn => by
    by_cases z : (tgF V n).1 < tgX V n
    · rw [show tgF V (n + 1) = (tgX V n, nI n) from if_pos z]
      exact Or.inr ⟨n, by omega, rfl⟩
    · rw [show tgF V (n + 1) = tgF V n from if_neg z]
      exact tg_2 n (by omega)
theorem tgB_lt {V : mw_M} : tgB V 8 < 0 ↔ (tgF V 8).2 = -1 := by
  unfold tgB
  constructor
  · intro h
    rcases tg_2 (V := V) 8 (by omega) with z | ⟨k, hk, z⟩
    · exact z
    · rw [z, if_neg (nI_ne_m1 (by omega))] at h
      exact absurd h (nI_pos (by omega))
  · intro h
    rw [if_pos h]
    decide
theorem iX9_drop_X9 : ∀ w ∈ u_ws RX9 TX9 13, w ∈ wsX9_drop := fun w hw => (List.mem_cons_of_mem _ (List.mem_append_right _ hw))
set_option maxRecDepth 100000 in
set_option maxHeartbeats 4000000 in
theorem lp_X9_drop {p : Program} {l : Launch} {e : Env} {s : State} {m : MethodId} {args : Array Value} {below : List Frame} {meth : Method} {c : Code} {G : mw_GG} {Q : State → Prop} (C : vv_C p s m args c G cX9_drop 4 wsX9_drop RX9) (M V : mw_M) {d kk n : Nat} (hd : d < 2) (hkn : kk < n) (hn : n ≤ 12) {x k : Int32} (hx : x = nI d) (hk : ∀ M1, relO M1 (s_rem (kpS V) d n kk (4 * (n - 1))) → rfO M M1 → vv p l e ({ frames := 2, cells := 0, slots := 0, locals := 42 } : Room) s m args below meth c G 0 0 Q M1 79 [some (.ref (G.1 145)), some (.int x), some (.int k), none] []) : ∀ (f i : Nat) (M1 : mw_M), 4 * (n - 1) + 1 ≤ i + f → 4 * kk ≤ i → i ≤ 4 * (n - 1) → relO M1 (s_rem (kpS V) d n kk i) → rfO M M1 → vv p l e ({ frames := 2, cells := 0, slots := 0, locals := 42 } : Room) s m args below meth c G 0 0 Q M1 42 [some (.ref (G.1 145)), some (.int x), some (.int k), some (.int (nI (4 + 48 * d + i)))] [] := by
  intro f
  induction f with
  | zero => intro i M1 h1 h2 h3 _ _; omega
  | succ f ih =>
    intro i M1 h1 h2 h3 hI hR1
    refine vv_iload_n C 3 dX9_drop_42 rfl rfl ?_
    refine vv_iload_n C 1 dX9_drop_43 rfl rfl ?_
    refine vv_aload_n C 0 dX9_drop_44 rfl rfl ?_
    refine vv_getr C (Cn := RX9) (T := TX9) (N := 13) sh_145 0 rfl rfl (by decide) iX9_drop_X9 (List.mem_of_getElem? (i := 1) rfl) rfl dX9_drop_45 ?_
    refine vv_iconst (v := 2) C dX9_drop_48 (by decide) ?_
    refine vv_iload_n C 1 dX9_drop_49 rfl rfl ?_
    refine vv_iadd C dX9_drop_50 ?_
    refine vv_ald (j := 2 + d) (q := 2000 + (2 + d)) C sh_146 (ix_2x hx) (by omega) (by omega) dX9_drop_51 ?_
    refine vv_top (y := nI (n - 1)) ((hI.1 _ (by omega)).trans rem_n9) ?_
    refine vv_iconst (v := 0) C dX9_drop_52 (by decide) ?_
    refine vv_callSI C [.int x, .int (nI (n - 1)), .int 0] (c_X9_valueAt M1 x (nI (n - 1)) 0) (cwS 3 C.1.2.2.2.2 gX9_drop_X9_valueAt rfl rfl rfl (by decide +kernel) ⟨Nat.le_of_ble_eq_true rfl, Nat.le_of_ble_eq_true rfl⟩) rfl rfl rfl (Nat.le_of_ble_eq_true rfl) dX9_drop_53 ⟨Nat.le_refl _, Nat.le_refl _⟩ ?_
    refine vv_top (y := nI (4 + 48 * d + (4 * (n - 1) + 0))) (ix_v3 hx rfl rfl) ?_
    refine vv_icmp_ge C 79 dX9_drop_56 (by decide) (fun hge => ?_) (fun hlt => ?_)
    · have hin : i = 4 * (n - 1) := by
        rcases Nat.lt_or_ge i (4 * (n - 1)) with z | z
        · exact absurd hge (nI_ge (b := 4 + 48 * d + (4 * (n - 1) + 0)) (by omega) (by omega))
        · omega
      rw [hin] at hI
      refine vv_keep (ls2 := [some (.ref (G.1 145)), some (.int x), some (.int k), none]) ⟨rfl, rfl, rfl, trivial⟩ ?_
      exact hk M1 hI hR1
    · have hi4 : (4 + 48 * d + i) < (4 + 48 * d + (4 * (n - 1) + 0)) := by
        rcases Nat.lt_or_ge (4 + 48 * d + i) (4 + 48 * d + (4 * (n - 1) + 0)) with z | z
        · exact z
        · exact absurd (nI_le (a := (4 + 48 * d + (4 * (n - 1) + 0))) z (by omega)) hlt
      refine vv_aload_n C 0 dX9_drop_59 rfl rfl ?_
      refine vv_getr C (Cn := RX9) (T := TX9) (N := 13) sh_145 0 rfl rfl (by decide) iX9_drop_X9 (List.mem_of_getElem? (i := 1) rfl) rfl dX9_drop_60 ?_
      refine vv_iload_n C 3 dX9_drop_63 rfl rfl ?_
      refine vv_aload_n C 0 dX9_drop_64 rfl rfl ?_
      refine vv_getr C (Cn := RX9) (T := TX9) (N := 13) sh_145 0 rfl rfl (by decide) iX9_drop_X9 (List.mem_of_getElem? (i := 1) rfl) rfl dX9_drop_65 ?_
      refine vv_iload_n C 3 dX9_drop_68 rfl rfl ?_
      refine vv_iconst (v := 4) C dX9_drop_69 (by decide) ?_
      refine vv_iadd C dX9_drop_70 ?_
      refine vv_ald (j := 4 + 48 * d + i + 4) (q := 2000 + (4 + 48 * d + i + 4)) C sh_146 (nI_add _ 4) (by omega) (by omega) dX9_drop_71 ?_
      refine vv_ast (j := 4 + 48 * d + i) (q := 2000 + (4 + 48 * d + i)) C sh_146 rfl (by omega) (by omega) dX9_drop_72 ?_
      refine vv_iinc (v := nI ((4 + 48 * d + i) + 1)) (ls2 := [some (.ref (G.1 145)), some (.int x), some (.int k), some (.int (nI ((4 + 48 * d + i) + 1)))]) C 3 dX9_drop_73 rfl (nI_1 _) rfl ?_
      refine vv_goto C 42 dX9_drop_76 (by decide) ?_
      exact ih (i + 1) _ (by omega) (by omega) (by omega) ((hI.u (k := 4 + 48 * d + i) (by omega)).to (by rw [hI.1 (4 + 48 * d + i + 4) (by omega)]; exact rem_step9 h2)) (hR1.u (by omega))
set_option maxRecDepth 100000 in
set_option maxHeartbeats 4000000 in
theorem c_X9_drop {l : Launch} {G : mw_GG} (M V : mw_M) (hV : relO M V) (hw : wfV V) (hh : hiV V) (ht : txV V) (x k : Int32) : mw_Met l yX9_drop wsX9_drop ({ frames := 2, cells := 0, slots := 0, locals := 42 } : Room) G [.ref (G.1 145), .int x, .int k] M (qIP (fun r M2 => r = (op_drop V x k).1 ∧ relO M2 (op_drop V x k).2 ∧ rfO M M2)) := by
  refine mw_ofV (cc := cX9_drop) 4 (by decide) rfl rfl (Nat.le_of_ble_eq_true rfl) ?_
  intro p e s m args below meth c C hR hN0
  refine vv_loc (ls2 := [some (.ref (G.1 145)), some (.int x), some (.int k), none]) rfl ?_
  have hR0 := hw.wfR
  have hdx := dN_lt x
  have hz : szP V (dN x) := szD hw x
  refine vv_iload_n C 1 dX9_drop_0 rfl rfl ?_
  refine vv_callSI C [.int x] (c_X9_isDrawer M x) (cwS 1 C.1.2.2.2.2 gX9_drop_X9_isDrawer rfl rfl rfl (by decide +kernel) ⟨Nat.le_of_ble_eq_true rfl, Nat.le_of_ble_eq_true rfl⟩) rfl rfl rfl (Nat.le_of_ble_eq_true rfl) dX9_drop_1 ⟨Nat.le_refl _, Nat.le_refl _⟩ ?_
  refine vv_bif_eq C 16 dX9_drop_4 (by decide) (fun h_nd => ?_) (fun h_d => ?_)
  · refine vv_bipush (v := (-11)) C dX9_drop_16 (by decide) ?_
    exact vv_iret C hR dX9_drop_18 (qIP_of (by rw [show op_drop V x k = (-11, V) from if_neg (fun z => h_nd z.1)]; exact ⟨rfl, hV, rfO.rf⟩))
  · refine vv_aload_n C 0 dX9_drop_7 rfl rfl ?_
    refine vv_iload_n C 1 dX9_drop_8 rfl rfl ?_
    refine vv_iload_n C 2 dX9_drop_9 rfl rfl ?_
    refine vv_callVI C [.int x, .int k] (c_X9_isCard M V hV.1 (d := (dN x)) (dN_lt x) (x := x) (dN_nI h_d) k) sh_145 rfl (cwV 2 C.1.2.2.2.2 gX9_drop_X9_isCard rfl rfl rfl (by decide +kernel) ⟨Nat.le_of_ble_eq_true rfl, Nat.le_of_ble_eq_true rfl⟩) rfl rfl rfl (Nat.le_of_ble_eq_true rfl) dX9_drop_10 ⟨Nat.le_refl _, Nat.le_refl _⟩ ?_
    refine vv_bif_ne C 19 dX9_drop_13 (by decide) (fun h_k => ?_) (fun h_nk => ?_)
    · have hkn := hk_nI hz h_k
      have hkn2 : k.toNatClampNeg < nN V (dN x) := by
        rcases Nat.lt_or_ge (k.toNatClampNeg) (nN V (dN x)) with z | z
        · exact z
        · exact absurd (show V (2 + dN x) ≤ k by rw [hz.n.1, hkn.1]; exact nI_le z (by omega)) h_k.2
      have hn12 := hz.n.2
      refine vv_aload_n C 0 dX9_drop_19 rfl rfl ?_
      refine vv_callVVP C [] (c_X9_changes M V hV hh) sh_145 rfl (cwV 0 C.1.2.2.2.2 gX9_drop_X9_changes rfl rfl rfl (by decide +kernel) ⟨Nat.le_of_ble_eq_true rfl, Nat.le_of_ble_eq_true rfl⟩) rfl rfl rfl (Nat.le_of_ble_eq_true rfl) dX9_drop_20 ⟨Nat.le_refl _, Nat.le_refl _⟩ (fun M_5 h_6 => ?_)
      have hC := h_6
      refine vv_aload_n C 0 dX9_drop_23 rfl rfl ?_
      refine vv_getr C (Cn := RX9) (T := TX9) (N := 13) sh_145 0 rfl rfl (by decide) iX9_drop_X9 (List.mem_of_getElem? (i := 1) rfl) rfl dX9_drop_24 ?_
      refine vv_iconst (v := 2) C dX9_drop_27 (by decide) ?_
      refine vv_iload_n C 1 dX9_drop_28 rfl rfl ?_
      refine vv_iadd C dX9_drop_29 ?_
      refine vv_dup2 C dX9_drop_30 rfl rfl ?_
      refine vv_ald (j := 2 + dN x) (q := 2000 + (2 + dN x)) C sh_146 (ix_2x (dN_nI h_d)) (by omega) (by omega) dX9_drop_31 ?_
      refine vv_top (y := nI (nN V (dN x))) (((hC.1.1 _ (by omega)).trans (kpS_lo (by omega))).trans hz.n.1) ?_
      refine vv_iconst (v := 1) C dX9_drop_32 (by decide) ?_
      refine vv_isub C dX9_drop_33 ?_
      refine vv_top (y := nI (nN V (dN x) - 1)) (nI_subI (b := 1) (by omega)) ?_
      refine vv_ast (j := 2 + dN x) (q := 2000 + (2 + dN x)) C sh_146 (ix_2x (dN_nI h_d)) (by omega) (by omega) dX9_drop_34 ?_
      refine vv_iload_n C 1 dX9_drop_35 rfl rfl ?_
      refine vv_iload_n C 2 dX9_drop_36 rfl rfl ?_
      refine vv_iconst (v := 0) C dX9_drop_37 (by decide) ?_
      refine vv_callSI C [.int x, .int k, .int 0] (c_X9_valueAt (upd M_5 (2000 + (2 + dN x)) (nI (nN V (dN x) - 1))) x k 0) (cwS 3 C.1.2.2.2.2 gX9_drop_X9_valueAt rfl rfl rfl (by decide +kernel) ⟨Nat.le_of_ble_eq_true rfl, Nat.le_of_ble_eq_true rfl⟩) rfl rfl rfl (Nat.le_of_ble_eq_true rfl) dX9_drop_38 ⟨Nat.le_refl _, Nat.le_refl _⟩ ?_
      refine vv_top (y := nI (4 + 48 * dN x + (4 * k.toNatClampNeg + 0))) (ix_v3 (dN_nI h_d) hkn.1 rfl) ?_
      refine vv_istore_n (ls2 := [some (.ref (G.1 145)), some (.int x), some (.int k), some (.int (nI (4 + 48 * dN x + (4 * k.toNatClampNeg + 0))))]) C 3 dX9_drop_41 rfl (Nat.le_of_ble_eq_true rfl) rfl ?_
      refine vv_loc (ls2 := [some (.ref (G.1 145)), some (.int x), some (.int k), some (.int (nI (4 + 48 * dN x + 4 * k.toNatClampNeg)))]) rfl ?_
      refine lp_X9_drop C M V (d := dN x) (kk := k.toNatClampNeg) (n := nN V (dN x)) hdx hkn2 hz.n.2 (dN_nI h_d) (fun M2 hI hR1 => ?_) (4 * (nN V (dN x) - 1) + 1) (4 * k.toNatClampNeg) _ (by omega) (by omega) (by omega) ((hC.1.u (k := 2 + dN x) (by omega)).to rem_09.symm) (hC.2.u (by omega))
      refine vv_aload_n C 0 dX9_drop_79 rfl rfl ?_
      refine vv_getr C (Cn := RX9) (T := TX9) (N := 13) sh_145 0 rfl rfl (by decide) iX9_drop_X9 (List.mem_of_getElem? (i := 1) rfl) rfl dX9_drop_80 ?_
      refine vv_iconst (v := 2) C dX9_drop_83 (by decide) ?_
      refine vv_iload_n C 1 dX9_drop_84 rfl rfl ?_
      refine vv_iadd C dX9_drop_85 ?_
      refine vv_ald (j := 2 + dN x) (q := 2000 + (2 + dN x)) C sh_146 (ix_2x (dN_nI h_d)) (by omega) (by omega) dX9_drop_86 ?_
      refine vv_top (y := nI (nN V (dN x) - 1)) ((hI.1 _ (by omega)).trans rem_n9) ?_
      exact vv_iret C hR dX9_drop_87 (qIP_of (by rw [show op_drop V x k = _ from if_pos ⟨h_d, h_k⟩]; exact ⟨rfl, hI, hR1⟩))
    · refine vv_bipush (v := (-11)) C dX9_drop_16 (by decide) ?_
      exact vv_iret C hR dX9_drop_18 (qIP_of (by rw [show op_drop V x k = (-11, V) from if_neg (fun z => h_nk z.2)]; exact ⟨rfl, hV, rfO.rf⟩))
theorem iX9_areAlike_X9 : ∀ w ∈ u_ws RX9 TX9 13, w ∈ wsX9_areAlike := fun w hw => (List.mem_cons_of_mem _ (List.mem_append_right _ hw))
set_option maxRecDepth 100000 in
set_option maxHeartbeats 4000000 in
theorem lp_X9_areAlike {p : Program} {l : Launch} {e : Env} {s : State} {m : MethodId} {args : Array Value} {below : List Frame} {meth : Method} {c : Code} {G : mw_GG} {Q : State → Prop} (C : vv_C p s m args c G cX9_areAlike 6 wsX9_areAlike RX9) (M V : mw_M) (hV : vwO M V) {P : List Nat} (hP : arR M P) (h144 : ∀ r, r ∈ P → r < 144) (hl : P.length ≤ 144) {i j : Nat} (hi : i < P.length) (hj : j < P.length) (hk : vv p l e ({ frames := 2, cells := 0, slots := 0, locals := 45 } : Room) s m args below meth c G 0 0 Q M 105 [some (.ref (G.1 145)), some (.int (nI i)), some (.int (nI j)), some (.int (bI (alqB V (P.getD i 0) (P.getD j 0) 8 = true))), none, none] []) : ∀ (n k : Nat), 9 ≤ k + n → k ≤ 8 → vv p l e ({ frames := 2, cells := 0, slots := 0, locals := 45 } : Room) s m args below meth c G 0 0 Q M 5 [some (.ref (G.1 145)), some (.int (nI i)), some (.int (nI j)), some (.int (bI (alqB V (P.getD i 0) (P.getD j 0) k = true))), some (.int (nI k)), none] [] := by
  intro n
  induction n with
  | zero => intro k h1 h2; omega
  | succ n ih =>
    intro k h1 h2
    have hr1 := h144 _ (getD_mem hi)
    have hr2 := h144 _ (getD_mem hj)
    refine vv_iload C 4 dX9_areAlike_5 rfl ?_
    refine vv_bipush (v := 8) C dX9_areAlike_7 (by decide) ?_
    refine vv_icmp_ge C 105 dX9_areAlike_9 (by decide) (fun hge => ?_) (fun hlt => ?_)
    · have hin : k = 8 := by
        rcases Nat.lt_or_ge k (8) with z | z
        · exact absurd hge (nI_ge (b := 8) (by omega) (by omega))
        · omega
      rw [hin]
      refine vv_keep (ls2 := [some (.ref (G.1 145)), some (.int (nI i)), some (.int (nI j)), some (.int (bI (alqB V (P.getD i 0) (P.getD j 0) 8 = true))), none, none]) ⟨rfl, rfl, rfl, rfl, trivial⟩ ?_
      exact hk
    · have hk8 : k < 8 := by
        rcases Nat.lt_or_ge k 8 with z | z
        · exact z
        · exact absurd (nI_le (a := 8) z (by omega)) hlt
      refine vv_iload_n C 3 dX9_areAlike_12 rfl rfl ?_
      refine vv_bif_eq C 105 dX9_areAlike_13 (by decide) (fun h_no => ?_) (fun h_yes => ?_)
      · refine vv_loc (ls2 := [some (.ref (G.1 145)), some (.int (nI i)), some (.int (nI j)), some (.int (bI (alqB V (P.getD i 0) (P.getD j 0) 8 = true))), some (.int (nI k)), none]) (by rw [bI_f h_no, bI_f (alq_mono h2 h_no)]) ?_
        refine vv_keep (ls2 := [some (.ref (G.1 145)), some (.int (nI i)), some (.int (nI j)), some (.int (bI (alqB V (P.getD i 0) (P.getD j 0) 8 = true))), none, none]) ⟨rfl, rfl, rfl, rfl, trivial⟩ ?_
        exact hk
      · refine vv_aload_n C 0 dX9_areAlike_16 rfl rfl ?_
        refine vv_getr C (Cn := RX9) (T := TX9) (N := 13) sh_145 0 rfl rfl (by decide) iX9_areAlike_X9 (List.mem_of_getElem? (i := 1) rfl) rfl dX9_areAlike_17 ?_
        refine vv_sipush (v := 129) C dX9_areAlike_20 (by decide) ?_
        refine vv_ald (j := 129) (q := 2129) C sh_146 (by decide) (by decide) rfl dX9_areAlike_23 ?_
        refine vv_top (y := V 129) (hV 129 (by decide)) ?_
        refine vv_iload C 4 dX9_areAlike_24 rfl ?_
        refine vv_ishr C dX9_areAlike_26 ?_
        refine vv_iconst (v := 1) C dX9_areAlike_27 (by decide) ?_
        refine vv_iand C dX9_areAlike_28 ?_
        refine vv_iconst (v := 1) C dX9_areAlike_29 (by decide) ?_
        refine vv_icmp_ne C 46 dX9_areAlike_30 (by decide) (fun h_ns => ?_) (fun h_s => ?_)
        · refine vv_iconst (v := 0) C dX9_areAlike_46 (by decide) ?_
          refine vv_istore (ls2 := [some (.ref (G.1 145)), some (.int (nI i)), some (.int (nI j)), some (.int (bI (alqB V (P.getD i 0) (P.getD j 0) k = true))), some (.int (nI k)), some (.int 0)]) C 5 dX9_areAlike_47 (Nat.le_of_ble_eq_true rfl) rfl ?_
          refine vv_iload C 5 dX9_areAlike_49 rfl ?_
          refine vv_if_eq C 93 dX9_areAlike_51 (by decide) (fun h_8 => ?_) (fun h_7 => absurd h_7 (by decide))
          refine vv_iconst (v := 1) C dX9_areAlike_93 (by decide) ?_
          refine vv_goto C 98 dX9_areAlike_94 (by decide) ?_
          refine vv_istore_n (ls2 := [some (.ref (G.1 145)), some (.int (nI i)), some (.int (nI j)), some (.int 1), some (.int (nI k)), some (.int 0)]) C 3 dX9_areAlike_98 rfl (Nat.le_of_ble_eq_true rfl) rfl ?_
          refine vv_iinc (v := nI (k + 1)) (ls2 := [some (.ref (G.1 145)), some (.int (nI i)), some (.int (nI j)), some (.int 1), some (.int (nI (k + 1))), some (.int 0)]) C 4 dX9_areAlike_99 rfl (nI_1 _) rfl ?_
          refine vv_goto C 5 dX9_areAlike_102 (by decide) ?_
          refine vv_keep (ls2 := [some (.ref (G.1 145)), some (.int (nI i)), some (.int (nI j)), some (.int 1), some (.int (nI (k + 1))), none]) ⟨rfl, rfl, rfl, rfl, rfl, trivial⟩ ?_
          refine vv_loc (ls2 := [some (.ref (G.1 145)), some (.int (nI i)), some (.int (nI j)), some (.int (bI (alqB V (P.getD i 0) (P.getD j 0) (k + 1) = true))), some (.int (nI (k + 1))), none]) (by rw [← bI_alq_y h_yes (alqC_h (fun z => h_ns z.2))]) ?_
          exact ih (k + 1) (by omega) (by omega)
        · refine vv_aload_n C 0 dX9_areAlike_33 rfl rfl ?_
          refine vv_iload C 4 dX9_areAlike_34 rfl ?_
          refine vv_callVI C [.int (nI k)] (c_X9_isAsked M V hV (cc := k) hk8 (x := (nI k)) rfl) sh_145 rfl (cwV 1 C.1.2.2.2.2 gX9_areAlike_X9_isAsked rfl rfl rfl (by decide +kernel) ⟨Nat.le_of_ble_eq_true rfl, Nat.le_of_ble_eq_true rfl⟩) rfl rfl rfl (Nat.le_of_ble_eq_true rfl) dX9_areAlike_36 ⟨Nat.le_refl _, Nat.le_refl _⟩ ?_
          refine vv_bif_eq C 46 dX9_areAlike_39 (by decide) (fun h_na => ?_) (fun h_a => ?_)
          · refine vv_iconst (v := 0) C dX9_areAlike_46 (by decide) ?_
            refine vv_istore (ls2 := [some (.ref (G.1 145)), some (.int (nI i)), some (.int (nI j)), some (.int (bI (alqB V (P.getD i 0) (P.getD j 0) k = true))), some (.int (nI k)), some (.int 0)]) C 5 dX9_areAlike_47 (Nat.le_of_ble_eq_true rfl) rfl ?_
            refine vv_iload C 5 dX9_areAlike_49 rfl ?_
            refine vv_if_eq C 93 dX9_areAlike_51 (by decide) (fun h_12 => ?_) (fun h_11 => absurd h_11 (by decide))
            refine vv_iconst (v := 1) C dX9_areAlike_93 (by decide) ?_
            refine vv_goto C 98 dX9_areAlike_94 (by decide) ?_
            refine vv_istore_n (ls2 := [some (.ref (G.1 145)), some (.int (nI i)), some (.int (nI j)), some (.int 1), some (.int (nI k)), some (.int 0)]) C 3 dX9_areAlike_98 rfl (Nat.le_of_ble_eq_true rfl) rfl ?_
            refine vv_iinc (v := nI (k + 1)) (ls2 := [some (.ref (G.1 145)), some (.int (nI i)), some (.int (nI j)), some (.int 1), some (.int (nI (k + 1))), some (.int 0)]) C 4 dX9_areAlike_99 rfl (nI_1 _) rfl ?_
            refine vv_goto C 5 dX9_areAlike_102 (by decide) ?_
            refine vv_keep (ls2 := [some (.ref (G.1 145)), some (.int (nI i)), some (.int (nI j)), some (.int 1), some (.int (nI (k + 1))), none]) ⟨rfl, rfl, rfl, rfl, rfl, trivial⟩ ?_
            refine vv_loc (ls2 := [some (.ref (G.1 145)), some (.int (nI i)), some (.int (nI j)), some (.int (bI (alqB V (P.getD i 0) (P.getD j 0) (k + 1) = true))), some (.int (nI (k + 1))), none]) (by rw [← bI_alq_y h_yes (alqC_h (fun z => h_na z.1))]) ?_
            exact ih (k + 1) (by omega) (by omega)
          · refine vv_iconst (v := 1) C dX9_areAlike_42 (by decide) ?_
            refine vv_goto C 47 dX9_areAlike_43 (by decide) ?_
            refine vv_istore (ls2 := [some (.ref (G.1 145)), some (.int (nI i)), some (.int (nI j)), some (.int (bI (alqB V (P.getD i 0) (P.getD j 0) k = true))), some (.int (nI k)), some (.int 1)]) C 5 dX9_areAlike_47 (Nat.le_of_ble_eq_true rfl) rfl ?_
            refine vv_iload C 5 dX9_areAlike_49 rfl ?_
            refine vv_if_eq C 93 dX9_areAlike_51 (by decide) (fun h_13 => absurd h_13 (by decide)) (fun h_14 => ?_)
            refine vv_aload_n C 0 dX9_areAlike_54 rfl rfl ?_
            refine vv_aload_n C 0 dX9_areAlike_55 rfl rfl ?_
            refine vv_getr C (Cn := RX9) (T := TX9) (N := 13) sh_145 5 rfl rfl (by decide) iX9_areAlike_X9 (List.mem_of_getElem? (i := 2) rfl) rfl dX9_areAlike_56 ?_
            refine vv_iload_n C 1 dX9_areAlike_59 rfl rfl ?_
            refine vv_ald (j := i) (q := 1300 + i) C sh_149 rfl (by omega) (by omega) dX9_areAlike_60 ?_
            refine vv_top (y := nI (P.getD i 0 / 12)) (hP i hi).1 ?_
            refine vv_aload_n C 0 dX9_areAlike_61 rfl rfl ?_
            refine vv_getr C (Cn := RX9) (T := TX9) (N := 13) sh_145 6 rfl rfl (by decide) iX9_areAlike_X9 (List.mem_of_getElem? (i := 3) rfl) rfl dX9_areAlike_62 ?_
            refine vv_iload_n C 1 dX9_areAlike_65 rfl rfl ?_
            refine vv_ald (j := i) (q := 1450 + i) C sh_150 rfl (by omega) (by omega) dX9_areAlike_66 ?_
            refine vv_top (y := nI (P.getD i 0 % 12)) (hP i hi).2 ?_
            refine vv_iload C 4 dX9_areAlike_67 rfl ?_
            refine vv_callVI C [.int (nI (P.getD i 0 / 12)), .int (nI (P.getD i 0 % 12)), .int (nI k)] (c_X9_at M V hV (f := (P.getD i 0 / 12)) (g := (P.getD i 0 % 12)) (cc := k) ⟨by omega, by omega, hk8⟩ (x := (nI (P.getD i 0 / 12))) (y := (nI (P.getD i 0 % 12))) (z := (nI k)) rfl rfl rfl) sh_145 rfl (cwV 3 C.1.2.2.2.2 gX9_areAlike_X9_at rfl rfl rfl (by decide +kernel) ⟨Nat.le_of_ble_eq_true rfl, Nat.le_of_ble_eq_true rfl⟩) rfl rfl rfl (Nat.le_of_ble_eq_true rfl) dX9_areAlike_69 ⟨Nat.le_refl _, Nat.le_refl _⟩ ?_
            refine vv_aload_n C 0 dX9_areAlike_72 rfl rfl ?_
            refine vv_aload_n C 0 dX9_areAlike_73 rfl rfl ?_
            refine vv_getr C (Cn := RX9) (T := TX9) (N := 13) sh_145 5 rfl rfl (by decide) iX9_areAlike_X9 (List.mem_of_getElem? (i := 2) rfl) rfl dX9_areAlike_74 ?_
            refine vv_iload_n C 2 dX9_areAlike_77 rfl rfl ?_
            refine vv_ald (j := j) (q := 1300 + j) C sh_149 rfl (by omega) (by omega) dX9_areAlike_78 ?_
            refine vv_top (y := nI (P.getD j 0 / 12)) (hP j hj).1 ?_
            refine vv_aload_n C 0 dX9_areAlike_79 rfl rfl ?_
            refine vv_getr C (Cn := RX9) (T := TX9) (N := 13) sh_145 6 rfl rfl (by decide) iX9_areAlike_X9 (List.mem_of_getElem? (i := 3) rfl) rfl dX9_areAlike_80 ?_
            refine vv_iload_n C 2 dX9_areAlike_83 rfl rfl ?_
            refine vv_ald (j := j) (q := 1450 + j) C sh_150 rfl (by omega) (by omega) dX9_areAlike_84 ?_
            refine vv_top (y := nI (P.getD j 0 % 12)) (hP j hj).2 ?_
            refine vv_iload C 4 dX9_areAlike_85 rfl ?_
            refine vv_callVI C [.int (nI (P.getD j 0 / 12)), .int (nI (P.getD j 0 % 12)), .int (nI k)] (c_X9_at M V hV (f := (P.getD j 0 / 12)) (g := (P.getD j 0 % 12)) (cc := k) ⟨by omega, by omega, hk8⟩ (x := (nI (P.getD j 0 / 12))) (y := (nI (P.getD j 0 % 12))) (z := (nI k)) rfl rfl rfl) sh_145 rfl (cwV 3 C.1.2.2.2.2 gX9_areAlike_X9_at rfl rfl rfl (by decide +kernel) ⟨Nat.le_of_ble_eq_true rfl, Nat.le_of_ble_eq_true rfl⟩) rfl rfl rfl (Nat.le_of_ble_eq_true rfl) dX9_areAlike_87 ⟨Nat.le_refl _, Nat.le_refl _⟩ ?_
            refine vv_icmp_ne C 97 dX9_areAlike_90 (by decide) (fun h_df => ?_) (fun h_eq => ?_)
            · refine vv_iconst (v := 0) C dX9_areAlike_97 (by decide) ?_
              refine vv_istore_n (ls2 := [some (.ref (G.1 145)), some (.int (nI i)), some (.int (nI j)), some (.int 0), some (.int (nI k)), some (.int 1)]) C 3 dX9_areAlike_98 rfl (Nat.le_of_ble_eq_true rfl) rfl ?_
              refine vv_iinc (v := nI (k + 1)) (ls2 := [some (.ref (G.1 145)), some (.int (nI i)), some (.int (nI j)), some (.int 0), some (.int (nI (k + 1))), some (.int 1)]) C 4 dX9_areAlike_99 rfl (nI_1 _) rfl ?_
              refine vv_goto C 5 dX9_areAlike_102 (by decide) ?_
              refine vv_keep (ls2 := [some (.ref (G.1 145)), some (.int (nI i)), some (.int (nI j)), some (.int 0), some (.int (nI (k + 1))), none]) ⟨rfl, rfl, rfl, rfl, rfl, trivial⟩ ?_
              refine vv_loc (ls2 := [some (.ref (G.1 145)), some (.int (nI i)), some (.int (nI j)), some (.int (bI (alqB V (P.getD i 0) (P.getD j 0) (k + 1) = true))), some (.int (nI (k + 1))), none]) (by rw [← bI_alq_n (alqC_n h_df ⟨h_a, h_s⟩)]) ?_
              exact ih (k + 1) (by omega) (by omega)
            · refine vv_iconst (v := 1) C dX9_areAlike_93 (by decide) ?_
              refine vv_goto C 98 dX9_areAlike_94 (by decide) ?_
              refine vv_istore_n (ls2 := [some (.ref (G.1 145)), some (.int (nI i)), some (.int (nI j)), some (.int 1), some (.int (nI k)), some (.int 1)]) C 3 dX9_areAlike_98 rfl (Nat.le_of_ble_eq_true rfl) rfl ?_
              refine vv_iinc (v := nI (k + 1)) (ls2 := [some (.ref (G.1 145)), some (.int (nI i)), some (.int (nI j)), some (.int 1), some (.int (nI (k + 1))), some (.int 1)]) C 4 dX9_areAlike_99 rfl (nI_1 _) rfl ?_
              refine vv_goto C 5 dX9_areAlike_102 (by decide) ?_
              refine vv_keep (ls2 := [some (.ref (G.1 145)), some (.int (nI i)), some (.int (nI j)), some (.int 1), some (.int (nI (k + 1))), none]) ⟨rfl, rfl, rfl, rfl, rfl, trivial⟩ ?_
              refine vv_loc (ls2 := [some (.ref (G.1 145)), some (.int (nI i)), some (.int (nI j)), some (.int (bI (alqB V (P.getD i 0) (P.getD j 0) (k + 1) = true))), some (.int (nI (k + 1))), none]) (by rw [← bI_alq_y h_yes (alqC_y h_eq)]) ?_
              exact ih (k + 1) (by omega) (by omega)
set_option maxRecDepth 100000 in
set_option maxHeartbeats 4000000 in
theorem c_X9_areAlike {l : Launch} {G : mw_GG} (M V : mw_M) (hV : vwO M V) {P : List Nat} (hP : arR M P) (h144 : ∀ r, r ∈ P → r < 144) (hl : P.length ≤ 144) {i j : Nat} (hi : i < P.length) (hj : j < P.length) {x y : Int32} (hx : x = nI i) (hy : y = nI j) : mw_Met l yX9_areAlike wsX9_areAlike ({ frames := 2, cells := 0, slots := 0, locals := 45 } : Room) G [.ref (G.1 145), .int x, .int y] M (qI (bI (alqB V (P.getD i 0) (P.getD j 0) 8 = true)) M) := by
  refine mw_ofV (cc := cX9_areAlike) 6 (by decide) rfl rfl (Nat.le_of_ble_eq_true rfl) ?_
  intro p e s m args below meth c C hR hN0
  subst hx
  subst hy
  refine vv_loc (ls2 := [some (.ref (G.1 145)), some (.int (nI i)), some (.int (nI j)), none, none, none]) rfl ?_
  refine vv_iconst (v := 1) C dX9_areAlike_0 (by decide) ?_
  refine vv_istore_n (ls2 := [some (.ref (G.1 145)), some (.int (nI i)), some (.int (nI j)), some (.int 1), none, none]) C 3 dX9_areAlike_1 rfl (Nat.le_of_ble_eq_true rfl) rfl ?_
  refine vv_iconst (v := 0) C dX9_areAlike_2 (by decide) ?_
  refine vv_istore (ls2 := [some (.ref (G.1 145)), some (.int (nI i)), some (.int (nI j)), some (.int 1), some (.int 0), none]) C 4 dX9_areAlike_3 (Nat.le_of_ble_eq_true rfl) rfl ?_
  refine vv_loc (ls2 := [some (.ref (G.1 145)), some (.int (nI i)), some (.int (nI j)), some (.int (bI (alqB V (P.getD i 0) (P.getD j 0) 0 = true))), some (.int (nI 0)), none]) (by rw [bI_t alq_0]; rfl) ?_
  refine lp_X9_areAlike C M V hV hP h144 hl hi hj ?_ 9 0 (by omega) (by omega)
  refine vv_iload_n C 3 dX9_areAlike_105 rfl rfl ?_
  exact vv_zret C hR dX9_areAlike_106 (qI_of rfl rfl)
set_option maxRecDepth 100000 in
set_option maxHeartbeats 4000000 in
theorem lp_X9_unlikeNow_in {p : Program} {l : Launch} {e : Env} {s : State} {m : MethodId} {args : Array Value} {below : List Frame} {meth : Method} {c : Code} {G : mw_GG} {Q : State → Prop} (C : vv_C p s m args c G cX9_unlikeNow 5 wsX9_unlikeNow RX9) (M V : mw_M) (hV : vwO M V) {P : List Nat} (hP : arR M P) (h144 : ∀ r, r ∈ P → r < 144) (hl : P.length ≤ 144) (hv : ∀ r, r ∈ P → valP V (r / 12) (r % 12)) {k : Nat} (hk : k < P.length) (hkk : vv p l e ({ frames := 6, cells := 0, slots := 0, locals := 140 } : Room) s m args below meth c G 0 0 Q M 53 [some (.ref (G.1 145)), some (.int (nI (dcF (kyS V P) k))), some (.int (nI k)), some (.int (bI (noneB (kyS V P) (kyS V P k) k = true))), none] []) : ∀ (n i : Nat), k + 1 ≤ i + n → i ≤ k → vv p l e ({ frames := 6, cells := 0, slots := 0, locals := 140 } : Room) s m args below meth c G 0 0 Q M 21 [some (.ref (G.1 145)), some (.int (nI (dcF (kyS V P) k))), some (.int (nI k)), some (.int (bI (noneB (kyS V P) (kyS V P k) i = true))), some (.int (nI i))] [] := by
  intro n
  induction n with
  | zero => intro i h1 h2; omega
  | succ n ih =>
    intro i h1 h2
    refine vv_iload C 4 dX9_unlikeNow_21 rfl ?_
    refine vv_iload_n C 2 dX9_unlikeNow_23 rfl rfl ?_
    refine vv_icmp_ge C 53 dX9_unlikeNow_24 (by decide) (fun hge => ?_) (fun hlt => ?_)
    · have hin : i = k := by
        rcases Nat.lt_or_ge i (k) with z | z
        · exact absurd hge (nI_ge (b := k) (by omega) (by omega))
        · omega
      rw [hin]
      refine vv_keep (ls2 := [some (.ref (G.1 145)), some (.int (nI (dcF (kyS V P) k))), some (.int (nI k)), some (.int (bI (noneB (kyS V P) (kyS V P k) k = true))), none]) ⟨rfl, rfl, rfl, rfl, trivial⟩ ?_
      exact hkk
    · have hik : i < k := by
        rcases Nat.lt_or_ge i k with z | z
        · exact z
        · exact absurd (nI_le (a := k) z (by omega)) hlt
      have hi2 : i < P.length := by omega
      refine vv_iload_n C 3 dX9_unlikeNow_27 rfl rfl ?_
      refine vv_bif_eq C 53 dX9_unlikeNow_28 (by decide) (fun h_no => ?_) (fun h_yes => ?_)
      · refine vv_loc (ls2 := [some (.ref (G.1 145)), some (.int (nI (dcF (kyS V P) k))), some (.int (nI k)), some (.int (bI (noneB (kyS V P) (kyS V P k) k = true))), some (.int (nI i))]) (by rw [bI_f h_no, bI_f (none_mono h2 h_no)]) ?_
        refine vv_keep (ls2 := [some (.ref (G.1 145)), some (.int (nI (dcF (kyS V P) k))), some (.int (nI k)), some (.int (bI (noneB (kyS V P) (kyS V P k) k = true))), none]) ⟨rfl, rfl, rfl, rfl, trivial⟩ ?_
        exact hkk
      · refine vv_aload_n C 0 dX9_unlikeNow_31 rfl rfl ?_
        refine vv_iload_n C 2 dX9_unlikeNow_32 rfl rfl ?_
        refine vv_iload C 4 dX9_unlikeNow_33 rfl ?_
        refine vv_callVI C [.int (nI k), .int (nI i)] (c_X9_areAlike M V hV hP h144 hl (i := k) (j := i) hk hi2 (x := (nI k)) (y := (nI i)) rfl rfl) sh_145 rfl (cwV 2 C.1.2.2.2.2 gX9_unlikeNow_X9_areAlike rfl rfl rfl (by decide +kernel) ⟨Nat.le_of_ble_eq_true rfl, Nat.le_of_ble_eq_true rfl⟩) rfl rfl rfl (Nat.le_of_ble_eq_true rfl) dX9_unlikeNow_35 ⟨Nat.le_refl _, Nat.le_refl _⟩ ?_
        refine vv_bif_ne C 45 dX9_unlikeNow_38 (by decide) (fun h_al => ?_) (fun h_nal => ?_)
        · refine vv_iconst (v := 0) C dX9_unlikeNow_45 (by decide) ?_
          refine vv_istore_n (ls2 := [some (.ref (G.1 145)), some (.int (nI (dcF (kyS V P) k))), some (.int (nI k)), some (.int 0), some (.int (nI i))]) C 3 dX9_unlikeNow_46 rfl (Nat.le_of_ble_eq_true rfl) rfl ?_
          refine vv_iinc (v := nI (i + 1)) (ls2 := [some (.ref (G.1 145)), some (.int (nI (dcF (kyS V P) k))), some (.int (nI k)), some (.int 0), some (.int (nI (i + 1)))]) C 4 dX9_unlikeNow_47 rfl (nI_1 _) rfl ?_
          refine vv_goto C 21 dX9_unlikeNow_50 (by decide) ?_
          refine vv_loc (ls2 := [some (.ref (G.1 145)), some (.int (nI (dcF (kyS V P) k))), some (.int (nI k)), some (.int (bI (noneB (kyS V P) (kyS V P k) (i + 1) = true))), some (.int (nI (i + 1)))]) (by rw [← bI_none_n (f := kyS V P) (x := kyS V P k) (k := i) ((ky_alq h144 hv hk hi2).mpr h_al)]) ?_
          exact ih (i + 1) (by omega) (by omega)
        · refine vv_iconst (v := 1) C dX9_unlikeNow_41 (by decide) ?_
          refine vv_goto C 46 dX9_unlikeNow_42 (by decide) ?_
          refine vv_istore_n (ls2 := [some (.ref (G.1 145)), some (.int (nI (dcF (kyS V P) k))), some (.int (nI k)), some (.int 1), some (.int (nI i))]) C 3 dX9_unlikeNow_46 rfl (Nat.le_of_ble_eq_true rfl) rfl ?_
          refine vv_iinc (v := nI (i + 1)) (ls2 := [some (.ref (G.1 145)), some (.int (nI (dcF (kyS V P) k))), some (.int (nI k)), some (.int 1), some (.int (nI (i + 1)))]) C 4 dX9_unlikeNow_47 rfl (nI_1 _) rfl ?_
          refine vv_goto C 21 dX9_unlikeNow_50 (by decide) ?_
          refine vv_loc (ls2 := [some (.ref (G.1 145)), some (.int (nI (dcF (kyS V P) k))), some (.int (nI k)), some (.int (bI (noneB (kyS V P) (kyS V P k) (i + 1) = true))), some (.int (nI (i + 1)))]) (by rw [← bI_none_y (f := kyS V P) (x := kyS V P k) (k := i) h_yes (fun z => h_nal ((ky_alq h144 hv hk hi2).mp z))]) ?_
          exact ih (i + 1) (by omega) (by omega)
theorem iX9_unlikeNow_X9 : ∀ w ∈ u_ws RX9 TX9 13, w ∈ wsX9_unlikeNow := fun w hw => (List.mem_cons_of_mem _ (List.mem_append_right _ hw))
set_option maxRecDepth 100000 in
set_option maxHeartbeats 4000000 in
theorem lp_X9_unlikeNow {p : Program} {l : Launch} {e : Env} {s : State} {m : MethodId} {args : Array Value} {below : List Frame} {meth : Method} {c : Code} {G : mw_GG} {Q : State → Prop} (C : vv_C p s m args c G cX9_unlikeNow 5 wsX9_unlikeNow RX9) (M V : mw_M) (hV : vwO M V) {P : List Nat} (hP : arR M P) (h144 : ∀ r, r ∈ P → r < 144) (hl : P.length ≤ 144) (hv : ∀ r, r ∈ P → valP V (r / 12) (r % 12)) (hn : M 1102 = nI P.length) (hkk : vv p l e ({ frames := 6, cells := 0, slots := 0, locals := 140 } : Room) s m args below meth c G 0 0 Q M 71 [some (.ref (G.1 145)), some (.int (nI (dcF (kyS V P) P.length))), some (.int (nI P.length)), none, none] []) : ∀ (n k : Nat), P.length + 1 ≤ k + n → k ≤ P.length → vv p l e ({ frames := 6, cells := 0, slots := 0, locals := 140 } : Room) s m args below meth c G 0 0 Q M 8 [some (.ref (G.1 145)), some (.int (nI (dcF (kyS V P) k))), some (.int (nI k)), none, none] [] := by
  intro n
  induction n with
  | zero => intro k h1 h2; omega
  | succ n ih =>
    intro k h1 h2
    refine vv_iload_n C 2 dX9_unlikeNow_8 rfl rfl ?_
    refine vv_aload_n C 0 dX9_unlikeNow_9 rfl rfl ?_
    refine vv_geti C (Cn := RX9) (T := TX9) (N := 13) sh_145 7 rfl rfl (by decide) iX9_unlikeNow_X9 (List.mem_of_getElem? (i := 1) rfl) rfl dX9_unlikeNow_10 ?_
    refine vv_top (y := nI P.length) hn ?_
    refine vv_icmp_ge C 71 dX9_unlikeNow_13 (by decide) (fun hge => ?_) (fun hlt => ?_)
    · have hin : k = P.length := by
        rcases Nat.lt_or_ge k (P.length) with z | z
        · exact absurd hge (nI_ge (by omega) (by omega))
        · omega
      rw [hin]
      exact hkk
    · have hk : k < P.length := by
        rcases Nat.lt_or_ge k P.length with z | z
        · exact z
        · exact absurd (nI_le (a := P.length) z (by omega)) hlt
      refine vv_iconst (v := 1) C dX9_unlikeNow_16 (by decide) ?_
      refine vv_istore_n (ls2 := [some (.ref (G.1 145)), some (.int (nI (dcF (kyS V P) k))), some (.int (nI k)), some (.int 1), none]) C 3 dX9_unlikeNow_17 rfl (Nat.le_of_ble_eq_true rfl) rfl ?_
      refine vv_iconst (v := 0) C dX9_unlikeNow_18 (by decide) ?_
      refine vv_istore (ls2 := [some (.ref (G.1 145)), some (.int (nI (dcF (kyS V P) k))), some (.int (nI k)), some (.int 1), some (.int 0)]) C 4 dX9_unlikeNow_19 (Nat.le_of_ble_eq_true rfl) rfl ?_
      refine vv_loc (ls2 := [some (.ref (G.1 145)), some (.int (nI (dcF (kyS V P) k))), some (.int (nI k)), some (.int (bI (noneB (kyS V P) (kyS V P k) 0 = true))), some (.int (nI 0))]) (by rw [bI_t none_0]; rfl) ?_
      refine lp_X9_unlikeNow_in C M V hV hP h144 hl hv hk ?_ (k + 1) 0 (by omega) (by omega)
      refine vv_iload_n C 1 dX9_unlikeNow_53 rfl rfl ?_
      refine vv_iload_n C 3 dX9_unlikeNow_54 rfl rfl ?_
      refine vv_bif_eq C 62 dX9_unlikeNow_55 (by decide) (fun h_nn => ?_) (fun h_none => ?_)
      · refine vv_iconst (v := 0) C dX9_unlikeNow_62 (by decide) ?_
        refine vv_iadd C dX9_unlikeNow_63 ?_
        refine vv_top (y := nI (dcF (kyS V P) k)) (Int32.add_zero _) ?_
        refine vv_istore_n (ls2 := [some (.ref (G.1 145)), some (.int (nI (dcF (kyS V P) k))), some (.int (nI k)), some (.int (bI (noneB (kyS V P) (kyS V P k) k = true))), none]) C 1 dX9_unlikeNow_64 rfl (Nat.le_of_ble_eq_true rfl) rfl ?_
        refine vv_iinc (v := nI (k + 1)) (ls2 := [some (.ref (G.1 145)), some (.int (nI (dcF (kyS V P) k))), some (.int (nI (k + 1))), some (.int (bI (noneB (kyS V P) (kyS V P k) k = true))), none]) C 2 dX9_unlikeNow_65 rfl (nI_1 _) rfl ?_
        refine vv_goto C 8 dX9_unlikeNow_68 (by decide) ?_
        refine vv_keep (ls2 := [some (.ref (G.1 145)), some (.int (nI (dcF (kyS V P) k))), some (.int (nI (k + 1))), none, none]) ⟨rfl, rfl, rfl, trivial⟩ ?_
        refine vv_loc (ls2 := [some (.ref (G.1 145)), some (.int (nI (dcF (kyS V P) (k + 1)))), some (.int (nI (k + 1))), none, none]) (by rw [dcF_n (ky_m1 h144 hk) h_nn]) ?_
        exact ih (k + 1) (by omega) (by omega)
      · refine vv_iconst (v := 1) C dX9_unlikeNow_58 (by decide) ?_
        refine vv_goto C 63 dX9_unlikeNow_59 (by decide) ?_
        refine vv_iadd C dX9_unlikeNow_63 ?_
        refine vv_top (y := nI (dcF (kyS V P) k + 1)) (nI_1 _) ?_
        refine vv_istore_n (ls2 := [some (.ref (G.1 145)), some (.int (nI (dcF (kyS V P) k + 1))), some (.int (nI k)), some (.int (bI (noneB (kyS V P) (kyS V P k) k = true))), none]) C 1 dX9_unlikeNow_64 rfl (Nat.le_of_ble_eq_true rfl) rfl ?_
        refine vv_iinc (v := nI (k + 1)) (ls2 := [some (.ref (G.1 145)), some (.int (nI (dcF (kyS V P) k + 1))), some (.int (nI (k + 1))), some (.int (bI (noneB (kyS V P) (kyS V P k) k = true))), none]) C 2 dX9_unlikeNow_65 rfl (nI_1 _) rfl ?_
        refine vv_goto C 8 dX9_unlikeNow_68 (by decide) ?_
        refine vv_keep (ls2 := [some (.ref (G.1 145)), some (.int (nI (dcF (kyS V P) k + 1))), some (.int (nI (k + 1))), none, none]) ⟨rfl, rfl, rfl, trivial⟩ ?_
        refine vv_loc (ls2 := [some (.ref (G.1 145)), some (.int (nI (dcF (kyS V P) (k + 1)))), some (.int (nI (k + 1))), none, none]) (by rw [dcF_y (ky_m1 h144 hk) h_none]) ?_
        exact ih (k + 1) (by omega) (by omega)
set_option maxRecDepth 100000 in
set_option maxHeartbeats 4000000 in
theorem c_X9_unlikeNow {l : Launch} {G : mw_GG} (M V : mw_M) (hV : vwO M V) (hw : wfV V) : mw_Met l yX9_unlikeNow wsX9_unlikeNow ({ frames := 6, cells := 0, slots := 0, locals := 140 } : Room) G [.ref (G.1 145)] M (qIP (fun r M2 => r = unlI V ∧ fndR V M M2 (lstS V 8))) := by
  refine mw_ofV (cc := cX9_unlikeNow) 5 (by decide) rfl rfl (Nat.le_of_ble_eq_true rfl) ?_
  intro p e s m args below meth c C hR hN0
  refine vv_loc (ls2 := [some (.ref (G.1 145)), none, none, none, none]) rfl ?_
  have hR0 := hw.wfR
  refine vv_aload_n C 0 dX9_unlikeNow_0 rfl rfl ?_
  refine vv_callVVP C [] (c_X9_finds M V hV hw) sh_145 rfl (cwV 0 C.1.2.2.2.2 gX9_unlikeNow_X9_finds rfl rfl rfl (by decide +kernel) ⟨Nat.le_of_ble_eq_true rfl, Nat.le_of_ble_eq_true rfl⟩) rfl rfl rfl (Nat.le_of_ble_eq_true rfl) dX9_unlikeNow_1 ⟨Nat.le_refl _, Nat.le_refl _⟩ (fun M_1 h_2 => ?_)
  have hF := h_2
  refine vv_iconst (v := 0) C dX9_unlikeNow_4 (by decide) ?_
  refine vv_istore_n (ls2 := [some (.ref (G.1 145)), some (.int 0), none, none, none]) C 1 dX9_unlikeNow_5 rfl (Nat.le_of_ble_eq_true rfl) rfl ?_
  refine vv_iconst (v := 0) C dX9_unlikeNow_6 (by decide) ?_
  refine vv_istore_n (ls2 := [some (.ref (G.1 145)), some (.int 0), some (.int 0), none, none]) C 2 dX9_unlikeNow_7 rfl (Nat.le_of_ble_eq_true rfl) rfl ?_
  have h144 := srt_144 hR0
  have hln := lstS_len (lo := 8) hR0
  refine vv_loc (ls2 := [some (.ref (G.1 145)), some (.int (nI (dcF (kyS V (srtS V (lstS V 8))) 0))), some (.int (nI 0)), none, none]) rfl ?_
  refine lp_X9_unlikeNow C _ V (hF.vw hV) hF.1 h144 (by rw [srt_len]; exact hln) (srt_val hR0) (by rw [srt_len]; exact hF.2.1) ?_ ((srtS V (lstS V 8)).length + 1) 0 (by omega) (by omega)
  refine vv_iload_n C 1 dX9_unlikeNow_71 rfl rfl ?_
  exact vv_iret C hR dX9_unlikeNow_72 (qIP_of ⟨unl_srt hR0, hF⟩)
set_option maxRecDepth 100000 in
set_option maxHeartbeats 4000000 in
theorem c_X9_unlike {l : Launch} {G : mw_GG} (M V : mw_M) (hV : relO M V) (hw : wfV V) (hh : hiV V) (ht : txV V) : mw_Met l yX9_unlike wsX9_unlike ({ frames := 7, cells := 0, slots := 0, locals := 164 } : Room) G [.ref (G.1 145)] M (qIP (fun r M2 => r = (op_unlike V).1 ∧ relO M2 (op_unlike V).2 ∧ rfO M M2)) := by
  refine mw_ofV (cc := cX9_unlike) 1 (by decide) rfl rfl (Nat.le_of_ble_eq_true rfl) ?_
  intro p e s m args below meth c C hR hN0
  refine vv_loc (ls2 := [some (.ref (G.1 145))]) rfl ?_
  have hR0 := hw.wfR
  refine vv_aload_n C 0 dX9_unlike_0 rfl rfl ?_
  refine vv_callVIP C [] (c_X9_unlikeNow M V hV.1 hw) sh_145 rfl (cwV 0 C.1.2.2.2.2 gX9_unlike_X9_unlikeNow rfl rfl rfl (by decide +kernel) ⟨Nat.le_of_ble_eq_true rfl, Nat.le_of_ble_eq_true rfl⟩) rfl rfl rfl (Nat.le_of_ble_eq_true rfl) dX9_unlike_1 ⟨Nat.le_refl _, Nat.le_refl _⟩ (fun x_1 M_2 h_3 => ?_)
  have hU := h_3
  exact vv_iret C hR dX9_unlike_4 (qIP_of ⟨hU.1, hU.2.rel hV hh, hU.2.rf⟩)
theorem iX9_show_X9 : ∀ w ∈ u_ws RX9 TX9 13, w ∈ wsX9_show := fun w hw => (List.mem_cons_of_mem _ (List.mem_append_right _ hw))
set_option maxRecDepth 100000 in
set_option maxHeartbeats 4000000 in
theorem c_X9_show {l : Launch} {G : mw_GG} (M V : mw_M) (hV : relO M V) (hw : wfV V) (hh : hiV V) (ht : txV V) (x : Int32) : mw_Met l yX9_show wsX9_show ({ frames := 7, cells := 0, slots := 0, locals := 164 } : Room) G [.ref (G.1 145), .int x] M (qIP (fun r M2 => r = (op_show V x).1 ∧ relO M2 (op_show V x).2 ∧ rfO M M2)) := by
  refine mw_ofV (cc := cX9_show) 2 (by decide) rfl rfl (Nat.le_of_ble_eq_true rfl) ?_
  intro p e s m args below meth c C hR hN0
  refine vv_loc (ls2 := [some (.ref (G.1 145)), some (.int x)]) rfl ?_
  have hR0 := hw.wfR
  refine vv_iload_n C 1 dX9_show_0 rfl rfl ?_
  refine vv_iconst (v := 0) C dX9_show_1 (by decide) ?_
  refine vv_sipush (v := 255) C dX9_show_2 (by decide) ?_
  refine vv_callSI C [.int x, .int 0, .int 255] (c_X9_in M x 0 255) (cwS 3 C.1.2.2.2.2 gX9_show_X9_in rfl rfl rfl (by decide +kernel) ⟨Nat.le_of_ble_eq_true rfl, Nat.le_of_ble_eq_true rfl⟩) rfl rfl rfl (Nat.le_of_ble_eq_true rfl) dX9_show_5 ⟨Nat.le_refl _, Nat.le_refl _⟩ ?_
  refine vv_bif_ne C 14 dX9_show_8 (by decide) (fun h_in => ?_) (fun h_nin => ?_)
  · refine vv_aload_n C 0 dX9_show_14 rfl rfl ?_
    refine vv_callVVP C [] (c_X9_changes M V hV hh) sh_145 rfl (cwV 0 C.1.2.2.2.2 gX9_show_X9_changes rfl rfl rfl (by decide +kernel) ⟨Nat.le_of_ble_eq_true rfl, Nat.le_of_ble_eq_true rfl⟩) rfl rfl rfl (Nat.le_of_ble_eq_true rfl) dX9_show_15 ⟨Nat.le_refl _, Nat.le_refl _⟩ (fun M_3 h_4 => ?_)
    have hC := h_4
    refine vv_aload_n C 0 dX9_show_18 rfl rfl ?_
    refine vv_getr C (Cn := RX9) (T := TX9) (N := 13) sh_145 0 rfl rfl (by decide) iX9_show_X9 (List.mem_of_getElem? (i := 1) rfl) rfl dX9_show_19 ?_
    refine vv_sipush (v := 129) C dX9_show_22 (by decide) ?_
    refine vv_iload_n C 1 dX9_show_25 rfl rfl ?_
    refine vv_ast (j := 129) (q := 2129) C sh_146 (by decide) (by decide) rfl dX9_show_26 ?_
    refine vv_aload_n C 0 dX9_show_27 rfl rfl ?_
    have hrel : relO (upd M_3 2129 x) (upd (kpS V) 129 x) := hC.1.u (k := 129) (by decide)
    refine vv_callVIP C [] (c_X9_unlikeNow (upd M_3 2129 x) (upd (kpS V) 129 x) hrel.1 (wf_shw hw)) sh_145 rfl (cwV 0 C.1.2.2.2.2 gX9_show_X9_unlikeNow rfl rfl rfl (by decide +kernel) ⟨Nat.le_of_ble_eq_true rfl, Nat.le_of_ble_eq_true rfl⟩) rfl rfl rfl (Nat.le_of_ble_eq_true rfl) dX9_show_28 ⟨Nat.le_refl _, Nat.le_refl _⟩ (fun x_5 M_6 h_7 => ?_)
    have hU := h_7
    exact vv_iret C hR dX9_show_31 (qIP_of (by rw [show op_show V x = (unlI (upd (kpS V) 129 x), (upd (kpS V) 129 x)) from if_pos h_in]; exact ⟨hU.1, hU.2.rel hrel (kp_hi.u (by omega)), (hC.2.u (by omega)).tr hU.2.rf⟩))
  · refine vv_bipush (v := (-11)) C dX9_show_11 (by decide) ?_
    exact vv_iret C hR dX9_show_13 (qIP_of (by rw [show op_show V x = (-11, V) from if_neg h_nin]; exact ⟨rfl, hV, rfO.rf⟩))
theorem iX9_tightest_X9 : ∀ w ∈ u_ws RX9 TX9 13, w ∈ wsX9_tightest := fun w hw => (List.mem_cons_of_mem _ (List.mem_append_right _ hw))
set_option maxRecDepth 100000 in
set_option maxHeartbeats 4000000 in
theorem lp_X9_tightest {p : Program} {l : Launch} {e : Env} {s : State} {m : MethodId} {args : Array Value} {below : List Frame} {meth : Method} {c : Code} {G : mw_GG} {Q : State → Prop} (C : vv_C p s m args c G cX9_tightest 8 wsX9_tightest RX9) (M V : mw_M) (hw : wfV V) (hh : hiV V) (ht : txV V) {w : Int32} (hk : ∀ M1, relO M1 V → rfO M M1 → vv p l e ({ frames := 7, cells := 0, slots := 0, locals := 160 } : Room) s m args below meth c G 0 0 Q M1 117 [some (.ref (G.1 145)), some (.int w), some (.int ((tgF V 8).1)), some (.int (tgB V 8)), none, none, none, none] []) : ∀ (k i : Nat) (M1 : mw_M), 9 ≤ i + k → i ≤ 8 → relO M1 V → rfO M M1 → vv p l e ({ frames := 7, cells := 0, slots := 0, locals := 160 } : Room) s m args below meth c G 0 0 Q M1 23 [some (.ref (G.1 145)), some (.int w), some (.int ((tgF V i).1)), some (.int (tgB V i)), some (.int (nI i)), none, none, none] [] := by
  intro k
  induction k with
  | zero => intro i M1 h1 h2 _ _; omega
  | succ k ih =>
    intro i M1 h1 h2 hI hR1
    have hR0 := hw.wfR
    refine vv_iload C 4 dX9_tightest_23 rfl ?_
    refine vv_bipush (v := 8) C dX9_tightest_25 (by decide) ?_
    refine vv_icmp_ge C 117 dX9_tightest_27 (by decide) (fun hge => ?_) (fun hlt => ?_)
    · have hin : i = 8 := by
        rcases Nat.lt_or_ge i (8) with z | z
        · exact absurd hge (nI_ge (b := 8) (by omega) (by omega))
        · omega
      subst hin
      refine vv_keep (ls2 := [some (.ref (G.1 145)), some (.int w), some (.int ((tgF V 8).1)), some (.int (tgB V 8)), none, none, none, none]) ⟨rfl, rfl, rfl, rfl, trivial⟩ ?_
      exact hk M1 hI hR1
    · have hi4 : i < 8 := by
        rcases Nat.lt_or_ge i 8 with z | z
        · exact z
        · exact absurd (nI_le (a := 8) z (by omega)) hlt
      refine vv_bipush (v := 100) C dX9_tightest_30 (by decide) ?_
      refine vv_iconst (v := 3) C dX9_tightest_32 (by decide) ?_
      refine vv_iload C 4 dX9_tightest_33 rfl ?_
      refine vv_imul C dX9_tightest_35 ?_
      refine vv_iadd C dX9_tightest_36 ?_
      refine vv_top (y := nI (100 + 3 * i)) (by rw [show (3 : Int32) = nI 3 from rfl, pk_mul, show (100 : Int32) = nI 100 from rfl, nI_add]) ?_
      refine vv_istore (ls2 := [some (.ref (G.1 145)), some (.int w), some (.int ((tgF V i).1)), some (.int (tgB V i)), some (.int (nI i)), some (.int (nI (100 + 3 * i))), none, none]) C 5 dX9_tightest_37 (Nat.le_of_ble_eq_true rfl) rfl ?_
      refine vv_aload_n C 0 dX9_tightest_39 rfl rfl ?_
      refine vv_getr C (Cn := RX9) (T := TX9) (N := 13) sh_145 0 rfl rfl (by decide) iX9_tightest_X9 (List.mem_of_getElem? (i := 1) rfl) rfl dX9_tightest_40 ?_
      refine vv_iload C 5 dX9_tightest_43 rfl ?_
      refine vv_ald (j := 100 + 3 * i) (q := 2000 + (100 + 3 * i)) C sh_146 rfl (by omega) (by omega) dX9_tightest_45 ?_
      refine vv_top (y := V (100 + 3 * i)) (hI.1 _ (by omega)) ?_
      refine vv_istore (ls2 := [some (.ref (G.1 145)), some (.int w), some (.int ((tgF V i).1)), some (.int (tgB V i)), some (.int (nI i)), some (.int (nI (100 + 3 * i))), some (.int (V (100 + 3 * i))), none]) C 6 dX9_tightest_46 (Nat.le_of_ble_eq_true rfl) rfl ?_
      refine vv_aload_n C 0 dX9_tightest_48 rfl rfl ?_
      refine vv_getr C (Cn := RX9) (T := TX9) (N := 13) sh_145 0 rfl rfl (by decide) iX9_tightest_X9 (List.mem_of_getElem? (i := 1) rfl) rfl dX9_tightest_49 ?_
      refine vv_iload C 5 dX9_tightest_52 rfl ?_
      refine vv_aload_n C 0 dX9_tightest_54 rfl rfl ?_
      refine vv_iload C 4 dX9_tightest_55 rfl ?_
      refine vv_callVI C [.int (nI i)] (c_X9_isAsked M1 V hI.1 (cc := i) hi4 (x := (nI i)) rfl) sh_145 rfl (cwV 1 C.1.2.2.2.2 gX9_tightest_X9_isAsked rfl rfl rfl (by decide +kernel) ⟨Nat.le_of_ble_eq_true rfl, Nat.le_of_ble_eq_true rfl⟩) rfl rfl rfl (Nat.le_of_ble_eq_true rfl) dX9_tightest_57 ⟨Nat.le_refl _, Nat.le_refl _⟩ ?_
      refine vv_bif_eq C 67 dX9_tightest_60 (by decide) (fun h_na => ?_) (fun h_a => ?_)
      · refine vv_iload C 6 dX9_tightest_67 rfl ?_
        refine vv_ast (j := 100 + 3 * i) (q := 2000 + (100 + 3 * i)) C sh_146 rfl (by omega) (by omega) dX9_tightest_69 ?_
        have hrel : relO (upd M1 (2000 + (100 + 3 * i)) (V (100 + 3 * i))) V := (hI.u (k := 100 + 3 * i) (x := V (100 + 3 * i)) (by omega)).to up_same
        refine vv_aload_n C 0 dX9_tightest_70 rfl rfl ?_
        refine vv_callVIP C [] (c_X9_many (upd M1 (2000 + (100 + 3 * i)) (V (100 + 3 * i))) V hrel hw hh ht ) sh_145 rfl (cwV 0 C.1.2.2.2.2 gX9_tightest_X9_many rfl rfl rfl (by decide +kernel) ⟨Nat.le_of_ble_eq_true rfl, Nat.le_of_ble_eq_true rfl⟩) rfl rfl rfl (Nat.le_of_ble_eq_true rfl) dX9_tightest_71 ⟨Nat.le_refl _, Nat.le_refl _⟩ (fun x_5 M_6 h_7 => ?_)
        have hN := h_7
        refine vv_top (y := manyI V) hN.1 ?_
        refine vv_istore (ls2 := [some (.ref (G.1 145)), some (.int w), some (.int ((tgF V i).1)), some (.int (tgB V i)), some (.int (nI i)), some (.int (nI (100 + 3 * i))), some (.int (V (100 + 3 * i))), some (.int (manyI V))]) C 7 dX9_tightest_74 (Nat.le_of_ble_eq_true rfl) rfl ?_
        refine vv_aload_n C 0 dX9_tightest_76 rfl rfl ?_
        refine vv_getr C (Cn := RX9) (T := TX9) (N := 13) sh_145 0 rfl rfl (by decide) iX9_tightest_X9 (List.mem_of_getElem? (i := 1) rfl) rfl dX9_tightest_77 ?_
        refine vv_iload C 5 dX9_tightest_80 rfl ?_
        refine vv_iload C 6 dX9_tightest_82 rfl ?_
        refine vv_ast (j := 100 + 3 * i) (q := 2000 + (100 + 3 * i)) C sh_146 rfl (by omega) (by omega) dX9_tightest_84 ?_
        have hrel2 : relO (upd M_6 (2000 + (100 + 3 * i)) (V (100 + 3 * i))) V := ((show relO M_6 V from hN.2.1).u (k := 100 + 3 * i) (x := V (100 + 3 * i)) (by omega)).to up_same
        have hrf2 : rfO M (upd M_6 (2000 + (100 + 3 * i)) (V (100 + 3 * i))) := ((hR1.u (by omega)).tr hN.2.2).u (by omega)
        refine vv_iload C 7 dX9_tightest_85 rfl ?_
        refine vv_iload_n C 2 dX9_tightest_87 rfl rfl ?_
        refine vv_icmp_le C 96 dX9_tightest_88 (by decide) (fun h_le => ?_) (fun h_gt => ?_)
        · refine vv_iload_n C 3 dX9_tightest_96 rfl rfl ?_
          refine vv_istore_n (ls2 := [some (.ref (G.1 145)), some (.int w), some (.int ((tgF V i).1)), some (.int (tgB V i)), some (.int (nI i)), some (.int (nI (100 + 3 * i))), some (.int (V (100 + 3 * i))), some (.int (manyI V))]) C 3 dX9_tightest_97 rfl (Nat.le_of_ble_eq_true rfl) rfl ?_
          refine vv_iload C 7 dX9_tightest_98 rfl ?_
          refine vv_iload_n C 2 dX9_tightest_100 rfl rfl ?_
          refine vv_icmp_le C 109 dX9_tightest_101 (by decide) (fun h_le2 => ?_) (fun h_gt2 => ?_)
          · refine vv_iload_n C 2 dX9_tightest_109 rfl rfl ?_
            refine vv_istore_n (ls2 := [some (.ref (G.1 145)), some (.int w), some (.int ((tgF V i).1)), some (.int (tgB V i)), some (.int (nI i)), some (.int (nI (100 + 3 * i))), some (.int (V (100 + 3 * i))), some (.int (manyI V))]) C 2 dX9_tightest_110 rfl (Nat.le_of_ble_eq_true rfl) rfl ?_
            refine vv_iinc (v := nI (i + 1)) (ls2 := [some (.ref (G.1 145)), some (.int w), some (.int ((tgF V i).1)), some (.int (tgB V i)), some (.int (nI (i + 1))), some (.int (nI (100 + 3 * i))), some (.int (V (100 + 3 * i))), some (.int (manyI V))]) C 4 dX9_tightest_111 rfl (nI_1 _) rfl ?_
            refine vv_goto C 23 dX9_tightest_114 (by decide) ?_
            have etg : tgF V (i + 1) = tgF V i := tg_na hR0 h_na
            refine vv_keep (ls2 := [some (.ref (G.1 145)), some (.int w), some (.int ((tgF V (i + 1)).1)), some (.int (tgB V (i + 1))), some (.int (nI (i + 1))), none, none, none]) ⟨rfl, rfl, by rw [etg], by rw [tgB_e etg], rfl, trivial⟩ ?_
            exact ih (i + 1) _ (by omega) (by omega) hrel2 hrf2
          · refine vv_iload C 7 dX9_tightest_104 rfl ?_
            refine vv_goto C 110 dX9_tightest_106 (by decide) ?_
            refine vv_istore_n (ls2 := [some (.ref (G.1 145)), some (.int w), some (.int (manyI V)), some (.int (tgB V i)), some (.int (nI i)), some (.int (nI (100 + 3 * i))), some (.int (V (100 + 3 * i))), some (.int (manyI V))]) C 2 dX9_tightest_110 rfl (Nat.le_of_ble_eq_true rfl) rfl ?_
            refine vv_iinc (v := nI (i + 1)) (ls2 := [some (.ref (G.1 145)), some (.int w), some (.int (manyI V)), some (.int (tgB V i)), some (.int (nI (i + 1))), some (.int (nI (100 + 3 * i))), some (.int (V (100 + 3 * i))), some (.int (manyI V))]) C 4 dX9_tightest_111 rfl (nI_1 _) rfl ?_
            refine vv_goto C 23 dX9_tightest_114 (by decide) ?_
            exact absurd h_le h_gt2
        · refine vv_iload C 4 dX9_tightest_91 rfl ?_
          refine vv_goto C 97 dX9_tightest_93 (by decide) ?_
          refine vv_istore_n (ls2 := [some (.ref (G.1 145)), some (.int w), some (.int ((tgF V i).1)), some (.int (nI i)), some (.int (nI i)), some (.int (nI (100 + 3 * i))), some (.int (V (100 + 3 * i))), some (.int (manyI V))]) C 3 dX9_tightest_97 rfl (Nat.le_of_ble_eq_true rfl) rfl ?_
          refine vv_iload C 7 dX9_tightest_98 rfl ?_
          refine vv_iload_n C 2 dX9_tightest_100 rfl rfl ?_
          refine vv_icmp_le C 109 dX9_tightest_101 (by decide) (fun h_le2 => ?_) (fun h_gt2 => ?_)
          · refine vv_iload_n C 2 dX9_tightest_109 rfl rfl ?_
            refine vv_istore_n (ls2 := [some (.ref (G.1 145)), some (.int w), some (.int ((tgF V i).1)), some (.int (nI i)), some (.int (nI i)), some (.int (nI (100 + 3 * i))), some (.int (V (100 + 3 * i))), some (.int (manyI V))]) C 2 dX9_tightest_110 rfl (Nat.le_of_ble_eq_true rfl) rfl ?_
            refine vv_iinc (v := nI (i + 1)) (ls2 := [some (.ref (G.1 145)), some (.int w), some (.int ((tgF V i).1)), some (.int (nI i)), some (.int (nI (i + 1))), some (.int (nI (100 + 3 * i))), some (.int (V (100 + 3 * i))), some (.int (manyI V))]) C 4 dX9_tightest_111 rfl (nI_1 _) rfl ?_
            refine vv_goto C 23 dX9_tightest_114 (by decide) ?_
            exact absurd h_le2 h_gt
          · refine vv_iload C 7 dX9_tightest_104 rfl ?_
            refine vv_goto C 110 dX9_tightest_106 (by decide) ?_
            refine vv_istore_n (ls2 := [some (.ref (G.1 145)), some (.int w), some (.int (manyI V)), some (.int (nI i)), some (.int (nI i)), some (.int (nI (100 + 3 * i))), some (.int (V (100 + 3 * i))), some (.int (manyI V))]) C 2 dX9_tightest_110 rfl (Nat.le_of_ble_eq_true rfl) rfl ?_
            refine vv_iinc (v := nI (i + 1)) (ls2 := [some (.ref (G.1 145)), some (.int w), some (.int (manyI V)), some (.int (nI i)), some (.int (nI (i + 1))), some (.int (nI (100 + 3 * i))), some (.int (V (100 + 3 * i))), some (.int (manyI V))]) C 4 dX9_tightest_111 rfl (nI_1 _) rfl ?_
            refine vv_goto C 23 dX9_tightest_114 (by decide) ?_
            exact absurd (tg_lo i) h_gt
      · refine vv_iconst (v := 0) C dX9_tightest_63 (by decide) ?_
        refine vv_goto C 69 dX9_tightest_64 (by decide) ?_
        refine vv_ast (j := 100 + 3 * i) (q := 2000 + (100 + 3 * i)) C sh_146 rfl (by omega) (by omega) dX9_tightest_69 ?_
        have hrel : relO (upd M1 (2000 + (100 + 3 * i)) 0) (zrS V i) := hI.u (k := 100 + 3 * i) (by omega)
        refine vv_aload_n C 0 dX9_tightest_70 rfl rfl ?_
        refine vv_callVIP C [] (c_X9_many (upd M1 (2000 + (100 + 3 * i)) 0) (zrS V i) hrel (zr_wf hw hi4) (hiV.u hh (by omega)) (zr_tx ht hi4) ) sh_145 rfl (cwV 0 C.1.2.2.2.2 gX9_tightest_X9_many rfl rfl rfl (by decide +kernel) ⟨Nat.le_of_ble_eq_true rfl, Nat.le_of_ble_eq_true rfl⟩) rfl rfl rfl (Nat.le_of_ble_eq_true rfl) dX9_tightest_71 ⟨Nat.le_refl _, Nat.le_refl _⟩ (fun x_14 M_15 h_16 => ?_)
        have hN := h_16
        refine vv_top (y := tgX V i) (hN.1.trans (zr_tgx hR0 hi4 h_a)) ?_
        refine vv_istore (ls2 := [some (.ref (G.1 145)), some (.int w), some (.int ((tgF V i).1)), some (.int (tgB V i)), some (.int (nI i)), some (.int (nI (100 + 3 * i))), some (.int (V (100 + 3 * i))), some (.int (tgX V i))]) C 7 dX9_tightest_74 (Nat.le_of_ble_eq_true rfl) rfl ?_
        refine vv_aload_n C 0 dX9_tightest_76 rfl rfl ?_
        refine vv_getr C (Cn := RX9) (T := TX9) (N := 13) sh_145 0 rfl rfl (by decide) iX9_tightest_X9 (List.mem_of_getElem? (i := 1) rfl) rfl dX9_tightest_77 ?_
        refine vv_iload C 5 dX9_tightest_80 rfl ?_
        refine vv_iload C 6 dX9_tightest_82 rfl ?_
        refine vv_ast (j := 100 + 3 * i) (q := 2000 + (100 + 3 * i)) C sh_146 rfl (by omega) (by omega) dX9_tightest_84 ?_
        have hrel2 : relO (upd M_15 (2000 + (100 + 3 * i)) (V (100 + 3 * i))) V := ((show relO M_15 (zrS V i) from hN.2.1).u (k := 100 + 3 * i) (x := V (100 + 3 * i)) (by omega)).to zr_back
        have hrf2 : rfO M (upd M_15 (2000 + (100 + 3 * i)) (V (100 + 3 * i))) := ((hR1.u (by omega)).tr hN.2.2).u (by omega)
        refine vv_iload C 7 dX9_tightest_85 rfl ?_
        refine vv_iload_n C 2 dX9_tightest_87 rfl rfl ?_
        refine vv_icmp_le C 96 dX9_tightest_88 (by decide) (fun h_le => ?_) (fun h_gt => ?_)
        · refine vv_iload_n C 3 dX9_tightest_96 rfl rfl ?_
          refine vv_istore_n (ls2 := [some (.ref (G.1 145)), some (.int w), some (.int ((tgF V i).1)), some (.int (tgB V i)), some (.int (nI i)), some (.int (nI (100 + 3 * i))), some (.int (V (100 + 3 * i))), some (.int (tgX V i))]) C 3 dX9_tightest_97 rfl (Nat.le_of_ble_eq_true rfl) rfl ?_
          refine vv_iload C 7 dX9_tightest_98 rfl ?_
          refine vv_iload_n C 2 dX9_tightest_100 rfl rfl ?_
          refine vv_icmp_le C 109 dX9_tightest_101 (by decide) (fun h_le2 => ?_) (fun h_gt2 => ?_)
          · refine vv_iload_n C 2 dX9_tightest_109 rfl rfl ?_
            refine vv_istore_n (ls2 := [some (.ref (G.1 145)), some (.int w), some (.int ((tgF V i).1)), some (.int (tgB V i)), some (.int (nI i)), some (.int (nI (100 + 3 * i))), some (.int (V (100 + 3 * i))), some (.int (tgX V i))]) C 2 dX9_tightest_110 rfl (Nat.le_of_ble_eq_true rfl) rfl ?_
            refine vv_iinc (v := nI (i + 1)) (ls2 := [some (.ref (G.1 145)), some (.int w), some (.int ((tgF V i).1)), some (.int (tgB V i)), some (.int (nI (i + 1))), some (.int (nI (100 + 3 * i))), some (.int (V (100 + 3 * i))), some (.int (tgX V i))]) C 4 dX9_tightest_111 rfl (nI_1 _) rfl ?_
            refine vv_goto C 23 dX9_tightest_114 (by decide) ?_
            have etg : tgF V (i + 1) = tgF V i := if_neg (Int32.not_lt.mpr h_le)
            refine vv_keep (ls2 := [some (.ref (G.1 145)), some (.int w), some (.int ((tgF V (i + 1)).1)), some (.int (tgB V (i + 1))), some (.int (nI (i + 1))), none, none, none]) ⟨rfl, rfl, by rw [etg], by rw [tgB_e etg], rfl, trivial⟩ ?_
            exact ih (i + 1) _ (by omega) (by omega) hrel2 hrf2
          · refine vv_iload C 7 dX9_tightest_104 rfl ?_
            refine vv_goto C 110 dX9_tightest_106 (by decide) ?_
            refine vv_istore_n (ls2 := [some (.ref (G.1 145)), some (.int w), some (.int (tgX V i)), some (.int (tgB V i)), some (.int (nI i)), some (.int (nI (100 + 3 * i))), some (.int (V (100 + 3 * i))), some (.int (tgX V i))]) C 2 dX9_tightest_110 rfl (Nat.le_of_ble_eq_true rfl) rfl ?_
            refine vv_iinc (v := nI (i + 1)) (ls2 := [some (.ref (G.1 145)), some (.int w), some (.int (tgX V i)), some (.int (tgB V i)), some (.int (nI (i + 1))), some (.int (nI (100 + 3 * i))), some (.int (V (100 + 3 * i))), some (.int (tgX V i))]) C 4 dX9_tightest_111 rfl (nI_1 _) rfl ?_
            refine vv_goto C 23 dX9_tightest_114 (by decide) ?_
            exact absurd h_le h_gt2
        · refine vv_iload C 4 dX9_tightest_91 rfl ?_
          refine vv_goto C 97 dX9_tightest_93 (by decide) ?_
          refine vv_istore_n (ls2 := [some (.ref (G.1 145)), some (.int w), some (.int ((tgF V i).1)), some (.int (nI i)), some (.int (nI i)), some (.int (nI (100 + 3 * i))), some (.int (V (100 + 3 * i))), some (.int (tgX V i))]) C 3 dX9_tightest_97 rfl (Nat.le_of_ble_eq_true rfl) rfl ?_
          refine vv_iload C 7 dX9_tightest_98 rfl ?_
          refine vv_iload_n C 2 dX9_tightest_100 rfl rfl ?_
          refine vv_icmp_le C 109 dX9_tightest_101 (by decide) (fun h_le2 => ?_) (fun h_gt2 => ?_)
          · refine vv_iload_n C 2 dX9_tightest_109 rfl rfl ?_
            refine vv_istore_n (ls2 := [some (.ref (G.1 145)), some (.int w), some (.int ((tgF V i).1)), some (.int (nI i)), some (.int (nI i)), some (.int (nI (100 + 3 * i))), some (.int (V (100 + 3 * i))), some (.int (tgX V i))]) C 2 dX9_tightest_110 rfl (Nat.le_of_ble_eq_true rfl) rfl ?_
            refine vv_iinc (v := nI (i + 1)) (ls2 := [some (.ref (G.1 145)), some (.int w), some (.int ((tgF V i).1)), some (.int (nI i)), some (.int (nI (i + 1))), some (.int (nI (100 + 3 * i))), some (.int (V (100 + 3 * i))), some (.int (tgX V i))]) C 4 dX9_tightest_111 rfl (nI_1 _) rfl ?_
            refine vv_goto C 23 dX9_tightest_114 (by decide) ?_
            exact absurd h_le2 h_gt
          · refine vv_iload C 7 dX9_tightest_104 rfl ?_
            refine vv_goto C 110 dX9_tightest_106 (by decide) ?_
            refine vv_istore_n (ls2 := [some (.ref (G.1 145)), some (.int w), some (.int (tgX V i)), some (.int (nI i)), some (.int (nI i)), some (.int (nI (100 + 3 * i))), some (.int (V (100 + 3 * i))), some (.int (tgX V i))]) C 2 dX9_tightest_110 rfl (Nat.le_of_ble_eq_true rfl) rfl ?_
            refine vv_iinc (v := nI (i + 1)) (ls2 := [some (.ref (G.1 145)), some (.int w), some (.int (tgX V i)), some (.int (nI i)), some (.int (nI (i + 1))), some (.int (nI (100 + 3 * i))), some (.int (V (100 + 3 * i))), some (.int (tgX V i))]) C 4 dX9_tightest_111 rfl (nI_1 _) rfl ?_
            refine vv_goto C 23 dX9_tightest_114 (by decide) ?_
            have etg : tgF V (i + 1) = (tgX V i, nI i) := if_pos (Int32.not_le.mp h_gt)
            refine vv_keep (ls2 := [some (.ref (G.1 145)), some (.int w), some (.int ((tgF V (i + 1)).1)), some (.int (tgB V (i + 1))), some (.int (nI (i + 1))), none, none, none]) ⟨rfl, rfl, by rw [etg], by rw [tgB_y hi4 (Int32.not_le.mp h_gt)], rfl, trivial⟩ ?_
            exact ih (i + 1) _ (by omega) (by omega) hrel2 hrf2
set_option maxRecDepth 100000 in
set_option maxHeartbeats 4000000 in
theorem c_X9_tightest {l : Launch} {G : mw_GG} (M V : mw_M) (hV : relO M V) (hw : wfV V) (hh : hiV V) (ht : txV V) (w : Int32) : mw_Met l yX9_tightest wsX9_tightest ({ frames := 7, cells := 0, slots := 0, locals := 160 } : Room) G [.ref (G.1 145), .int w] M (qIP (fun r M2 => r = (op_tightest V w).1 ∧ relO M2 (op_tightest V w).2 ∧ rfO M M2)) := by
  refine mw_ofV (cc := cX9_tightest) 8 (by decide) rfl rfl (Nat.le_of_ble_eq_true rfl) ?_
  intro p e s m args below meth c C hR hN0
  refine vv_loc (ls2 := [some (.ref (G.1 145)), some (.int w), none, none, none, none, none, none]) rfl ?_
  have hR0 := hw.wfR
  refine vv_iload_n C 1 dX9_tightest_0 rfl rfl ?_
  refine vv_iconst (v := 0) C dX9_tightest_1 (by decide) ?_
  refine vv_iconst (v := 1) C dX9_tightest_2 (by decide) ?_
  refine vv_callSI C [.int w, .int 0, .int 1] (c_X9_in M w 0 1) (cwS 3 C.1.2.2.2.2 gX9_tightest_X9_in rfl rfl rfl (by decide +kernel) ⟨Nat.le_of_ble_eq_true rfl, Nat.le_of_ble_eq_true rfl⟩) rfl rfl rfl (Nat.le_of_ble_eq_true rfl) dX9_tightest_3 ⟨Nat.le_refl _, Nat.le_refl _⟩ ?_
  refine vv_bif_ne C 12 dX9_tightest_6 (by decide) (fun h_in => ?_) (fun h_nin => ?_)
  · refine vv_aload_n C 0 dX9_tightest_12 rfl rfl ?_
    refine vv_callVIP C [] (c_X9_many M V hV hw hh ht ) sh_145 rfl (cwV 0 C.1.2.2.2.2 gX9_tightest_X9_many rfl rfl rfl (by decide +kernel) ⟨Nat.le_of_ble_eq_true rfl, Nat.le_of_ble_eq_true rfl⟩) rfl rfl rfl (Nat.le_of_ble_eq_true rfl) dX9_tightest_13 ⟨Nat.le_refl _, Nat.le_refl _⟩ (fun x_3 M_4 h_5 => ?_)
    refine vv_istore_n (ls2 := [some (.ref (G.1 145)), some (.int w), some (.int x_3), none, none, none, none, none]) C 2 dX9_tightest_16 rfl (Nat.le_of_ble_eq_true rfl) rfl ?_
    refine vv_bipush (v := (-14)) C dX9_tightest_17 (by decide) ?_
    refine vv_istore_n (ls2 := [some (.ref (G.1 145)), some (.int w), some (.int x_3), some (.int (-14)), none, none, none, none]) C 3 dX9_tightest_19 rfl (Nat.le_of_ble_eq_true rfl) rfl ?_
    refine vv_iconst (v := 0) C dX9_tightest_20 (by decide) ?_
    refine vv_istore (ls2 := [some (.ref (G.1 145)), some (.int w), some (.int x_3), some (.int (-14)), some (.int 0), none, none, none]) C 4 dX9_tightest_21 (Nat.le_of_ble_eq_true rfl) rfl ?_
    have h_bit := in_bit.mp h_in
    have hN := h_5
    refine vv_loc (ls2 := [some (.ref (G.1 145)), some (.int w), some (.int ((tgF V 0).1)), some (.int (tgB V 0)), some (.int (nI 0)), none, none, none]) (by rw [hN.1]; rfl) ?_
    refine lp_X9_tightest C M V hw hh ht (fun M1 hI hR1 => ?_) 9 0 _ (by omega) (by omega) hN.2.1 hN.2.2
    refine vv_iload_n C 3 dX9_tightest_117 rfl rfl ?_
    refine vv_if_lt C 125 dX9_tightest_118 (by decide) (fun h_neg => ?_) (fun h_pos => ?_)
    · refine vv_iload_n C 3 dX9_tightest_125 rfl rfl ?_
      refine vv_goto C 130 dX9_tightest_126 (by decide) ?_
      exact vv_iret C hR dX9_tightest_130 (qIP_of (by rw [show op_tightest V w = _ from if_pos h_bit, if_pos (tgB_lt.mp h_neg)]; exact ⟨if_pos (tgB_lt.mp h_neg), hI, hR1⟩))
    · refine vv_iload_n C 1 dX9_tightest_121 rfl rfl ?_
      refine vv_if_ne C 129 dX9_tightest_122 (by decide) (fun h_n0 => ?_) (fun h_0 => ?_)
      · refine vv_iload_n C 2 dX9_tightest_129 rfl rfl ?_
        exact vv_iret C hR dX9_tightest_130 (qIP_of (by rw [show op_tightest V w = _ from if_pos h_bit, if_neg (fun z => h_pos (tgB_lt.mpr z)), if_neg h_n0]; exact ⟨rfl, hI, hR1⟩))
      · refine vv_iload_n C 3 dX9_tightest_125 rfl rfl ?_
        refine vv_goto C 130 dX9_tightest_126 (by decide) ?_
        exact vv_iret C hR dX9_tightest_130 (qIP_of (by rw [show op_tightest V w = _ from if_pos h_bit, if_neg (fun z => h_pos (tgB_lt.mpr z)), if_pos h_0]; exact ⟨if_neg (fun z => h_pos (tgB_lt.mpr z)), hI, hR1⟩))
  · refine vv_bipush (v := (-11)) C dX9_tightest_9 (by decide) ?_
    exact vv_iret C hR dX9_tightest_11 (qIP_of (by rw [show op_tightest V w = (-11, V) from if_neg (fun z => h_nin (in_bit.mpr z))]; exact ⟨rfl, hV, rfO.rf⟩))
