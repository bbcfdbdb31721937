/-! the text: the reference's scratch of it stands from 1103 to 1121 -/
def scT (q : Nat) : Prop := 1103 ≤ q ∧ q < 1122
def txI (M V : mw_M) (t : Nat) : Prop := M 1101 = nI t ∧ t ≤ 60 ∧ ∀ p, p < t → M (1200 + p) = V (1000 + p)
theorem txI.u {M V : mw_M} {t : Nat} (h : txI M V t) {k : Nat} {x : Int32} (hk : 1102 ≤ k ∧ k < 1200) : txI (upd M k x) V t :=
  ⟨by rw [upd_o (by omega)]; exact h.1, h.2.1, fun p hp => by rw [upd_o (by omega)]; exact h.2.2 p hp⟩
theorem txI.fr {M M2 V : mw_M} {t : Nat} (h : txI M V t) (e : ∀ p, ¬ scT p → M2 p = M p) : txI M2 V t :=
  ⟨by rw [e _ (by unfold scT; omega)]; exact h.1, h.2.1, fun p hp => by rw [e _ (by unfold scT; omega)]; exact h.2.2 p hp⟩
theorem tx_of {M V : mw_M} (h : relO M V) (ht : txV V) : txI M V (tN V) := ⟨h.2.2.1.trans ht.1, ht.2, fun p hp => h.2.2.2 p (by have := ht.2; omega)⟩
theorem ch_at {M V : mw_M} {t q : Nat} (h : txI M V t) (hq : q < t) : M (1200 + q) = chA V t q := (h.2.2 q hq).trans (if_pos hq).symm
theorem ch_end {V : mw_M} {t q : Nat} {x y : Int32} (hq : ¬ q < t) (hx : (-1 : Int32) < x) : ¬ inP (chA V t q) x y := fun z => z.1 (by
  rw [show chA V t q = -1 from if_neg hq]
  exact hx)
theorem lt_in {V : mw_M} {t q : Nat} (h : ltP (chA V t q)) : q < t := by
  rcases Nat.lt_or_ge q t with z | z
  · exact z
  · exact absurd h (ch_end (x := 119) (y := 122) (by omega) (by decide))
theorem in_1 {c a : Int32} : inP c a a ↔ c = a := by
  constructor
  · rintro ⟨h1, h2⟩
    rw [Int32.lt_iff_toInt_lt] at h1 h2
    rw [← Int32.toInt_inj]
    omega
  · intro h
    rw [h]
    exact ⟨Int32.lt_irrefl, Int32.lt_irrefl⟩
def psM (M : mw_M) (q : Nat) (b : Prop) [Decidable b] : mw_M := if b then upd M 1103 (nI (q + 1)) else M
theorem ps_y {M : mw_M} {q : Nat} {b : Prop} [Decidable b] (h : b) : psM M q b = upd M 1103 (nI (q + 1)) := if_pos h
theorem ps_n {M : mw_M} {q : Nat} {b : Prop} [Decidable b] (h : ¬ b) : psM M q b = M := if_neg h
theorem up_eq {M : mw_M} {k : Nat} {x : Int32} (h : M k = x) : upd M k x = M := by
  rw [← h]
  exact up_same
def tlM (M : mw_M) (n : Nat) (x y z : Int32) : mw_M := upd (upd (upd (upd M (1110 + 3 * n) x) (1110 + (3 * n + 1)) y) (1110 + (3 * n + 2)) z) 1106 (nI (n + 1))
def nmE (ch : Nat → Int32) (q : Nat) : Nat := if dgP (ch q) then nmP ch q else q
def nbO (M M2 : mw_M) (ch : Nat → Int32) (q : Nat) : Prop := M2 1105 = nmV ch q ∧ M2 1103 = nI (nmE ch q) ∧ ∀ p, ¬ p = 1103 → ¬ p = 1105 → M2 p = M p
theorem nb_0 {M : mw_M} {ch : Nat → Int32} {q : Nat} (hq : M 1103 = nI q) (h : ¬ dgP (ch q)) : nbO M (upd M 1105 0) ch q :=
  ⟨upd_s.trans (if_pos h).symm, (upd_o (by omega)).trans (hq.trans (congrArg nI (if_neg h).symm)), fun p _ h2 => upd_o h2⟩
theorem nb_1 {M : mw_M} {ch : Nat → Int32} {q : Nat} (h : dgP (ch q)) (h2 : ¬ dgP (ch (q + 1))) : nbO M (upd (upd (upd M 1105 0) 1105 (ch q - 48)) 1103 (nI (q + 1))) ch q := by
  refine ⟨?_, ?_, fun p h3 h4 => by rw [upd_o h3, upd_o h4, upd_o h4]⟩
  · rw [upd_o (by omega), upd_s]
    unfold nmV
    rw [if_neg (fun z => z h), if_neg h2]
  · rw [upd_s]
    unfold nmE nmP
    rw [if_pos h, if_neg h2]
theorem nb_2 {M : mw_M} {ch : Nat → Int32} {q : Nat} (h : dgP (ch q)) (h2 : dgP (ch (q + 1))) : nbO M (upd (upd (upd (upd (upd M 1105 0) 1105 (ch q - 48)) 1103 (nI (q + 1))) 1105 (10 * (ch q - 48) + ch (q + 1) - 48)) 1103 (nI (q + 2))) ch q := by
  refine ⟨?_, ?_, fun p h3 h4 => by rw [upd_o h3, upd_o h4, upd_o h3, upd_o h4, upd_o h4]⟩
  · rw [upd_o (by omega), upd_s]
    unfold nmV
    rw [if_neg (fun z => z h), if_pos h2]
  · rw [upd_s]
    unfold nmE nmP
    rw [if_pos h, if_pos h2]
theorem nbO.sc {M M2 : mw_M} {ch : Nat → Int32} {q : Nat} (h : nbO M M2 ch q) : ∀ p, ¬ (1103 ≤ p ∧ p < 1106) → M2 p = M p := fun p hp => h.2.2 p (by omega) (by omega)
theorem nbO.spot {M M2 : mw_M} {ch : Nat → Int32} {q : Nat} (h : nbO M M2 ch q) (hd : dgP (ch q)) : M2 1103 = nI (nmP ch q) := h.2.1.trans (congrArg nI (if_pos hd))
theorem nbO.spot0 {M M2 : mw_M} {ch : Nat → Int32} {q : Nat} (h : nbO M M2 ch q) (hd : ¬ dgP (ch q)) : M2 1103 = nI q := h.2.1.trans (congrArg nI (if_neg hd))
theorem nbO.tx {M M2 V : mw_M} {ch : Nat → Int32} {q t : Nat} (h : nbO M M2 ch q) (hT : txI M V t) : txI M2 V t := hT.fr (fun p hp => h.2.2 p (fun z => hp (by unfold scT; omega)) (fun z => hp (by unfold scT; omega)))
/-- what reading one cell leaves behind -/
def rcO (M M2 : mw_M) (n : Nat) (r : clT) : Prop := (∀ p, ¬ scT p → M2 p = M p) ∧ (¬ r.1 = 0 → M2 1104 = nI r.1 ∧ M2 1103 = nI r.2.1) ∧ (r.1 = 0 → M2 1103 = nI r.2.1 ∧ M2 1106 = nI (n + 1) ∧ M2 (1110 + 3 * n) = r.2.2.1 ∧ M2 (1110 + (3 * n + 1)) = r.2.2.2.1 ∧ M2 (1110 + (3 * n + 2)) = r.2.2.2.2 ∧ ∀ p, 1110 ≤ p → p < 1122 → ¬ (1110 + 3 * n ≤ p ∧ p < 1110 + 3 * n + 3) → M2 p = M p)
theorem rc_tl {M M1 : mw_M} {n q : Nat} {k a b : Int32} (hn : n < 4) (h1 : ∀ p, ¬ (1103 ≤ p ∧ p < 1106) → M1 p = M p) (h5 : M1 1103 = nI q) : rcO M (tlM M1 n k a b) n (0, q, k, a, b) := by
  refine ⟨fun p hp => ?_, fun z => absurd rfl z, fun _ => ⟨?_, upd_s, ?_, ?_, ?_, fun p h2 h3 h4 => ?_⟩⟩
  · unfold scT at hp
    unfold tlM
    rw [upd_o (by omega), upd_o (by omega), upd_o (by omega), upd_o (by omega)]
    exact h1 p (by omega)
  · unfold tlM
    rw [upd_o (by omega), upd_o (by omega), upd_o (by omega), upd_o (by omega)]
    exact h5
  · unfold tlM
    rw [upd_o (by omega), upd_o (by omega), upd_o (by omega), upd_s]
  · unfold tlM
    rw [upd_o (by omega), upd_o (by omega), upd_s]
  · unfold tlM
    rw [upd_o (by omega), upd_s]
  · unfold tlM
    rw [upd_o (by omega), upd_o (by omega), upd_o (by omega), upd_o (by omega)]
    exact h1 p (by omega)
theorem rc_fl {M M1 : mw_M} {n q r : Nat} {x : Int32} (hr : ¬ r = 0) (hx : x = nI r) (h1 : ∀ p, ¬ (1103 ≤ p ∧ p < 1106) → M1 p = M p) (h5 : M1 1103 = nI q) : rcO M (upd M1 1104 x) n (r, q, 0, 0, 0) := by
  refine ⟨fun p hp => ?_, fun _ => ⟨upd_s.trans hx, (upd_o (by omega)).trans h5⟩, fun z => absurd z hr⟩
  unfold scT at hp
  rw [upd_o (by omega)]
  exact h1 p (by omega)
theorem rc_in {M M1 M2 : mw_M} {n : Nat} {r : clT} (h1 : ∀ p, ¬ (1103 ≤ p ∧ p < 1106) → M1 p = M p) (h : rcO M1 M2 n r) : rcO M M2 n r := by
  refine ⟨fun p hp => (h.1 p hp).trans (h1 p (fun z => hp (by unfold scT; omega))), h.2.1, fun z => ?_⟩
  obtain ⟨a1, a2, a3, a4, a5, a6⟩ := h.2.2 z
  exact ⟨a1, a2, a3, a4, a5, fun p h2 h3 h4 => (a6 p h2 h3 h4).trans (h1 p (by omega))⟩
theorem u_sc {M : mw_M} {x : Int32} : ∀ p, ¬ (1103 ≤ p ∧ p < 1106) → upd M 1103 x p = M p := fun p hp => upd_o (by omega)
theorem cl_dg {ch : Nat → Int32} {q : Nat} (h : dgP (ch q)) : clR ch q = nsR ch q := if_pos h
theorem cl_33 {ch : Nat → Int32} {q : Nat} (h : ch q = 33) : clR ch q = (0, q + 1, 2, 0, 0) := by
  unfold clR
  rw [h, if_neg (by decide), if_pos rfl]
theorem cl_35 {ch : Nat → Int32} {q : Nat} (h : ch q = 35) : clR ch q = if dgP (ch (q + 1)) then (0, nmP ch (q + 1), 4, nmV ch (q + 1), 0) else (1, q + 1, 0, 0, 0) := by
  unfold clR
  rw [h, if_neg (by decide), if_neg (by decide), if_pos rfl]
theorem cl_42 {ch : Nat → Int32} {q : Nat} (h : ch q = 42) : clR ch q = (0, q + 1, 0, 0, 0) := by
  unfold clR
  rw [h, if_neg (by decide), if_neg (by decide), if_neg (by decide), if_pos rfl]
theorem cl_60 {ch : Nat → Int32} {q : Nat} (h : ch q = 60) : clR ch q = bdR ch (q + 1) 5 9 := by
  unfold clR
  rw [h, if_neg (by decide), if_neg (by decide), if_neg (by decide), if_neg (by decide), if_pos rfl]
theorem cl_62 {ch : Nat → Int32} {q : Nat} (h : ch q = 62) : clR ch q = bdR ch (q + 1) 6 10 := by
  unfold clR
  rw [h, if_neg (by decide), if_neg (by decide), if_neg (by decide), if_neg (by decide), if_neg (by decide), if_pos rfl]
theorem cl_95 {ch : Nat → Int32} {q : Nat} (h : ch q = 95) : clR ch q = (0, q + 1, 1, 0, 0) := by
  unfold clR
  rw [h, if_neg (by decide), if_neg (by decide), if_neg (by decide), if_neg (by decide), if_neg (by decide), if_neg (by decide), if_pos rfl]
theorem lt_dg {x : Int32} (h : ltP x) : ¬ dgP x := fun z => by
  have h1 := h.1
  have h2 := z.2
  rw [Int32.lt_iff_toInt_lt] at h1 h2
  have e1 : (119 : Int32).toInt = 119 := by decide
  have e2 : (57 : Int32).toInt = 57 := by decide
  omega
theorem cl_lt {ch : Nat → Int32} {q : Nat} (h : ltP (ch q)) : clR ch q = (0, q + 1, 8, ch q - 119, 0) := by
  have ne : ∀ y : Int32, ¬ ltP y → ¬ ch q = y := fun y hy z => hy (by rw [← z]; exact h)
  unfold clR
  rw [if_neg (lt_dg h), if_neg (ne 33 (by decide)), if_neg (ne 35 (by decide)), if_neg (ne 42 (by decide)), if_neg (ne 60 (by decide)), if_neg (ne 62 (by decide)), if_neg (ne 95 (by decide)), if_pos h]
theorem cl_no {ch : Nat → Int32} {q : Nat} (h0 : ¬ dgP (ch q)) (h1 : ¬ ch q = 33) (h2 : ¬ ch q = 35) (h3 : ¬ ch q = 42) (h4 : ¬ ch q = 60) (h5 : ¬ ch q = 62) (h6 : ¬ ch q = 95) (h7 : ¬ ltP (ch q)) : clR ch q = (1, q, 0, 0, 0) := by
  unfold clR
  rw [if_neg h0, if_neg h1, if_neg h2, if_neg h3, if_neg h4, if_neg h5, if_neg h6, if_neg h7]
def tdI (M : mw_M) (L : List (Int32 × Int32 × Int32)) : Prop := M 1106 = nI L.length ∧ ∀ i, i < L.length → M (1110 + 3 * i) = (L.getD i (0, 0, 0)).1 ∧ M (1110 + (3 * i + 1)) = (L.getD i (0, 0, 0)).2.1 ∧ M (1110 + (3 * i + 2)) = (L.getD i (0, 0, 0)).2.2
theorem tdI.fr {M M2 : mw_M} {L : List (Int32 × Int32 × Int32)} (h : tdI M L) (hl : L.length ≤ 4) (e : ∀ q, 1106 ≤ q → q < 1122 → M2 q = M q) : tdI M2 L :=
  ⟨(e _ (by omega) (by omega)).trans h.1, fun i hi => ⟨(e _ (by omega) (by omega)).trans (h.2 i hi).1, (e _ (by omega) (by omega)).trans (h.2 i hi).2.1, (e _ (by omega) (by omega)).trans (h.2 i hi).2.2⟩⟩
theorem tdI.add {M M2 : mw_M} {acc : List (Int32 × Int32 × Int32)} {r : clT} (h : tdI M acc) (hl : acc.length < 4) (h0 : r.1 = 0) (hc : rcO M M2 acc.length r) : tdI M2 (acc ++ [r.2.2]) := by
  obtain ⟨-, a2, a3, a4, a5, a6⟩ := hc.2.2 h0
  refine ⟨by rw [List.length_append]; exact a2, fun i hi => ?_⟩
  rw [List.length_append, List.length_singleton] at hi
  by_cases z : i = acc.length
  · subst z
    rw [List.getD_eq_getElem?_getD, List.getElem?_append_right (Nat.le_refl _), Nat.sub_self]
    exact ⟨a3, a4, a5⟩
  · rw [List.getD_eq_getElem?_getD, List.getElem?_append_left (by omega), ← List.getD_eq_getElem?_getD]
    obtain ⟨b1, b2, b3⟩ := h.2 i (by omega)
    exact ⟨(a6 _ (by omega) (by omega) (by omega)).trans b1, (a6 _ (by omega) (by omega) (by omega)).trans b2, (a6 _ (by omega) (by omega) (by omega)).trans b3⟩
def rrO (M M2 : mw_M) (r : psT) : Prop := (∀ p, ¬ scT p → M2 p = M p) ∧ (¬ r.1 = 0 → M2 1104 = nI r.1 ∧ M2 1103 = nI r.2.1) ∧ (r.1 = 0 → tdI M2 r.2.2)
/-- midway: the cells acc were read, the next begins at q -/
def riI (M M1 V : mw_M) (t : Nat) (acc : List (Int32 × Int32 × Int32)) (q k : Nat) : Prop := (∀ p, ¬ scT p → M1 p = M p) ∧ tdI M1 acc ∧ M1 1103 = nI q ∧ psR (chA V t) t 4 0 = ((psR (chA V t) t k q).1, (psR (chA V t) t k q).2.1, acc ++ (psR (chA V t) t k q).2.2) ∧ acc.length + k = 4 ∧ q ≤ t
theorem rr_bad {M M1 M2 V : mw_M} {t q k : Nat} {acc : List (Int32 × Int32 × Int32)} (h : riI M M1 V t acc q (k + 1)) (hc : rcO M1 M2 acc.length (clR (chA V t) q)) (h0 : ¬ (clR (chA V t) q).1 = 0) : (0 : Int32) = bI ((psR (chA V t) t 4 0).1 = 0) ∧ rrO M M2 (psR (chA V t) t 4 0) := by
  have e : psR (chA V t) t (k + 1) q = ((clR (chA V t) q).1, (clR (chA V t) q).2.1, []) := if_pos h0
  have e2 := h.2.2.2.1
  rw [e] at e2
  rw [e2]
  exact ⟨(bI_f h0).symm, fun p hp => (hc.1 p hp).trans (h.1 p hp), fun _ => hc.2.1 h0, fun z => absurd z h0⟩
theorem rr_end {M M1 M2 V : mw_M} {t q k : Nat} {acc : List (Int32 × Int32 × Int32)} (h : riI M M1 V t acc q (k + 1)) (hc : rcO M1 M2 acc.length (clR (chA V t) q)) (h0 : (clR (chA V t) q).1 = 0) (h1 : ¬ (clR (chA V t) q).2.1 < t) : (1 : Int32) = bI ((psR (chA V t) t 4 0).1 = 0) ∧ rrO M M2 (psR (chA V t) t 4 0) := by
  have e : psR (chA V t) t (k + 1) q = (0, 0, [(clR (chA V t) q).2.2]) := (if_neg (fun z => z h0)).trans (if_pos h1)
  have e2 := h.2.2.2.1
  rw [e] at e2
  rw [e2]
  have hl := h.2.2.2.2.1
  exact ⟨(bI_t rfl).symm, fun p hp => (hc.1 p hp).trans (h.1 p hp), fun z => absurd rfl z, fun _ => h.2.1.add (by omega) h0 hc⟩
theorem rr_com {M M1 M2 V : mw_M} {t q k : Nat} {acc : List (Int32 × Int32 × Int32)} (h : riI M M1 V t acc q (k + 1)) (hc : rcO M1 M2 acc.length (clR (chA V t) q)) (h0 : (clR (chA V t) q).1 = 0) (h1 : (clR (chA V t) q).2.1 < t) (h2 : ¬ chA V t (clR (chA V t) q).2.1 = 44) : (0 : Int32) = bI ((psR (chA V t) t 4 0).1 = 0) ∧ rrO M (upd M2 1104 1) (psR (chA V t) t 4 0) := by
  have e : psR (chA V t) t (k + 1) q = (1, (clR (chA V t) q).2.1, [(clR (chA V t) q).2.2]) := (if_neg (fun z => z h0)).trans ((if_neg (fun z => z h1)).trans (if_pos h2))
  have e2 := h.2.2.2.1
  rw [e] at e2
  rw [e2]
  refine ⟨(bI_f (show ¬ (1 : Nat) = 0 by decide)).symm, fun p hp => ?_, fun _ => ⟨upd_s, (upd_o (by omega)).trans (hc.2.2 h0).1⟩, fun z => absurd z (show ¬ (1 : Nat) = 0 by decide)⟩
  rw [upd_o (fun z => hp (by unfold scT; omega))]
  exact (hc.1 p hp).trans (h.1 p hp)
theorem rr_fif {M M1 M2 V : mw_M} {t q : Nat} {acc : List (Int32 × Int32 × Int32)} (h : riI M M1 V t acc q (0 + 1)) (hc : rcO M1 M2 acc.length (clR (chA V t) q)) (h0 : (clR (chA V t) q).1 = 0) (h1 : (clR (chA V t) q).2.1 < t) (h2 : chA V t (clR (chA V t) q).2.1 = 44) : (0 : Int32) = bI ((psR (chA V t) t 4 0).1 = 0) ∧ rrO M (upd M2 1104 3) (psR (chA V t) t 4 0) := by
  have e : psR (chA V t) t (0 + 1) q = (3, (clR (chA V t) q).2.1, [(clR (chA V t) q).2.2]) := (if_neg (fun z => z h0)).trans ((if_neg (fun z => z h1)).trans ((if_neg (fun z => z h2)).trans (if_pos rfl)))
  have e2 := h.2.2.2.1
  rw [e] at e2
  rw [e2]
  refine ⟨(bI_f (show ¬ (3 : Nat) = 0 by decide)).symm, fun p hp => ?_, fun _ => ⟨upd_s, (upd_o (by omega)).trans (hc.2.2 h0).1⟩, fun z => absurd z (show ¬ (3 : Nat) = 0 by decide)⟩
  rw [upd_o (fun z => hp (by unfold scT; omega))]
  exact (hc.1 p hp).trans (h.1 p hp)
theorem ri_more {M M1 M2 V : mw_M} {t q k : Nat} {acc : List (Int32 × Int32 × Int32)} (h : riI M M1 V t acc q (k + 1 + 1)) (hc : rcO M1 M2 acc.length (clR (chA V t) q)) (h0 : (clR (chA V t) q).1 = 0) (h1 : (clR (chA V t) q).2.1 < t) (h2 : chA V t (clR (chA V t) q).2.1 = 44) : riI M (upd M2 1103 (nI ((clR (chA V t) q).2.1 + 1))) V t (acc ++ [(clR (chA V t) q).2.2]) ((clR (chA V t) q).2.1 + 1) (k + 1) := by
  have e : psR (chA V t) t (k + 1 + 1) q = ((psR (chA V t) t (k + 1) ((clR (chA V t) q).2.1 + 1)).1, (psR (chA V t) t (k + 1) ((clR (chA V t) q).2.1 + 1)).2.1, (clR (chA V t) q).2.2 :: (psR (chA V t) t (k + 1) ((clR (chA V t) q).2.1 + 1)).2.2) := (if_neg (fun z => z h0)).trans ((if_neg (fun z => z h1)).trans ((if_neg (fun z => z h2)).trans (if_neg (show ¬ k + 1 = 0 by omega))))
  have hl := h.2.2.2.2.1
  refine ⟨fun p hp => ?_, (h.2.1.add (by omega) h0 hc).fr (by rw [List.length_append, List.length_singleton]; omega) (fun p h3 h4 => upd_o (by omega)), upd_s, ?_, ?_, by omega⟩
  · rw [upd_o (fun z => hp (by unfold scT; omega))]
    exact (hc.1 p hp).trans (h.1 p hp)
  · rw [h.2.2.2.1, e, List.append_assoc]
    rfl
  · rw [List.length_append, List.length_singleton]
    omega
theorem rrO.rel {M M2 V : mw_M} {r : psT} (h : rrO M M2 r) (hV : relO M V) (hh : hiV V) : relO M2 V := hV.scr (fun q hq => h.1 q (fun z => hq (by unfold rsS; unfold scT at z; omega))) hh
theorem rrO.rf {M M2 : mw_M} {r : psT} (h : rrO M M2 r) : rfO M M2 := fun q hq => h.1 q (by unfold scT; omega)
def exP (W : mw_M) (d : Nat) (L : List (Int32 × Int32 × Int32)) : Nat → mw_M
  | 0 => W
  | i + 1 => s_cl (exP W d L i) 0 d i (L.getD i (0, 0, 0)).1 (L.getD i (0, 0, 0)).2.1 (L.getD i (0, 0, 0)).2.2
theorem upd_at {M : mw_M} {k q : Nat} {x : Int32} (h : q = k) : upd M k x q = x := by rw [h, upd_s]
theorem cl_i {W : mw_M} {d c w : Nat} {x y z : Int32} (hw : w < 3) : s_cl W 0 d c x y z (100 + 12 * d + 3 * c + w) = if w = 0 then x else if w = 1 then y else z := by
  unfold s_cl
  rcases (show w = 0 ∨ w = 1 ∨ w = 2 by omega) with rfl | rfl | rfl
  · rw [upd_o (by omega), upd_o (by omega), upd_at (by omega)]
    rfl
  · rw [upd_o (by omega), upd_at (by omega)]
    rfl
  · rw [upd_at (by omega)]
    rfl
theorem cl_out {W : mw_M} {d c q : Nat} {x y z : Int32} (h : ¬ (100 + 12 * d + 3 * c ≤ q ∧ q < 100 + 12 * d + 3 * c + 3)) : s_cl W 0 d c x y z q = W q := by
  unfold s_cl
  rw [upd_o (by omega), upd_o (by omega), upd_o (by omega)]
theorem exP_at {W : mw_M} {d : Nat} {L : List (Int32 × Int32 × Int32)} : ∀ n, n ≤ 4 → ∀ c w, w < 3 → c < n → exP W d L n (100 + 12 * d + 3 * c + w) = if w = 0 then (L.getD c (0, 0, 0)).1 else if w = 1 then (L.getD c (0, 0, 0)).2.1 else (L.getD c (0, 0, 0)).2.2
  | 0, _, c, w, _, hc => absurd hc (Nat.not_lt_zero c)
  | n + 1, hn, c, w, hw, hc => by
    show s_cl (exP W d L n) 0 d n _ _ _ _ = _
    by_cases z : c = n
    · rw [z]
      exact cl_i hw
    · rw [cl_out (by omega)]
      exact exP_at n (by omega) c w hw (by omega)
theorem exP_out {W : mw_M} {d q : Nat} {L : List (Int32 × Int32 × Int32)} (h : ¬ (100 + 12 * d ≤ q ∧ q < 100 + 12 * d + 12)) : ∀ n, n ≤ 4 → exP W d L n q = W q
  | 0, _ => rfl
  | n + 1, hn => by
    show s_cl (exP W d L n) 0 d n _ _ _ q = _
    rw [cl_out (by omega)]
    exact exP_out h n (by omega)
theorem exP_4 {W : mw_M} {d : Nat} {L : List (Int32 × Int32 × Int32)} : exP W d L 4 = exaS W (100 + 12 * d) L := by
  funext q
  unfold exaS
  by_cases h : 100 + 12 * d ≤ q ∧ q < 100 + 12 * d + 12
  · rw [if_pos h]
    have e := exP_at (W := W) (d := d) (L := L) 4 (by omega) ((q - (100 + 12 * d)) / 3) ((q - (100 + 12 * d)) % 3) (by omega) (by omega)
    rw [show 100 + 12 * d + 3 * ((q - (100 + 12 * d)) / 3) + (q - (100 + 12 * d)) % 3 = q by omega] at e
    exact e
  · rw [if_neg h]
    exact exP_out h 4 (by omega)
theorem getD_out {L : List (Int32 × Int32 × Int32)} {i : Nat} (h : L.length ≤ i) : L.getD i (0, 0, 0) = (0, 0, 0) := by
  rw [List.getD_eq_getElem?_getD, List.getElem?_eq_none h]
  rfl
theorem tdI.cl {M : mw_M} {L : List (Int32 × Int32 × Int32)} (h : tdI M L) (hl : L.length ≤ 4) {d c : Nat} {x y z : Int32} : tdI (s_cl M 2000 d c x y z) L := h.fr hl (fun q h1 h2 => by
  unfold s_cl
  rw [upd_o (by omega), upd_o (by omega), upd_o (by omega)])
theorem prs_len {V : mw_M} : (prsV V).2.2.length ≤ 4 := (ps_gd (ch := chA V (tN V)) (t := tN V) 4 0).2.1
theorem red_wfV {V : mw_M} (h : wfV V) {x : Int32} (hl : ¬ V (dN x) < nI (prsV V).2.2.length) : wfV (redN V x) := by
  have hd := dN_lt x
  have hz := szD h x
  obtain ⟨h0, h1, h2, h3, h4, h5, h6⟩ := h
  have lo : ∀ q, ¬ (100 + 12 * dN x ≤ q ∧ q < 100 + 12 * dN x + 12) → q < 130 → redN V x q = V q := fun q hq hq2 => by
    unfold redN
    rw [exa_lo (by omega), kpS_lo hq2]
  have inn : ∀ i w, i < 4 → w < 3 → redN V x (100 + 12 * dN x + 3 * i + w) = if w = 0 then ((prsV V).2.2.getD i (0, 0, 0)).1 else if w = 1 then ((prsV V).2.2.getD i (0, 0, 0)).2.1 else ((prsV V).2.2.getD i (0, 0, 0)).2.2 := fun i w hi hw => by
    unfold redN
    rw [← exP_4]
    exact exP_at 4 (by omega) i w hw hi
  refine ⟨?_, ?_, fun i hi2 => ?_, fun c hc => ?_, fun d hd2 c hc hle => ?_, ?_, fun w hw => ?_⟩
  · obtain ⟨a, b, i1, i2, i3, i4⟩ := h0
    exact ⟨a, b, by rw [lo _ (by omega) (by omega)]; exact i1, i2, by rw [lo _ (by omega) (by omega)]; exact i3, i4⟩
  · obtain ⟨a, b, i1, i2, i3, i4⟩ := h1
    exact ⟨a, b, by rw [lo _ (by omega) (by omega)]; exact i1, i2, by rw [lo _ (by omega) (by omega)]; exact i3, i4⟩
  · rw [lo _ (by omega) (by omega)]
    exact h2 i hi2
  · by_cases z : 4 * dN x ≤ c ∧ c < 4 * dN x + 4
    · obtain ⟨i, hi, rfl⟩ : ∃ i, i < 4 ∧ c = 4 * dN x + i := ⟨c - 4 * dN x, by omega, by omega⟩
      obtain ⟨k, a, b, f1, f2, f3, f4, f5, f6, f7⟩ := ps_at (ch := chA V (tN V)) (t := tN V) (k := 4) (q := 0) (i := i)
      refine ⟨k, a, b, ?_, f2, ?_, f4, f5, ?_, f7⟩
      · rw [show 100 + 3 * (4 * dN x + i) = 100 + 12 * dN x + 3 * i + 0 by omega, inn i 0 hi (by omega)]
        exact f1
      · rw [show 101 + 3 * (4 * dN x + i) = 100 + 12 * dN x + 3 * i + 1 by omega, inn i 1 hi (by omega)]
        exact f3
      · rw [show 102 + 3 * (4 * dN x + i) = 100 + 12 * dN x + 3 * i + 2 by omega, inn i 2 hi (by omega)]
        exact f6
    · rw [lo (100 + 3 * c) (by omega) (by omega), lo (101 + 3 * c) (by omega) (by omega), lo (102 + 3 * c) (by omega) (by omega)]
      exact h3 c hc
  · rw [lo d (by omega) (by omega)] at hle
    by_cases z : d = dN x
    · subst z
      rw [show 100 + 12 * dN x + 3 * c = 100 + 12 * dN x + 3 * c + 0 by omega, inn c 0 hc (by omega), if_pos rfl]
      obtain ⟨w, n, i1, i2, i3, i4⟩ := hz
      have hp := prs_len (V := V)
      rw [i1] at hle hl
      have a1 := (nI_leI (by omega) (by omega)).mp hle
      have a2 : (prsV V).2.2.length ≤ w := by
        rcases Nat.lt_or_ge w (prsV V).2.2.length with z | z
        · exact absurd ((nI_ltI (by omega) (by omega)).mpr z) hl
        · exact z
      rw [getD_out (by omega)]
    · rw [lo _ (by omega) (by omega)]
      exact h4 d hd2 c hc hle
  · rw [lo 124 (by omega) (by omega)]
    exact h5
  · rw [lo _ (by omega) (by omega), lo _ (by omega) (by omega)]
    exact h6 w hw
theorem red_hi {V : mw_M} {x : Int32} : hiV (redN V x) := by
  have hd := dN_lt x
  have e : redN V x 650 = kpS V 650 := by
    unfold redN
    exact exa_lo (by omega)
  have h := kp_hi (V := V)
  unfold hiV hN at h ⊢
  rw [e]
  exact h
theorem iX9_isAt_X9 : ∀ w ∈ u_ws RX9 TX9 13, w ∈ wsX9_isAt := fun w hw => (List.mem_cons_of_mem _ (List.mem_append_right _ hw))
set_option maxRecDepth 100000 in
set_option maxHeartbeats 4000000 in
theorem c_X9_isAt {l : Launch} {G : mw_GG} (M V : mw_M) {t q : Nat} (hT : txI M V t) (hq : M 1103 = nI q) (hb : q ≤ 90) (x y : Int32) (hx : (-1 : Int32) < x) : mw_Met l yX9_isAt wsX9_isAt ({ frames := 1, cells := 0, slots := 0, locals := 22 } : Room) G [.ref (G.1 145), .int x, .int y] M (qI (bI (inP (chA V t q) x y)) M) := by
  refine mw_ofV (cc := cX9_isAt) 3 (by decide) rfl rfl (Nat.le_of_ble_eq_true rfl) ?_
  intro p e s m args below meth c C hR hN0
  refine vv_loc (ls2 := [some (.ref (G.1 145)), some (.int x), some (.int y)]) rfl ?_
  refine vv_aload_n C 0 dX9_isAt_0 rfl rfl ?_
  refine vv_geti C (Cn := RX9) (T := TX9) (N := 13) sh_145 8 rfl rfl (by decide) iX9_isAt_X9 (List.mem_of_getElem? (i := 1) rfl) rfl dX9_isAt_1 ?_
  refine vv_top (y := nI q) hq ?_
  refine vv_aload_n C 0 dX9_isAt_4 rfl rfl ?_
  refine vv_geti C (Cn := RX9) (T := TX9) (N := 13) sh_145 4 rfl rfl (by decide) iX9_isAt_X9 (List.mem_of_getElem? (i := 2) rfl) rfl dX9_isAt_5 ?_
  refine vv_top (y := nI t) hT.1 ?_
  refine vv_icmp_ge C 32 dX9_isAt_8 (by decide) (fun hge => ?_) (fun hlt => ?_)
  · refine vv_iconst (v := 0) C dX9_isAt_32 (by decide) ?_
    exact vv_zret0 C hR dX9_isAt_33 (qI_of ((bI_f (ch_end (fun z => absurd hge (nI_ge z (by have := hT.2.1; omega))) hx)).symm) (rfl))
  · have ht60 := hT.2.1
    have hqt : q < t := by
      rcases Nat.lt_or_ge q t with z | z
      · exact z
      · exact absurd (nI_le (a := t) z (by omega)) hlt
    refine vv_aload_n C 0 dX9_isAt_11 rfl rfl ?_
    refine vv_getr C (Cn := RX9) (T := TX9) (N := 13) sh_145 3 rfl rfl (by decide) iX9_isAt_X9 (List.mem_of_getElem? (i := 3) rfl) rfl dX9_isAt_12 ?_
    refine vv_aload_n C 0 dX9_isAt_15 rfl rfl ?_
    refine vv_geti C (Cn := RX9) (T := TX9) (N := 13) sh_145 8 rfl rfl (by decide) iX9_isAt_X9 (List.mem_of_getElem? (i := 1) rfl) rfl dX9_isAt_16 ?_
    refine vv_top (y := nI q) hq ?_
    refine vv_ald (j := q) (q := 1200 + q) C sh_148 rfl (by omega) (by omega) dX9_isAt_19 ?_
    refine vv_top (y := chA V t q) (ch_at hT hqt) ?_
    refine vv_iload_n C 1 dX9_isAt_20 rfl rfl ?_
    refine vv_iload_n C 2 dX9_isAt_21 rfl rfl ?_
    refine vv_callSI C [.int (chA V t q), .int x, .int y] (c_X9_in M (chA V t q) x y) (cwS 3 C.1.2.2.2.2 gX9_isAt_X9_in rfl rfl rfl (by decide +kernel) ⟨Nat.le_of_ble_eq_true rfl, Nat.le_of_ble_eq_true rfl⟩) rfl rfl rfl (Nat.le_of_ble_eq_true rfl) dX9_isAt_22 ⟨Nat.le_refl _, Nat.le_refl _⟩ ?_
    refine vv_bif_eq C 32 dX9_isAt_25 (by decide) (fun h_nin => ?_) (fun h_in => ?_)
    · refine vv_iconst (v := 0) C dX9_isAt_32 (by decide) ?_
      exact vv_zret0 C hR dX9_isAt_33 (qI_of ((bI_f h_nin).symm) (rfl))
    · refine vv_iconst (v := 1) C dX9_isAt_28 (by decide) ?_
      refine vv_goto C 33 dX9_isAt_29 (by decide) ?_
      exact vv_zret1 C hR dX9_isAt_33 (qI_of ((bI_t h_in).symm) (rfl))
theorem iX9_passes_X9 : ∀ w ∈ u_ws RX9 TX9 13, w ∈ wsX9_passes := fun w hw => (List.mem_cons_of_mem _ (List.mem_append_right _ hw))
set_option maxRecDepth 100000 in
set_option maxHeartbeats 4000000 in
theorem c_X9_passes {l : Launch} {G : mw_GG} (M V : mw_M) {t q : Nat} (hT : txI M V t) (hq : M 1103 = nI q) (hb : q ≤ 90) (x y : Int32) (hx : (-1 : Int32) < x) : mw_Met l yX9_passes wsX9_passes ({ frames := 2, cells := 0, slots := 0, locals := 44 } : Room) G [.ref (G.1 145), .int x, .int y] M (qI (bI (inP (chA V t q) x y)) (psM M q (inP (chA V t q) x y))) := by
  refine mw_ofV (cc := cX9_passes) 4 (by decide) rfl rfl (Nat.le_of_ble_eq_true rfl) ?_
  intro p e s m args below meth c C hR hN0
  refine vv_loc (ls2 := [some (.ref (G.1 145)), some (.int x), some (.int y), none]) rfl ?_
  refine vv_aload_n C 0 dX9_passes_0 rfl rfl ?_
  refine vv_iload_n C 1 dX9_passes_1 rfl rfl ?_
  refine vv_iload_n C 2 dX9_passes_2 rfl rfl ?_
  refine vv_callVI C [.int x, .int y] (c_X9_isAt M V (t := t) (q := q) hT hq hb x y hx) sh_145 rfl (cwV 2 C.1.2.2.2.2 gX9_passes_X9_isAt rfl rfl rfl (by decide +kernel) ⟨Nat.le_of_ble_eq_true rfl, Nat.le_of_ble_eq_true rfl⟩) rfl rfl rfl (Nat.le_of_ble_eq_true rfl) dX9_passes_3 ⟨Nat.le_refl _, Nat.le_refl _⟩ ?_
  refine vv_istore_n (ls2 := [some (.ref (G.1 145)), some (.int x), some (.int y), some (.int (bI (inP (chA V t q) x y)))]) C 3 dX9_passes_6 rfl (Nat.le_of_ble_eq_true rfl) rfl ?_
  refine vv_aload_n C 0 dX9_passes_7 rfl rfl ?_
  refine vv_dup C dX9_passes_8 rfl ?_
  refine vv_geti C (Cn := RX9) (T := TX9) (N := 13) sh_145 8 rfl rfl (by decide) iX9_passes_X9 (List.mem_of_getElem? (i := 1) rfl) rfl dX9_passes_9 ?_
  refine vv_top (y := nI q) hq ?_
  refine vv_iload_n C 3 dX9_passes_12 rfl rfl ?_
  refine vv_bif_eq C 20 dX9_passes_13 (by decide) (fun h_n => ?_) (fun h_y => ?_)
  · refine vv_iconst (v := 0) C dX9_passes_20 (by decide) ?_
    refine vv_iadd C dX9_passes_21 ?_
    refine vv_top (y := nI q) (Int32.add_zero _) ?_
    refine vv_putf C (Cn := RX9) (T := TX9) (N := 13) sh_145 8 rfl rfl (by decide) iX9_passes_X9 (List.mem_of_getElem? (i := 1) rfl) rfl tyX9_ok nmX9 rfl rfl dX9_passes_22 ?_
    refine vv_iload_n C 3 dX9_passes_25 rfl rfl ?_
    exact vv_zret C hR dX9_passes_26 (qI_of rfl ((up_eq hq).trans (ps_n h_n).symm))
  · refine vv_iconst (v := 1) C dX9_passes_16 (by decide) ?_
    refine vv_goto C 21 dX9_passes_17 (by decide) ?_
    refine vv_iadd C dX9_passes_21 ?_
    refine vv_top (y := nI (q + 1)) (nI_1 _) ?_
    refine vv_putf C (Cn := RX9) (T := TX9) (N := 13) sh_145 8 rfl rfl (by decide) iX9_passes_X9 (List.mem_of_getElem? (i := 1) rfl) rfl tyX9_ok nmX9 rfl rfl dX9_passes_22 ?_
    refine vv_iload_n C 3 dX9_passes_25 rfl rfl ?_
    exact vv_zret C hR dX9_passes_26 (qI_of rfl (ps_y h_y).symm)
theorem iX9_fails_X9 : ∀ w ∈ u_ws RX9 TX9 13, w ∈ wsX9_fails := fun w hw => (List.mem_cons_of_mem _ (List.mem_append_right _ hw))
set_option maxRecDepth 100000 in
set_option maxHeartbeats 4000000 in
theorem c_X9_fails {l : Launch} {G : mw_GG} (M : mw_M) (x : Int32) : mw_Met l yX9_fails wsX9_fails ({ frames := 0, cells := 0, slots := 0, locals := 0 } : Room) G [.ref (G.1 145), .int x] M (qI 0 (upd M 1104 x)) := by
  refine mw_ofV (cc := cX9_fails) 2 (by decide) rfl rfl (Nat.le_of_ble_eq_true rfl) ?_
  intro p e s m args below meth c C hR hN0
  refine vv_loc (ls2 := [some (.ref (G.1 145)), some (.int x)]) rfl ?_
  refine vv_aload_n C 0 dX9_fails_0 rfl rfl ?_
  refine vv_iload_n C 1 dX9_fails_1 rfl rfl ?_
  refine vv_putf C (Cn := RX9) (T := TX9) (N := 13) sh_145 9 rfl rfl (by decide) iX9_fails_X9 (List.mem_of_getElem? (i := 1) rfl) rfl tyX9_ok nmX9 rfl rfl dX9_fails_2 ?_
  refine vv_iconst (v := 0) C dX9_fails_5 (by decide) ?_
  exact vv_zret0 C hR dX9_fails_6 (qI_of rfl rfl)
theorem iX9_tells_X9 : ∀ w ∈ u_ws RX9 TX9 13, w ∈ wsX9_tells := fun w hw => (List.mem_cons_of_mem _ (List.mem_append_right _ hw))
set_option maxRecDepth 100000 in
set_option maxHeartbeats 4000000 in
theorem c_X9_tells {l : Launch} {G : mw_GG} (M : mw_M) {n : Nat} (hn : M 1106 = nI n) (hn4 : n < 4) (x y z : Int32) : mw_Met l yX9_tells wsX9_tells ({ frames := 0, cells := 0, slots := 0, locals := 0 } : Room) G [.ref (G.1 145), .int x, .int y, .int z] M (qI 1 (tlM M n x y z)) := by
  refine mw_ofV (cc := cX9_tells) 4 (by decide) rfl rfl (Nat.le_of_ble_eq_true rfl) ?_
  intro p e s m args below meth c C hR hN0
  refine vv_loc (ls2 := [some (.ref (G.1 145)), some (.int x), some (.int y), some (.int z)]) rfl ?_
  refine vv_aload_n C 0 dX9_tells_0 rfl rfl ?_
  refine vv_getr C (Cn := RX9) (T := TX9) (N := 13) sh_145 12 rfl rfl (by decide) iX9_tells_X9 (List.mem_of_getElem? (i := 1) rfl) rfl dX9_tells_1 ?_
  refine vv_iconst (v := 3) C dX9_tells_4 (by decide) ?_
  refine vv_aload_n C 0 dX9_tells_5 rfl rfl ?_
  refine vv_geti C (Cn := RX9) (T := TX9) (N := 13) sh_145 11 rfl rfl (by decide) iX9_tells_X9 (List.mem_of_getElem? (i := 2) rfl) rfl dX9_tells_6 ?_
  refine vv_top (y := nI n) hn ?_
  refine vv_imul C dX9_tells_9 ?_
  refine vv_top (y := nI (3 * n)) (pk_mul 3 n) ?_
  refine vv_iload_n C 1 dX9_tells_10 rfl rfl ?_
  refine vv_ast (j := 3 * n) (q := 1110 + (3 * n)) C sh_151 rfl (by omega) (by omega) dX9_tells_11 ?_
  refine vv_aload_n C 0 dX9_tells_12 rfl rfl ?_
  refine vv_getr C (Cn := RX9) (T := TX9) (N := 13) sh_145 12 rfl rfl (by decide) iX9_tells_X9 (List.mem_of_getElem? (i := 1) rfl) rfl dX9_tells_13 ?_
  refine vv_iconst (v := 3) C dX9_tells_16 (by decide) ?_
  refine vv_aload_n C 0 dX9_tells_17 rfl rfl ?_
  refine vv_geti C (Cn := RX9) (T := TX9) (N := 13) sh_145 11 rfl rfl (by decide) iX9_tells_X9 (List.mem_of_getElem? (i := 2) rfl) rfl dX9_tells_18 ?_
  refine vv_top (y := nI n) (((upd_o (by omega)).trans hn)) ?_
  refine vv_imul C dX9_tells_21 ?_
  refine vv_top (y := nI (3 * n)) (pk_mul 3 n) ?_
  refine vv_iconst (v := 1) C dX9_tells_22 (by decide) ?_
  refine vv_iadd C dX9_tells_23 ?_
  refine vv_top (y := nI (3 * n + 1)) (nI_1 _) ?_
  refine vv_iload_n C 2 dX9_tells_24 rfl rfl ?_
  refine vv_ast (j := 3 * n + 1) (q := 1110 + (3 * n + 1)) C sh_151 rfl (by omega) (by omega) dX9_tells_25 ?_
  refine vv_aload_n C 0 dX9_tells_26 rfl rfl ?_
  refine vv_getr C (Cn := RX9) (T := TX9) (N := 13) sh_145 12 rfl rfl (by decide) iX9_tells_X9 (List.mem_of_getElem? (i := 1) rfl) rfl dX9_tells_27 ?_
  refine vv_iconst (v := 3) C dX9_tells_30 (by decide) ?_
  refine vv_aload_n C 0 dX9_tells_31 rfl rfl ?_
  refine vv_geti C (Cn := RX9) (T := TX9) (N := 13) sh_145 11 rfl rfl (by decide) iX9_tells_X9 (List.mem_of_getElem? (i := 2) rfl) rfl dX9_tells_32 ?_
  refine vv_top (y := nI n) (((upd_o (by omega)).trans ((upd_o (by omega)).trans hn))) ?_
  refine vv_imul C dX9_tells_35 ?_
  refine vv_top (y := nI (3 * n)) (pk_mul 3 n) ?_
  refine vv_iconst (v := 2) C dX9_tells_36 (by decide) ?_
  refine vv_iadd C dX9_tells_37 ?_
  refine vv_top (y := nI (3 * n + 2)) (nI_add _ 2) ?_
  refine vv_iload_n C 3 dX9_tells_38 rfl rfl ?_
  refine vv_ast (j := 3 * n + 2) (q := 1110 + (3 * n + 2)) C sh_151 rfl (by omega) (by omega) dX9_tells_39 ?_
  refine vv_aload_n C 0 dX9_tells_40 rfl rfl ?_
  refine vv_dup C dX9_tells_41 rfl ?_
  refine vv_geti C (Cn := RX9) (T := TX9) (N := 13) sh_145 11 rfl rfl (by decide) iX9_tells_X9 (List.mem_of_getElem? (i := 2) rfl) rfl dX9_tells_42 ?_
  refine vv_top (y := nI n) (((upd_o (by omega)).trans ((upd_o (by omega)).trans ((upd_o (by omega)).trans hn)))) ?_
  refine vv_iconst (v := 1) C dX9_tells_45 (by decide) ?_
  refine vv_iadd C dX9_tells_46 ?_
  refine vv_top (y := nI (n + 1)) (nI_1 _) ?_
  refine vv_putf C (Cn := RX9) (T := TX9) (N := 13) sh_145 11 rfl rfl (by decide) iX9_tells_X9 (List.mem_of_getElem? (i := 2) rfl) rfl tyX9_ok nmX9 rfl rfl dX9_tells_47 ?_
  refine vv_iconst (v := 1) C dX9_tells_50 (by decide) ?_
  exact vv_zret1 C hR dX9_tells_51 (qI_of rfl rfl)
theorem iX9_numbered_X9 : ∀ w ∈ u_ws RX9 TX9 13, w ∈ wsX9_numbered := fun w hw => (List.mem_cons_of_mem _ (List.mem_append_right _ hw))
set_option maxRecDepth 100000 in
set_option maxHeartbeats 4000000 in
theorem c_X9_numbered {l : Launch} {G : mw_GG} (M V : mw_M) {t q : Nat} (hT : txI M V t) (hq : M 1103 = nI q) (hb : q ≤ 90) : mw_Met l yX9_numbered wsX9_numbered ({ frames := 2, cells := 0, slots := 0, locals := 44 } : Room) G [.ref (G.1 145)] M (qIP (fun r M2 => r = bI (dgP (chA V t q)) ∧ nbO M M2 (chA V t) q)) := by
  refine mw_ofV (cc := cX9_numbered) 2 (by decide) rfl rfl (Nat.le_of_ble_eq_true rfl) ?_
  intro p e s m args below meth c C hR hN0
  refine vv_loc (ls2 := [some (.ref (G.1 145)), none]) rfl ?_
  have ht60 := hT.2.1
  refine vv_aload_n C 0 dX9_numbered_0 rfl rfl ?_
  refine vv_geti C (Cn := RX9) (T := TX9) (N := 13) sh_145 8 rfl rfl (by decide) iX9_numbered_X9 (List.mem_of_getElem? (i := 1) rfl) rfl dX9_numbered_1 ?_
  refine vv_top (y := nI q) hq ?_
  refine vv_istore_n (ls2 := [some (.ref (G.1 145)), some (.int (nI q))]) C 1 dX9_numbered_4 rfl (Nat.le_of_ble_eq_true rfl) rfl ?_
  refine vv_aload_n C 0 dX9_numbered_5 rfl rfl ?_
  refine vv_iconst (v := 0) C dX9_numbered_6 (by decide) ?_
  refine vv_putf C (Cn := RX9) (T := TX9) (N := 13) sh_145 10 rfl rfl (by decide) iX9_numbered_X9 (List.mem_of_getElem? (i := 2) rfl) rfl tyX9_ok nmX9 rfl rfl dX9_numbered_7 ?_
  refine vv_aload_n C 0 dX9_numbered_10 rfl rfl ?_
  refine vv_bipush (v := 48) C dX9_numbered_11 (by decide) ?_
  refine vv_bipush (v := 57) C dX9_numbered_13 (by decide) ?_
  have hq0 : (upd M 1105 0) 1103 = nI (q) := ((upd_o (by omega)).trans hq)
  have hT0 : txI (upd M 1105 0) V t := (hT.u (by omega))
  refine vv_callVI C [.int 48, .int 57] (c_X9_isAt (upd M 1105 0) V (t := t) (q := q) hT0 hq0 (by omega) 48 57 (by decide)) sh_145 rfl (cwV 2 C.1.2.2.2.2 gX9_numbered_X9_isAt rfl rfl rfl (by decide +kernel) ⟨Nat.le_of_ble_eq_true rfl, Nat.le_of_ble_eq_true rfl⟩) rfl rfl rfl (Nat.le_of_ble_eq_true rfl) dX9_numbered_15 ⟨Nat.le_refl _, Nat.le_refl _⟩ ?_
  refine vv_bif_eq C 68 dX9_numbered_18 (by decide) (fun h_e0 => ?_) (fun h_d0 => ?_)
  · refine vv_aload_n C 0 dX9_numbered_68 rfl rfl ?_
    refine vv_geti C (Cn := RX9) (T := TX9) (N := 13) sh_145 8 rfl rfl (by decide) iX9_numbered_X9 (List.mem_of_getElem? (i := 1) rfl) rfl dX9_numbered_69 ?_
    refine vv_top (y := nI (q)) hq0 ?_
    refine vv_iload_n C 1 dX9_numbered_72 rfl rfl ?_
    refine vv_icmp_le C 80 dX9_numbered_73 (by decide) (fun h_4 => ?_) (fun h_3 => absurd (nI_le (Nat.le_refl _) (by omega)) h_3)
    refine vv_iconst (v := 0) C dX9_numbered_80 (by decide) ?_
    exact vv_zret0 C hR dX9_numbered_81 (qIP_of ⟨(bI_f h_e0).symm, nb_0 hq h_e0⟩)
  · have hdl0 : q < t := dg_in h_d0
    refine vv_aload_n C 0 dX9_numbered_21 rfl rfl ?_
    refine vv_geti C (Cn := RX9) (T := TX9) (N := 13) sh_145 8 rfl rfl (by decide) iX9_numbered_X9 (List.mem_of_getElem? (i := 1) rfl) rfl dX9_numbered_22 ?_
    refine vv_top (y := nI (q)) hq0 ?_
    refine vv_iload_n C 1 dX9_numbered_25 rfl rfl ?_
    refine vv_isub C dX9_numbered_26 ?_
    refine vv_top (y := 0) ((nI_subI (by omega)).trans (congrArg nI (show q - q = 0 by omega))) ?_
    refine vv_iconst (v := 2) C dX9_numbered_27 (by decide) ?_
    refine vv_icmp_ge C 68 dX9_numbered_28 (by decide) (fun h_5 => absurd h_5 (by decide)) (fun h_6 => ?_)
    refine vv_aload_n C 0 dX9_numbered_31 rfl rfl ?_
    refine vv_bipush (v := 10) C dX9_numbered_32 (by decide) ?_
    refine vv_aload_n C 0 dX9_numbered_34 rfl rfl ?_
    refine vv_geti C (Cn := RX9) (T := TX9) (N := 13) sh_145 10 rfl rfl (by decide) iX9_numbered_X9 (List.mem_of_getElem? (i := 2) rfl) rfl dX9_numbered_35 ?_
    refine vv_top (y := 0) upd_s ?_
    refine vv_imul C dX9_numbered_38 ?_
    refine vv_aload_n C 0 dX9_numbered_39 rfl rfl ?_
    refine vv_getr C (Cn := RX9) (T := TX9) (N := 13) sh_145 3 rfl rfl (by decide) iX9_numbered_X9 (List.mem_of_getElem? (i := 3) rfl) rfl dX9_numbered_40 ?_
    refine vv_aload_n C 0 dX9_numbered_43 rfl rfl ?_
    refine vv_geti C (Cn := RX9) (T := TX9) (N := 13) sh_145 8 rfl rfl (by decide) iX9_numbered_X9 (List.mem_of_getElem? (i := 1) rfl) rfl dX9_numbered_44 ?_
    refine vv_top (y := nI (q)) hq0 ?_
    refine vv_ald (j := q) (q := 1200 + q) C sh_148 rfl (by omega) (by omega) dX9_numbered_47 ?_
    refine vv_top (y := chA V t q) (ch_at hT0 hdl0) ?_
    refine vv_iadd C dX9_numbered_48 ?_
    refine vv_bipush (v := 48) C dX9_numbered_49 (by decide) ?_
    refine vv_isub C dX9_numbered_51 ?_
    refine vv_top (y := chA V t q - 48) (by rw [Int32.mul_zero, Int32.zero_add]) ?_
    refine vv_putf C (Cn := RX9) (T := TX9) (N := 13) sh_145 10 rfl rfl (by decide) iX9_numbered_X9 (List.mem_of_getElem? (i := 2) rfl) rfl tyX9_ok nmX9 rfl rfl dX9_numbered_52 ?_
    refine vv_aload_n C 0 dX9_numbered_55 rfl rfl ?_
    refine vv_dup C dX9_numbered_56 rfl ?_
    refine vv_geti C (Cn := RX9) (T := TX9) (N := 13) sh_145 8 rfl rfl (by decide) iX9_numbered_X9 (List.mem_of_getElem? (i := 1) rfl) rfl dX9_numbered_57 ?_
    refine vv_top (y := nI (q)) ((upd_o (by omega)).trans hq0) ?_
    refine vv_iconst (v := 1) C dX9_numbered_60 (by decide) ?_
    refine vv_iadd C dX9_numbered_61 ?_
    refine vv_top (y := nI (q + 1)) (nI_1 _) ?_
    refine vv_putf C (Cn := RX9) (T := TX9) (N := 13) sh_145 8 rfl rfl (by decide) iX9_numbered_X9 (List.mem_of_getElem? (i := 1) rfl) rfl tyX9_ok nmX9 rfl rfl dX9_numbered_62 ?_
    refine vv_goto C 10 dX9_numbered_65 (by decide) ?_
    refine vv_aload_n C 0 dX9_numbered_10 rfl rfl ?_
    refine vv_bipush (v := 48) C dX9_numbered_11 (by decide) ?_
    refine vv_bipush (v := 57) C dX9_numbered_13 (by decide) ?_
    have hq1 : (upd (upd (upd M 1105 0) 1105 (chA V t q - 48)) 1103 (nI (q + 1))) 1103 = nI (q + 1) := upd_s
    have hT1 : txI (upd (upd (upd M 1105 0) 1105 (chA V t q - 48)) 1103 (nI (q + 1))) V t := ((hT0.u (by omega)).u (by omega))
    refine vv_callVI C [.int 48, .int 57] (c_X9_isAt (upd (upd (upd M 1105 0) 1105 (chA V t q - 48)) 1103 (nI (q + 1))) V (t := t) (q := (q + 1)) hT1 hq1 (by omega) 48 57 (by decide)) sh_145 rfl (cwV 2 C.1.2.2.2.2 gX9_numbered_X9_isAt rfl rfl rfl (by decide +kernel) ⟨Nat.le_of_ble_eq_true rfl, Nat.le_of_ble_eq_true rfl⟩) rfl rfl rfl (Nat.le_of_ble_eq_true rfl) dX9_numbered_15 ⟨Nat.le_refl _, Nat.le_refl _⟩ ?_
    refine vv_bif_eq C 68 dX9_numbered_18 (by decide) (fun h_e1 => ?_) (fun h_d1 => ?_)
    · refine vv_aload_n C 0 dX9_numbered_68 rfl rfl ?_
      refine vv_geti C (Cn := RX9) (T := TX9) (N := 13) sh_145 8 rfl rfl (by decide) iX9_numbered_X9 (List.mem_of_getElem? (i := 1) rfl) rfl dX9_numbered_69 ?_
      refine vv_top (y := nI (q + 1)) hq1 ?_
      refine vv_iload_n C 1 dX9_numbered_72 rfl rfl ?_
      refine vv_icmp_le C 80 dX9_numbered_73 (by decide) (fun h_9 => absurd h_9 (nI_ge (by omega) (by omega))) (fun h_10 => ?_)
      refine vv_iconst (v := 1) C dX9_numbered_76 (by decide) ?_
      refine vv_goto C 81 dX9_numbered_77 (by decide) ?_
      exact vv_zret1 C hR dX9_numbered_81 (qIP_of ⟨(bI_t h_d0).symm, nb_1 h_d0 h_e1⟩)
    · have hdl1 : q + 1 < t := dg_in h_d1
      refine vv_aload_n C 0 dX9_numbered_21 rfl rfl ?_
      refine vv_geti C (Cn := RX9) (T := TX9) (N := 13) sh_145 8 rfl rfl (by decide) iX9_numbered_X9 (List.mem_of_getElem? (i := 1) rfl) rfl dX9_numbered_22 ?_
      refine vv_top (y := nI (q + 1)) hq1 ?_
      refine vv_iload_n C 1 dX9_numbered_25 rfl rfl ?_
      refine vv_isub C dX9_numbered_26 ?_
      refine vv_top (y := 1) ((nI_subI (by omega)).trans (congrArg nI (show q + 1 - q = 1 by omega))) ?_
      refine vv_iconst (v := 2) C dX9_numbered_27 (by decide) ?_
      refine vv_icmp_ge C 68 dX9_numbered_28 (by decide) (fun h_11 => absurd h_11 (by decide)) (fun h_12 => ?_)
      refine vv_aload_n C 0 dX9_numbered_31 rfl rfl ?_
      refine vv_bipush (v := 10) C dX9_numbered_32 (by decide) ?_
      refine vv_aload_n C 0 dX9_numbered_34 rfl rfl ?_
      refine vv_geti C (Cn := RX9) (T := TX9) (N := 13) sh_145 10 rfl rfl (by decide) iX9_numbered_X9 (List.mem_of_getElem? (i := 2) rfl) rfl dX9_numbered_35 ?_
      refine vv_top (y := chA V t q - 48) ((upd_o (by omega)).trans upd_s) ?_
      refine vv_imul C dX9_numbered_38 ?_
      refine vv_aload_n C 0 dX9_numbered_39 rfl rfl ?_
      refine vv_getr C (Cn := RX9) (T := TX9) (N := 13) sh_145 3 rfl rfl (by decide) iX9_numbered_X9 (List.mem_of_getElem? (i := 3) rfl) rfl dX9_numbered_40 ?_
      refine vv_aload_n C 0 dX9_numbered_43 rfl rfl ?_
      refine vv_geti C (Cn := RX9) (T := TX9) (N := 13) sh_145 8 rfl rfl (by decide) iX9_numbered_X9 (List.mem_of_getElem? (i := 1) rfl) rfl dX9_numbered_44 ?_
      refine vv_top (y := nI (q + 1)) hq1 ?_
      refine vv_ald (j := q + 1) (q := 1200 + (q + 1)) C sh_148 rfl (by omega) (by omega) dX9_numbered_47 ?_
      refine vv_top (y := chA V t (q + 1)) (ch_at hT1 hdl1) ?_
      refine vv_iadd C dX9_numbered_48 ?_
      refine vv_bipush (v := 48) C dX9_numbered_49 (by decide) ?_
      refine vv_isub C dX9_numbered_51 ?_
      refine vv_putf C (Cn := RX9) (T := TX9) (N := 13) sh_145 10 rfl rfl (by decide) iX9_numbered_X9 (List.mem_of_getElem? (i := 2) rfl) rfl tyX9_ok nmX9 rfl rfl dX9_numbered_52 ?_
      refine vv_aload_n C 0 dX9_numbered_55 rfl rfl ?_
      refine vv_dup C dX9_numbered_56 rfl ?_
      refine vv_geti C (Cn := RX9) (T := TX9) (N := 13) sh_145 8 rfl rfl (by decide) iX9_numbered_X9 (List.mem_of_getElem? (i := 1) rfl) rfl dX9_numbered_57 ?_
      refine vv_top (y := nI (q + 1)) ((upd_o (by omega)).trans hq1) ?_
      refine vv_iconst (v := 1) C dX9_numbered_60 (by decide) ?_
      refine vv_iadd C dX9_numbered_61 ?_
      refine vv_top (y := nI (q + 2)) (nI_1 _) ?_
      refine vv_putf C (Cn := RX9) (T := TX9) (N := 13) sh_145 8 rfl rfl (by decide) iX9_numbered_X9 (List.mem_of_getElem? (i := 1) rfl) rfl tyX9_ok nmX9 rfl rfl dX9_numbered_62 ?_
      refine vv_goto C 10 dX9_numbered_65 (by decide) ?_
      refine vv_aload_n C 0 dX9_numbered_10 rfl rfl ?_
      refine vv_bipush (v := 48) C dX9_numbered_11 (by decide) ?_
      refine vv_bipush (v := 57) C dX9_numbered_13 (by decide) ?_
      have hq2 : (upd (upd (upd (upd (upd M 1105 0) 1105 (chA V t q - 48)) 1103 (nI (q + 1))) 1105 (((10 * (chA V t q - 48)) + (chA V t (q + 1))) - 48)) 1103 (nI (q + 2))) 1103 = nI (q + 2) := upd_s
      have hT2 : txI (upd (upd (upd (upd (upd M 1105 0) 1105 (chA V t q - 48)) 1103 (nI (q + 1))) 1105 (((10 * (chA V t q - 48)) + (chA V t (q + 1))) - 48)) 1103 (nI (q + 2))) V t := ((hT1.u (by omega)).u (by omega))
      refine vv_callVI C [.int 48, .int 57] (c_X9_isAt (upd (upd (upd (upd (upd M 1105 0) 1105 (chA V t q - 48)) 1103 (nI (q + 1))) 1105 (((10 * (chA V t q - 48)) + (chA V t (q + 1))) - 48)) 1103 (nI (q + 2))) V (t := t) (q := (q + 2)) hT2 hq2 (by omega) 48 57 (by decide)) sh_145 rfl (cwV 2 C.1.2.2.2.2 gX9_numbered_X9_isAt rfl rfl rfl (by decide +kernel) ⟨Nat.le_of_ble_eq_true rfl, Nat.le_of_ble_eq_true rfl⟩) rfl rfl rfl (Nat.le_of_ble_eq_true rfl) dX9_numbered_15 ⟨Nat.le_refl _, Nat.le_refl _⟩ ?_
      refine vv_bif_eq C 68 dX9_numbered_18 (by decide) (fun h_e2 => ?_) (fun h_d2 => ?_)
      · refine vv_aload_n C 0 dX9_numbered_68 rfl rfl ?_
        refine vv_geti C (Cn := RX9) (T := TX9) (N := 13) sh_145 8 rfl rfl (by decide) iX9_numbered_X9 (List.mem_of_getElem? (i := 1) rfl) rfl dX9_numbered_69 ?_
        refine vv_top (y := nI (q + 2)) hq2 ?_
        refine vv_iload_n C 1 dX9_numbered_72 rfl rfl ?_
        refine vv_icmp_le C 80 dX9_numbered_73 (by decide) (fun h_15 => absurd h_15 (nI_ge (by omega) (by omega))) (fun h_16 => ?_)
        refine vv_iconst (v := 1) C dX9_numbered_76 (by decide) ?_
        refine vv_goto C 81 dX9_numbered_77 (by decide) ?_
        exact vv_zret1 C hR dX9_numbered_81 (qIP_of ⟨(bI_t h_d0).symm, nb_2 h_d0 h_d1⟩)
      · have hdl2 : q + 2 < t := dg_in h_d2
        refine vv_aload_n C 0 dX9_numbered_21 rfl rfl ?_
        refine vv_geti C (Cn := RX9) (T := TX9) (N := 13) sh_145 8 rfl rfl (by decide) iX9_numbered_X9 (List.mem_of_getElem? (i := 1) rfl) rfl dX9_numbered_22 ?_
        refine vv_top (y := nI (q + 2)) hq2 ?_
        refine vv_iload_n C 1 dX9_numbered_25 rfl rfl ?_
        refine vv_isub C dX9_numbered_26 ?_
        refine vv_top (y := 2) ((nI_subI (by omega)).trans (congrArg nI (show q + 2 - q = 2 by omega))) ?_
        refine vv_iconst (v := 2) C dX9_numbered_27 (by decide) ?_
        refine vv_icmp_ge C 68 dX9_numbered_28 (by decide) (fun h_18 => ?_) (fun h_17 => absurd h_17 (by decide))
        refine vv_aload_n C 0 dX9_numbered_68 rfl rfl ?_
        refine vv_geti C (Cn := RX9) (T := TX9) (N := 13) sh_145 8 rfl rfl (by decide) iX9_numbered_X9 (List.mem_of_getElem? (i := 1) rfl) rfl dX9_numbered_69 ?_
        refine vv_top (y := nI (q + 2)) hq2 ?_
        refine vv_iload_n C 1 dX9_numbered_72 rfl rfl ?_
        refine vv_icmp_le C 80 dX9_numbered_73 (by decide) (fun h_19 => absurd h_19 (nI_ge (by omega) (by omega))) (fun h_20 => ?_)
        refine vv_iconst (v := 1) C dX9_numbered_76 (by decide) ?_
        refine vv_goto C 81 dX9_numbered_77 (by decide) ?_
        exact vv_zret1 C hR dX9_numbered_81 (qIP_of ⟨(bI_t h_d0).symm, nb_2 h_d0 h_d1⟩)
theorem iX9_compares_X9 : ∀ w ∈ u_ws RX9 TX9 13, w ∈ wsX9_compares := fun w hw => (List.mem_cons_of_mem _ (List.mem_append_right _ hw))
set_option maxRecDepth 100000 in
set_option maxHeartbeats 4000000 in
theorem c_X9_compares {l : Launch} {G : mw_GG} (M V : mw_M) {t q n : Nat} (hT : txI M V t) (hq : M 1103 = nI q) (hb : q ≤ 90) (hn : M 1106 = nI n) (hn4 : n < 4) (kn kl : Int32) : mw_Met l yX9_compares wsX9_compares ({ frames := 3, cells := 0, slots := 0, locals := 67 } : Room) G [.ref (G.1 145), .int kn, .int kl] M (qIP (fun r M2 => r = bI ((bdR (chA V t) q kn kl).1 = 0) ∧ rcO M M2 n (bdR (chA V t) q kn kl))) := by
  refine mw_ofV (cc := cX9_compares) 3 (by decide) rfl rfl (Nat.le_of_ble_eq_true rfl) ?_
  intro p e s m args below meth c C hR hN0
  refine vv_loc (ls2 := [some (.ref (G.1 145)), some (.int kn), some (.int kl)]) rfl ?_
  have ht60 := hT.2.1
  refine vv_aload_n C 0 dX9_compares_0 rfl rfl ?_
  refine vv_bipush (v := 119) C dX9_compares_1 (by decide) ?_
  refine vv_bipush (v := 122) C dX9_compares_3 (by decide) ?_
  refine vv_callVI C [.int 119, .int 122] (c_X9_passes M V (t := t) (q := q) hT hq (by omega) 119 122 (by decide)) sh_145 rfl (cwV 2 C.1.2.2.2.2 gX9_compares_X9_passes rfl rfl rfl (by decide +kernel) ⟨Nat.le_of_ble_eq_true rfl, Nat.le_of_ble_eq_true rfl⟩) rfl rfl rfl (Nat.le_of_ble_eq_true rfl) dX9_compares_5 ⟨Nat.le_refl _, Nat.le_refl _⟩ ?_
  refine vv_bif_eq C 32 dX9_compares_8 (by decide) (fun h_nl => ?_) (fun h_l => ?_)
  · refine vv_mem (M2 := M) (ps_n h_nl) ?_
    refine vv_aload_n C 0 dX9_compares_32 rfl rfl ?_
    refine vv_callVIP C [] (c_X9_numbered M V (t := t) (q := q) hT hq (by omega)) sh_145 rfl (cwV 0 C.1.2.2.2.2 gX9_compares_X9_numbered rfl rfl rfl (by decide +kernel) ⟨Nat.le_of_ble_eq_true rfl, Nat.le_of_ble_eq_true rfl⟩) rfl rfl rfl (Nat.le_of_ble_eq_true rfl) dX9_compares_33 ⟨Nat.le_refl _, Nat.le_refl _⟩ (fun x_3 M_4 h_5 => ?_)
    obtain ⟨rfl, hNB⟩ := h_5
    refine vv_bif_eq C 52 dX9_compares_36 (by decide) (fun h_nd => ?_) (fun h_d => ?_)
    · refine vv_aload_n C 0 dX9_compares_52 rfl rfl ?_
      refine vv_iconst (v := 1) C dX9_compares_53 (by decide) ?_
      refine vv_callVI C [.int 1] (c_X9_fails M_4 1) sh_145 rfl (cwV 1 C.1.2.2.2.2 gX9_compares_X9_fails rfl rfl rfl (by decide +kernel) ⟨Nat.le_of_ble_eq_true rfl, Nat.le_of_ble_eq_true rfl⟩) rfl rfl rfl (Nat.le_of_ble_eq_true rfl) dX9_compares_54 ⟨Nat.le_refl _, Nat.le_refl _⟩ ?_
      exact vv_zret0 C hR dX9_compares_57 (qIP_of (by rw [show bdR (chA V t) q kn kl = (1, q, 0, 0, 0) from (if_neg h_nl).trans (if_neg h_nd)]; exact ⟨(bI_f (show ¬ (1 : Nat) = 0 by decide)).symm, rc_in hNB.sc (rc_fl (by decide) rfl (fun _ _ => rfl) (hNB.spot0 h_nd))⟩))
    · refine vv_aload_n C 0 dX9_compares_39 rfl rfl ?_
      refine vv_iload_n C 1 dX9_compares_40 rfl rfl ?_
      refine vv_aload_n C 0 dX9_compares_41 rfl rfl ?_
      refine vv_geti C (Cn := RX9) (T := TX9) (N := 13) sh_145 10 rfl rfl (by decide) iX9_compares_X9 (List.mem_of_getElem? (i := 3) rfl) rfl dX9_compares_42 ?_
      refine vv_top (y := nmV (chA V t) q) hNB.1 ?_
      refine vv_iconst (v := 0) C dX9_compares_45 (by decide) ?_
      refine vv_callVI C [.int kn, .int (nmV (chA V t) q), .int 0] (c_X9_tells M_4 (n := n) ((hNB.2.2 _ (by omega) (by omega)).trans hn) hn4 kn (nmV (chA V t) q) 0) sh_145 rfl (cwV 3 C.1.2.2.2.2 gX9_compares_X9_tells rfl rfl rfl (by decide +kernel) ⟨Nat.le_of_ble_eq_true rfl, Nat.le_of_ble_eq_true rfl⟩) rfl rfl rfl (Nat.le_of_ble_eq_true rfl) dX9_compares_46 ⟨Nat.le_refl _, Nat.le_refl _⟩ ?_
      refine vv_goto C 57 dX9_compares_49 (by decide) ?_
      exact vv_zret1 C hR dX9_compares_57 (qIP_of (by rw [show bdR (chA V t) q kn kl = (0, nmP (chA V t) q, kn, nmV (chA V t) q, 0) from (if_neg h_nl).trans (if_pos h_d)]; exact ⟨(bI_t rfl).symm, rc_in hNB.sc (rc_tl hn4 (fun _ _ => rfl) (hNB.spot h_d))⟩))
  · refine vv_mem (M2 := upd M 1103 (nI (q + 1))) (ps_y h_l) ?_
    have hql : q < t := lt_in h_l
    refine vv_aload_n C 0 dX9_compares_11 rfl rfl ?_
    refine vv_iload_n C 2 dX9_compares_12 rfl rfl ?_
    refine vv_aload_n C 0 dX9_compares_13 rfl rfl ?_
    refine vv_getr C (Cn := RX9) (T := TX9) (N := 13) sh_145 3 rfl rfl (by decide) iX9_compares_X9 (List.mem_of_getElem? (i := 1) rfl) rfl dX9_compares_14 ?_
    refine vv_aload_n C 0 dX9_compares_17 rfl rfl ?_
    refine vv_geti C (Cn := RX9) (T := TX9) (N := 13) sh_145 8 rfl rfl (by decide) iX9_compares_X9 (List.mem_of_getElem? (i := 2) rfl) rfl dX9_compares_18 ?_
    refine vv_top (y := nI (q + 1)) upd_s ?_
    refine vv_iconst (v := 1) C dX9_compares_21 (by decide) ?_
    refine vv_isub C dX9_compares_22 ?_
    refine vv_top (y := nI q) (nI_subI (b := 1) (by omega)) ?_
    refine vv_ald (j := q) (q := 1200 + q) C sh_148 rfl (by omega) (by omega) dX9_compares_23 ?_
    refine vv_top (y := chA V t q) (ch_at (hT.u (by omega)) hql) ?_
    refine vv_bipush (v := 119) C dX9_compares_24 (by decide) ?_
    refine vv_isub C dX9_compares_26 ?_
    refine vv_iconst (v := 0) C dX9_compares_27 (by decide) ?_
    refine vv_callVI C [.int kl, .int ((chA V t q) - 119), .int 0] (c_X9_tells (upd M 1103 (nI (q + 1))) (n := n) ((upd_o (by omega)).trans hn) hn4 kl ((chA V t q) - 119) 0) sh_145 rfl (cwV 3 C.1.2.2.2.2 gX9_compares_X9_tells rfl rfl rfl (by decide +kernel) ⟨Nat.le_of_ble_eq_true rfl, Nat.le_of_ble_eq_true rfl⟩) rfl rfl rfl (Nat.le_of_ble_eq_true rfl) dX9_compares_28 ⟨Nat.le_refl _, Nat.le_refl _⟩ ?_
    exact vv_zret1 C hR dX9_compares_31 (qIP_of (by rw [show bdR (chA V t) q kn kl = (0, q + 1, kl, chA V t q - 119, 0) from if_pos h_l]; exact ⟨(bI_t rfl).symm, rc_in u_sc (rc_tl hn4 (fun _ _ => rfl) upd_s)⟩))
theorem iX9_ranges_X9 : ∀ w ∈ u_ws RX9 TX9 13, w ∈ wsX9_ranges := fun w hw => (List.mem_cons_of_mem _ (List.mem_append_right _ hw))
set_option maxRecDepth 100000 in
set_option maxHeartbeats 4000000 in
theorem c_X9_ranges {l : Launch} {G : mw_GG} (M V : mw_M) {t q n : Nat} (hT : txI M V t) (hd : dgP (chA V t q)) (hq : M 1103 = nI (nmP (chA V t) q)) (hnum : M 1105 = nmV (chA V t) q) (hb : q ≤ 80) (hn : M 1106 = nI n) (hn4 : n < 4) {x : Int32} (hx : x = nI q) : mw_Met l yX9_ranges wsX9_ranges ({ frames := 3, cells := 0, slots := 0, locals := 67 } : Room) G [.ref (G.1 145), .int x] M (qIP (fun r M2 => r = bI ((nsR (chA V t) q).1 = 0) ∧ rcO M M2 n (nsR (chA V t) q))) := by
  refine mw_ofV (cc := cX9_ranges) 3 (by decide) rfl rfl (Nat.le_of_ble_eq_true rfl) ?_
  intro p e s m args below meth c C hR hN0
  subst hx
  refine vv_loc (ls2 := [some (.ref (G.1 145)), some (.int (nI q)), none]) rfl ?_
  have hnp := nmP_le (chA V t) q
  refine vv_aload_n C 0 dX9_ranges_0 rfl rfl ?_
  refine vv_geti C (Cn := RX9) (T := TX9) (N := 13) sh_145 10 rfl rfl (by decide) iX9_ranges_X9 (List.mem_of_getElem? (i := 1) rfl) rfl dX9_ranges_1 ?_
  refine vv_top (y := nmV (chA V t) q) hnum ?_
  refine vv_istore_n (ls2 := [some (.ref (G.1 145)), some (.int (nI q)), some (.int (nmV (chA V t) q))]) C 2 dX9_ranges_4 rfl (Nat.le_of_ble_eq_true rfl) rfl ?_
  refine vv_aload_n C 0 dX9_ranges_5 rfl rfl ?_
  refine vv_bipush (v := 45) C dX9_ranges_6 (by decide) ?_
  refine vv_bipush (v := 45) C dX9_ranges_8 (by decide) ?_
  refine vv_callVI C [.int 45, .int 45] (c_X9_passes M V (t := t) (q := (nmP (chA V t) q)) hT hq (by omega) 45 45 (by decide)) sh_145 rfl (cwV 2 C.1.2.2.2.2 gX9_ranges_X9_passes rfl rfl rfl (by decide +kernel) ⟨Nat.le_of_ble_eq_true rfl, Nat.le_of_ble_eq_true rfl⟩) rfl rfl rfl (Nat.le_of_ble_eq_true rfl) dX9_ranges_10 ⟨Nat.le_refl _, Nat.le_refl _⟩ ?_
  refine vv_bif_ne C 24 dX9_ranges_13 (by decide) (fun h_mi => ?_) (fun h_nm => ?_)
  · refine vv_mem (M2 := upd M 1103 (nI ((nmP (chA V t) q) + 1))) (ps_y h_mi) ?_
    refine vv_aload_n C 0 dX9_ranges_24 rfl rfl ?_
    refine vv_callVIP C [] (c_X9_numbered (upd M 1103 (nI ((nmP (chA V t) q) + 1))) V (t := t) (q := (nmP (chA V t) q + 1)) (hT.u (by omega)) upd_s (by omega)) sh_145 rfl (cwV 0 C.1.2.2.2.2 gX9_ranges_X9_numbered rfl rfl rfl (by decide +kernel) ⟨Nat.le_of_ble_eq_true rfl, Nat.le_of_ble_eq_true rfl⟩) rfl rfl rfl (Nat.le_of_ble_eq_true rfl) dX9_ranges_25 ⟨Nat.le_refl _, Nat.le_refl _⟩ (fun x_3 M_4 h_5 => ?_)
    obtain ⟨rfl, hNB⟩ := h_5
    refine vv_bif_ne C 37 dX9_ranges_28 (by decide) (fun h_d2 => ?_) (fun h_nd2 => ?_)
    · refine vv_aload_n C 0 dX9_ranges_37 rfl rfl ?_
      refine vv_geti C (Cn := RX9) (T := TX9) (N := 13) sh_145 10 rfl rfl (by decide) iX9_ranges_X9 (List.mem_of_getElem? (i := 1) rfl) rfl dX9_ranges_38 ?_
      refine vv_top (y := nmV (chA V t) (nmP (chA V t) q + 1)) hNB.1 ?_
      refine vv_iload_n C 2 dX9_ranges_41 rfl rfl ?_
      refine vv_icmp_ge C 56 dX9_ranges_42 (by decide) (fun h_ge => ?_) (fun h_lt => ?_)
      · refine vv_aload_n C 0 dX9_ranges_56 rfl rfl ?_
        refine vv_bipush (v := 7) C dX9_ranges_57 (by decide) ?_
        refine vv_iload_n C 2 dX9_ranges_59 rfl rfl ?_
        refine vv_aload_n C 0 dX9_ranges_60 rfl rfl ?_
        refine vv_geti C (Cn := RX9) (T := TX9) (N := 13) sh_145 10 rfl rfl (by decide) iX9_ranges_X9 (List.mem_of_getElem? (i := 1) rfl) rfl dX9_ranges_61 ?_
        refine vv_top (y := nmV (chA V t) (nmP (chA V t) q + 1)) hNB.1 ?_
        refine vv_callVI C [.int 7, .int (nmV (chA V t) q), .int (nmV (chA V t) (nmP (chA V t) q + 1))] (c_X9_tells M_4 (n := n) ((hNB.2.2 _ (by omega) (by omega)).trans ((upd_o (by omega)).trans hn)) hn4 7 (nmV (chA V t) q) (nmV (chA V t) (nmP (chA V t) q + 1))) sh_145 rfl (cwV 3 C.1.2.2.2.2 gX9_ranges_X9_tells rfl rfl rfl (by decide +kernel) ⟨Nat.le_of_ble_eq_true rfl, Nat.le_of_ble_eq_true rfl⟩) rfl rfl rfl (Nat.le_of_ble_eq_true rfl) dX9_ranges_64 ⟨Nat.le_refl _, Nat.le_refl _⟩ ?_
        exact vv_zret1 C hR dX9_ranges_67 (qIP_of (by rw [show nsR (chA V t) q = (0, nmP (chA V t) (nmP (chA V t) q + 1), 7, nmV (chA V t) q, nmV (chA V t) (nmP (chA V t) q + 1)) from (if_neg (fun z => z (in_1.mp h_mi))).trans ((if_pos h_d2).trans (if_neg (Int32.not_lt.mpr h_ge)))]; exact ⟨(bI_t rfl).symm, rc_in u_sc (rc_in hNB.sc (rc_tl hn4 (fun _ _ => rfl) (hNB.spot h_d2)))⟩))
      · refine vv_aload_n C 0 dX9_ranges_45 rfl rfl ?_
        refine vv_iload_n C 1 dX9_ranges_46 rfl rfl ?_
        refine vv_putf C (Cn := RX9) (T := TX9) (N := 13) sh_145 8 rfl rfl (by decide) iX9_ranges_X9 (List.mem_of_getElem? (i := 2) rfl) rfl tyX9_ok nmX9 rfl rfl dX9_ranges_47 ?_
        refine vv_aload_n C 0 dX9_ranges_50 rfl rfl ?_
        refine vv_iconst (v := 2) C dX9_ranges_51 (by decide) ?_
        refine vv_callVI C [.int 2] (c_X9_fails (upd M_4 1103 (nI q)) 2) sh_145 rfl (cwV 1 C.1.2.2.2.2 gX9_ranges_X9_fails rfl rfl rfl (by decide +kernel) ⟨Nat.le_of_ble_eq_true rfl, Nat.le_of_ble_eq_true rfl⟩) rfl rfl rfl (Nat.le_of_ble_eq_true rfl) dX9_ranges_52 ⟨Nat.le_refl _, Nat.le_refl _⟩ ?_
        exact vv_zret0 C hR dX9_ranges_55 (qIP_of (by rw [show nsR (chA V t) q = (2, q, 0, 0, 0) from (if_neg (fun z => z (in_1.mp h_mi))).trans ((if_pos h_d2).trans (if_pos (Int32.not_le.mp h_lt)))]; exact ⟨(bI_f (show ¬ (2 : Nat) = 0 by decide)).symm, rc_in u_sc (rc_in hNB.sc (rc_in u_sc (rc_fl (by decide) rfl (fun _ _ => rfl) upd_s)))⟩))
    · refine vv_aload_n C 0 dX9_ranges_31 rfl rfl ?_
      refine vv_iconst (v := 1) C dX9_ranges_32 (by decide) ?_
      refine vv_callVI C [.int 1] (c_X9_fails M_4 1) sh_145 rfl (cwV 1 C.1.2.2.2.2 gX9_ranges_X9_fails rfl rfl rfl (by decide +kernel) ⟨Nat.le_of_ble_eq_true rfl, Nat.le_of_ble_eq_true rfl⟩) rfl rfl rfl (Nat.le_of_ble_eq_true rfl) dX9_ranges_33 ⟨Nat.le_refl _, Nat.le_refl _⟩ ?_
      exact vv_zret0 C hR dX9_ranges_36 (qIP_of (by rw [show nsR (chA V t) q = (1, nmP (chA V t) q + 1, 0, 0, 0) from (if_neg (fun z => z (in_1.mp h_mi))).trans (if_neg h_nd2)]; exact ⟨(bI_f (show ¬ (1 : Nat) = 0 by decide)).symm, rc_in u_sc (rc_in hNB.sc (rc_fl (by decide) rfl (fun _ _ => rfl) (hNB.spot0 h_nd2)))⟩))
  · refine vv_mem (M2 := M) (ps_n h_nm) ?_
    refine vv_aload_n C 0 dX9_ranges_16 rfl rfl ?_
    refine vv_iconst (v := 3) C dX9_ranges_17 (by decide) ?_
    refine vv_iload_n C 2 dX9_ranges_18 rfl rfl ?_
    refine vv_iconst (v := 0) C dX9_ranges_19 (by decide) ?_
    refine vv_callVI C [.int 3, .int (nmV (chA V t) q), .int 0] (c_X9_tells M (n := n) hn hn4 3 (nmV (chA V t) q) 0) sh_145 rfl (cwV 3 C.1.2.2.2.2 gX9_ranges_X9_tells rfl rfl rfl (by decide +kernel) ⟨Nat.le_of_ble_eq_true rfl, Nat.le_of_ble_eq_true rfl⟩) rfl rfl rfl (Nat.le_of_ble_eq_true rfl) dX9_ranges_20 ⟨Nat.le_refl _, Nat.le_refl _⟩ ?_
    exact vv_zret1 C hR dX9_ranges_23 (qIP_of (by rw [show nsR (chA V t) q = (0, nmP (chA V t) q, 3, nmV (chA V t) q, 0) from if_pos (fun z => h_nm (in_1.mpr z))]; exact ⟨(bI_t rfl).symm, rc_tl hn4 (fun _ _ => rfl) hq⟩))
theorem iX9_readsCell_X9 : ∀ w ∈ u_ws RX9 TX9 13, w ∈ wsX9_readsCell := fun w hw => (List.mem_cons_of_mem _ (List.mem_append_right _ hw))
set_option maxRecDepth 100000 in
set_option maxHeartbeats 4000000 in
theorem c_X9_readsCell {l : Launch} {G : mw_GG} (M V : mw_M) {t q n : Nat} (hT : txI M V t) (hq : M 1103 = nI q) (hb : q ≤ 80) (hn : M 1106 = nI n) (hn4 : n < 4) : mw_Met l yX9_readsCell wsX9_readsCell ({ frames := 4, cells := 0, slots := 0, locals := 89 } : Room) G [.ref (G.1 145)] M (qIP (fun r M2 => r = bI ((clR (chA V t) q).1 = 0) ∧ rcO M M2 n (clR (chA V t) q))) := by
  refine mw_ofV (cc := cX9_readsCell) 2 (by decide) rfl rfl (Nat.le_of_ble_eq_true rfl) ?_
  intro p e s m args below meth c C hR hN0
  refine vv_loc (ls2 := [some (.ref (G.1 145)), none]) rfl ?_
  have ht60 := hT.2.1
  refine vv_aload_n C 0 dX9_readsCell_0 rfl rfl ?_
  refine vv_geti C (Cn := RX9) (T := TX9) (N := 13) sh_145 8 rfl rfl (by decide) iX9_readsCell_X9 (List.mem_of_getElem? (i := 1) rfl) rfl dX9_readsCell_1 ?_
  refine vv_top (y := nI q) hq ?_
  refine vv_istore_n (ls2 := [some (.ref (G.1 145)), some (.int (nI q))]) C 1 dX9_readsCell_4 rfl (Nat.le_of_ble_eq_true rfl) rfl ?_
  refine vv_aload_n C 0 dX9_readsCell_5 rfl rfl ?_
  refine vv_bipush (v := 42) C dX9_readsCell_6 (by decide) ?_
  refine vv_bipush (v := 42) C dX9_readsCell_8 (by decide) ?_
  refine vv_callVI C [.int 42, .int 42] (c_X9_passes M V (t := t) (q := q) hT hq (by omega) 42 42 (by decide)) sh_145 rfl (cwV 2 C.1.2.2.2.2 gX9_readsCell_X9_passes rfl rfl rfl (by decide +kernel) ⟨Nat.le_of_ble_eq_true rfl, Nat.le_of_ble_eq_true rfl⟩) rfl rfl rfl (Nat.le_of_ble_eq_true rfl) dX9_readsCell_10 ⟨Nat.le_refl _, Nat.le_refl _⟩ ?_
  refine vv_bif_eq C 24 dX9_readsCell_13 (by decide) (fun h_n42 => ?_) (fun h_42 => ?_)
  · refine vv_mem (M2 := M) (ps_n h_n42) ?_
    refine vv_aload_n C 0 dX9_readsCell_24 rfl rfl ?_
    refine vv_bipush (v := 95) C dX9_readsCell_25 (by decide) ?_
    refine vv_bipush (v := 95) C dX9_readsCell_27 (by decide) ?_
    refine vv_callVI C [.int 95, .int 95] (c_X9_passes M V (t := t) (q := q) hT hq (by omega) 95 95 (by decide)) sh_145 rfl (cwV 2 C.1.2.2.2.2 gX9_readsCell_X9_passes rfl rfl rfl (by decide +kernel) ⟨Nat.le_of_ble_eq_true rfl, Nat.le_of_ble_eq_true rfl⟩) rfl rfl rfl (Nat.le_of_ble_eq_true rfl) dX9_readsCell_29 ⟨Nat.le_refl _, Nat.le_refl _⟩ ?_
    refine vv_bif_eq C 43 dX9_readsCell_32 (by decide) (fun h_n95 => ?_) (fun h_95 => ?_)
    · refine vv_mem (M2 := M) (ps_n h_n95) ?_
      refine vv_aload_n C 0 dX9_readsCell_43 rfl rfl ?_
      refine vv_bipush (v := 33) C dX9_readsCell_44 (by decide) ?_
      refine vv_bipush (v := 33) C dX9_readsCell_46 (by decide) ?_
      refine vv_callVI C [.int 33, .int 33] (c_X9_passes M V (t := t) (q := q) hT hq (by omega) 33 33 (by decide)) sh_145 rfl (cwV 2 C.1.2.2.2.2 gX9_readsCell_X9_passes rfl rfl rfl (by decide +kernel) ⟨Nat.le_of_ble_eq_true rfl, Nat.le_of_ble_eq_true rfl⟩) rfl rfl rfl (Nat.le_of_ble_eq_true rfl) dX9_readsCell_48 ⟨Nat.le_refl _, Nat.le_refl _⟩ ?_
      refine vv_bif_eq C 62 dX9_readsCell_51 (by decide) (fun h_n33 => ?_) (fun h_33 => ?_)
      · refine vv_mem (M2 := M) (ps_n h_n33) ?_
        refine vv_aload_n C 0 dX9_readsCell_62 rfl rfl ?_
        refine vv_bipush (v := 35) C dX9_readsCell_63 (by decide) ?_
        refine vv_bipush (v := 35) C dX9_readsCell_65 (by decide) ?_
        refine vv_callVI C [.int 35, .int 35] (c_X9_passes M V (t := t) (q := q) hT hq (by omega) 35 35 (by decide)) sh_145 rfl (cwV 2 C.1.2.2.2.2 gX9_readsCell_X9_passes rfl rfl rfl (by decide +kernel) ⟨Nat.le_of_ble_eq_true rfl, Nat.le_of_ble_eq_true rfl⟩) rfl rfl rfl (Nat.le_of_ble_eq_true rfl) dX9_readsCell_67 ⟨Nat.le_refl _, Nat.le_refl _⟩ ?_
        refine vv_bif_eq C 99 dX9_readsCell_70 (by decide) (fun h_n35 => ?_) (fun h_35 => ?_)
        · refine vv_mem (M2 := M) (ps_n h_n35) ?_
          refine vv_aload_n C 0 dX9_readsCell_99 rfl rfl ?_
          refine vv_bipush (v := 60) C dX9_readsCell_100 (by decide) ?_
          refine vv_bipush (v := 60) C dX9_readsCell_102 (by decide) ?_
          refine vv_callVI C [.int 60, .int 60] (c_X9_passes M V (t := t) (q := q) hT hq (by omega) 60 60 (by decide)) sh_145 rfl (cwV 2 C.1.2.2.2.2 gX9_readsCell_X9_passes rfl rfl rfl (by decide +kernel) ⟨Nat.le_of_ble_eq_true rfl, Nat.le_of_ble_eq_true rfl⟩) rfl rfl rfl (Nat.le_of_ble_eq_true rfl) dX9_readsCell_104 ⟨Nat.le_refl _, Nat.le_refl _⟩ ?_
          refine vv_bif_eq C 118 dX9_readsCell_107 (by decide) (fun h_n60 => ?_) (fun h_60 => ?_)
          · refine vv_mem (M2 := M) (ps_n h_n60) ?_
            refine vv_aload_n C 0 dX9_readsCell_118 rfl rfl ?_
            refine vv_bipush (v := 62) C dX9_readsCell_119 (by decide) ?_
            refine vv_bipush (v := 62) C dX9_readsCell_121 (by decide) ?_
            refine vv_callVI C [.int 62, .int 62] (c_X9_passes M V (t := t) (q := q) hT hq (by omega) 62 62 (by decide)) sh_145 rfl (cwV 2 C.1.2.2.2.2 gX9_readsCell_X9_passes rfl rfl rfl (by decide +kernel) ⟨Nat.le_of_ble_eq_true rfl, Nat.le_of_ble_eq_true rfl⟩) rfl rfl rfl (Nat.le_of_ble_eq_true rfl) dX9_readsCell_123 ⟨Nat.le_refl _, Nat.le_refl _⟩ ?_
            refine vv_bif_eq C 138 dX9_readsCell_126 (by decide) (fun h_n62 => ?_) (fun h_62 => ?_)
            · refine vv_mem (M2 := M) (ps_n h_n62) ?_
              refine vv_aload_n C 0 dX9_readsCell_138 rfl rfl ?_
              refine vv_bipush (v := 119) C dX9_readsCell_139 (by decide) ?_
              refine vv_bipush (v := 122) C dX9_readsCell_141 (by decide) ?_
              refine vv_callVI C [.int 119, .int 122] (c_X9_passes M V (t := t) (q := q) hT hq (by omega) 119 122 (by decide)) sh_145 rfl (cwV 2 C.1.2.2.2.2 gX9_readsCell_X9_passes rfl rfl rfl (by decide +kernel) ⟨Nat.le_of_ble_eq_true rfl, Nat.le_of_ble_eq_true rfl⟩) rfl rfl rfl (Nat.le_of_ble_eq_true rfl) dX9_readsCell_143 ⟨Nat.le_refl _, Nat.le_refl _⟩ ?_
              refine vv_bif_eq C 166 dX9_readsCell_146 (by decide) (fun h_nl => ?_) (fun h_l => ?_)
              · refine vv_mem (M2 := M) (ps_n h_nl) ?_
                refine vv_aload_n C 0 dX9_readsCell_166 rfl rfl ?_
                refine vv_callVIP C [] (c_X9_numbered M V (t := t) (q := q) hT hq (by omega)) sh_145 rfl (cwV 0 C.1.2.2.2.2 gX9_readsCell_X9_numbered rfl rfl rfl (by decide +kernel) ⟨Nat.le_of_ble_eq_true rfl, Nat.le_of_ble_eq_true rfl⟩) rfl rfl rfl (Nat.le_of_ble_eq_true rfl) dX9_readsCell_167 ⟨Nat.le_refl _, Nat.le_refl _⟩ (fun x_15 M_16 h_17 => ?_)
                obtain ⟨rfl, hNB⟩ := h_17
                refine vv_bif_eq C 181 dX9_readsCell_170 (by decide) (fun h_nd9 => ?_) (fun h_d9 => ?_)
                · refine vv_aload_n C 0 dX9_readsCell_181 rfl rfl ?_
                  refine vv_iconst (v := 1) C dX9_readsCell_182 (by decide) ?_
                  refine vv_callVI C [.int 1] (c_X9_fails M_16 1) sh_145 rfl (cwV 1 C.1.2.2.2.2 gX9_readsCell_X9_fails rfl rfl rfl (by decide +kernel) ⟨Nat.le_of_ble_eq_true rfl, Nat.le_of_ble_eq_true rfl⟩) rfl rfl rfl (Nat.le_of_ble_eq_true rfl) dX9_readsCell_183 ⟨Nat.le_refl _, Nat.le_refl _⟩ ?_
                  exact vv_zret0 C hR dX9_readsCell_186 (qIP_of (by rw [cl_no h_nd9 (fun z => h_n33 (in_1.mpr z)) (fun z => h_n35 (in_1.mpr z)) (fun z => h_n42 (in_1.mpr z)) (fun z => h_n60 (in_1.mpr z)) (fun z => h_n62 (in_1.mpr z)) (fun z => h_n95 (in_1.mpr z)) h_nl]; exact ⟨(bI_f (show ¬ (1 : Nat) = 0 by decide)).symm, rc_in hNB.sc (rc_fl (by decide) rfl (fun _ _ => rfl) (hNB.spot0 h_nd9))⟩))
                · refine vv_aload_n C 0 dX9_readsCell_173 rfl rfl ?_
                  refine vv_iload_n C 1 dX9_readsCell_174 rfl rfl ?_
                  refine vv_callVIP C [.int (nI q)] (c_X9_ranges M_16 V (t := t) (q := q) (n := n) (hNB.tx hT) h_d9 (hNB.spot h_d9) hNB.1 (by omega) ((hNB.2.2 _ (by omega) (by omega)).trans hn) hn4 (x := (nI q)) rfl) sh_145 rfl (cwV 1 C.1.2.2.2.2 gX9_readsCell_X9_ranges rfl rfl rfl (by decide +kernel) ⟨Nat.le_of_ble_eq_true rfl, Nat.le_of_ble_eq_true rfl⟩) rfl rfl rfl (Nat.le_of_ble_eq_true rfl) dX9_readsCell_175 ⟨Nat.le_refl _, Nat.le_refl _⟩ (fun x_20 M_21 h_22 => ?_)
                  obtain ⟨rfl, hNS⟩ := h_22
                  refine vv_goto C 186 dX9_readsCell_178 (by decide) ?_
                  exact vv_zret C hR dX9_readsCell_186 (qIP_of (by rw [cl_dg h_d9]; exact ⟨rfl, rc_in hNB.sc hNS⟩))
              · refine vv_mem (M2 := upd M 1103 (nI (q + 1))) (ps_y h_l) ?_
                have hql : q < t := lt_in h_l
                refine vv_aload_n C 0 dX9_readsCell_149 rfl rfl ?_
                refine vv_bipush (v := 8) C dX9_readsCell_150 (by decide) ?_
                refine vv_aload_n C 0 dX9_readsCell_152 rfl rfl ?_
                refine vv_getr C (Cn := RX9) (T := TX9) (N := 13) sh_145 3 rfl rfl (by decide) iX9_readsCell_X9 (List.mem_of_getElem? (i := 3) rfl) rfl dX9_readsCell_153 ?_
                refine vv_iload_n C 1 dX9_readsCell_156 rfl rfl ?_
                refine vv_ald (j := q) (q := 1200 + q) C sh_148 rfl (by omega) (by omega) dX9_readsCell_157 ?_
                refine vv_top (y := chA V t q) (ch_at (hT.u (by omega)) hql) ?_
                refine vv_bipush (v := 119) C dX9_readsCell_158 (by decide) ?_
                refine vv_isub C dX9_readsCell_160 ?_
                refine vv_iconst (v := 0) C dX9_readsCell_161 (by decide) ?_
                refine vv_callVI C [.int 8, .int ((chA V t q) - 119), .int 0] (c_X9_tells (upd M 1103 (nI (q + 1))) (n := n) ((upd_o (by omega)).trans hn) hn4 8 ((chA V t q) - 119) 0) sh_145 rfl (cwV 3 C.1.2.2.2.2 gX9_readsCell_X9_tells rfl rfl rfl (by decide +kernel) ⟨Nat.le_of_ble_eq_true rfl, Nat.le_of_ble_eq_true rfl⟩) rfl rfl rfl (Nat.le_of_ble_eq_true rfl) dX9_readsCell_162 ⟨Nat.le_refl _, Nat.le_refl _⟩ ?_
                exact vv_zret1 C hR dX9_readsCell_165 (qIP_of (by rw [cl_lt h_l]; exact ⟨(bI_t rfl).symm, rc_in u_sc (rc_tl hn4 (fun _ _ => rfl) upd_s)⟩))
            · refine vv_mem (M2 := upd M 1103 (nI (q + 1))) (ps_y h_62) ?_
              refine vv_aload_n C 0 dX9_readsCell_129 rfl rfl ?_
              refine vv_bipush (v := 6) C dX9_readsCell_130 (by decide) ?_
              refine vv_bipush (v := 10) C dX9_readsCell_132 (by decide) ?_
              refine vv_callVIP C [.int 6, .int 10] (c_X9_compares (upd M 1103 (nI (q + 1))) V (t := t) (q := (q + 1)) (n := n) (hT.u (by omega)) upd_s (by omega) ((upd_o (by omega)).trans hn) hn4 6 10) sh_145 rfl (cwV 2 C.1.2.2.2.2 gX9_readsCell_X9_compares rfl rfl rfl (by decide +kernel) ⟨Nat.le_of_ble_eq_true rfl, Nat.le_of_ble_eq_true rfl⟩) rfl rfl rfl (Nat.le_of_ble_eq_true rfl) dX9_readsCell_134 ⟨Nat.le_refl _, Nat.le_refl _⟩ (fun x_23 M_24 h_25 => ?_)
              obtain ⟨rfl, hBD⟩ := h_25
              exact vv_zret C hR dX9_readsCell_137 (qIP_of (by rw [cl_62 (in_1.mp h_62)]; exact ⟨rfl, rc_in u_sc hBD⟩))
          · refine vv_mem (M2 := upd M 1103 (nI (q + 1))) (ps_y h_60) ?_
            refine vv_aload_n C 0 dX9_readsCell_110 rfl rfl ?_
            refine vv_iconst (v := 5) C dX9_readsCell_111 (by decide) ?_
            refine vv_bipush (v := 9) C dX9_readsCell_112 (by decide) ?_
            refine vv_callVIP C [.int 5, .int 9] (c_X9_compares (upd M 1103 (nI (q + 1))) V (t := t) (q := (q + 1)) (n := n) (hT.u (by omega)) upd_s (by omega) ((upd_o (by omega)).trans hn) hn4 5 9) sh_145 rfl (cwV 2 C.1.2.2.2.2 gX9_readsCell_X9_compares rfl rfl rfl (by decide +kernel) ⟨Nat.le_of_ble_eq_true rfl, Nat.le_of_ble_eq_true rfl⟩) rfl rfl rfl (Nat.le_of_ble_eq_true rfl) dX9_readsCell_114 ⟨Nat.le_refl _, Nat.le_refl _⟩ (fun x_26 M_27 h_28 => ?_)
            obtain ⟨rfl, hBD⟩ := h_28
            exact vv_zret C hR dX9_readsCell_117 (qIP_of (by rw [cl_60 (in_1.mp h_60)]; exact ⟨rfl, rc_in u_sc hBD⟩))
        · refine vv_mem (M2 := upd M 1103 (nI (q + 1))) (ps_y h_35) ?_
          refine vv_aload_n C 0 dX9_readsCell_73 rfl rfl ?_
          refine vv_callVIP C [] (c_X9_numbered (upd M 1103 (nI (q + 1))) V (t := t) (q := (q + 1)) (hT.u (by omega)) upd_s (by omega)) sh_145 rfl (cwV 0 C.1.2.2.2.2 gX9_readsCell_X9_numbered rfl rfl rfl (by decide +kernel) ⟨Nat.le_of_ble_eq_true rfl, Nat.le_of_ble_eq_true rfl⟩) rfl rfl rfl (Nat.le_of_ble_eq_true rfl) dX9_readsCell_74 ⟨Nat.le_refl _, Nat.le_refl _⟩ (fun x_29 M_30 h_31 => ?_)
          obtain ⟨rfl, hNB⟩ := h_31
          refine vv_bif_eq C 93 dX9_readsCell_77 (by decide) (fun h_nd => ?_) (fun h_d => ?_)
          · refine vv_aload_n C 0 dX9_readsCell_93 rfl rfl ?_
            refine vv_iconst (v := 1) C dX9_readsCell_94 (by decide) ?_
            refine vv_callVI C [.int 1] (c_X9_fails M_30 1) sh_145 rfl (cwV 1 C.1.2.2.2.2 gX9_readsCell_X9_fails rfl rfl rfl (by decide +kernel) ⟨Nat.le_of_ble_eq_true rfl, Nat.le_of_ble_eq_true rfl⟩) rfl rfl rfl (Nat.le_of_ble_eq_true rfl) dX9_readsCell_95 ⟨Nat.le_refl _, Nat.le_refl _⟩ ?_
            exact vv_zret0 C hR dX9_readsCell_98 (qIP_of (by rw [cl_35 (in_1.mp h_35), if_neg h_nd]; exact ⟨(bI_f (show ¬ (1 : Nat) = 0 by decide)).symm, rc_in u_sc (rc_in hNB.sc (rc_fl (by decide) rfl (fun _ _ => rfl) (hNB.spot0 h_nd)))⟩))
          · refine vv_aload_n C 0 dX9_readsCell_80 rfl rfl ?_
            refine vv_iconst (v := 4) C dX9_readsCell_81 (by decide) ?_
            refine vv_aload_n C 0 dX9_readsCell_82 rfl rfl ?_
            refine vv_geti C (Cn := RX9) (T := TX9) (N := 13) sh_145 10 rfl rfl (by decide) iX9_readsCell_X9 (List.mem_of_getElem? (i := 2) rfl) rfl dX9_readsCell_83 ?_
            refine vv_top (y := nmV (chA V t) (q + 1)) hNB.1 ?_
            refine vv_iconst (v := 0) C dX9_readsCell_86 (by decide) ?_
            refine vv_callVI C [.int 4, .int (nmV (chA V t) (q + 1)), .int 0] (c_X9_tells M_30 (n := n) ((hNB.2.2 _ (by omega) (by omega)).trans ((upd_o (by omega)).trans hn)) hn4 4 (nmV (chA V t) (q + 1)) 0) sh_145 rfl (cwV 3 C.1.2.2.2.2 gX9_readsCell_X9_tells rfl rfl rfl (by decide +kernel) ⟨Nat.le_of_ble_eq_true rfl, Nat.le_of_ble_eq_true rfl⟩) rfl rfl rfl (Nat.le_of_ble_eq_true rfl) dX9_readsCell_87 ⟨Nat.le_refl _, Nat.le_refl _⟩ ?_
            refine vv_goto C 98 dX9_readsCell_90 (by decide) ?_
            exact vv_zret1 C hR dX9_readsCell_98 (qIP_of (by rw [cl_35 (in_1.mp h_35), if_pos h_d]; exact ⟨(bI_t rfl).symm, rc_in u_sc (rc_in hNB.sc (rc_tl hn4 (fun _ _ => rfl) (hNB.spot h_d)))⟩))
      · refine vv_mem (M2 := upd M 1103 (nI (q + 1))) (ps_y h_33) ?_
        refine vv_aload_n C 0 dX9_readsCell_54 rfl rfl ?_
        refine vv_iconst (v := 2) C dX9_readsCell_55 (by decide) ?_
        refine vv_iconst (v := 0) C dX9_readsCell_56 (by decide) ?_
        refine vv_iconst (v := 0) C dX9_readsCell_57 (by decide) ?_
        refine vv_callVI C [.int 2, .int 0, .int 0] (c_X9_tells (upd M 1103 (nI (q + 1))) (n := n) ((upd_o (by omega)).trans hn) hn4 2 0 0) sh_145 rfl (cwV 3 C.1.2.2.2.2 gX9_readsCell_X9_tells rfl rfl rfl (by decide +kernel) ⟨Nat.le_of_ble_eq_true rfl, Nat.le_of_ble_eq_true rfl⟩) rfl rfl rfl (Nat.le_of_ble_eq_true rfl) dX9_readsCell_58 ⟨Nat.le_refl _, Nat.le_refl _⟩ ?_
        exact vv_zret1 C hR dX9_readsCell_61 (qIP_of (by rw [cl_33 (in_1.mp h_33)]; exact ⟨(bI_t rfl).symm, rc_in u_sc (rc_tl hn4 (fun _ _ => rfl) upd_s)⟩))
    · refine vv_mem (M2 := upd M 1103 (nI (q + 1))) (ps_y h_95) ?_
      refine vv_aload_n C 0 dX9_readsCell_35 rfl rfl ?_
      refine vv_iconst (v := 1) C dX9_readsCell_36 (by decide) ?_
      refine vv_iconst (v := 0) C dX9_readsCell_37 (by decide) ?_
      refine vv_iconst (v := 0) C dX9_readsCell_38 (by decide) ?_
      refine vv_callVI C [.int 1, .int 0, .int 0] (c_X9_tells (upd M 1103 (nI (q + 1))) (n := n) ((upd_o (by omega)).trans hn) hn4 1 0 0) sh_145 rfl (cwV 3 C.1.2.2.2.2 gX9_readsCell_X9_tells rfl rfl rfl (by decide +kernel) ⟨Nat.le_of_ble_eq_true rfl, Nat.le_of_ble_eq_true rfl⟩) rfl rfl rfl (Nat.le_of_ble_eq_true rfl) dX9_readsCell_39 ⟨Nat.le_refl _, Nat.le_refl _⟩ ?_
      exact vv_zret1 C hR dX9_readsCell_42 (qIP_of (by rw [cl_95 (in_1.mp h_95)]; exact ⟨(bI_t rfl).symm, rc_in u_sc (rc_tl hn4 (fun _ _ => rfl) upd_s)⟩))
  · refine vv_mem (M2 := upd M 1103 (nI (q + 1))) (ps_y h_42) ?_
    refine vv_aload_n C 0 dX9_readsCell_16 rfl rfl ?_
    refine vv_iconst (v := 0) C dX9_readsCell_17 (by decide) ?_
    refine vv_iconst (v := 0) C dX9_readsCell_18 (by decide) ?_
    refine vv_iconst (v := 0) C dX9_readsCell_19 (by decide) ?_
    refine vv_callVI C [.int 0, .int 0, .int 0] (c_X9_tells (upd M 1103 (nI (q + 1))) (n := n) ((upd_o (by omega)).trans hn) hn4 0 0 0) sh_145 rfl (cwV 3 C.1.2.2.2.2 gX9_readsCell_X9_tells rfl rfl rfl (by decide +kernel) ⟨Nat.le_of_ble_eq_true rfl, Nat.le_of_ble_eq_true rfl⟩) rfl rfl rfl (Nat.le_of_ble_eq_true rfl) dX9_readsCell_20 ⟨Nat.le_refl _, Nat.le_refl _⟩ ?_
    exact vv_zret1 C hR dX9_readsCell_23 (qIP_of (by rw [cl_42 (in_1.mp h_42)]; exact ⟨(bI_t rfl).symm, rc_in u_sc (rc_tl hn4 (fun _ _ => rfl) upd_s)⟩))
theorem iX9_isRight_X9 : ∀ w ∈ u_ws RX9 TX9 13, w ∈ wsX9_isRight := fun w hw => (List.mem_cons_of_mem _ (List.mem_append_right _ hw))
set_option maxRecDepth 100000 in
set_option maxHeartbeats 4000000 in
theorem lp_X9_isRight {p : Program} {l : Launch} {e : Env} {s : State} {m : MethodId} {args : Array Value} {below : List Frame} {meth : Method} {c : Code} {G : mw_GG} {hR : vv_R meth (some .boolean)} (C : vv_C p s m args c G cX9_isRight 2 wsX9_isRight RX9) (M V : mw_M) {t : Nat} (hT : txI M V t) : ∀ (k : Nat) (acc : List (Int32 × Int32 × Int32)) (q : Nat) (M1 M2 : mw_M), riI M M1 V t acc q (k + 1) → rcO M1 M2 acc.length (clR (chA V t) q) → vv p l e ({ frames := 5, cells := 0, slots := 0, locals := 110 } : Room) s m args below meth c G 0 0 (mw_E below args s G (qIP (fun r M2 => r = bI ((psR (chA V t) t 4 0).1 = 0) ∧ rrO M M2 (psR (chA V t) t 4 0)))) M2 15 [some (.ref (G.1 145)), some (.int (bI ((clR (chA V t) q).1 = 0)))] [] := by
  intro k
  induction k with
  | zero =>
    intro acc q M1 M2 hI hc
    have hT2 := (hT.fr hI.1).fr hc.1
    have ht60 := hT.2.1
    have hln := hI.2.2.2.2.1
    have hqt := hI.2.2.2.2.2
    refine vv_iload_n C 1 dX9_isRight_15 rfl rfl ?_
    refine vv_bif_eq C 79 dX9_isRight_16 (by decide) (fun h_bad => ?_) (fun h_ok => ?_)
    · refine vv_iload_n C 1 dX9_isRight_79 rfl rfl ?_
      exact vv_zret C hR dX9_isRight_80 (qIP_of (by have z := rr_bad hI hc h_bad; rw [bI_f h_bad]; exact z))
    · refine vv_aload_n C 0 dX9_isRight_19 rfl rfl ?_
      have hpt : (clR (chA V t) q).2.1 ≤ t := psR_ok hqt h_ok
      obtain ⟨a1, a2, -⟩ := hc.2.2 h_ok
      refine vv_geti C (Cn := RX9) (T := TX9) (N := 13) sh_145 8 rfl rfl (by decide) iX9_isRight_X9 (List.mem_of_getElem? (i := 1) rfl) rfl dX9_isRight_20 ?_
      refine vv_top (y := nI (clR (chA V t) q).2.1) a1 ?_
      refine vv_aload_n C 0 dX9_isRight_23 rfl rfl ?_
      refine vv_geti C (Cn := RX9) (T := TX9) (N := 13) sh_145 4 rfl rfl (by decide) iX9_isRight_X9 (List.mem_of_getElem? (i := 3) rfl) rfl dX9_isRight_24 ?_
      refine vv_top (y := nI t) hT2.1 ?_
      refine vv_icmp_ge C 79 dX9_isRight_27 (by decide) (fun hge => ?_) (fun hlt => ?_)
      · refine vv_iload_n C 1 dX9_isRight_79 rfl rfl ?_
        exact vv_zret C hR dX9_isRight_80 (qIP_of (by have z := rr_end hI hc h_ok (fun z => absurd hge (nI_ge z (by omega))); rw [bI_t h_ok]; exact z))
      · have hlt2 : (clR (chA V t) q).2.1 < t := by
          rcases Nat.lt_or_ge (clR (chA V t) q).2.1 t with z | z
          · exact z
          · exact absurd (nI_le (a := t) z (by omega)) hlt
        refine vv_aload_n C 0 dX9_isRight_30 rfl rfl ?_
        refine vv_bipush (v := 44) C dX9_isRight_31 (by decide) ?_
        refine vv_bipush (v := 44) C dX9_isRight_33 (by decide) ?_
        refine vv_callVI C [.int 44, .int 44] (c_X9_isAt M2 V (t := t) (q := (clR (chA V t) q).2.1) hT2 a1 (by omega) 44 44 (by decide)) sh_145 rfl (cwV 2 C.1.2.2.2.2 gX9_isRight_X9_isAt rfl rfl rfl (by decide +kernel) ⟨Nat.le_of_ble_eq_true rfl, Nat.le_of_ble_eq_true rfl⟩) rfl rfl rfl (Nat.le_of_ble_eq_true rfl) dX9_isRight_35 ⟨Nat.le_refl _, Nat.le_refl _⟩ ?_
        refine vv_bif_ne C 47 dX9_isRight_38 (by decide) (fun h_c => ?_) (fun h_nc => ?_)
        · refine vv_aload_n C 0 dX9_isRight_47 rfl rfl ?_
          refine vv_geti C (Cn := RX9) (T := TX9) (N := 13) sh_145 11 rfl rfl (by decide) iX9_isRight_X9 (List.mem_of_getElem? (i := 2) rfl) rfl dX9_isRight_48 ?_
          refine vv_top (y := nI (acc.length + 1)) a2 ?_
          refine vv_iconst (v := 4) C dX9_isRight_51 (by decide) ?_
          refine vv_icmp_ne C 61 dX9_isRight_52 (by decide) (fun h_7 => absurd (congrArg nI (show acc.length + 1 = 4 by omega)) h_7) (fun h_8 => ?_)
          refine vv_aload_n C 0 dX9_isRight_55 rfl rfl ?_
          refine vv_iconst (v := 3) C dX9_isRight_56 (by decide) ?_
          refine vv_callVI C [.int 3] (c_X9_fails M2 3) sh_145 rfl (cwV 1 C.1.2.2.2.2 gX9_isRight_X9_fails rfl rfl rfl (by decide +kernel) ⟨Nat.le_of_ble_eq_true rfl, Nat.le_of_ble_eq_true rfl⟩) rfl rfl rfl (Nat.le_of_ble_eq_true rfl) dX9_isRight_57 ⟨Nat.le_refl _, Nat.le_refl _⟩ ?_
          exact vv_zret0 C hR dX9_isRight_60 (qIP_of (rr_fif hI hc h_ok hlt2 (in_1.mp h_c)))
        · refine vv_aload_n C 0 dX9_isRight_41 rfl rfl ?_
          refine vv_iconst (v := 1) C dX9_isRight_42 (by decide) ?_
          refine vv_callVI C [.int 1] (c_X9_fails M2 1) sh_145 rfl (cwV 1 C.1.2.2.2.2 gX9_isRight_X9_fails rfl rfl rfl (by decide +kernel) ⟨Nat.le_of_ble_eq_true rfl, Nat.le_of_ble_eq_true rfl⟩) rfl rfl rfl (Nat.le_of_ble_eq_true rfl) dX9_isRight_43 ⟨Nat.le_refl _, Nat.le_refl _⟩ ?_
          exact vv_zret0 C hR dX9_isRight_46 (qIP_of (rr_com hI hc h_ok hlt2 (fun z => h_nc (in_1.mpr z))))
  | succ k ih =>
    intro acc q M1 M2 hI hc
    have hT2 := (hT.fr hI.1).fr hc.1
    have ht60 := hT.2.1
    have hln := hI.2.2.2.2.1
    have hqt := hI.2.2.2.2.2
    refine vv_iload_n C 1 dX9_isRight_15 rfl rfl ?_
    refine vv_bif_eq C 79 dX9_isRight_16 (by decide) (fun h_bad => ?_) (fun h_ok => ?_)
    · refine vv_iload_n C 1 dX9_isRight_79 rfl rfl ?_
      exact vv_zret C hR dX9_isRight_80 (qIP_of (by have z := rr_bad hI hc h_bad; rw [bI_f h_bad]; exact z))
    · refine vv_aload_n C 0 dX9_isRight_19 rfl rfl ?_
      have hpt : (clR (chA V t) q).2.1 ≤ t := psR_ok hqt h_ok
      obtain ⟨a1, a2, -⟩ := hc.2.2 h_ok
      refine vv_geti C (Cn := RX9) (T := TX9) (N := 13) sh_145 8 rfl rfl (by decide) iX9_isRight_X9 (List.mem_of_getElem? (i := 1) rfl) rfl dX9_isRight_20 ?_
      refine vv_top (y := nI (clR (chA V t) q).2.1) a1 ?_
      refine vv_aload_n C 0 dX9_isRight_23 rfl rfl ?_
      refine vv_geti C (Cn := RX9) (T := TX9) (N := 13) sh_145 4 rfl rfl (by decide) iX9_isRight_X9 (List.mem_of_getElem? (i := 3) rfl) rfl dX9_isRight_24 ?_
      refine vv_top (y := nI t) hT2.1 ?_
      refine vv_icmp_ge C 79 dX9_isRight_27 (by decide) (fun hge => ?_) (fun hlt => ?_)
      · refine vv_iload_n C 1 dX9_isRight_79 rfl rfl ?_
        exact vv_zret C hR dX9_isRight_80 (qIP_of (by have z := rr_end hI hc h_ok (fun z => absurd hge (nI_ge z (by omega))); rw [bI_t h_ok]; exact z))
      · have hlt2 : (clR (chA V t) q).2.1 < t := by
          rcases Nat.lt_or_ge (clR (chA V t) q).2.1 t with z | z
          · exact z
          · exact absurd (nI_le (a := t) z (by omega)) hlt
        refine vv_aload_n C 0 dX9_isRight_30 rfl rfl ?_
        refine vv_bipush (v := 44) C dX9_isRight_31 (by decide) ?_
        refine vv_bipush (v := 44) C dX9_isRight_33 (by decide) ?_
        refine vv_callVI C [.int 44, .int 44] (c_X9_isAt M2 V (t := t) (q := (clR (chA V t) q).2.1) hT2 a1 (by omega) 44 44 (by decide)) sh_145 rfl (cwV 2 C.1.2.2.2.2 gX9_isRight_X9_isAt rfl rfl rfl (by decide +kernel) ⟨Nat.le_of_ble_eq_true rfl, Nat.le_of_ble_eq_true rfl⟩) rfl rfl rfl (Nat.le_of_ble_eq_true rfl) dX9_isRight_35 ⟨Nat.le_refl _, Nat.le_refl _⟩ ?_
        refine vv_bif_ne C 47 dX9_isRight_38 (by decide) (fun h_c => ?_) (fun h_nc => ?_)
        · refine vv_aload_n C 0 dX9_isRight_47 rfl rfl ?_
          refine vv_geti C (Cn := RX9) (T := TX9) (N := 13) sh_145 11 rfl rfl (by decide) iX9_isRight_X9 (List.mem_of_getElem? (i := 2) rfl) rfl dX9_isRight_48 ?_
          refine vv_top (y := nI (acc.length + 1)) a2 ?_
          refine vv_iconst (v := 4) C dX9_isRight_51 (by decide) ?_
          refine vv_icmp_ne C 61 dX9_isRight_52 (by decide) (fun h_8 => ?_) (fun h_7 => absurd ((nI_eq (b := 4) (by omega) (by omega)).mp h_7) (by omega))
          refine vv_aload_n C 0 dX9_isRight_61 rfl rfl ?_
          refine vv_dup C dX9_isRight_62 rfl ?_
          refine vv_geti C (Cn := RX9) (T := TX9) (N := 13) sh_145 8 rfl rfl (by decide) iX9_isRight_X9 (List.mem_of_getElem? (i := 1) rfl) rfl dX9_isRight_63 ?_
          refine vv_top (y := nI (clR (chA V t) q).2.1) a1 ?_
          refine vv_iconst (v := 1) C dX9_isRight_66 (by decide) ?_
          refine vv_iadd C dX9_isRight_67 ?_
          refine vv_top (y := nI ((clR (chA V t) q).2.1 + 1)) (nI_1 _) ?_
          refine vv_putf C (Cn := RX9) (T := TX9) (N := 13) sh_145 8 rfl rfl (by decide) iX9_isRight_X9 (List.mem_of_getElem? (i := 1) rfl) rfl tyX9_ok nmX9 rfl rfl dX9_isRight_68 ?_
          refine vv_aload_n C 0 dX9_isRight_71 rfl rfl ?_
          refine vv_callVIP C [] (c_X9_readsCell (upd M2 1103 (nI ((clR (chA V t) q).2.1 + 1))) V (t := t) (q := ((clR (chA V t) q).2.1 + 1)) (n := (acc.length + 1)) (hT2.u (by omega)) upd_s (by omega) ((upd_o (by omega)).trans a2) (by omega)) sh_145 rfl (cwV 0 C.1.2.2.2.2 gX9_isRight_X9_readsCell rfl rfl rfl (by decide +kernel) ⟨Nat.le_of_ble_eq_true rfl, Nat.le_of_ble_eq_true rfl⟩) rfl rfl rfl (Nat.le_of_ble_eq_true rfl) dX9_isRight_72 ⟨Nat.le_refl _, Nat.le_refl _⟩ (fun x_9 M_10 h_11 => ?_)
          obtain ⟨rfl, hc2⟩ := h_11
          refine vv_istore_n (ls2 := [some (.ref (G.1 145)), some (.int (bI ((clR (chA V t) ((clR (chA V t) q).2.1 + 1)).1 = 0)))]) C 1 dX9_isRight_75 rfl (Nat.le_of_ble_eq_true rfl) rfl ?_
          refine vv_goto C 15 dX9_isRight_76 (by decide) ?_
          refine ih (acc ++ [(clR (chA V t) q).2.2]) ((clR (chA V t) q).2.1 + 1) _ _ (ri_more hI hc h_ok hlt2 (in_1.mp h_c)) ?_
          rw [List.length_append]
          exact hc2
        · refine vv_aload_n C 0 dX9_isRight_41 rfl rfl ?_
          refine vv_iconst (v := 1) C dX9_isRight_42 (by decide) ?_
          refine vv_callVI C [.int 1] (c_X9_fails M2 1) sh_145 rfl (cwV 1 C.1.2.2.2.2 gX9_isRight_X9_fails rfl rfl rfl (by decide +kernel) ⟨Nat.le_of_ble_eq_true rfl, Nat.le_of_ble_eq_true rfl⟩) rfl rfl rfl (Nat.le_of_ble_eq_true rfl) dX9_isRight_43 ⟨Nat.le_refl _, Nat.le_refl _⟩ ?_
          exact vv_zret0 C hR dX9_isRight_46 (qIP_of (rr_com hI hc h_ok hlt2 (fun z => h_nc (in_1.mpr z))))
set_option maxRecDepth 100000 in
set_option maxHeartbeats 4000000 in
theorem c_X9_isRight {l : Launch} {G : mw_GG} (M V : mw_M) {t : Nat} (hT : txI M V t) : mw_Met l yX9_isRight wsX9_isRight ({ frames := 5, cells := 0, slots := 0, locals := 110 } : Room) G [.ref (G.1 145)] M (qIP (fun r M2 => r = bI ((psR (chA V t) t 4 0).1 = 0) ∧ rrO M M2 (psR (chA V t) t 4 0))) := by
  refine mw_ofV (cc := cX9_isRight) 2 (by decide) rfl rfl (Nat.le_of_ble_eq_true rfl) ?_
  intro p e s m args below meth c C hR hN0
  refine vv_loc (ls2 := [some (.ref (G.1 145)), none]) rfl ?_
  refine vv_aload_n C 0 dX9_isRight_0 rfl rfl ?_
  refine vv_iconst (v := 0) C dX9_isRight_1 (by decide) ?_
  refine vv_putf C (Cn := RX9) (T := TX9) (N := 13) sh_145 8 rfl rfl (by decide) iX9_isRight_X9 (List.mem_of_getElem? (i := 1) rfl) rfl tyX9_ok nmX9 rfl rfl dX9_isRight_2 ?_
  refine vv_aload_n C 0 dX9_isRight_5 rfl rfl ?_
  refine vv_iconst (v := 0) C dX9_isRight_6 (by decide) ?_
  refine vv_putf C (Cn := RX9) (T := TX9) (N := 13) sh_145 11 rfl rfl (by decide) iX9_isRight_X9 (List.mem_of_getElem? (i := 2) rfl) rfl tyX9_ok nmX9 rfl rfl dX9_isRight_7 ?_
  refine vv_aload_n C 0 dX9_isRight_10 rfl rfl ?_
  refine vv_callVIP C [] (c_X9_readsCell (upd (upd M 1103 0) 1106 0) V (t := t) (q := 0) (n := 0) ((hT.u (by omega)).u (by omega)) ((upd_o (by omega)).trans upd_s) (by omega) upd_s (by omega)) sh_145 rfl (cwV 0 C.1.2.2.2.2 gX9_isRight_X9_readsCell rfl rfl rfl (by decide +kernel) ⟨Nat.le_of_ble_eq_true rfl, Nat.le_of_ble_eq_true rfl⟩) rfl rfl rfl (Nat.le_of_ble_eq_true rfl) dX9_isRight_11 ⟨Nat.le_refl _, Nat.le_refl _⟩ (fun x_1 M_2 h_3 => ?_)
  obtain ⟨rfl, hc⟩ := h_3
  refine vv_istore_n (ls2 := [some (.ref (G.1 145)), some (.int (bI ((clR (chA V t) 0).1 = 0)))]) C 1 dX9_isRight_14 rfl (Nat.le_of_ble_eq_true rfl) rfl ?_
  refine lp_X9_isRight (hR := hR) C M V hT 3 [] 0 _ _ ?_ hc
  refine ⟨fun p hp => ?_, ⟨upd_s, fun i hi => absurd hi (Nat.not_lt_zero i)⟩, (upd_o (by omega)).trans upd_s, rfl, rfl, by omega⟩
  unfold scT at hp
  rw [upd_o (by omega), upd_o (by omega)]
theorem iX9_fault_X9 : ∀ w ∈ u_ws RX9 TX9 13, w ∈ wsX9_fault := fun w hw => (List.mem_cons_of_mem _ (List.mem_append_right _ hw))
set_option maxRecDepth 100000 in
set_option maxHeartbeats 4000000 in
theorem c_X9_fault {l : Launch} {G : mw_GG} (M V : mw_M) (hV : relO M V) (hw : wfV V) (hh : hiV V) (ht : txV V) (x : Int32) : mw_Met l yX9_fault wsX9_fault ({ frames := 6, cells := 0, slots := 0, locals := 131 } : Room) G [.ref (G.1 145), .int x] M (qIP (fun r M2 => r = (op_fault V x).1 ∧ relO M2 (op_fault V x).2 ∧ rfO M M2)) := by
  refine mw_ofV (cc := cX9_fault) 2 (by decide) rfl rfl (Nat.le_of_ble_eq_true rfl) ?_
  intro p e s m args below meth c C hR hN0
  refine vv_loc (ls2 := [some (.ref (G.1 145)), some (.int x)]) rfl ?_
  have hR0 := hw.wfR
  refine vv_iload_n C 1 dX9_fault_0 rfl rfl ?_
  refine vv_iconst (v := 0) C dX9_fault_1 (by decide) ?_
  refine vv_iconst (v := 1) C dX9_fault_2 (by decide) ?_
  refine vv_callSI C [.int x, .int 0, .int 1] (c_X9_in M x 0 1) (cwS 3 C.1.2.2.2.2 gX9_fault_X9_in rfl rfl rfl (by decide +kernel) ⟨Nat.le_of_ble_eq_true rfl, Nat.le_of_ble_eq_true rfl⟩) rfl rfl rfl (Nat.le_of_ble_eq_true rfl) dX9_fault_3 ⟨Nat.le_refl _, Nat.le_refl _⟩ ?_
  refine vv_bif_ne C 12 dX9_fault_6 (by decide) (fun h_in => ?_) (fun h_nin => ?_)
  · refine vv_aload_n C 0 dX9_fault_12 rfl rfl ?_
    refine vv_callVIP C [] (c_X9_isRight M V (t := tN V) (tx_of hV ht)) sh_145 rfl (cwV 0 C.1.2.2.2.2 gX9_fault_X9_isRight rfl rfl rfl (by decide +kernel) ⟨Nat.le_of_ble_eq_true rfl, Nat.le_of_ble_eq_true rfl⟩) rfl rfl rfl (Nat.le_of_ble_eq_true rfl) dX9_fault_13 ⟨Nat.le_refl _, Nat.le_refl _⟩ (fun x_3 M_4 h_5 => ?_)
    obtain ⟨rfl, hRR⟩ := h_5
    have hRR : rrO M M_4 (prsV V) := hRR
    refine vv_bif_eq C 24 dX9_fault_16 (by decide) (fun h_bad => ?_) (fun h_ok => ?_)
    · refine vv_iload_n C 1 dX9_fault_24 rfl rfl ?_
      refine vv_if_ne C 35 dX9_fault_25 (by decide) (fun h_n0 => ?_) (fun h_0 => ?_)
      · refine vv_aload_n C 0 dX9_fault_35 rfl rfl ?_
        refine vv_geti C (Cn := RX9) (T := TX9) (N := 13) sh_145 9 rfl rfl (by decide) iX9_fault_X9 (List.mem_of_getElem? (i := 2) rfl) rfl dX9_fault_36 ?_
        refine vv_top (y := nI (prsV V).1) (hRR.2.1 h_bad).1 ?_
        exact vv_iret C hR dX9_fault_39 (qIP_of (by rw [show op_fault V x = _ from if_pos (in_bit.mp h_in)]; exact ⟨((if_neg h_bad).trans (if_neg h_n0)).symm, hRR.rel hV hh, hRR.rf⟩))
      · refine vv_aload_n C 0 dX9_fault_28 rfl rfl ?_
        refine vv_geti C (Cn := RX9) (T := TX9) (N := 13) sh_145 8 rfl rfl (by decide) iX9_fault_X9 (List.mem_of_getElem? (i := 1) rfl) rfl dX9_fault_29 ?_
        refine vv_top (y := nI (prsV V).2.1) (hRR.2.1 h_bad).2 ?_
        refine vv_goto C 39 dX9_fault_32 (by decide) ?_
        exact vv_iret C hR dX9_fault_39 (qIP_of (by rw [show op_fault V x = _ from if_pos (in_bit.mp h_in)]; exact ⟨((if_neg h_bad).trans (if_pos h_0)).symm, hRR.rel hV hh, hRR.rf⟩))
    · refine vv_bipush (v := (-14)) C dX9_fault_19 (by decide) ?_
      refine vv_goto C 39 dX9_fault_21 (by decide) ?_
      exact vv_iret C hR dX9_fault_39 (qIP_of (by rw [show op_fault V x = _ from if_pos (in_bit.mp h_in)]; exact ⟨(if_pos h_ok).symm, hRR.rel hV hh, hRR.rf⟩))
  · refine vv_bipush (v := (-11)) C dX9_fault_9 (by decide) ?_
    exact vv_iret C hR dX9_fault_11 (qIP_of (by rw [show op_fault V x = (-11, V) from if_neg (fun z => h_nin (in_bit.mpr z))]; exact ⟨rfl, hV, rfO.rf⟩))
set_option maxRecDepth 100000 in
set_option maxHeartbeats 4000000 in
theorem c_X9_changes2 {l : Launch} {G : mw_GG} (M V : mw_M) (hV : relO M V) (hh : hiV V) : mw_Met l yX9_changes wsX9_changes ({ frames := 0, cells := 0, slots := 0, locals := 0 } : Room) G [.ref (G.1 145)] M (qVP (fun M2 => relO M2 (kpS V) ∧ rfO M M2 ∧ ∀ q, 1101 ≤ q → q < 2130 → M2 q = M q)) := by
  refine mw_ofV (cc := cX9_changes) 2 (by decide) rfl rfl (Nat.le_of_ble_eq_true rfl) ?_
  intro p e s m args below meth c C hR hN0
  refine vv_loc (ls2 := [some (.ref (G.1 145)), none]) rfl ?_
  refine vv_aload_n C 0 dX9_changes_0 rfl rfl ?_
  refine vv_geti C (Cn := RX9) (T := TX9) (N := 13) sh_145 2 rfl rfl (by decide) iX9_changes_X9 (List.mem_of_getElem? (i := 1) rfl) rfl dX9_changes_1 ?_
  refine vv_iconst (v := 4) C dX9_changes_4 (by decide) ?_
  refine vv_icmp_ne C 49 dX9_changes_5 (by decide) (fun h_n4 => ?_) (fun h_4 => ?_)
  · have h44 : hN V < 4 := by
      rcases Nat.lt_or_ge (hN V) 4 with z | z
      · exact z
      · exact absurd (by rw [hV.2.1.1, hh.1, show hN V = 4 by have := hh.2; omega]; rfl) h_n4
    have hp0 : M 1100 = nI (hN V) := by rw [hV.2.1.1]; exact hh.1
    have hMa : ∀ q, q < 3000 → ¬ q = 1100 → M q = M q := fun q _ _ => rfl
    have hb : ∀ i, i < hN V → ∀ k, k < 130 → M (3000 + (130 * (hN V - 1 - i) + k)) = V (130 * (i + 1) + k) := hV.2.1.2
    refine vv_iconst (v := 0) C dX9_changes_49 (by decide) ?_
    refine vv_istore_n (ls2 := [some (.ref (G.1 145)), some (.int (nI 0))]) C 1 dX9_changes_50 rfl (Nat.le_of_ble_eq_true rfl) rfl ?_
    refine vv_mem (M2 := s_cp M (hN V) 0) cp_0'.symm ?_
    refine lp_X9_changes_2 C M (pp := (hN V)) hp0 (by omega) ?_ 131 0 (by omega) (by omega)
    refine vv_aload_n C 0 dX9_changes_85 rfl rfl ?_
    refine vv_dup C dX9_changes_86 rfl ?_
    refine vv_geti C (Cn := RX9) (T := TX9) (N := 13) sh_145 2 rfl rfl (by decide) iX9_changes_X9 (List.mem_of_getElem? (i := 1) rfl) rfl dX9_changes_87 ?_
    refine vv_iconst (v := 1) C dX9_changes_90 (by decide) ?_
    refine vv_iadd C dX9_changes_91 ?_
    refine vv_putf C (Cn := RX9) (T := TX9) (N := 13) sh_145 2 rfl rfl (by decide) iX9_changes_X9 (List.mem_of_getElem? (i := 1) rfl) rfl tyX9_ok nmX9 rfl rfl dX9_changes_92 ?_
    exact vv_vret C hR dX9_changes_95 (qVP_of (by rw [show s_cp M (hN V) 130 1100 + 1 = nI ((hN V) + 1) by rw [cp_lo (by omega), hp0, nI_1]]; have z := chg_end hV hh (by omega) hMa hb; exact ⟨z.1, z.2, fun q h1 h2 => chg_lo hMa (by omega) (by omega)⟩))
  · refine vv_iconst (v := 0) C dX9_changes_8 (by decide) ?_
    refine vv_istore_n (ls2 := [some (.ref (G.1 145)), some (.int 0)]) C 1 dX9_changes_9 rfl (Nat.le_of_ble_eq_true rfl) rfl ?_
    refine vv_mem (M2 := s_sh M 0) sh_0'.symm ?_
    refine vv_loc (ls2 := [some (.ref (G.1 145)), some (.int (nI 0))]) rfl ?_
    refine lp_X9_changes_1 C M ?_ 391 0 (by omega) (by omega)
    refine vv_aload_n C 0 dX9_changes_39 rfl rfl ?_
    refine vv_dup C dX9_changes_40 rfl ?_
    refine vv_geti C (Cn := RX9) (T := TX9) (N := 13) sh_145 2 rfl rfl (by decide) iX9_changes_X9 (List.mem_of_getElem? (i := 1) rfl) rfl dX9_changes_41 ?_
    refine vv_iconst (v := 1) C dX9_changes_44 (by decide) ?_
    refine vv_isub C dX9_changes_45 ?_
    refine vv_putf C (Cn := RX9) (T := TX9) (N := 13) sh_145 2 rfl rfl (by decide) iX9_changes_X9 (List.mem_of_getElem? (i := 1) rfl) rfl tyX9_ok nmX9 rfl rfl dX9_changes_46 ?_
    have hp0 : (upd (s_sh M 390) 1100 (((s_sh M 390) 1100) - 1)) 1100 = nI 3 := by rw [upd_s, sh_lo (by omega), h_4]; decide
    have h44 : hN V = 4 := by rw [hV.2.1.1, hh.1] at h_4; exact (nI_eq (by have := hh.2; omega) (by omega)).mp h_4
    have hMa : ∀ q, q < 3000 → ¬ q = 1100 → (upd (s_sh M 390) 1100 (((s_sh M 390) 1100) - 1)) q = M q := fun q h1 h2 => by rw [upd_o h2, sh_lo h1]
    have hb : ∀ i, i < 3 → ∀ k, k < 130 → (upd (s_sh M 390) 1100 (((s_sh M 390) 1100) - 1)) (3000 + (130 * (3 - 1 - i) + k)) = V (130 * (i + 1) + k) := fun i hi k hk => by
      rw [upd_o (by omega)]
      unfold s_sh
      rw [if_pos (by omega), ← hV.2.1.2 i (by omega) k hk, h44]
      exact congrArg M (by omega)
    refine vv_iconst (v := 0) C dX9_changes_49 (by decide) ?_
    refine vv_istore_n (ls2 := [some (.ref (G.1 145)), some (.int (nI 0))]) C 1 dX9_changes_50 rfl (Nat.le_of_ble_eq_true rfl) rfl ?_
    refine vv_mem (M2 := s_cp (upd (s_sh M 390) 1100 (((s_sh M 390) 1100) - 1)) 3 0) cp_0'.symm ?_
    refine lp_X9_changes_2 C (upd (s_sh M 390) 1100 (((s_sh M 390) 1100) - 1)) (pp := 3) hp0 (by omega) ?_ 131 0 (by omega) (by omega)
    refine vv_aload_n C 0 dX9_changes_85 rfl rfl ?_
    refine vv_dup C dX9_changes_86 rfl ?_
    refine vv_geti C (Cn := RX9) (T := TX9) (N := 13) sh_145 2 rfl rfl (by decide) iX9_changes_X9 (List.mem_of_getElem? (i := 1) rfl) rfl dX9_changes_87 ?_
    refine vv_iconst (v := 1) C dX9_changes_90 (by decide) ?_
    refine vv_iadd C dX9_changes_91 ?_
    refine vv_putf C (Cn := RX9) (T := TX9) (N := 13) sh_145 2 rfl rfl (by decide) iX9_changes_X9 (List.mem_of_getElem? (i := 1) rfl) rfl tyX9_ok nmX9 rfl rfl dX9_changes_92 ?_
    exact vv_vret C hR dX9_changes_95 (qVP_of (by rw [show s_cp (upd (s_sh M 390) 1100 (((s_sh M 390) 1100) - 1)) 3 130 1100 + 1 = nI (3 + 1) by rw [cp_lo (by omega), hp0, nI_1]]; have z := chg_end hV hh (by omega) hMa hb; exact ⟨z.1, z.2, fun q h1 h2 => chg_lo hMa (by omega) (by omega)⟩))
theorem iX9_read_X9 : ∀ w ∈ u_ws RX9 TX9 13, w ∈ wsX9_read := fun w hw => (List.mem_cons_of_mem _ (List.mem_append_right _ hw))
set_option maxRecDepth 100000 in
set_option maxHeartbeats 4000000 in
theorem lp_X9_read {p : Program} {l : Launch} {e : Env} {s : State} {m : MethodId} {args : Array Value} {below : List Frame} {meth : Method} {c : Code} {G : mw_GG} {Q : State → Prop} (C : vv_C p s m args c G cX9_read 4 wsX9_read RX9) (M W : mw_M) {d : Nat} (hd : d < 2) {L : List (Int32 × Int32 × Int32)} (hl : L.length ≤ 4) {x : Int32} (hx : x = nI d) (hk : ∀ M1, relO M1 (exP W d L 4) → rfO M M1 → vv p l e ({ frames := 6, cells := 0, slots := 0, locals := 140 } : Room) s m args below meth c G 0 0 Q M1 124 [some (.ref (G.1 145)), some (.int x), some (.int (nI 4)), none] []) : ∀ (k i : Nat) (M1 : mw_M), 5 ≤ i + k → i ≤ 4 → relO M1 (exP W d L i) → tdI M1 L → rfO M M1 → vv p l e ({ frames := 6, cells := 0, slots := 0, locals := 140 } : Room) s m args below meth c G 0 0 Q M1 41 [some (.ref (G.1 145)), some (.int x), some (.int (nI i)), none] [] := by
  intro k
  induction k with
  | zero => intro i M1 h1 h2 _ _ _; omega
  | succ k ih =>
    intro i M1 h1 h2 hI hL hR1
    refine vv_iload_n C 2 dX9_read_41 rfl rfl ?_
    refine vv_iconst (v := 4) C dX9_read_42 (by decide) ?_
    refine vv_icmp_ge C 124 dX9_read_43 (by decide) (fun hge => ?_) (fun hlt => ?_)
    · have hin : i = 4 := by
        rcases Nat.lt_or_ge i (4) with z | z
        · exact absurd hge (nI_ge (b := 4) (by omega) (by omega))
        · omega
      subst hin
      refine vv_keep (ls2 := [some (.ref (G.1 145)), some (.int x), some (.int (nI 4)), none]) ⟨rfl, rfl, rfl, trivial⟩ ?_
      exact hk M1 hI hR1
    · have hi4 : i < 4 := by
        rcases Nat.lt_or_ge i 4 with z | z
        · exact z
        · exact absurd (nI_le (a := 4) z (by omega)) hlt
      refine vv_iload_n C 2 dX9_read_46 rfl rfl ?_
      refine vv_aload_n C 0 dX9_read_47 rfl rfl ?_
      refine vv_geti C (Cn := RX9) (T := TX9) (N := 13) sh_145 11 rfl rfl (by decide) iX9_read_X9 (List.mem_of_getElem? (i := 1) rfl) rfl dX9_read_48 ?_
      refine vv_top (y := nI L.length) hL.1 ?_
      refine vv_icmp_ge C 58 dX9_read_51 (by decide) (fun hge2 => ?_) (fun hlt2 => ?_)
      · have hLi : L.length ≤ i := by
          rcases Nat.lt_or_ge i L.length with z | z
          · exact absurd hge2 (nI_ge z (by omega))
          · exact z
        refine vv_iconst (v := 0) C dX9_read_58 (by decide) ?_
        refine vv_istore_n (ls2 := [some (.ref (G.1 145)), some (.int x), some (.int (nI i)), some (.int 0)]) C 3 dX9_read_59 rfl (Nat.le_of_ble_eq_true rfl) rfl ?_
        refine vv_aload_n C 0 dX9_read_60 rfl rfl ?_
        refine vv_iload_n C 1 dX9_read_61 rfl rfl ?_
        refine vv_iload_n C 2 dX9_read_62 rfl rfl ?_
        refine vv_iload_n C 3 dX9_read_63 rfl rfl ?_
        refine vv_if_eq C 78 dX9_read_64 (by decide) (fun h_6 => ?_) (fun h_5 => absurd h_5 (by decide))
        refine vv_iconst (v := 0) C dX9_read_78 (by decide) ?_
        refine vv_top (y := (L.getD i (0, 0, 0)).1) (by rw [getD_out hLi]) ?_
        refine vv_iload_n C 3 dX9_read_79 rfl rfl ?_
        refine vv_if_eq C 96 dX9_read_80 (by decide) (fun h_8 => ?_) (fun h_7 => absurd h_7 (by decide))
        refine vv_iconst (v := 0) C dX9_read_96 (by decide) ?_
        refine vv_top (y := (L.getD i (0, 0, 0)).2.1) (by rw [getD_out hLi]) ?_
        refine vv_iload_n C 3 dX9_read_97 rfl rfl ?_
        refine vv_if_eq C 114 dX9_read_98 (by decide) (fun h_10 => ?_) (fun h_9 => absurd h_9 (by decide))
        refine vv_iconst (v := 0) C dX9_read_114 (by decide) ?_
        refine vv_top (y := (L.getD i (0, 0, 0)).2.2) (by rw [getD_out hLi]) ?_
        refine vv_callVV C [.int x, .int (nI i), .int ((L.getD i (0, 0, 0)).1), .int ((L.getD i (0, 0, 0)).2.1), .int ((L.getD i (0, 0, 0)).2.2)] (c_X9_setsCell M1 (d := d) (cc := i) ⟨hd, by omega⟩ (x := x) (y := (nI i)) hx rfl ((L.getD i (0, 0, 0)).1) ((L.getD i (0, 0, 0)).2.1) ((L.getD i (0, 0, 0)).2.2)) sh_145 rfl (cwV 5 C.1.2.2.2.2 gX9_read_X9_setsCell rfl rfl rfl (by decide +kernel) ⟨Nat.le_of_ble_eq_true rfl, Nat.le_of_ble_eq_true rfl⟩) rfl rfl rfl (Nat.le_of_ble_eq_true rfl) dX9_read_115 ⟨Nat.le_refl _, Nat.le_refl _⟩ ?_
        refine vv_iinc (v := nI (i + 1)) (ls2 := [some (.ref (G.1 145)), some (.int x), some (.int (nI (i + 1))), some (.int 0)]) C 2 dX9_read_118 rfl (nI_1 _) rfl ?_
        refine vv_goto C 41 dX9_read_121 (by decide) ?_
        refine vv_keep (ls2 := [some (.ref (G.1 145)), some (.int x), some (.int (nI (i + 1))), none]) ⟨rfl, rfl, rfl, trivial⟩ ?_
        exact ih (i + 1) _ (by omega) (by omega) (hI.cl hd (by omega)) (hL.cl hl) hR1.cl
      · have hiL : i < L.length := by
          rcases Nat.lt_or_ge i L.length with z | z
          · exact z
          · exact absurd (nI_le (a := L.length) z (by omega)) hlt2
        refine vv_iconst (v := 1) C dX9_read_54 (by decide) ?_
        refine vv_goto C 59 dX9_read_55 (by decide) ?_
        refine vv_istore_n (ls2 := [some (.ref (G.1 145)), some (.int x), some (.int (nI i)), some (.int 1)]) C 3 dX9_read_59 rfl (Nat.le_of_ble_eq_true rfl) rfl ?_
        refine vv_aload_n C 0 dX9_read_60 rfl rfl ?_
        refine vv_iload_n C 1 dX9_read_61 rfl rfl ?_
        refine vv_iload_n C 2 dX9_read_62 rfl rfl ?_
        refine vv_iload_n C 3 dX9_read_63 rfl rfl ?_
        refine vv_if_eq C 78 dX9_read_64 (by decide) (fun h_11 => absurd h_11 (by decide)) (fun h_12 => ?_)
        refine vv_aload_n C 0 dX9_read_67 rfl rfl ?_
        refine vv_getr C (Cn := RX9) (T := TX9) (N := 13) sh_145 12 rfl rfl (by decide) iX9_read_X9 (List.mem_of_getElem? (i := 3) rfl) rfl dX9_read_68 ?_
        refine vv_iconst (v := 3) C dX9_read_71 (by decide) ?_
        refine vv_iload_n C 2 dX9_read_72 rfl rfl ?_
        refine vv_imul C dX9_read_73 ?_
        refine vv_top (y := nI (3 * i)) (pk_mul 3 i) ?_
        refine vv_ald (j := 3 * i) (q := 1110 + (3 * i)) C sh_151 rfl (by omega) (by omega) dX9_read_74 ?_
        refine vv_top (y := (L.getD i (0, 0, 0)).1) (hL.2 i hiL).1 ?_
        refine vv_goto C 79 dX9_read_75 (by decide) ?_
        refine vv_iload_n C 3 dX9_read_79 rfl rfl ?_
        refine vv_if_eq C 96 dX9_read_80 (by decide) (fun h_13 => absurd h_13 (by decide)) (fun h_14 => ?_)
        refine vv_aload_n C 0 dX9_read_83 rfl rfl ?_
        refine vv_getr C (Cn := RX9) (T := TX9) (N := 13) sh_145 12 rfl rfl (by decide) iX9_read_X9 (List.mem_of_getElem? (i := 3) rfl) rfl dX9_read_84 ?_
        refine vv_iconst (v := 3) C dX9_read_87 (by decide) ?_
        refine vv_iload_n C 2 dX9_read_88 rfl rfl ?_
        refine vv_imul C dX9_read_89 ?_
        refine vv_top (y := nI (3 * i)) (pk_mul 3 i) ?_
        refine vv_iconst (v := 1) C dX9_read_90 (by decide) ?_
        refine vv_iadd C dX9_read_91 ?_
        refine vv_top (y := nI (3 * i + 1)) (nI_1 _) ?_
        refine vv_ald (j := 3 * i + 1) (q := 1110 + (3 * i + 1)) C sh_151 rfl (by omega) (by omega) dX9_read_92 ?_
        refine vv_top (y := (L.getD i (0, 0, 0)).2.1) (hL.2 i hiL).2.1 ?_
        refine vv_goto C 97 dX9_read_93 (by decide) ?_
        refine vv_iload_n C 3 dX9_read_97 rfl rfl ?_
        refine vv_if_eq C 114 dX9_read_98 (by decide) (fun h_15 => absurd h_15 (by decide)) (fun h_16 => ?_)
        refine vv_aload_n C 0 dX9_read_101 rfl rfl ?_
        refine vv_getr C (Cn := RX9) (T := TX9) (N := 13) sh_145 12 rfl rfl (by decide) iX9_read_X9 (List.mem_of_getElem? (i := 3) rfl) rfl dX9_read_102 ?_
        refine vv_iconst (v := 3) C dX9_read_105 (by decide) ?_
        refine vv_iload_n C 2 dX9_read_106 rfl rfl ?_
        refine vv_imul C dX9_read_107 ?_
        refine vv_top (y := nI (3 * i)) (pk_mul 3 i) ?_
        refine vv_iconst (v := 2) C dX9_read_108 (by decide) ?_
        refine vv_iadd C dX9_read_109 ?_
        refine vv_top (y := nI (3 * i + 2)) (nI_add _ 2) ?_
        refine vv_ald (j := 3 * i + 2) (q := 1110 + (3 * i + 2)) C sh_151 rfl (by omega) (by omega) dX9_read_110 ?_
        refine vv_top (y := (L.getD i (0, 0, 0)).2.2) (hL.2 i hiL).2.2 ?_
        refine vv_goto C 115 dX9_read_111 (by decide) ?_
        refine vv_callVV C [.int x, .int (nI i), .int ((L.getD i (0, 0, 0)).1), .int ((L.getD i (0, 0, 0)).2.1), .int ((L.getD i (0, 0, 0)).2.2)] (c_X9_setsCell M1 (d := d) (cc := i) ⟨hd, by omega⟩ (x := x) (y := (nI i)) hx rfl ((L.getD i (0, 0, 0)).1) ((L.getD i (0, 0, 0)).2.1) ((L.getD i (0, 0, 0)).2.2)) sh_145 rfl (cwV 5 C.1.2.2.2.2 gX9_read_X9_setsCell rfl rfl rfl (by decide +kernel) ⟨Nat.le_of_ble_eq_true rfl, Nat.le_of_ble_eq_true rfl⟩) rfl rfl rfl (Nat.le_of_ble_eq_true rfl) dX9_read_115 ⟨Nat.le_refl _, Nat.le_refl _⟩ ?_
        refine vv_iinc (v := nI (i + 1)) (ls2 := [some (.ref (G.1 145)), some (.int x), some (.int (nI (i + 1))), some (.int 1)]) C 2 dX9_read_118 rfl (nI_1 _) rfl ?_
        refine vv_goto C 41 dX9_read_121 (by decide) ?_
        refine vv_keep (ls2 := [some (.ref (G.1 145)), some (.int x), some (.int (nI (i + 1))), none]) ⟨rfl, rfl, rfl, trivial⟩ ?_
        exact ih (i + 1) _ (by omega) (by omega) (hI.cl hd (by omega)) (hL.cl hl) hR1.cl
set_option maxRecDepth 100000 in
set_option maxHeartbeats 4000000 in
theorem c_X9_read {l : Launch} {G : mw_GG} (M V : mw_M) (hV : relO M V) (hw : wfV V) (hh : hiV V) (ht : txV V) (x : Int32) : mw_Met l yX9_read wsX9_read ({ frames := 6, cells := 0, slots := 0, locals := 140 } : Room) G [.ref (G.1 145), .int x] M (qIP (fun r M2 => r = (op_read V x).1 ∧ relO M2 (op_read V x).2 ∧ rfO M M2)) := by
  refine mw_ofV (cc := cX9_read) 4 (by decide) rfl rfl (Nat.le_of_ble_eq_true rfl) ?_
  intro p e s m args below meth c C hR hN0
  refine vv_loc (ls2 := [some (.ref (G.1 145)), some (.int x), none, none]) rfl ?_
  have hR0 := hw.wfR
  have hdx := dN_lt x
  refine vv_iload_n C 1 dX9_read_0 rfl rfl ?_
  refine vv_callSI C [.int x] (c_X9_isDrawer M x) (cwS 1 C.1.2.2.2.2 gX9_read_X9_isDrawer rfl rfl rfl (by decide +kernel) ⟨Nat.le_of_ble_eq_true rfl, Nat.le_of_ble_eq_true rfl⟩) rfl rfl rfl (Nat.le_of_ble_eq_true rfl) dX9_read_1 ⟨Nat.le_refl _, Nat.le_refl _⟩ ?_
  refine vv_bif_ne C 10 dX9_read_4 (by decide) (fun h_d => ?_) (fun h_nd => ?_)
  · refine vv_aload_n C 0 dX9_read_10 rfl rfl ?_
    refine vv_callVIP C [] (c_X9_isRight M V (t := tN V) (tx_of hV ht)) sh_145 rfl (cwV 0 C.1.2.2.2.2 gX9_read_X9_isRight rfl rfl rfl (by decide +kernel) ⟨Nat.le_of_ble_eq_true rfl, Nat.le_of_ble_eq_true rfl⟩) rfl rfl rfl (Nat.le_of_ble_eq_true rfl) dX9_read_11 ⟨Nat.le_refl _, Nat.le_refl _⟩ (fun x_3 M_4 h_5 => ?_)
    obtain ⟨rfl, hRR⟩ := h_5
    have hRR : rrO M M_4 (prsV V) := hRR
    refine vv_bif_eq C 32 dX9_read_14 (by decide) (fun h_bad => ?_) (fun h_ok => ?_)
    · refine vv_bipush (v := (-12)) C dX9_read_32 (by decide) ?_
      exact vv_iret C hR dX9_read_34 (qIP_of (by rw [show op_read V x = (if (prsV V).1 = 0 ∧ ¬ V (dN x) < nI (prsV V).2.2.length then (manyI (redN V x), redN V x) else (-12, V)) from if_pos h_d, if_neg (fun z => h_bad z.1)]; exact ⟨rfl, hRR.rel hV hh, hRR.rf⟩))
    · refine vv_aload_n C 0 dX9_read_17 rfl rfl ?_
      refine vv_geti C (Cn := RX9) (T := TX9) (N := 13) sh_145 11 rfl rfl (by decide) iX9_read_X9 (List.mem_of_getElem? (i := 1) rfl) rfl dX9_read_18 ?_
      refine vv_top (y := nI (prsV V).2.2.length) (hRR.2.2 h_ok).1 ?_
      refine vv_aload_n C 0 dX9_read_21 rfl rfl ?_
      refine vv_getr C (Cn := RX9) (T := TX9) (N := 13) sh_145 0 rfl rfl (by decide) iX9_read_X9 (List.mem_of_getElem? (i := 2) rfl) rfl dX9_read_22 ?_
      refine vv_iconst (v := 0) C dX9_read_25 (by decide) ?_
      refine vv_iload_n C 1 dX9_read_26 rfl rfl ?_
      refine vv_iadd C dX9_read_27 ?_
      refine vv_ald (j := dN x) (q := 2000 + (dN x)) C sh_146 (ix_0x (dN_nI h_d)) (by omega) (by omega) dX9_read_28 ?_
      refine vv_top (y := V (dN x)) ((hRR.rel hV hh).1 _ (by omega)) ?_
      refine vv_icmp_le C 35 dX9_read_29 (by decide) (fun h_le => ?_) (fun h_gt => ?_)
      · refine vv_aload_n C 0 dX9_read_35 rfl rfl ?_
        have hw2 : ¬ V (dN x) < nI (prsV V).2.2.length := Int32.not_lt.mpr h_le
        refine vv_callVVP C [] (c_X9_changes2 M_4 V (hRR.rel hV hh) hh) sh_145 rfl (cwV 0 C.1.2.2.2.2 gX9_read_X9_changes rfl rfl rfl (by decide +kernel) ⟨Nat.le_of_ble_eq_true rfl, Nat.le_of_ble_eq_true rfl⟩) rfl rfl rfl (Nat.le_of_ble_eq_true rfl) dX9_read_36 ⟨Nat.le_refl _, Nat.le_refl _⟩ (fun M_10 h_11 => ?_)
        have hC := h_11
        refine vv_iconst (v := 0) C dX9_read_39 (by decide) ?_
        refine vv_istore_n (ls2 := [some (.ref (G.1 145)), some (.int x), some (.int 0), none]) C 2 dX9_read_40 rfl (Nat.le_of_ble_eq_true rfl) rfl ?_
        refine vv_loc (ls2 := [some (.ref (G.1 145)), some (.int x), some (.int (nI 0)), none]) rfl ?_
        refine lp_X9_read C M (kpS V) hdx prs_len (dN_nI h_d) (fun M2 hI hR1 => ?_) 5 0 _ (by omega) (by omega) hC.1 ((hRR.2.2 h_ok).fr prs_len (fun q h1 h2 => hC.2.2 q (by omega) (by omega))) (hRR.rf.tr hC.2.1)
        have hI : relO M2 (redN V x) := hI.to exP_4
        refine vv_aload_n C 0 dX9_read_124 rfl rfl ?_
        refine vv_callVVP C [] (c_X9_finds M2 (redN V x) hI.1 (red_wfV hw hw2)) sh_145 rfl (cwV 0 C.1.2.2.2.2 gX9_read_X9_finds rfl rfl rfl (by decide +kernel) ⟨Nat.le_of_ble_eq_true rfl, Nat.le_of_ble_eq_true rfl⟩) rfl rfl rfl (Nat.le_of_ble_eq_true rfl) dX9_read_125 ⟨Nat.le_refl _, Nat.le_refl _⟩ (fun M_1 h_2 => ?_)
        have hF := h_2
        refine vv_aload_n C 0 dX9_read_128 rfl rfl ?_
        refine vv_geti C (Cn := RX9) (T := TX9) (N := 13) sh_145 7 rfl rfl (by decide) iX9_read_X9 (List.mem_of_getElem? (i := 4) rfl) rfl dX9_read_129 ?_
        refine vv_top (y := manyI (redN V x)) hF.2.1 ?_
        exact vv_iret C hR dX9_read_132 (qIP_of (by rw [show op_read V x = (if (prsV V).1 = 0 ∧ ¬ V (dN x) < nI (prsV V).2.2.length then (manyI (redN V x), redN V x) else (-12, V)) from if_pos h_d, if_pos ⟨h_ok, hw2⟩]; exact ⟨rfl, hF.rel hI red_hi, hR1.tr hF.rf⟩))
      · refine vv_bipush (v := (-12)) C dX9_read_32 (by decide) ?_
        exact vv_iret C hR dX9_read_34 (qIP_of (by rw [show op_read V x = (if (prsV V).1 = 0 ∧ ¬ V (dN x) < nI (prsV V).2.2.length then (manyI (redN V x), redN V x) else (-12, V)) from if_pos h_d, if_neg (fun z => h_gt (Int32.not_lt.mp z.2))]; exact ⟨rfl, hRR.rel hV hh, hRR.rf⟩))
  · refine vv_bipush (v := (-11)) C dX9_read_7 (by decide) ?_
    exact vv_iret C hR dX9_read_9 (qIP_of (by rw [show op_read V x = (-11, V) from if_neg h_nd]; exact ⟨rfl, hV, rfO.rf⟩))
