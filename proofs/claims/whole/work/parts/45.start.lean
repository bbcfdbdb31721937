/-! the world that both constructors leave -/
def m0 (p : Nat) : Int32 := if p < 2 then 3 else if p < 4 then 0 else if p < 100 then -1 else if p = 125 then -1 else if p = 127 then -1 else if p = 129 then 255 else 0
def M0 : mw_M := fun q => if q < 650 then m0 (q % 130) else if q = 652 then -1 else if q < 660 then 0 else if q < 664 then -1 else if q < 2000 then 0 else if q < 2002 then 3 else if q = 2125 then -1 else if q = 2127 then -1 else if q = 2129 then 255 else 0
def gad (h0 qh : Nat) (a0 a b c d ar at_ ag am : Nat → Nat) : Nat → Nat := fun k => if k < 25 then a0 k else if k < 50 then a (k - 25) else if k < 75 then b (k - 50) else if k < 100 then c (k - 75) else if k < 125 then d (k - 100) else if k = 125 then qh else if k < 133 then ar (k - 126) else if k < 136 then at_ (k - 133) else if k < 144 then ag (k - 136) else if k = 144 then h0 else am (k - 145)
/-- a cell as it begins, its array's elements told by the first -/
def ce (g : Nat → Nat) (G : ci_G) (sh : mw_Sh) : va_E := match sh with
  | .inl (n, b, _) => .inl (G.2, (n, .inl (fun _ => M0 b)))
  | .inr (ci, fs) => .inr (ci, fs.map (mw_fv g M0))
def blk (g : Nat → Nat) (G : ci_G) (o n : Nat) : va_W := ((mw_S.drop o).take n).zipIdx.map (fun q => (g (o + q.2), ce g G q.1))
def chC (sh : mw_Sh) : Bool := match sh with
  | .inl (n, b, t) => (List.range n).all (fun i => decide (M0 (b + t * i) = M0 b))
  | .inr _ => true
theorem chC_all : ((mw_S.take 146) ++ (mw_S.drop 147)).all chC = true := by decide +kernel
theorem sF_all : (List.range 130).all (fun i => decide (sF i = M0 (2000 + 1 * i))) = true := by decide +kernel
theorem ce_at {g : Nat → Nat} {G : ci_G} {x : Nat} {sh : mw_Sh} {H : Heap} (hc : chC sh = true) (h : va_at G.1 vwCl (x, ce g G sh) H) : va_at G.1 vwCl (x, mw_e (g, G) M0 sh) H := by
  rcases sh with ⟨n, b, t⟩ | ⟨ci, fs⟩
  · exact fl_same (f := fun _ => M0 b) (g := fun i => M0 (b + t * i)) (fun i hi => (of_decide_eq_true (List.all_eq_true.mp hc i (List.mem_range.mpr hi))).symm) h
  · exact h
theorem chC_at {c : Nat} {sh : mw_Sh} (h : mw_S[c]? = some sh) (hc : ¬ c = 146) : chC sh = true := by
  have hl := mw_lt h
  refine List.all_eq_true.mp chC_all sh ?_
  rcases Nat.lt_or_ge c 146 with z | z
  · refine List.mem_append_left _ (List.mem_of_getElem? (i := c) ?_)
    rw [List.getElem?_take, if_pos z]
    exact h
  · refine List.mem_append_right _ (List.mem_of_getElem? (i := c - 147) ?_)
    rw [List.getElem?_drop, show 147 + (c - 147) = c by omega]
    exact h
theorem blk_at {g : Nat → Nat} {G : ci_G} {o n : Nat} {H : Heap} (h : va_P G.1 vwCl (blk g G o n) H) {c : Nat} {sh : mw_Sh} (h1 : o ≤ c) (h2 : c < o + n) (hs : mw_S[c]? = some sh) (hc : ¬ c = 146) : va_at G.1 vwCl (g c, mw_e (g, G) M0 sh) H := by
  refine ce_at (chC_at hs hc) (h (c - o) _ ?_)
  unfold blk
  rw [List.getElem?_map, List.getElem?_zipIdx, List.getElem?_take, if_pos (by omega), List.getElem?_drop, show o + (c - o) = c by omega, hs]
  simp only [Option.map_some, Nat.zero_add]
  rw [show o + (c - o) = c by omega]
section ST
variable {h0 qh : Nat} {a0 a b c d ar at_ ag am : Nat → Nat} {G : ci_G}
set_option maxRecDepth 100000 in
theorem blk_0 : sL G a0 = blk (gad h0 qh a0 a b c d ar at_ ag am) G 0 25 := rfl
set_option maxRecDepth 100000 in
theorem blk_1 : sL G a = blk (gad h0 qh a0 a b c d ar at_ ag am) G 25 25 := rfl
set_option maxRecDepth 100000 in
theorem blk_2 : sL G b = blk (gad h0 qh a0 a b c d ar at_ ag am) G 50 25 := rfl
set_option maxRecDepth 100000 in
theorem blk_3 : sL G c = blk (gad h0 qh a0 a b c d ar at_ ag am) G 75 25 := rfl
set_option maxRecDepth 100000 in
theorem blk_4 : sL G d = blk (gad h0 qh a0 a b c d ar at_ ag am) G 100 25 := rfl
set_option maxRecDepth 100000 in
theorem blk_h : [((qh, .inr (2, [.ref (a 0), .ref (b 0), .ref (c 0), .ref (d 0), .int 0])) : Nat × va_E)] = blk (gad h0 qh a0 a b c d ar at_ ag am) G 125 1 := rfl
set_option maxRecDepth 100000 in
theorem blk_r : rL G (a0 0) ar = blk (gad h0 qh a0 a b c d ar at_ ag am) G 126 7 := rfl
set_option maxRecDepth 100000 in
theorem blk_t : tL G at_ = blk (gad h0 qh a0 a b c d ar at_ ag am) G 133 3 := rfl
set_option maxRecDepth 100000 in
theorem blk_g : gL G (at_ 0) ag = blk (gad h0 qh a0 a b c d ar at_ ag am) G 136 8 := rfl
set_option maxRecDepth 100000 in
theorem blk_e : [((h0, .inr (8, [.ref (a0 0), .ref qh, .ref (ar 0), .ref (at_ 0), .ref (ag 0)])) : Nat × va_E)] = blk (gad h0 qh a0 a b c d ar at_ ag am) G 144 1 := rfl
set_option maxRecDepth 100000 in
theorem blk_m : [((am 0, .inr (9, [.ref (am 1), .ref (am 2), .int 0, .ref (am 3), .int 0, .ref (am 4), .ref (am 5), .int 0, .int 0, .int 0, .int 0, .int 0, .ref (am 6)])) : Nat × va_E)] = blk (gad h0 qh a0 a b c d ar at_ ag am) G 145 1 := rfl
set_option maxRecDepth 100000 in
theorem blk_n : [arL G (am 2) 520 (fun _ => 0), arL G (am 3) 60 (fun _ => 0), arL G (am 4) 144 (fun _ => 0), arL G (am 5) 144 (fun _ => 0), arL G (am 6) 12 (fun _ => 0)] = blk (gad h0 qh a0 a b c d ar at_ ag am) G 147 5 := rfl
/-- whose cell stands at a place of the list that was made -/
def invp (i : Nat) : Nat := if i = 0 then 144 else if i < 26 then i - 1 else if i = 26 then 125 else if i < 127 then i - 2 else if i < 145 then i - 1 else i
def posp (c : Nat) : Nat := if c < 25 then c + 1 else if c < 125 then c + 2 else if c = 125 then 26 else if c < 144 then c + 1 else if c = 144 then 0 else c
theorem inv_pos {c : Nat} (h : c < 152) : invp (posp c) = c ∧ posp c < 152 := by
  unfold invp posp
  repeat' split
  all_goals omega
set_option maxRecDepth 100000 in
theorem made_ad : (edL G h0 qh a0 a b c d ar at_ ag ++ mL G am).map (fun q => q.1) = (List.range 152).map (fun i => gad h0 qh a0 a b c d ar at_ ag am (invp i)) := rfl
theorem made_at {k : Nat} (h : k < 152) : ∃ e, (edL G h0 qh a0 a b c d ar at_ ag ++ mL G am)[posp k]? = some (gad h0 qh a0 a b c d ar at_ ag am k, e) := by
  obtain ⟨h1, h2⟩ := inv_pos h
  have e := congrArg (fun l => l[posp k]?) (made_ad (h0 := h0) (qh := qh) (a0 := a0) (a := a) (b := b) (c := c) (d := d) (ar := ar) (at_ := at_) (ag := ag) (am := am) (G := G))
  simp only [List.getElem?_map] at e
  rw [List.getElem?_range h2, Option.map_some, h1] at e
  cases hx : (edL G h0 qh a0 a b c d ar at_ ag ++ mL G am)[posp k]? with
  | none => rw [hx] at e; simp at e
  | some y =>
    rw [hx, Option.map_some] at e
    have e2 := Option.some.inj e
    exact ⟨y.2, by rw [← e2]⟩
theorem va_Pl {w1 w2 : va_W} {H : Heap} (h : va_P G.1 vwCl (w1 ++ w2) H) : va_P G.1 vwCl w1 H := fun k q hq => h k q (by rw [List.getElem?_append_left (List.getElem?_eq_some_iff.mp hq).1]; exact hq)
theorem va_Pr {w1 w2 : va_W} {H : Heap} (h : va_P G.1 vwCl (w1 ++ w2) H) : va_P G.1 vwCl w2 H := fun k q hq => h (w1.length + k) q (by rw [List.getElem?_append_right (by omega), show w1.length + k - w1.length = k by omega]; exact hq)
theorem va_Pc' {x : Nat × va_E} {w : va_W} {H : Heap} (h : va_P G.1 vwCl (x :: w) H) : va_P G.1 vwCl [x] H ∧ va_P G.1 vwCl w H := ⟨va_Pl (w1 := [x]) (w2 := w) h, va_Pr (w1 := [x]) (w2 := w) h⟩
theorem made_W {H : Heap} (h : va_P G.1 vwCl (edL G h0 qh a0 a b c d ar at_ ag ++ mL G am) H) : mw_W (gad h0 qh a0 a b c d ar at_ ag am, G) M0 H := by
  have he := va_Pl h
  have hm := va_Pr h
  obtain ⟨e1, e2⟩ := va_Pc' he
  have eg := va_Pr e2
  have e3 := va_Pl e2
  have et := va_Pr e3
  have e4 := va_Pl e3
  have er := va_Pr e4
  have e5 := va_Pl e4
  have eh := va_Pr e5
  have es := va_Pl e5
  obtain ⟨h1, h2⟩ := va_Pc' eh
  have hd := va_Pr h2
  have h3 := va_Pl h2
  have hc := va_Pr h3
  have h4 := va_Pl h3
  have hb := va_Pr h4
  have ha := va_Pl h4
  obtain ⟨m1, m2⟩ := va_Pc' hm
  obtain ⟨m3, m4⟩ := va_Pc' m2
  rw [blk_e (h0 := h0) (qh := qh) (a0 := a0) (a := a) (b := b) (c := c) (d := d) (ar := ar) (at_ := at_) (ag := ag) (am := am) (G := G)] at e1
  rw [blk_g (h0 := h0) (qh := qh) (a0 := a0) (a := a) (b := b) (c := c) (d := d) (ar := ar) (at_ := at_) (ag := ag) (am := am) (G := G)] at eg
  rw [blk_t (h0 := h0) (qh := qh) (a0 := a0) (a := a) (b := b) (c := c) (d := d) (ar := ar) (at_ := at_) (ag := ag) (am := am) (G := G)] at et
  rw [blk_r (h0 := h0) (qh := qh) (a0 := a0) (a := a) (b := b) (c := c) (d := d) (ar := ar) (at_ := at_) (ag := ag) (am := am) (G := G)] at er
  rw [blk_0 (h0 := h0) (qh := qh) (a0 := a0) (a := a) (b := b) (c := c) (d := d) (ar := ar) (at_ := at_) (ag := ag) (am := am) (G := G)] at es
  rw [blk_h (h0 := h0) (qh := qh) (a0 := a0) (a := a) (b := b) (c := c) (d := d) (ar := ar) (at_ := at_) (ag := ag) (am := am) (G := G)] at h1
  rw [blk_1 (h0 := h0) (qh := qh) (a0 := a0) (a := a) (b := b) (c := c) (d := d) (ar := ar) (at_ := at_) (ag := ag) (am := am) (G := G)] at ha
  rw [blk_2 (h0 := h0) (qh := qh) (a0 := a0) (a := a) (b := b) (c := c) (d := d) (ar := ar) (at_ := at_) (ag := ag) (am := am) (G := G)] at hb
  rw [blk_3 (h0 := h0) (qh := qh) (a0 := a0) (a := a) (b := b) (c := c) (d := d) (ar := ar) (at_ := at_) (ag := ag) (am := am) (G := G)] at hc
  rw [blk_4 (h0 := h0) (qh := qh) (a0 := a0) (a := a) (b := b) (c := c) (d := d) (ar := ar) (at_ := at_) (ag := ag) (am := am) (G := G)] at hd
  rw [blk_m (h0 := h0) (qh := qh) (a0 := a0) (a := a) (b := b) (c := c) (d := d) (ar := ar) (at_ := at_) (ag := ag) (am := am) (G := G)] at m1
  rw [blk_n (h0 := h0) (qh := qh) (a0 := a0) (a := a) (b := b) (c := c) (d := d) (ar := ar) (at_ := at_) (ag := ag) (am := am) (G := G)] at m4
  intro k q hq
  obtain ⟨sh, hs, e⟩ := mw_l_of hq
  subst e
  have hk := mw_lt hs
  show va_at G.1 vwCl (gad h0 qh a0 a b c d ar at_ ag am k, mw_e (gad h0 qh a0 a b c d ar at_ ag am, G) M0 sh) H
  rcases Nat.lt_or_ge k 25 with z | z
  · exact blk_at es (by omega) (by omega) hs (by omega)
  rcases Nat.lt_or_ge k 50 with z | z
  · exact blk_at ha (by omega) (by omega) hs (by omega)
  rcases Nat.lt_or_ge k 75 with z | z
  · exact blk_at hb (by omega) (by omega) hs (by omega)
  rcases Nat.lt_or_ge k 100 with z | z
  · exact blk_at hc (by omega) (by omega) hs (by omega)
  rcases Nat.lt_or_ge k 125 with z | z
  · exact blk_at hd (by omega) (by omega) hs (by omega)
  rcases Nat.lt_or_ge k 126 with z | z
  · exact blk_at h1 (by omega) (by omega) hs (by omega)
  rcases Nat.lt_or_ge k 133 with z | z
  · exact blk_at er (by omega) (by omega) hs (by omega)
  rcases Nat.lt_or_ge k 136 with z | z
  · exact blk_at et (by omega) (by omega) hs (by omega)
  rcases Nat.lt_or_ge k 144 with z | z
  · exact blk_at eg (by omega) (by omega) hs (by omega)
  rcases Nat.lt_or_ge k 145 with z | z
  · exact blk_at e1 (by omega) (by omega) hs (by omega)
  rcases Nat.lt_or_ge k 146 with z | z
  · exact blk_at m1 (by omega) (by omega) hs (by omega)
  rcases Nat.lt_or_ge k 147 with z | z
  · have hk2 : k = 146 := by omega
    subst hk2
    cases sh_146.symm.trans hs
    exact fl_same (f := sF) (g := fun i => M0 (2000 + 1 * i)) (fun i hi => of_decide_eq_true (List.all_eq_true.mp sF_all i (List.mem_range.mpr hi))) (m3 0 _ rfl)
  · exact blk_at m4 (by omega) (by omega) hs (by omega)
theorem made_G {A : Nat → Prop} (h : va_D A (edL G h0 qh a0 a b c d ar at_ ag ++ mL G am)) : mw_G (gad h0 qh a0 a b c d ar at_ ag am, G) := fun i j hi hj e => by
  obtain ⟨x, hx⟩ := made_at (h0 := h0) (qh := qh) (a0 := a0) (a := a) (b := b) (c := c) (d := d) (ar := ar) (at_ := at_) (ag := ag) (am := am) (G := G) hi
  obtain ⟨y, hy⟩ := made_at (h0 := h0) (qh := qh) (a0 := a0) (a := a) (b := b) (c := c) (d := d) (ar := ar) (at_ := at_) (ag := ag) (am := am) (G := G) hj
  have e2 := h.1 _ _ _ _ hx hy e
  have e3 := congrArg invp e2
  rw [(inv_pos hi).1, (inv_pos hj).1] at e3
  exact e3
theorem made_A {A : Nat → Prop} (h : va_D A (edL G h0 qh a0 a b c d ar at_ ag ++ mL G am)) {x : Nat} (hx : mw_A (gad h0 qh a0 a b c d ar at_ ag am, G) x) : A x := by
  obtain ⟨k, hk, e⟩ := hx
  obtain ⟨y, hy⟩ := made_at (h0 := h0) (qh := qh) (a0 := a0) (a := a) (b := b) (c := c) (d := d) (ar := ar) (at_ := at_) (ag := ag) (am := am) (G := G) hk
  rw [e]
  exact h.2 _ _ hy
end ST
def V0 : mw_M := fun q => if q < 130 then M0 (2000 + q) else 0
theorem wf_M0 : wfV M0 := by
  refine ⟨⟨3, 0, by decide +kernel, by omega, by decide +kernel, by omega⟩, ⟨3, 0, by decide +kernel, by omega, by decide +kernel, by omega⟩, fun i hi => Or.inl ?_, fun c hc => ?_, fun d hd c hc hle => ?_, Or.inl (by decide +kernel), fun w hw => ⟨Or.inl ?_, Or.inl ?_⟩⟩
  · exact (show ∀ i, i < 96 → M0 (4 + i) = -1 by decide +kernel) i hi
  · obtain ⟨e1, e2, e3⟩ := (show ∀ c, c < 8 → M0 (100 + 3 * c) = 0 ∧ M0 (101 + 3 * c) = 0 ∧ M0 (102 + 3 * c) = 0 by decide +kernel) c hc
    exact ⟨0, 0, 0, e1, by omega, e2, by omega, by omega, e3, by omega⟩
  · exact (show ∀ d, d < 2 → ∀ c, c < 4 → M0 (100 + 12 * d + 3 * c) = 0 by decide +kernel) d hd c hc
  · exact (show ∀ w, w < 2 → M0 (125 + 2 * w) = -1 by decide +kernel) w hw
  · exact (show ∀ w, w < 2 → M0 (126 + 2 * w) = 0 by decide +kernel) w hw
theorem wf_V0 : wfV V0 := by
  refine ⟨⟨3, 0, by decide +kernel, by omega, by decide +kernel, by omega⟩, ⟨3, 0, by decide +kernel, by omega, by decide +kernel, by omega⟩, fun i hi => Or.inr ⟨0, by omega, ?_⟩, fun c hc => ?_, fun d hd c hc hle => ?_, Or.inl (by decide +kernel), fun w hw => ⟨Or.inl ?_, Or.inl ?_⟩⟩
  · exact (show ∀ i, i < 96 → V0 (4 + i) = 0 by decide +kernel) i hi
  · obtain ⟨e1, e2, e3⟩ := (show ∀ c, c < 8 → V0 (100 + 3 * c) = 0 ∧ V0 (101 + 3 * c) = 0 ∧ V0 (102 + 3 * c) = 0 by decide +kernel) c hc
    exact ⟨0, 0, 0, e1, by omega, e2, by omega, by omega, e3, by omega⟩
  · exact (show ∀ d, d < 2 → ∀ c, c < 4 → V0 (100 + 12 * d + 3 * c) = 0 by decide +kernel) d hd c hc
  · exact (show ∀ w, w < 2 → V0 (125 + 2 * w) = -1 by decide +kernel) w hw
  · exact (show ∀ w, w < 2 → V0 (126 + 2 * w) = 0 by decide +kernel) w hw
theorem inv_0 {S : mw_M} (h : wfV S) (h1 : S 650 = 0) (h2 : S 653 = 0) : invV S := by
  have e : hN S = 0 := by unfold hN; rw [h1]; rfl
  have e2 : tN S = 0 := by unfold tN; rw [h2]; rfl
  exact ⟨h, ⟨by rw [e]; exact h1, by omega⟩, ⟨by rw [e2]; exact h2, by omega⟩, fun j hj1 hj2 => by omega⟩
theorem lw_start : lwJ M0 := by
  have eh : hN M0 = 0 := by decide +kernel
  have eh2 : hN V0 = 0 := by decide +kernel
  refine ⟨V0, inv_0 wf_M0 (by decide +kernel) (by decide +kernel), inv_0 wf_V0 (by decide +kernel) (by decide +kernel), ⟨fun k hk => ?_, ⟨by decide +kernel, fun i hi => ?_⟩, by decide +kernel, fun j hj => ?_⟩, ⟨⟨fun q hq => ?_, fun q h1 h2 => ?_, fun d hd k hk hl => ?_⟩, by decide +kernel, fun j hj1 hj2 => ?_, by decide +kernel, fun j hj => ?_⟩⟩
  · unfold V0
    rw [if_pos hk]
  · omega
  · exact (show ∀ j, j < 60 → M0 (1200 + j) = V0 (1000 + j) by decide +kernel) j hj
  · exact (show ∀ q, q < 4 → V0 q = M0 q by decide +kernel) q hq
  · obtain ⟨i, hi, rfl⟩ : ∃ i, i < 30 ∧ q = 100 + i := ⟨q - 100, by omega, by omega⟩
    exact (show ∀ i, i < 30 → V0 (100 + i) = M0 (100 + i) by decide +kernel) i hi
  · have e : M0 (2 + d) = nI 0 := (show ∀ d, d < 2 → M0 (2 + d) = nI 0 by decide +kernel) d hd
    rw [e] at hl
    exact absurd (nI_le (Nat.zero_le k) (by omega)) hl
  · omega
  · exact (show ∀ j, j < 60 → V0 (1000 + j) = M0 (1000 + j) by decide +kernel) j hj
