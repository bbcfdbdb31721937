/-! the world that the constructor and the five new arrays make -/
def m0 (p : Nat) : Int32 := if p < 2 then 3 else if p < 4 then 0 else if p < 100 then -1 else if p = 125 then -1 else if p = 127 then -1 else if p = 129 then 255 else 0
def MS0 : mw_M := fun q => if q < 650 then m0 (q % 130) else if q = 652 then -1 else if q < 660 then 0 else if q < 664 then -1 else 0
def gad (h0 qh : Nat) (a0 a b c d ar at_ ag am : Nat → Nat) : Nat → Nat := fun k => if k < 25 then a0 k else if k < 50 then a (k - 25) else if k < 75 then b (k - 50) else if k < 100 then c (k - 75) else if k < 125 then d (k - 100) else if k = 125 then qh else if k < 133 then ar (k - 126) else if k < 136 then at_ (k - 133) else if k < 144 then ag (k - 136) else if k = 144 then h0 else am (k - 145)
/-- a cell as it begins, its array's elements told by the first -/
def ce (g : Nat → Nat) (G : ci_G) (sh : mw_Sh) : va_E := match sh with
  | .inl (n, b, _) => .inl (G.2, (n, .inl (fun _ => MS0 b)))
  | .inr (ci, fs) => .inr (ci, fs.map (mw_fv g MS0))
def blk (g : Nat → Nat) (G : ci_G) (o n : Nat) : va_W := ((mw_S.drop o).take n).zipIdx.map (fun q => (g (o + q.2), ce g G q.1))
def chC (sh : mw_Sh) : Bool := match sh with
  | .inl (n, b, t) => (List.range n).all (fun i => decide (MS0 (b + t * i) = MS0 b))
  | .inr _ => true
theorem chC_all : mw_S.all chC = true := by decide +kernel
theorem ce_at {g : Nat → Nat} {G : ci_G} {x : Nat} {sh : mw_Sh} {H : Heap} (hc : chC sh = true) (h : va_at G.1 vwCl (x, ce g G sh) H) : va_at G.1 vwCl (x, mw_e (g, G) MS0 sh) H := by
  rcases sh with ⟨n, b, t⟩ | ⟨ci, fs⟩
  · exact fl_same (f := fun _ => MS0 b) (g := fun i => MS0 (b + t * i)) (fun i hi => (of_decide_eq_true (List.all_eq_true.mp hc i (List.mem_range.mpr hi))).symm) h
  · exact h
theorem chC_at {c : Nat} {sh : mw_Sh} (h : mw_S[c]? = some sh) : chC sh = true := List.all_eq_true.mp chC_all sh (List.mem_of_getElem? h)
theorem blk_at {g : Nat → Nat} {G : ci_G} {o n : Nat} {H : Heap} (h : va_P G.1 vwCl (blk g G o n) H) {c : Nat} {sh : mw_Sh} (h1 : o ≤ c) (h2 : c < o + n) (hs : mw_S[c]? = some sh) : va_at G.1 vwCl (g c, mw_e (g, G) MS0 sh) H := by
  refine ce_at (chC_at hs) (h (c - o) _ ?_)
  unfold blk
  rw [List.getElem?_map, List.getElem?_zipIdx, List.getElem?_take, if_pos (by omega), List.getElem?_drop, show o + (c - o) = c by omega, hs]
  simp only [Option.map_some, Nat.zero_add]
  rw [show o + (c - o) = c by omega]
def mL5 (G : ci_G) (am : Nat → Nat) : va_W := [arL G (am 0) 10 (fun _ => 0), arL G (am 1) 24 (fun _ => 0), arL G (am 2) 8 (fun _ => 0), arL G (am 3) 8 (fun _ => 0), arL G (am 4) 8 (fun _ => 0)]
theorem app5 {w : va_W} {x1 x2 x3 x4 x5 : Nat × va_E} : ((((w ++ [x1]) ++ [x2]) ++ [x3]) ++ [x4]) ++ [x5] = w ++ [x1, x2, x3, x4, x5] := by
  simp only [List.append_assoc, List.cons_append, List.nil_append]
section ST
variable {h0 qh : Nat} {a0 a b c d ar at_ ag am : Nat → Nat} {G : ci_G}
set_option maxRecDepth 100000 in
theorem blk_0 : sL G a0 = blk (gad h0 qh a0 a b c d ar at_ ag am) G 0 25 := rfl
set_option maxRecDepth 100000 in
theorem blk_1 : sL G a = blk (gad h0 qh a0 a b c d ar at_ ag am) G 25 25 := rfl
set_option maxRecDepth 100000 in
theorem blk_2 : sL G b = blk (gad h0 qh a0 a b c d ar at_ ag am) G 50 25 := rfl
set_option maxRecDepth 100000 in
theorem blk_3 : sL G c = blk (gad h0 qh a0 a b c d ar at_ ag am) G 75 25 := rfl
set_option maxRecDepth 100000 in
theorem blk_4 : sL G d = blk (gad h0 qh a0 a b c d ar at_ ag am) G 100 25 := rfl
set_option maxRecDepth 100000 in
theorem blk_h : [((qh, .inr (2, [.ref (a 0), .ref (b 0), .ref (c 0), .ref (d 0), .int 0])) : Nat × va_E)] = blk (gad h0 qh a0 a b c d ar at_ ag am) G 125 1 := rfl
set_option maxRecDepth 100000 in
theorem blk_r : rL G (a0 0) ar = blk (gad h0 qh a0 a b c d ar at_ ag am) G 126 7 := rfl
set_option maxRecDepth 100000 in
theorem blk_t : tL G at_ = blk (gad h0 qh a0 a b c d ar at_ ag am) G 133 3 := rfl
set_option maxRecDepth 100000 in
theorem blk_g : gL G (at_ 0) ag = blk (gad h0 qh a0 a b c d ar at_ ag am) G 136 8 := rfl
set_option maxRecDepth 100000 in
theorem blk_e : [((h0, .inr (8, [.ref (a0 0), .ref qh, .ref (ar 0), .ref (at_ 0), .ref (ag 0)])) : Nat × va_E)] = blk (gad h0 qh a0 a b c d ar at_ ag am) G 144 1 := rfl
set_option maxRecDepth 100000 in
theorem blk_n : mL5 G am = blk (gad h0 qh a0 a b c d ar at_ ag am) G 145 5 := rfl
/-- whose cell stands at a place of the list that was made -/
def invp (i : Nat) : Nat := if i = 0 then 144 else if i < 26 then i - 1 else if i = 26 then 125 else if i < 127 then i - 2 else if i < 145 then i - 1 else i
def posp (c : Nat) : Nat := if c < 25 then c + 1 else if c < 125 then c + 2 else if c = 125 then 26 else if c < 144 then c + 1 else if c = 144 then 0 else c
theorem inv_pos {c : Nat} (h : c < 150) : invp (posp c) = c ∧ posp c < 150 := by
  unfold invp posp
  repeat' split
  all_goals omega
set_option maxRecDepth 100000 in
theorem made_ad : (edL G h0 qh a0 a b c d ar at_ ag ++ mL5 G am).map (fun q => q.1) = (List.range 150).map (fun i => gad h0 qh a0 a b c d ar at_ ag am (invp i)) := rfl
theorem made_at {k : Nat} (h : k < 150) : ∃ e, (edL G h0 qh a0 a b c d ar at_ ag ++ mL5 G am)[posp k]? = some (gad h0 qh a0 a b c d ar at_ ag am k, e) := by
  obtain ⟨h1, h2⟩ := inv_pos h
  have e := congrArg (fun l => l[posp k]?) (made_ad (h0 := h0) (qh := qh) (a0 := a0) (a := a) (b := b) (c := c) (d := d) (ar := ar) (at_ := at_) (ag := ag) (am := am) (G := G))
  simp only [List.getElem?_map] at e
  rw [List.getElem?_range h2, Option.map_some, h1] at e
  cases hx : (edL G h0 qh a0 a b c d ar at_ ag ++ mL5 G am)[posp k]? with
  | none => rw [hx] at e; simp at e
  | some y =>
    rw [hx, Option.map_some] at e
    have e2 := Option.some.inj e
    exact ⟨y.2, by rw [← e2]⟩
theorem va_Pl {w1 w2 : va_W} {H : Heap} (h : va_P G.1 vwCl (w1 ++ w2) H) : va_P G.1 vwCl w1 H := fun k q hq => h k q (by rw [List.getElem?_append_left (List.getElem?_eq_some_iff.mp hq).1]; exact hq)
theorem va_Pr {w1 w2 : va_W} {H : Heap} (h : va_P G.1 vwCl (w1 ++ w2) H) : va_P G.1 vwCl w2 H := fun k q hq => h (w1.length + k) q (by rw [List.getElem?_append_right (by omega), show w1.length + k - w1.length = k by omega]; exact hq)
theorem va_Pc' {x : Nat × va_E} {w : va_W} {H : Heap} (h : va_P G.1 vwCl (x :: w) H) : va_P G.1 vwCl [x] H ∧ va_P G.1 vwCl w H := ⟨va_Pl (w1 := [x]) (w2 := w) h, va_Pr (w1 := [x]) (w2 := w) h⟩
theorem made_W {H : Heap} (h : va_P G.1 vwCl (edL G h0 qh a0 a b c d ar at_ ag ++ mL5 G am) H) : mw_W (gad h0 qh a0 a b c d ar at_ ag am, G) MS0 H := by
  have he := va_Pl h
  have hm := va_Pr h
  obtain ⟨e1, e2⟩ := va_Pc' he
  have eg := va_Pr e2
  have e3 := va_Pl e2
  have et := va_Pr e3
  have e4 := va_Pl e3
  have er := va_Pr e4
  have e5 := va_Pl e4
  have eh := va_Pr e5
  have es := va_Pl e5
  obtain ⟨h1, h2⟩ := va_Pc' eh
  have hd := va_Pr h2
  have h3 := va_Pl h2
  have hc := va_Pr h3
  have h4 := va_Pl h3
  have hb := va_Pr h4
  have ha := va_Pl h4
  rw [blk_e (h0 := h0) (qh := qh) (a0 := a0) (a := a) (b := b) (c := c) (d := d) (ar := ar) (at_ := at_) (ag := ag) (am := am) (G := G)] at e1
  rw [blk_g (h0 := h0) (qh := qh) (a0 := a0) (a := a) (b := b) (c := c) (d := d) (ar := ar) (at_ := at_) (ag := ag) (am := am) (G := G)] at eg
  rw [blk_t (h0 := h0) (qh := qh) (a0 := a0) (a := a) (b := b) (c := c) (d := d) (ar := ar) (at_ := at_) (ag := ag) (am := am) (G := G)] at et
  rw [blk_r (h0 := h0) (qh := qh) (a0 := a0) (a := a) (b := b) (c := c) (d := d) (ar := ar) (at_ := at_) (ag := ag) (am := am) (G := G)] at er
  rw [blk_0 (h0 := h0) (qh := qh) (a0 := a0) (a := a) (b := b) (c := c) (d := d) (ar := ar) (at_ := at_) (ag := ag) (am := am) (G := G)] at es
  rw [blk_h (h0 := h0) (qh := qh) (a0 := a0) (a := a) (b := b) (c := c) (d := d) (ar := ar) (at_ := at_) (ag := ag) (am := am) (G := G)] at h1
  rw [blk_1 (h0 := h0) (qh := qh) (a0 := a0) (a := a) (b := b) (c := c) (d := d) (ar := ar) (at_ := at_) (ag := ag) (am := am) (G := G)] at ha
  rw [blk_2 (h0 := h0) (qh := qh) (a0 := a0) (a := a) (b := b) (c := c) (d := d) (ar := ar) (at_ := at_) (ag := ag) (am := am) (G := G)] at hb
  rw [blk_3 (h0 := h0) (qh := qh) (a0 := a0) (a := a) (b := b) (c := c) (d := d) (ar := ar) (at_ := at_) (ag := ag) (am := am) (G := G)] at hc
  rw [blk_4 (h0 := h0) (qh := qh) (a0 := a0) (a := a) (b := b) (c := c) (d := d) (ar := ar) (at_ := at_) (ag := ag) (am := am) (G := G)] at hd
  rw [blk_n (h0 := h0) (qh := qh) (a0 := a0) (a := a) (b := b) (c := c) (d := d) (ar := ar) (at_ := at_) (ag := ag) (am := am) (G := G)] at hm
  intro k q hq
  obtain ⟨sh, hs, e⟩ := mw_l_of hq
  subst e
  have hk := mw_lt hs
  show va_at G.1 vwCl (gad h0 qh a0 a b c d ar at_ ag am k, mw_e (gad h0 qh a0 a b c d ar at_ ag am, G) MS0 sh) H
  rcases Nat.lt_or_ge k 25 with z | z
  · exact blk_at es (by omega) (by omega) hs
  rcases Nat.lt_or_ge k 50 with z | z
  · exact blk_at ha (by omega) (by omega) hs
  rcases Nat.lt_or_ge k 75 with z | z
  · exact blk_at hb (by omega) (by omega) hs
  rcases Nat.lt_or_ge k 100 with z | z
  · exact blk_at hc (by omega) (by omega) hs
  rcases Nat.lt_or_ge k 125 with z | z
  · exact blk_at hd (by omega) (by omega) hs
  rcases Nat.lt_or_ge k 126 with z | z
  · exact blk_at h1 (by omega) (by omega) hs
  rcases Nat.lt_or_ge k 133 with z | z
  · exact blk_at er (by omega) (by omega) hs
  rcases Nat.lt_or_ge k 136 with z | z
  · exact blk_at et (by omega) (by omega) hs
  rcases Nat.lt_or_ge k 144 with z | z
  · exact blk_at eg (by omega) (by omega) hs
  rcases Nat.lt_or_ge k 145 with z | z
  · exact blk_at e1 (by omega) (by omega) hs
  exact blk_at hm (by omega) (by omega) hs
theorem made_G {A : Nat → Prop} (h : va_D A (edL G h0 qh a0 a b c d ar at_ ag ++ mL5 G am)) : mw_G (gad h0 qh a0 a b c d ar at_ ag am, G) := fun i j hi hj e => by
  obtain ⟨x, hx⟩ := made_at (h0 := h0) (qh := qh) (a0 := a0) (a := a) (b := b) (c := c) (d := d) (ar := ar) (at_ := at_) (ag := ag) (am := am) (G := G) hi
  obtain ⟨y, hy⟩ := made_at (h0 := h0) (qh := qh) (a0 := a0) (a := a) (b := b) (c := c) (d := d) (ar := ar) (at_ := at_) (ag := ag) (am := am) (G := G) hj
  have e2 := h.1 _ _ _ _ hx hy e
  have e3 := congrArg invp e2
  rw [(inv_pos hi).1, (inv_pos hj).1] at e3
  exact e3
theorem made_A {A : Nat → Prop} (h : va_D A (edL G h0 qh a0 a b c d ar at_ ag ++ mL5 G am)) {x : Nat} (hx : mw_A (gad h0 qh a0 a b c d ar at_ ag am, G) x) : A x := by
  obtain ⟨k, hk, e⟩ := hx
  obtain ⟨y, hy⟩ := made_at (h0 := h0) (qh := qh) (a0 := a0) (a := a) (b := b) (c := c) (d := d) (ar := ar) (at_ := at_) (ag := ag) (am := am) (G := G) hk
  rw [e]
  exact h.2 _ _ hy
theorem made_D {A : Nat → Prop} (h : va_D A (edL G h0 qh a0 a b c d ar at_ ag ++ mL5 G am)) {M : mw_M} : va_D A (mw_l (gad h0 qh a0 a b c d ar at_ ag am, G) M) := by
  refine ⟨fun i j x y hi hj e => ?_, fun k q hk => ?_⟩
  · obtain ⟨sh, hs, rfl⟩ := mw_l_of hi
    obtain ⟨sh2, hs2, rfl⟩ := mw_l_of hj
    exact made_G h i j (mw_lt hs) (mw_lt hs2) e
  · obtain ⟨sh, hs, rfl⟩ := mw_l_of hk
    exact made_A h ⟨k, mw_lt hs, rfl⟩
end ST
/-- the law's numbers as it sets them -/
def MS1 : mw_M := upd (upd (upd (upd (upd MS0 1100 3) 1101 3) 1105 (-1)) 1107 (-1)) 1109 255
theorem wf_S1 : wfV MS1 := by
  refine ⟨⟨3, 0, by decide +kernel, by omega, by decide +kernel, by omega⟩, ⟨3, 0, by decide +kernel, by omega, by decide +kernel, by omega⟩, fun i hi => Or.inl ?_, fun c hc => ?_, fun d hd c hc hle => ?_, Or.inl (by decide +kernel), fun w hw => ⟨Or.inl ?_, Or.inl ?_⟩⟩
  · exact (show ∀ i, i < 96 → MS1 (4 + i) = -1 by decide +kernel) i hi
  · obtain ⟨e1, e2, e3⟩ := (show ∀ c, c < 8 → MS1 (100 + 3 * c) = 0 ∧ MS1 (101 + 3 * c) = 0 ∧ MS1 (102 + 3 * c) = 0 by decide +kernel) c hc
    exact ⟨0, 0, 0, e1, by omega, e2, by omega, by omega, e3, by omega⟩
  · exact (show ∀ d, d < 2 → ∀ c, c < 4 → MS1 (100 + 12 * d + 3 * c) = 0 by decide +kernel) d hd c hc
  · exact (show ∀ w, w < 2 → MS1 (125 + 2 * w) = -1 by decide +kernel) w hw
  · exact (show ∀ w, w < 2 → MS1 (126 + 2 * w) = 0 by decide +kernel) w hw
theorem inv_0 {S : mw_M} (h : wfV S) (h1 : S 650 = 0) (h2 : S 653 = 0) : invV S := by
  have e : hN S = 0 := by unfold hN; rw [h1]; rfl
  have e2 : tN S = 0 := by unfold tN; rw [h2]; rfl
  exact ⟨h, ⟨by rw [e]; exact h1, by omega⟩, ⟨by rw [e2]; exact h2, by omega⟩, fun j hj1 hj2 => by omega⟩
theorem lin_S1 : linv MS1 := by
  refine ⟨⟨inv_0 wf_S1 (by decide +kernel) (by decide +kernel), ⟨⟨?_, by decide +kernel, ?_, by decide +kernel⟩, fun d k hd hk hl => ?_, ?_⟩, fun d hd => ⟨3, by omega, by omega, ?_⟩⟩, by decide +kernel⟩
  · exact show ∀ j, j < 4 → MS1 (1100 + j) = MS1 j by decide +kernel
  · exact show ∀ j, j < 4 → MS1 (1105 + j) = MS1 (125 + j) by decide +kernel
  · have e : MS1 (2 + d) = nI 0 := (show ∀ d, d < 2 → MS1 (2 + d) = nI 0 by decide +kernel) d hd
    rw [e] at hl
    exact absurd (nI_le (Nat.zero_le k) (by omega)) hl
  · exact show ∀ c, c < 8 → MS1 (1300 + c) = MS1 (100 + 3 * c) ∧ MS1 (1310 + c) = MS1 (101 + 3 * c) ∧ MS1 (1320 + c) = MS1 (102 + 3 * c) by decide +kernel
  · exact (show ∀ d, d < 2 → MS1 d = nI 3 by decide +kernel) d hd
theorem many_S1 : manyI MS1 = 0 := by decide +kernel
theorem ii_astore {p : Program} {l : Launch} {e : Env} {R : Room} {s : State} {m : MethodId} {args : Array Value} {below : List Frame} {meth : Method} {c : Code} {G : ci_G} {A : Nat → Prop} {cells slots : Nat} {Q : State → Prop} {ws : va_W} {pc : Nat} {ls : List (Option Value)} {st : List Value} {cc : ByteArray} {nL : Nat} {Ts : List Cond} {own : String} (C : ii_C p s m args c G A cc nL Ts own) (i : Nat) {x : Nat} {ls2 : List (Option Value)} (hd : decode cc pc = .ok (.astore i, 2)) (hn : i < ls.length) (hs : ls.set i (some (.ref x)) = ls2) (k : ii p l e R s m args below meth c G A cells slots Q ws (pc + 2) ls2 st) : ii p l e R s m args below meth c G A cells slots Q ws pc ls (.ref x :: st) := fun H locs la hP hD hS hL => lv_astore C.1.1 C.1.2.1 hd hL.1 hn rfl (fun la2 h2 => k H locs la2 hP hD hS (hs ▸ hL.set rfl h2))
