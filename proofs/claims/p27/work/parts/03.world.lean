abbrev vwCl : List vw_C := [(RX0, TX0, 4), (RX1, TX1, 3), (RX2, TX2, 5), (RX3, TX3, 1), (RX4, TX4, 6), (RX5, TX5, 6), (RX6, TX6, 6), (RX7, TX7, 2), (RX8, TX8, 5)]
/-! the world: 150 cells whose ints lie in one flat memory, by positions -/
abbrev mw_M : Type := Nat → Int32
abbrev mw_Sh : Type := (Nat × Nat × Nat) ⊕ (Nat × List (Nat ⊕ Nat))
abbrev mw_GG : Type := (Nat → Nat) × va_G × ClassId
def mw_S : List mw_Sh := [.inr (6, [.inl 1, .inl 11, .inl 21, .inl 23, .inr 124, .inr 129]), .inr (0, [.inl 2, .inl 4, .inr 0, .inr 2]), .inr (3, [.inl 3]), .inl (48, 4, 1), .inr (1, [.inl 5, .inl 7, .inl 9]), .inr (3, [.inl 6]), .inl (4, 100, 3), .inr (3, [.inl 8]), .inl (4, 101, 3), .inr (3, [.inl 10]), .inl (4, 102, 3), .inr (0, [.inl 12, .inl 14, .inr 1, .inr 3]), .inr (3, [.inl 13]), .inl (48, 52, 1), .inr (1, [.inl 15, .inl 17, .inl 19]), .inr (3, [.inl 16]), .inl (4, 112, 3), .inr (3, [.inl 18]), .inl (4, 113, 3), .inr (3, [.inl 20]), .inl (4, 114, 3), .inr (3, [.inl 22]), .inl (2, 125, 2), .inr (3, [.inl 24]), .inl (2, 126, 2), .inr (6, [.inl 26, .inl 36, .inl 46, .inl 48, .inr 254, .inr 259]), .inr (0, [.inl 27, .inl 29, .inr 130, .inr 132]), .inr (3, [.inl 28]), .inl (48, 134, 1), .inr (1, [.inl 30, .inl 32, .inl 34]), .inr (3, [.inl 31]), .inl (4, 230, 3), .inr (3, [.inl 33]), .inl (4, 231, 3), .inr (3, [.inl 35]), .inl (4, 232, 3), .inr (0, [.inl 37, .inl 39, .inr 131, .inr 133]), .inr (3, [.inl 38]), .inl (48, 182, 1), .inr (1, [.inl 40, .inl 42, .inl 44]), .inr (3, [.inl 41]), .inl (4, 242, 3), .inr (3, [.inl 43]), .inl (4, 243, 3), .inr (3, [.inl 45]), .inl (4, 244, 3), .inr (3, [.inl 47]), .inl (2, 255, 2), .inr (3, [.inl 49]), .inl (2, 256, 2), .inr (6, [.inl 51, .inl 61, .inl 71, .inl 73, .inr 384, .inr 389]), .inr (0, [.inl 52, .inl 54, .inr 260, .inr 262]), .inr (3, [.inl 53]), .inl (48, 264, 1), .inr (1, [.inl 55, .inl 57, .inl 59]), .inr (3, [.inl 56]), .inl (4, 360, 3), .inr (3, [.inl 58]), .inl (4, 361, 3), .inr (3, [.inl 60]), .inl (4, 362, 3), .inr (0, [.inl 62, .inl 64, .inr 261, .inr 263]), .inr (3, [.inl 63]), .inl (48, 312, 1), .inr (1, [.inl 65, .inl 67, .inl 69]), .inr (3, [.inl 66]), .inl (4, 372, 3), .inr (3, [.inl 68]), .inl (4, 373, 3), .inr (3, [.inl 70]), .inl (4, 374, 3), .inr (3, [.inl 72]), .inl (2, 385, 2), .inr (3, [.inl 74]), .inl (2, 386, 2), .inr (6, [.inl 76, .inl 86, .inl 96, .inl 98, .inr 514, .inr 519]), .inr (0, [.inl 77, .inl 79, .inr 390, .inr 392]), .inr (3, [.inl 78]), .inl (48, 394, 1), .inr (1, [.inl 80, .inl 82, .inl 84]), .inr (3, [.inl 81]), .inl (4, 490, 3), .inr (3, [.inl 83]), .inl (4, 491, 3), .inr (3, [.inl 85]), .inl (4, 492, 3), .inr (0, [.inl 87, .inl 89, .inr 391, .inr 393]), .inr (3, [.inl 88]), .inl (48, 442, 1), .inr (1, [.inl 90, .inl 92, .inl 94]), .inr (3, [.inl 91]), .inl (4, 502, 3), .inr (3, [.inl 93]), .inl (4, 503, 3), .inr (3, [.inl 95]), .inl (4, 504, 3), .inr (3, [.inl 97]), .inl (2, 515, 2), .inr (3, [.inl 99]), .inl (2, 516, 2), .inr (6, [.inl 101, .inl 111, .inl 121, .inl 123, .inr 644, .inr 649]), .inr (0, [.inl 102, .inl 104, .inr 520, .inr 522]), .inr (3, [.inl 103]), .inl (48, 524, 1), .inr (1, [.inl 105, .inl 107, .inl 109]), .inr (3, [.inl 106]), .inl (4, 620, 3), .inr (3, [.inl 108]), .inl (4, 621, 3), .inr (3, [.inl 110]), .inl (4, 622, 3), .inr (0, [.inl 112, .inl 114, .inr 521, .inr 523]), .inr (3, [.inl 113]), .inl (48, 572, 1), .inr (1, [.inl 115, .inl 117, .inl 119]), .inr (3, [.inl 116]), .inl (4, 632, 3), .inr (3, [.inl 118]), .inl (4, 633, 3), .inr (3, [.inl 120]), .inl (4, 634, 3), .inr (3, [.inl 122]), .inl (2, 645, 2), .inr (3, [.inl 124]), .inl (2, 646, 2), .inr (2, [.inl 25, .inl 50, .inl 75, .inl 100, .inr 650]), .inr (5, [.inl 0, .inl 127, .inl 129, .inl 131, .inr 651, .inr 652]), .inr (3, [.inl 128]), .inl (144, 700, 1), .inr (3, [.inl 130]), .inl (144, 850, 1), .inr (3, [.inl 132]), .inl (4, 660, 1), .inr (7, [.inl 134, .inr 653]), .inr (3, [.inl 135]), .inl (60, 1000, 1), .inr (4, [.inl 133, .inl 137, .inr 654, .inr 655, .inr 656, .inr 657]), .inr (1, [.inl 138, .inl 140, .inl 142]), .inr (3, [.inl 139]), .inl (4, 670, 3), .inr (3, [.inl 141]), .inl (4, 671, 3), .inr (3, [.inl 143]), .inl (4, 672, 3), .inr (8, [.inl 0, .inl 125, .inl 126, .inl 133, .inl 136]), .inl (10, 1100, 1), .inl (24, 1200, 1), .inl (8, 1300, 1), .inl (8, 1310, 1), .inl (8, 1320, 1)]
def mw_pos (sh : mw_Sh) : List Nat := match sh with
  | .inl (n, b, t) => (List.range n).map (fun i => b + t * i)
  | .inr (_, fs) => fs.filterMap (fun f => match f with | .inl _ => none | .inr q => some q)
def mw_fv (ad : Nat → Nat) (M : mw_M) (f : Nat ⊕ Nat) : Value := match f with
  | .inl t => .ref (ad t)
  | .inr q => .int (M q)
def mw_e (G : mw_GG) (M : mw_M) (sh : mw_Sh) : va_E := match sh with
  | .inl (n, b, t) => .inl (G.2.2, (n, .inl (fun i => M (b + t * i))))
  | .inr (ci, fs) => .inr (ci, fs.map (mw_fv G.1 M))
def mw_l (G : mw_GG) (M : mw_M) : va_W := mw_S.zipIdx.map (fun q => (G.1 q.2, mw_e G M q.1))
def mw_W (G : mw_GG) (M : mw_M) (H : Heap) : Prop := va_P G.2.1 vwCl (mw_l G M) H
/-- the addresses are apart -/
def mw_G (G : mw_GG) : Prop := ∀ i j : Nat, i < 150 → j < 150 → G.1 i = G.1 j → i = j
/-- the addresses of the world -/
def mw_A (G : mw_GG) : Nat → Prop := fun q => ∃ c, c < 150 ∧ q = G.1 c
def mw_K (G : mw_GG) (U : State) : Prop := va_K G.2.1 vwCl [(G.2.2, .int)] U
theorem mw_len : mw_S.length = 150 := by decide +kernel
theorem mw_lt {c : Nat} {sh : mw_Sh} (h : mw_S[c]? = some sh) : c < 150 := by
  have := (List.getElem?_eq_some_iff.mp h).1
  rw [mw_len] at this
  exact this
theorem mw_l_at {G : mw_GG} {M : mw_M} {c : Nat} {sh : mw_Sh} (h : mw_S[c]? = some sh) : (mw_l G M)[c]? = some (G.1 c, mw_e G M sh) := by
  unfold mw_l
  rw [List.getElem?_map, List.getElem?_zipIdx, h]
  simp
theorem mw_l_of {G : mw_GG} {M : mw_M} {c : Nat} {q : Nat × va_E} (h : (mw_l G M)[c]? = some q) : ∃ sh, mw_S[c]? = some sh ∧ q = (G.1 c, mw_e G M sh) := by
  unfold mw_l at h
  rw [List.getElem?_map, List.getElem?_zipIdx] at h
  cases hs : mw_S[c]? with
  | none => rw [hs] at h; simp at h
  | some sh =>
    rw [hs] at h
    simp at h
    exact ⟨sh, rfl, h.symm⟩
theorem mw_D {G : mw_GG} {M : mw_M} (hG : mw_G G) : va_D (mw_A G) (mw_l G M) := by
  refine ⟨fun i j x y hi hj hxy => ?_, fun k q hk => ?_⟩
  · obtain ⟨s1, h1, e1⟩ := mw_l_of hi
    obtain ⟨s2, h2, e2⟩ := mw_l_of hj
    subst e1; subst e2
    exact hG i j (mw_lt h1) (mw_lt h2) hxy
  · obtain ⟨s1, h1, e1⟩ := mw_l_of hk
    subst e1
    exact ⟨k, mw_lt h1, rfl⟩
theorem mw_arr {cA : ClassId} {n : Nat} {f g : Nat → Int32} (h : ∀ i, i < n → f i = g i) : vp_cell cA (n, .inl f) = vp_cell cA (n, .inl g) := by
  rw [vp_cell_i, vp_cell_i]
  unfold arrV
  congr 1
  congr 1
  funext j
  show Value.int (f j.val) = Value.int (g j.val)
  rw [h j.val j.isLt]
theorem mw_cong {G : mw_GG} {M M' : mw_M} {a : Nat} {sh : mw_Sh} {H : Heap} (hp : ∀ q ∈ mw_pos sh, M q = M' q) (h : va_at G.2.1 vwCl (a, mw_e G M sh) H) : va_at G.2.1 vwCl (a, mw_e G M' sh) H := by
  rcases sh with ⟨n, b, t⟩ | ⟨ci, fs⟩
  · have e : vp_cell G.2.2 (n, .inl (fun i => M (b + t * i))) = vp_cell G.2.2 (n, .inl (fun i => M' (b + t * i))) := mw_arr (fun i hi => hp _ (List.mem_map.mpr ⟨i, List.mem_range.mpr hi, rfl⟩))
    show H[a]? = some (vp_cell G.2.2 (n, .inl (fun i => M' (b + t * i))))
    rw [← e]
    exact h
  · have e : fs.map (mw_fv G.1 M) = fs.map (mw_fv G.1 M') := by
      refine List.map_congr_left (fun f hf => ?_)
      rcases f with t | q
      · rfl
      · show Value.int (M q) = Value.int (M' q)
        rw [hp q (List.mem_filterMap.mpr ⟨.inr q, hf, rfl⟩)]
    show va_at G.2.1 vwCl (a, .inr (ci, fs.map (mw_fv G.1 M'))) H
    rw [← e]
    exact h
/-- the memory matters only where a cell has a position -/
theorem mw_W.congr {G : mw_GG} {M M' : mw_M} {H : Heap} (h : mw_W G M H) (hp : ∀ (c : Nat) (sh : mw_Sh), mw_S[c]? = some sh → ∀ q ∈ mw_pos sh, M q = M' q) : mw_W G M' H := by
  intro c q hq
  obtain ⟨sh, h1, e⟩ := mw_l_of hq
  subst e
  exact mw_cong (hp c sh h1) (h c _ (mw_l_at h1))
theorem mw_W.eq {G : mw_GG} {M M' : mw_M} {H : Heap} (h : mw_W G M H) (e : ∀ q, M q = M' q) : mw_W G M' H := h.congr (fun _ _ _ q _ => e q)
/-- whose a position is -/
def mw_own (q : Nat) : Nat :=
  if q < 650 then
    (let j := q / 130; let k := q % 130
     if k < 2 then 25 * j + 1 + 10 * k else if k < 4 then 25 * j + 1 + 10 * (k - 2) else if k < 100 then 25 * j + 3 + 10 * ((k - 4) / 48)
     else if k < 124 then 25 * j + 6 + 10 * ((k - 100) / 12) + 2 * ((k - 100) % 3) else if k < 125 then 25 * j else if k < 129 then 25 * j + 22 + 2 * ((k - 125) % 2) else 25 * j)
  else if q < 651 then 125 else if q < 653 then 126 else if q < 654 then 133 else if q < 658 then 136 else if q < 664 then 132
  else if q < 682 then 139 + 2 * ((q - 670) % 3) else if q < 844 then 128 else if q < 994 then 130 else if q < 1060 then 135 else if q < 1110 then 145
  else if q < 1224 then 146 else if q < 1308 then 147 else if q < 1318 then 148 else 149
theorem mw_own_ok : mw_S.zipIdx.all (fun q => (mw_pos q.1).all (fun k => mw_own k == q.2)) = true := by decide +kernel
theorem mw_owned {c : Nat} {sh : mw_Sh} (h : mw_S[c]? = some sh) {q : Nat} (hq : q ∈ mw_pos sh) : mw_own q = c := by
  have h1 := List.all_eq_true.mp mw_own_ok (sh, c) (by rw [List.mem_zipIdx_iff_getElem?]; exact h)
  have h2 := List.all_eq_true.mp h1 q hq
  exact beq_iff_eq.mp h2
def mw_fine (sh : mw_Sh) : Bool := match sh with
  | .inl (_, _, t) => decide (0 < t)
  | .inr (_, fs) => (List.range fs.length).all (fun i => (List.range fs.length).all (fun j => decide (i = j ∨ fs[i]? ≠ fs[j]?)))
theorem mw_fine_ok : mw_S.all mw_fine = true := by decide +kernel
theorem mw_arr_t {c n b t : Nat} (h : mw_S[c]? = some (.inl (n, b, t))) : 0 < t := by
  have h1 := List.all_eq_true.mp mw_fine_ok _ (List.mem_of_getElem? h)
  exact of_decide_eq_true h1
theorem mw_obj_nd {c ci : Nat} {fs : List (Nat ⊕ Nat)} (h : mw_S[c]? = some (.inr (ci, fs))) {i j : Nat} {f : Nat ⊕ Nat} (hi : fs[i]? = some f) (hj : fs[j]? = some f) : i = j := by
  have h1 := List.all_eq_true.mp mw_fine_ok _ (List.mem_of_getElem? h)
  have li := (List.getElem?_eq_some_iff.mp hi).1
  have lj := (List.getElem?_eq_some_iff.mp hj).1
  have h2 := List.all_eq_true.mp h1 i (List.mem_range.mpr li)
  have h3 := of_decide_eq_true (List.all_eq_true.mp h2 j (List.mem_range.mpr lj))
  rcases h3 with h3 | h3
  · exact h3
  · exact absurd (hi.trans hj.symm) h3
/-- a cell is written: the others hold what they held -/
theorem mw_set {G : mw_GG} {M : mw_M} {c q : Nat} {sh : mw_Sh} {e : va_E} {x : Int32} {H : Heap} (hs : mw_S[c]? = some sh) (hq : q ∈ mw_pos sh) (he : e = mw_e G (upd M q x) sh) (h : va_P G.2.1 vwCl ((mw_l G M).set c (G.1 c, e)) H) : mw_W G (upd M q x) H := by
  intro c2 z hz
  obtain ⟨sh2, h1, e2⟩ := mw_l_of hz
  subst e2
  have hl : c < (mw_l G M).length := (List.getElem?_eq_some_iff.mp (mw_l_at (G := G) (M := M) hs)).1
  by_cases hc : c2 = c
  · subst hc
    cases hs.symm.trans h1
    have h2 := h c2 (G.1 c2, e) (List.getElem?_set_self hl)
    rw [he] at h2
    exact h2
  · have h2 := h c2 (G.1 c2, mw_e G M sh2) (by rw [List.getElem?_set_ne (Ne.symm hc)]; exact mw_l_at h1)
    refine mw_cong (fun k hk => ?_) h2
    have hn : k ≠ q := fun z => hc (by rw [← mw_owned h1 hk, z]; exact mw_owned hs hq)
    unfold upd
    rw [if_neg hn]
theorem mw_e_arr {G : mw_GG} {M : mw_M} {c n b t i : Nat} {x : Int32} (h : mw_S[c]? = some (.inl (n, b, t))) : (Sum.inl (G.2.2, (n, Sum.inl (upd (fun i => M (b + t * i)) i x))) : va_E) = mw_e G (upd M (b + t * i) x) (.inl (n, b, t)) := by
  have ht := mw_arr_t h
  have e : upd (fun i => M (b + t * i)) i x = fun i2 => upd M (b + t * i) x (b + t * i2) := by
    funext k
    unfold upd
    by_cases hk : k = i
    · subst hk
      simp
    · have hn : ¬ b + t * k = b + t * i := fun z => hk (Nat.eq_of_mul_eq_mul_left ht (Nat.add_left_cancel z))
      rw [if_neg hk, if_neg hn]
  show _ = (Sum.inl (G.2.2, (n, Sum.inl (fun i2 => upd M (b + t * i) x (b + t * i2)))) : va_E)
  rw [e]
theorem mw_e_obj {G : mw_GG} {M : mw_M} {c ci j q : Nat} {fs : List (Nat ⊕ Nat)} {x : Int32} (h : mw_S[c]? = some (.inr (ci, fs))) (hj : fs[j]? = some (.inr q)) : (Sum.inr (ci, (fs.map (mw_fv G.1 M)).set j (.int x)) : va_E) = mw_e G (upd M q x) (.inr (ci, fs)) := by
  have e : (fs.map (mw_fv G.1 M)).set j (.int x) = fs.map (mw_fv G.1 (upd M q x)) := by
    apply List.ext_getElem?
    intro k
    have hjl := (List.getElem?_eq_some_iff.mp hj).1
    by_cases hk : k = j
    · subst hk
      rw [List.getElem?_set_self (by rw [List.length_map]; exact hjl), List.getElem?_map, hj]
      simp [mw_fv, upd]
    · rw [List.getElem?_set_ne (Ne.symm hk), List.getElem?_map, List.getElem?_map]
      cases hf : fs[k]? with
      | none => rfl
      | some f =>
        rcases f with t | q2
        · rfl
        · have hn : ¬ q2 = q := fun z => hk (mw_obj_nd h (z ▸ hf) hj)
          simp [mw_fv, upd, hn]
  show _ = (Sum.inr (ci, fs.map (mw_fv G.1 (upd M q x))) : va_E)
  rw [e]
