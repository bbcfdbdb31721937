/-! texts: what is typed for a cell, and what is read of it -/
abbrev ceT : Type := Nat × Nat × Nat
def numW (n : Nat) : List Nat := if n < 10 then [48 + n] else [48 + n / 10, 48 + n % 10]
def celW : ceT → List Nat
  | (0, _, _) => [42]
  | (1, _, _) => [95]
  | (2, _, _) => [33]
  | (3, n, _) => numW n
  | (4, n, _) => 35 :: numW n
  | (5, n, _) => 60 :: numW n
  | (6, n, _) => 62 :: numW n
  | (7, n, m) => numW n ++ [45, 48 + m / 10, 48 + m % 10]
  | (8, n, _) => [119 + n]
  | (9, n, _) => [60, 119 + n]
  | (_, n, _) => [62, 119 + n]
/-- the numbers of a cell are as its kind wants them -/
def okA (kd n : Nat) : Prop := kd ≤ 10 ∧ (kd < 3 → n = 0) ∧ (7 < kd → n < 4) ∧ n < 100
def okB (kd n m : Nat) : Prop := (kd = 7 → n ≤ m ∧ m < 100) ∧ (¬ kd = 7 → m = 0)
def okC (z : ceT) : Prop := okA z.1 z.2.1 ∧ okB z.1 z.2.1 z.2.2
def ceI (z : ceT) : celT := (nI z.1, nI z.2.1, nI z.2.2)
theorem numW_len (n : Nat) : 1 ≤ (numW n).length ∧ (numW n).length ≤ 2 := by
  unfold numW
  split
  · exact ⟨Nat.le_refl 1, (by decide : 1 ≤ 2)⟩
  · exact ⟨(by decide : 1 ≤ 2), Nat.le_refl 2⟩
theorem kd11 {k : Nat} (h : k ≤ 10) : k = 0 ∨ k = 1 ∨ k = 2 ∨ k = 3 ∨ k = 4 ∨ k = 5 ∨ k = 6 ∨ k = 7 ∨ k = 8 ∨ k = 9 ∨ k = 10 := by omega
theorem celW_len {z : ceT} (h : okC z) : 1 ≤ (celW z).length ∧ (celW z).length ≤ 5 := by
  obtain ⟨kd, n, m⟩ := z
  have h1 := numW_len n
  have hk : kd ≤ 10 := h.1.1
  rcases kd11 hk with rfl | rfl | rfl | rfl | rfl | rfl | rfl | rfl | rfl | rfl | rfl
  · exact ⟨by show 1 ≤ 1; decide, by show 1 ≤ 5; decide⟩
  · exact ⟨by show 1 ≤ 1; decide, by show 1 ≤ 5; decide⟩
  · exact ⟨by show 1 ≤ 1; decide, by show 1 ≤ 5; decide⟩
  · show 1 ≤ (numW n).length ∧ (numW n).length ≤ 5; omega
  · show 1 ≤ (numW n).length + 1 ∧ (numW n).length + 1 ≤ 5; omega
  · show 1 ≤ (numW n).length + 1 ∧ (numW n).length + 1 ≤ 5; omega
  · show 1 ≤ (numW n).length + 1 ∧ (numW n).length + 1 ≤ 5; omega
  · show 1 ≤ (numW n ++ [45, 48 + m / 10, 48 + m % 10]).length ∧ (numW n ++ [45, 48 + m / 10, 48 + m % 10]).length ≤ 5
    rw [List.length_append]
    show 1 ≤ (numW n).length + 3 ∧ (numW n).length + 3 ≤ 5
    omega
  · exact ⟨by show 1 ≤ 1; decide, by show 1 ≤ 5; decide⟩
  · exact ⟨by show 1 ≤ 2; decide, by show 2 ≤ 5; decide⟩
  · exact ⟨by show 1 ≤ 2; decide, by show 2 ≤ 5; decide⟩
def chL (T : List Nat) (j : Nat) : Int32 := if j < T.length then nI (T.getD j 0) else -1
theorem chL_in {T P Q : List Nat} {x : Nat} {j : Nat} (h : T = P ++ x :: Q) (hj : j = P.length) : chL T j = nI x := by
  subst h; subst hj
  unfold chL
  rw [if_pos (by rw [List.length_append, List.length_cons]; omega), List.getD_eq_getElem?_getD, List.getElem?_append_right (Nat.le_refl _), Nat.sub_self]
  rfl
theorem chL_end {T P : List Nat} {j : Nat} (h : T = P) (hj : j = P.length) : chL T j = -1 := by
  subst h; subst hj
  unfold chL
  rw [if_neg (Nat.lt_irrefl _)]
theorem nlt_d {a b : Nat} (ha : a < 1000) (hb : b < 1000) (h : b ≤ a) : ¬ nI a < nI b := nI_nlt h (by omega)
theorem dg_yes {d : Nat} (h : d < 10) : dgP (nI (48 + d)) := ⟨nI_nlt (b := 48) (by omega) (by omega), nI_nlt (a := 57) (by omega) (by omega)⟩
theorem dg_no {x : Nat} (h : x < 48 ∨ 57 < x) (hx : x < 1000) : ¬ dgP (nI x) := fun z => by
  rcases h with h | h
  · exact z.1 (nI_lt (b := 48) h (by omega))
  · exact z.2 (nI_lt (a := 57) h (by omega))
theorem dg_m1 : ¬ dgP (-1) := fun z => z.1 (by decide)
theorem lt_yes {d : Nat} (h : d < 4) : ltP (nI (119 + d)) := ⟨nI_nlt (b := 119) (by omega) (by omega), nI_nlt (a := 122) (by omega) (by omega)⟩
theorem lt_no {x : Nat} (h : x < 119) : ¬ ltP (nI x) := fun z => z.1 (nI_lt (b := 119) h (by omega))
theorem ne_n {a b : Nat} (ha : a < 1000) (hb : b < 1000) (h : ¬ a = b) : ¬ nI a = nI b := fun z => h ((nI_eq (by omega) (by omega)).mp z)
/-- what stands behind a cell: nothing, or a comma -/
def tlP (ch : Nat → Int32) (q : Nat) : Prop := ch q = -1 ∨ ch q = nI 44
theorem tlP.dg {ch : Nat → Int32} {q : Nat} (h : tlP ch q) : ¬ dgP (ch q) := by
  rcases h with h | h
  · rw [h]; exact dg_m1
  · rw [h]; exact dg_no (Or.inl (by omega)) (by omega)
theorem tlP.d45 {ch : Nat → Int32} {q : Nat} (h : tlP ch q) : ¬ ch q = 45 := by
  rcases h with h | h
  · rw [h]; decide
  · rw [h]; decide
/-- the characters from q on begin with W -/
def hsW (ch : Nat → Int32) (q : Nat) (W : List Nat) : Prop := ∀ j, j < W.length → ch (q + j) = nI (W.getD j 0)
theorem hsW.hd {ch : Nat → Int32} {q x : Nat} {W : List Nat} (h : hsW ch q (x :: W)) : ch q = nI x := h 0 (by rw [List.length_cons]; omega)
theorem hsW.tl {ch : Nat → Int32} {q x : Nat} {W : List Nat} (h : hsW ch q (x :: W)) : hsW ch (q + 1) W := fun j hj => by
  have := h (j + 1) (by rw [List.length_cons]; omega)
  rw [show q + 1 + j = q + (j + 1) by omega, this]
  rfl
theorem hsW.app {ch : Nat → Int32} {q : Nat} {W W2 : List Nat} (h : hsW ch q (W ++ W2)) : hsW ch q W ∧ hsW ch (q + W.length) W2 := by
  refine ⟨fun j hj => ?_, fun j hj => ?_⟩
  · rw [h j (by rw [List.length_append]; omega), List.getD_eq_getElem?_getD, List.getElem?_append_left hj, ← List.getD_eq_getElem?_getD]
  · rw [show q + W.length + j = q + (W.length + j) by omega, h (W.length + j) (by rw [List.length_append]; omega), List.getD_eq_getElem?_getD, List.getElem?_append_right (by omega), show W.length + j - W.length = j by omega, ← List.getD_eq_getElem?_getD]
theorem num_rd {ch : Nat → Int32} {q n : Nat} (hn : n < 100) (h : hsW ch q (numW n)) (ht : ¬ dgP (ch (q + (numW n).length))) : dgP (ch q) ∧ nmP ch q = q + (numW n).length ∧ nmV ch q = nI n := by
  by_cases z : n < 10
  · have e : numW n = [48 + n] := if_pos z
    rw [e] at h ht ⊢
    have h0 := h.hd
    have hd : dgP (ch q) := by rw [h0]; exact dg_yes z
    refine ⟨hd, ?_, ?_⟩
    · unfold nmP
      rw [if_neg (show ¬ dgP (ch (q + 1)) from ht)]
      rfl
    · unfold nmV
      rw [if_neg (fun y => y hd), if_neg (show ¬ dgP (ch (q + 1)) from ht), h0]
      exact (pk_sub (a := 48 + n) (b := 48) (by omega)).trans (congrArg nI (by omega))
  · have e : numW n = [48 + n / 10, 48 + n % 10] := if_neg z
    rw [e] at h ⊢
    have h0 := h.hd
    have h1 := h.tl.hd
    have hd : dgP (ch q) := by rw [h0]; exact dg_yes (by omega)
    have hd1 : dgP (ch (q + 1)) := by rw [h1]; exact dg_yes (by omega)
    refine ⟨hd, ?_, ?_⟩
    · unfold nmP
      rw [if_pos hd1]
      rfl
    · unfold nmV
      rw [if_neg (fun y => y hd), if_pos hd1, h0, h1, show nI (48 + n / 10) - 48 = nI (n / 10) from (pk_sub (a := 48 + n / 10) (b := 48) (by omega)).trans (congrArg nI (by omega)), show (10 : Int32) = nI 10 from rfl, pk_mul, nI_add]
      exact (pk_sub (a := 10 * (n / 10) + (48 + n % 10)) (b := 48) (by omega)).trans (congrArg nI (by omega))
theorem lt_sub {n : Nat} : nI (119 + n) - 119 = nI n := (pk_sub (a := 119 + n) (b := 119) (by omega)).trans (congrArg nI (by omega))
theorem cel_rd {ch : Nat → Int32} {q : Nat} {z : ceT} (hz : okC z) (h : hsW ch q (celW z)) (ht : tlP ch (q + (celW z).length)) : clR ch q = (0, q + (celW z).length, ceI z) := by
  obtain ⟨kd, n, m⟩ := z
  obtain ⟨⟨hk, ha, hb, hn⟩, hm, hm0⟩ := hz
  dsimp only at hk ha hb hn hm hm0
  rcases kd11 hk with rfl | rfl | rfl | rfl | rfl | rfl | rfl | rfl | rfl | rfl | rfl
  · have h0 : ch q = nI 42 := h.hd
    obtain rfl := ha (by omega)
    obtain rfl := hm0 (by omega)
    unfold clR
    rw [h0, if_neg (dg_no (Or.inl (by omega)) (by omega)), if_neg (by decide), if_neg (by decide), if_pos (show nI 42 = 42 from rfl)]
    rfl
  · have h0 : ch q = nI 95 := h.hd
    obtain rfl := ha (by omega)
    obtain rfl := hm0 (by omega)
    unfold clR
    rw [h0, if_neg (dg_no (Or.inr (by omega)) (by omega)), if_neg (by decide), if_neg (by decide), if_neg (by decide), if_neg (by decide), if_neg (by decide), if_pos (show nI 95 = 95 from rfl)]
    rfl
  · have h0 : ch q = nI 33 := h.hd
    obtain rfl := ha (by omega)
    obtain rfl := hm0 (by omega)
    unfold clR
    rw [h0, if_neg (dg_no (Or.inl (by omega)) (by omega)), if_pos (show nI 33 = 33 from rfl)]
    rfl
  · obtain ⟨d1, d2, d3⟩ := num_rd hn h ht.dg
    obtain rfl := hm0 (by omega)
    unfold clR nsR
    rw [if_pos d1, d2, if_pos (show ¬ ch (q + (numW n).length) = 45 from ht.d45), d3]
    rfl
  · have h0 : ch q = nI 35 := h.hd
    have e : q + 1 + (numW n).length = q + (celW (4, n, m)).length := by show _ = q + ((numW n).length + 1); omega
    obtain ⟨d1, d2, d3⟩ := num_rd hn h.tl (by rw [e]; exact ht.dg)
    obtain rfl := hm0 (by omega)
    unfold clR
    rw [h0, if_neg (dg_no (Or.inl (by omega)) (by omega)), if_neg (by decide), if_pos (show nI 35 = 35 from rfl), if_pos d1, d2, d3, e]
    rfl
  · have h0 : ch q = nI 60 := h.hd
    have e : q + 1 + (numW n).length = q + (celW (5, n, m)).length := by show _ = q + ((numW n).length + 1); omega
    obtain ⟨d1, d2, d3⟩ := num_rd hn h.tl (by rw [e]; exact ht.dg)
    have hl : ¬ ltP (ch (q + 1)) := fun y => absurd (Int32.lt_of_lt_of_le (b := 119) (by decide : (57 : Int32) < 119) (Int32.not_lt.mp y.1)) d1.2
    obtain rfl := hm0 (by omega)
    unfold clR bdR
    rw [h0, if_neg (dg_no (Or.inr (by omega)) (by omega)), if_neg (by decide), if_neg (by decide), if_neg (by decide), if_pos (show nI 60 = 60 from rfl), if_neg hl, if_pos d1, d2, d3, e]
    rfl
  · have h0 : ch q = nI 62 := h.hd
    have e : q + 1 + (numW n).length = q + (celW (6, n, m)).length := by show _ = q + ((numW n).length + 1); omega
    obtain ⟨d1, d2, d3⟩ := num_rd hn h.tl (by rw [e]; exact ht.dg)
    have hl : ¬ ltP (ch (q + 1)) := fun y => absurd (Int32.lt_of_lt_of_le (b := 119) (by decide : (57 : Int32) < 119) (Int32.not_lt.mp y.1)) d1.2
    obtain rfl := hm0 (by omega)
    unfold clR bdR
    rw [h0, if_neg (dg_no (Or.inr (by omega)) (by omega)), if_neg (by decide), if_neg (by decide), if_neg (by decide), if_neg (by decide), if_pos (show nI 62 = 62 from rfl), if_neg hl, if_pos d1, d2, d3, e]
    rfl
  · obtain ⟨hnm, hm100⟩ := hm rfl
    obtain ⟨w1, w2⟩ := hsW.app (W := numW n) (W2 := [45, 48 + m / 10, 48 + m % 10]) h
    have g0 := w2.hd
    have g1 := w2.tl.hd
    have g2 := w2.tl.tl.hd
    have e : q + (numW n).length + 1 + 2 = q + (celW (7, n, m)).length := by
      show _ = q + (numW n ++ [45, 48 + m / 10, 48 + m % 10]).length
      rw [List.length_append]
      show _ = q + ((numW n).length + 3)
      omega
    obtain ⟨d1, d2, d3⟩ := num_rd hn w1 (by rw [g0]; exact dg_no (Or.inl (by omega)) (by omega))
    have f1 : dgP (ch (q + (numW n).length + 1)) := by rw [g1]; exact dg_yes (by omega)
    have f2 : dgP (ch (q + (numW n).length + 1 + 1)) := by rw [g2]; exact dg_yes (by omega)
    have f3 : nmP ch (q + (numW n).length + 1) = q + (numW n).length + 1 + 2 := if_pos f2
    have f4 : nmV ch (q + (numW n).length + 1) = nI m := by
      unfold nmV
      rw [if_neg (fun y => y f1), if_pos f2, g1, g2, show nI (48 + m / 10) - 48 = nI (m / 10) from (pk_sub (a := 48 + m / 10) (b := 48) (by omega)).trans (congrArg nI (by omega)), show (10 : Int32) = nI 10 from rfl, pk_mul, nI_add]
      exact (pk_sub (a := 10 * (m / 10) + (48 + m % 10)) (b := 48) (by omega)).trans (congrArg nI (by omega))
    unfold clR nsR
    rw [if_pos d1, d2, if_neg (fun y => y g0), if_pos f1, f3, f4, d3, if_neg (nI_nlt hnm (by omega)), e]
    rfl
  · have h0 : ch q = nI (119 + n) := h.hd
    have hn4 := hb (by omega)
    obtain rfl := hm0 (by omega)
    unfold clR
    rw [h0, if_neg (dg_no (Or.inr (by omega)) (by omega)), if_neg (show ¬ nI (119 + n) = 33 from ne_n (b := 33) (by omega) (by omega) (by omega)), if_neg (show ¬ nI (119 + n) = 35 from ne_n (b := 35) (by omega) (by omega) (by omega)), if_neg (show ¬ nI (119 + n) = 42 from ne_n (b := 42) (by omega) (by omega) (by omega)), if_neg (show ¬ nI (119 + n) = 60 from ne_n (b := 60) (by omega) (by omega) (by omega)), if_neg (show ¬ nI (119 + n) = 62 from ne_n (b := 62) (by omega) (by omega) (by omega)), if_neg (show ¬ nI (119 + n) = 95 from ne_n (b := 95) (by omega) (by omega) (by omega)), if_pos (lt_yes hn4), lt_sub]
    rfl
  · have h0 : ch q = nI 60 := h.hd
    have h1 : ch (q + 1) = nI (119 + n) := h.tl.hd
    have hn4 := hb (by omega)
    obtain rfl := hm0 (by omega)
    unfold clR bdR
    rw [h0, if_neg (dg_no (Or.inr (by omega)) (by omega)), if_neg (by decide), if_neg (by decide), if_neg (by decide), if_pos (show nI 60 = 60 from rfl), h1, if_pos (lt_yes hn4), lt_sub]
    rfl
  · have h0 : ch q = nI 62 := h.hd
    have h1 : ch (q + 1) = nI (119 + n) := h.tl.hd
    have hn4 := hb (by omega)
    obtain rfl := hm0 (by omega)
    unfold clR bdR
    rw [h0, if_neg (dg_no (Or.inr (by omega)) (by omega)), if_neg (by decide), if_neg (by decide), if_neg (by decide), if_neg (by decide), if_pos (show nI 62 = 62 from rfl), h1, if_pos (lt_yes hn4), lt_sub]
    rfl
/-- the text of some cells -/
def txC : List ceT → List Nat
  | [] => []
  | [z] => celW z
  | z :: y :: L => celW z ++ 44 :: txC (y :: L)
/-- what is typed ahead of a cell -/
def sepW (L : List ceT) : List Nat := if L = [] then [] else [44]
theorem txC_snoc {z : ceT} : ∀ L : List ceT, txC (L ++ [z]) = txC L ++ sepW L ++ celW z
  | [] => rfl
  | [y] => by
    show celW y ++ 44 :: celW z = celW y ++ [44] ++ celW z
    rw [List.append_assoc]
    rfl
  | y :: x :: L => by
    have ih := txC_snoc (z := z) (x :: L)
    show celW y ++ 44 :: txC ((x :: L) ++ [z]) = (celW y ++ 44 :: txC (x :: L)) ++ sepW (y :: x :: L) ++ celW z
    rw [ih]
    have e : sepW (x :: L) = sepW (y :: x :: L) := rfl
    rw [e, List.append_assoc, List.append_assoc, List.append_assoc]
    rfl
theorem txC_len : ∀ (L : List ceT), (∀ z, z ∈ L → okC z) → (txC L).length ≤ 6 * L.length
  | [], _ => Nat.le_refl 0
  | [y], h => by
    have := (celW_len (h y List.mem_cons_self)).2
    show (celW y).length ≤ 6
    omega
  | y :: x :: L, h => by
    have h1 := (celW_len (h y List.mem_cons_self)).2
    have h2 := txC_len (x :: L) (fun z hz => h z (List.mem_cons_of_mem _ hz))
    show (celW y ++ 44 :: txC (x :: L)).length ≤ _
    rw [List.length_append, List.length_cons, List.length_cons]
    rw [List.length_cons] at h2
    rw [List.length_cons]
    omega
theorem hsW_of {T P Q : List Nat} : T = P ++ Q → ∀ R S : List Nat, Q = R ++ S → hsW (chL T) P.length R := fun h R S hR j hj => by
  subst h; subst hR
  unfold chL
  rw [if_pos (by rw [List.length_append, List.length_append]; omega), List.getD_eq_getElem?_getD, List.getElem?_append_right (by omega), show P.length + j - P.length = j by omega, List.getElem?_append_left hj, ← List.getD_eq_getElem?_getD]
/-- the text of cells is read as these cells -/
theorem tx_rd {T : List Nat} : ∀ (L : List ceT) (P : List Nat) (k : Nat), T = P ++ txC L → L ≠ [] → L.length ≤ k → (∀ z, z ∈ L → okC z) → psR (chL T) T.length k P.length = (0, 0, L.map ceI)
  | [], _, _, _, h, _, _ => absurd rfl h
  | _ :: _, _, 0, _, _, h, _ => absurd h (by rw [List.length_cons]; omega)
  | [z], P, k + 1, hT, _, _, hz => by
    have e := cel_rd (hz z List.mem_cons_self) (hsW_of (Q := celW z) hT (celW z) [] (List.append_nil _).symm) (Or.inl (chL_end (P := P ++ celW z) hT (by rw [List.length_append])))
    unfold psR
    rw [e, if_neg (fun y => y rfl), if_pos (by rw [hT]; show ¬ _ < (P ++ celW z).length; rw [List.length_append]; exact Nat.lt_irrefl _)]
    rfl
  | z :: y :: L, P, k + 1, hT, _, hk, hz => by
    have hc : T = (P ++ celW z) ++ 44 :: txC (y :: L) := by rw [hT, List.append_assoc]; rfl
    have h44 : chL T (P.length + (celW z).length) = nI 44 := chL_in hc (by rw [List.length_append])
    have e := cel_rd (hz z List.mem_cons_self) (hsW_of (Q := celW z ++ 44 :: txC (y :: L)) hT (celW z) _ rfl) (Or.inr h44)
    have ih := tx_rd (T := T) (y :: L) (P ++ celW z ++ [44]) k (by rw [hc, List.append_assoc _ [44]]; rfl) (fun h => by cases h) (by rw [List.length_cons] at hk; omega) (fun w hw => hz w (List.mem_cons_of_mem _ hw))
    have hk0 : ¬ k = 0 := by rw [List.length_cons, List.length_cons] at hk; omega
    unfold psR
    rw [e, if_neg (fun y => y rfl), if_neg (fun y => y (by rw [hc, List.length_append, List.length_append, List.length_cons]; show P.length + (celW z).length < _; omega)), if_neg (fun y => y h44), if_neg hk0]
    show ((psR (chL T) T.length k (P.length + (celW z).length + 1)).1, (psR (chL T) T.length k (P.length + (celW z).length + 1)).2.1, ceI z :: (psR (chL T) T.length k (P.length + (celW z).length + 1)).2.2) = _
    rw [show P.length + (celW z).length + 1 = (P ++ celW z ++ [44]).length by rw [List.length_append, List.length_append]; rfl, ih]
    rfl
/-! the text in the memory -/
def txP (M : mw_M) (T : List Nat) : Prop := M 653 = nI T.length ∧ T.length ≤ 60 ∧ ∀ j, j < T.length → M (1000 + j) = nI (T.getD j 0)
theorem txP.t {M : mw_M} {T : List Nat} (h : txP M T) : tN M = T.length := by
  have := h.2.1
  unfold tN
  rw [h.1]
  exact nI_clamp (by omega)
theorem txP.ch {M : mw_M} {T : List Nat} (h : txP M T) : chA M (tN M) = chL T := by
  funext j
  rw [h.t]
  unfold chA chL
  by_cases z : j < T.length
  · rw [if_pos z, if_pos z]
    exact h.2.2 j z
  · rw [if_neg z, if_neg z]
theorem txP.prs {M : mw_M} {L : List ceT} (h : txP M (txC L)) (hL : L ≠ []) (h4 : L.length ≤ 4) (hz : ∀ z, z ∈ L → okC z) : prsV M = (0, 0, L.map ceI) := by
  unfold prsV
  rw [h.ch, h.t]
  exact tx_rd L [] 4 rfl hL h4 hz
theorem txP.nil {M : mw_M} (h : M 653 = 0) : txP M [] := ⟨h, by decide, fun j hj => absurd hj (Nat.not_lt_zero j)⟩
theorem txP.eq {M M2 : mw_M} {T : List Nat} (h : txP M T) (e : ∀ q, q = 653 ∨ (1000 ≤ q ∧ q < 1060) → M2 q = M q) : txP M2 T := ⟨by rw [e _ (Or.inl rfl)]; exact h.1, h.2.1, fun j hj => by rw [e _ (Or.inr (by have := h.2.1; omega))]; exact h.2.2 j hj⟩
/-- the class's own state, but for text and scratch, and the law's numbers are as they were -/
def stP (M M2 : mw_M) : Prop := ∀ q, q < 651 ∨ 1100 ≤ q → M2 q = M q
theorem stP.rf {M : mw_M} : stP M M := fun _ _ => rfl
theorem stP.tr {M M2 M3 : mw_M} (h : stP M M2) (h2 : stP M2 M3) : stP M M3 := fun q hq => (h2 q hq).trans (h q hq)
theorem ty_step {Mi M2 : mw_M} {T : List Nat} {x : Int32} {n c : Nat} (hi : invV Mi) (ht : txP Mi T) (hn : T.length = n) (hl : n < 60) (h32 : 32 ≤ c) (h126 : c ≤ 126) (hq : x = (op_type Mi (nI c)).1 ∧ clO M2 (op_type Mi (nI c)).2) : x = nI (n + 1) ∧ invV M2 ∧ txP M2 (T ++ [c]) ∧ (T ++ [c]).length = n + 1 ∧ stP Mi M2 := by
  have hop : op_type Mi (nI c) = (nI (n + 1), upd (upd Mi (1000 + n) (nI c)) 653 (nI (n + 1))) := by
    unfold op_type
    rw [if_pos ⟨nI_nlt (b := 32) h32 (by omega), nI_nlt (a := 126) h126 (by omega)⟩, if_pos (by rw [ht.1, hn]; exact nI_lt (b := 60) hl (by omega)), ht.t, hn]
  have hok := op_type_ok hi (nI c)
  rw [hop] at hok hq
  obtain ⟨hx, hc⟩ := hq
  dsimp only at hx hc hok
  have hlen : (T ++ [c]).length = n + 1 := by rw [List.length_append, hn]; rfl
  refine ⟨hx, inv_cl hok.1 (fun q _ hq => hc q hq), ⟨?_, by omega, fun j hj => ?_⟩, hlen, fun q hq => ?_⟩
  · rw [hc _ (by unfold clS; omega), upd_s, hlen]
  · rw [hlen] at hj
    rw [hc _ (by unfold clS; omega), upd_o (by omega)]
    by_cases e : j = n
    · subst e
      rw [upd_s, List.getD_eq_getElem?_getD, List.getElem?_append_right (by omega), hn, Nat.sub_self]
      rfl
    · rw [upd_o (by omega), ht.2.2 j (by omega), List.getD_eq_getElem?_getD, List.getD_eq_getElem?_getD, List.getElem?_append_left (by omega)]
  · rw [hc _ (by unfold clS; omega), upd_o (by omega), upd_o (by omega)]
theorem ct_step {M M2 : mw_M} {x : Int32} (hi : invV M) (hq : x = (op_clearText M).1 ∧ clO M2 (op_clearText M).2) : x = M 653 ∧ invV M2 ∧ txP M2 [] ∧ stP M M2 := by
  obtain ⟨h1, h2⟩ := hq
  have hok := op_clearText_ok hi
  unfold op_clearText at h1 h2 hok
  dsimp only at h1 h2 hok
  refine ⟨h1, inv_cl hok.1 (fun q _ hq => h2 q hq), txP.nil (by rw [h2 _ (by unfold clS; omega), upd_s]), fun q hq => ?_⟩
  rw [h2 _ (by unfold clS; omega), upd_o (by omega)]
/-- the cells laid so far -/
def ceF (L : List ceT) (j : Nat) : celT := (L.map ceI).getD j (0, 0, 0)
theorem ceF_at {L : List ceT} {z : ceT} : ceF (L ++ [z]) L.length = (nI z.1, nI z.2.1, nI z.2.2) := by
  unfold ceF
  rw [List.map_append, List.getD_eq_getElem?_getD, List.getElem?_append_right (by rw [List.length_map]; omega), List.length_map, Nat.sub_self]
  rfl
theorem ceF_lo {L : List ceT} {z : ceT} {j : Nat} (h : j < L.length) : ceF (L ++ [z]) j = ceF L j := by
  unfold ceF
  rw [List.map_append, List.getD_eq_getElem?_getD, List.getElem?_append_left (by rw [List.length_map]; exact h), ← List.getD_eq_getElem?_getD]
theorem ceF_out {L : List ceT} {j : Nat} (h : L.length ≤ j) : ceF L j = (0, 0, 0) := by
  unfold ceF
  rw [List.getD_eq_getElem?_getD, List.getElem?_eq_none (by rw [List.length_map]; exact h)]
  rfl
theorem setC_c {S : mw_M} {d i : Nat} {f g : Nat → celT} (h : ∀ j, j < i → f j = g j) : setC S d f i = setC S d g i := by
  funext q
  unfold setC
  by_cases z : 100 + 12 * d ≤ q ∧ q < 100 + 12 * d + 3 * i
  · rw [if_pos z, if_pos z, h _ (by omega)]
  · rw [if_neg z, if_neg z]
theorem L_fault {Mi : mw_M} {L : List ceT} (h : prsV Mi = (0, 0, L.map ceI)) : op_fault Mi 0 = (-14, Mi) := by
  unfold op_fault
  rw [if_pos (Or.inl rfl), h]
  rfl
theorem L_read {M Mi : mw_M} (hi : invV Mi) (hwd : wdP M) (hs : ∀ q, q < 651 → Mi q = M q) {L : List ceT} {d wd : Nat} (hd : d < 2) (hw : M d = nI wd) (hw4 : wd ≤ 4) (hL : L.length ≤ wd) (hp : prsV Mi = (0, 0, L.map ceI)) (hr : lrel Mi (setC M d (ceF L) 4)) : (op_read Mi (nI d)).1 = manyI (redN Mi (nI d)) ∧ ∀ M2, clO M2 (op_read Mi (nI d)).2 → lin0 M2 ∧ manyI M2 = manyI (redN Mi (nI d)) ∧ M2 653 = Mi 653 := by
  have hop : op_read Mi (nI d) = (manyI (redN Mi (nI d)), redN Mi (nI d)) := by
    unfold op_read
    rw [if_pos (bit_d hd), hp, dN_d hd, if_pos ⟨rfl, by rw [hs _ (by omega), hw, List.length_map]; exact nI_nlt hL (by omega)⟩]
  have hok := op_read_ok hi (nI d)
  rw [hop] at hok ⊢
  dsimp only at hok ⊢
  have e : ∀ q, q < 130 → redN Mi (nI d) q = setC M d (ceF L) 4 q := fun q hq => by
    unfold redN
    rw [hp, dN_d hd]
    show exaS (kpS Mi) (100 + 12 * d) (L.map ceI) q = exaS M (100 + 12 * d) (L.map ceI) q
    unfold exaS
    split
    · rfl
    · exact (kpS_lo hq).trans (hs q (by omega))
  refine ⟨rfl, fun M2 hcl => ⟨lstep hok hcl (hr.cong (fun _ _ => rfl) e) (hwd.congr (fun q hq => (e q (by omega)).trans (setC_o (by omega)))), eqS.many (fun q hq => hcl q (by unfold clS; omega)) hok.1.1.wfR, ?_⟩⟩
  rw [cl_653 hcl]
  unfold redN
  rw [dN_d hd, exa_lo (by omega), kpS_hi (by omega)]
theorem L_readN {Mi : mw_M} {L : List ceT} {d wd : Nat} (hd : d < 2) (hw : Mi d = nI wd) (hw4 : wd ≤ 4) (hL4 : L.length ≤ 4) (hL : wd < L.length) (hp : prsV Mi = (0, 0, L.map ceI)) : op_read Mi (nI d) = (-12, Mi) := by
  unfold op_read
  rw [if_pos (bit_d hd), hp, dN_d hd, if_neg (fun z => z.2 (by rw [hw, List.length_map]; exact nI_lt hL (by omega)))]
