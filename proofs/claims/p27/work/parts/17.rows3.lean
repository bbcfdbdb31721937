/-! the order made by insertion; folds over the rows found -/
theorem valP_row {S : mw_M} {lo r : Nat} (hw : wfR S) (h : r ∈ lstS S lo) : r < 144 ∧ valP S (r / 12) (r % 12) := by
  obtain ⟨i, j, h1, h2, -, e⟩ := lstF_mem.mp h
  obtain ⟨hn, hn12⟩ := hw.1.n
  have hm := n1_le hw.2.1
  have ei : r / 12 = i := by omega
  have ej : r % 12 = j := by omega
  refine ⟨by omega, ?_⟩
  rw [ei, ej]
  refine ⟨by omega, by omega, ?_, fun e1 => ?_⟩
  · rw [show (2 : Nat) = 2 + 0 from rfl, hn]
    exact nI_ge h1 (by omega)
  · have e2 : n1 S = nN S 1 := by unfold n1; rw [if_pos e1]
    rw [show (3 : Nat) = 2 + 1 from rfl, (hw.2.1.n).1, ← e2]
    exact nI_ge h2 (by omega)
theorem lstS_len {S : mw_M} {lo : Nat} (hw : wfR S) : (lstS S lo).length ≤ 144 := by
  have := lstF_len (S := S) (lo := lo) (n1_le hw.2.1) (nN S 0)
  have h2 := hw.1.n.2
  unfold lstS
  omega
def kpos (S : mw_M) (r : Nat) (P : List Nat) : Nat → Nat
  | 0 => 0
  | k + 1 => if ahR S r (P.getD k 0) then kpos S r P k else k + 1
theorem kpos_le (S : mw_M) (r : Nat) (P : List Nat) : ∀ k, kpos S r P k ≤ k
  | 0 => Nat.le_refl 0
  | k + 1 => by
    unfold kpos
    split
    · have := kpos_le S r P k
      omega
    · omega
/-- r laid into P behind all that it isn't ahead of -/
def insS (S : mw_M) (r : Nat) (P : List Nat) : List Nat := P.take (kpos S r P P.length) ++ r :: P.drop (kpos S r P P.length)
def srtS (S : mw_M) (L : List Nat) : List Nat := L.foldl (fun P r => insS S r P) []
theorem insS_len {S : mw_M} {r : Nat} {P : List Nat} : (insS S r P).length = P.length + 1 := by
  unfold insS
  rw [List.length_append, List.length_cons, List.length_take, List.length_drop]
  have := kpos_le S r P P.length
  omega
theorem insS_get {S : mw_M} {r : Nat} {P : List Nat} {k j : Nat} (hk : kpos S r P P.length = k) : (insS S r P).getD j 0 = if j < k then P.getD j 0 else if j = k then r else P.getD (j - 1) 0 := by
  have hle := kpos_le S r P P.length
  unfold insS
  rw [hk] at hle ⊢
  rw [List.getD_eq_getElem?_getD, List.getD_eq_getElem?_getD, List.getD_eq_getElem?_getD]
  by_cases h1 : j < k
  · rw [if_pos h1, List.getElem?_append_left (by rw [List.length_take]; omega), List.getElem?_take, if_pos h1]
  · rw [if_neg h1, List.getElem?_append_right (by rw [List.length_take]; omega), List.length_take, Nat.min_eq_left hle]
    by_cases h2 : j = k
    · rw [if_pos h2, h2, Nat.sub_self]
      rfl
    · rw [if_neg h2, show j - k = (j - 1 - k) + 1 by omega, List.getElem?_cons_succ, List.getElem?_drop, show k + (j - 1 - k) = j - 1 by omega]
theorem insS_perm {S : mw_M} {r : Nat} {P : List Nat} : (insS S r P).Perm (r :: P) := by
  unfold insS
  refine (List.perm_middle).trans ?_
  rw [List.take_append_drop]
theorem srt_snoc {S : mw_M} {L : List Nat} {r : Nat} : srtS S (L ++ [r]) = insS S r (srtS S L) := by
  unfold srtS
  rw [List.foldl_append]
  rfl
theorem srt_go {S : mw_M} : ∀ (L P : List Nat), (L.foldl (fun P r => insS S r P) P).Perm (P ++ L)
  | [], P => by rw [List.append_nil]; exact List.Perm.refl P
  | r :: L, P => by
    rw [List.foldl_cons]
    refine (srt_go L (insS S r P)).trans ?_
    refine ((insS_perm (S := S) (r := r) (P := P)).append_right L).trans ?_
    exact (List.perm_middle (l₁ := P) (a := r) (l₂ := L)).symm
theorem srt_perm {S : mw_M} {L : List Nat} : (srtS S L).Perm L := srt_go L []
theorem srt_len {S : mw_M} {L : List Nat} : (srtS S L).length = L.length := srt_perm.length_eq
theorem take_snoc {L : List Nat} {i : Nat} (h : i < L.length) : L.take (i + 1) = L.take i ++ [L.getD i 0] := by
  rw [List.take_succ, List.getD_eq_getElem?_getD, List.getElem?_eq_getElem h]
  rfl
theorem getD_mem {L : List Nat} {i : Nat} (h : i < L.length) : L.getD i 0 ∈ L := by
  rw [List.getD_eq_getElem?_getD, List.getElem?_eq_getElem h]
  exact List.getElem_mem h
theorem getD_take {L : List Nat} {i j : Nat} (h : j < i) : (L.take i).getD j 0 = L.getD j 0 := by
  rw [List.getD_eq_getElem?_getD, List.getD_eq_getElem?_getD, List.getElem?_take, if_pos h]
theorem row_eq {r : Nat} : nI r = nI (12 * (r / 12) + r % 12) := congrArg nI (by omega)
theorem eqS.kps {S S2 : mw_M} (h : eqS S S2) (h1 : szP S 1) {r : Nat} {P : List Nat} (hr : r < 144) (hP : ∀ x, x ∈ P → x < 144) : ∀ k, k ≤ P.length → kpos S2 r P k = kpos S r P k
  | 0, _ => rfl
  | k + 1, hk => by
    show (if ahR S2 r (P.getD k 0) then _ else _) = (if ahR S r (P.getD k 0) then _ else _)
    rw [h.ahr h1 hr (hP _ (getD_mem (by omega))), eqS.kps h h1 hr hP k (by omega)]
def noneB (f : Nat → Int32) (x : Int32) (n : Nat) : Bool := decide (∀ j, j < n → ¬ f j = x)
/-- how many unlike values there are among the first n (blanks apart) -/
def dcF (f : Nat → Int32) : Nat → Nat
  | 0 => 0
  | n + 1 => if f n = -1 then dcF f n else dcF f n + (if noneB f (f n) n then 1 else 0)
def svC (f : Nat → Int32) : Nat → Nat := cntB (fun i => decide (¬ f i = -1))
def svS (f : Nat → Int32) : Nat → Int32
  | 0 => 0
  | n + 1 => if f n = -1 then svS f n else svS f n + f n
def svL (f : Nat → Int32) : Nat → Int32
  | 0 => -14
  | n + 1 => if f n = -1 then svL f n else if svC f n = 0 then f n else if f n < svL f n then f n else svL f n
def svG (f : Nat → Int32) : Nat → Int32
  | 0 => -14
  | n + 1 => if f n = -1 then svG f n else if svC f n = 0 then f n else if svG f n < f n then f n else svG f n
def csF (f : Nat → Int32) : Nat → Int32
  | 0 => 0
  | n + 1 => csF f n ||| ((1 : Int32) <<< (f n &&& 31))
theorem dcF_le (f : Nat → Int32) : ∀ n, dcF f n ≤ n
  | 0 => Nat.le_refl 0
  | n + 1 => by
    have := dcF_le f n
    unfold dcF
    split
    · omega
    · split <;> omega
/-- a mark stands for each value that was there -/
def mrkI (M1 : mw_M) (f : Nat → Int32) (n : Nat) : Prop := ∀ w, w < 144 → M1 (850 + w) = if noneB f (nI w) n then 0 else 1
theorem noneB_s {f : Nat → Int32} {x : Int32} {n : Nat} : noneB f x (n + 1) = (noneB f x n && decide (¬ f n = x)) := by
  unfold noneB
  rw [Bool.eq_iff_iff]
  simp only [decide_eq_true_eq, Bool.and_eq_true]
  constructor
  · intro h
    exact ⟨fun j hj => h j (by omega), h n (by omega)⟩
  · rintro ⟨h1, h2⟩ j hj
    by_cases e : j = n
    · rw [e]; exact h2
    · exact h1 j (by omega)
theorem mrkI.mark {M1 : mw_M} {f : Nat → Int32} {n w : Nat} (h : mrkI M1 f n) (hw : w < 144) (hf : f n = nI w) : mrkI (upd M1 (850 + w) 1) f (n + 1) := by
  intro v hv
  rw [noneB_s]
  by_cases e : v = w
  · subst e
    rw [upd_s, hf, show decide (¬ nI v = nI v) = false by simp, Bool.and_false]
    rfl
  · rw [upd_o (by omega), h v hv]
    have hne : ¬ f n = nI v := by
      rw [hf, nI_eq (by omega) (by omega)]
      omega
    simp [hne]
theorem mrkI.skip {M1 : mw_M} {f : Nat → Int32} {n : Nat} (h : mrkI M1 f n) (hf : f n = -1) : mrkI M1 f (n + 1) := by
  intro v hv
  rw [noneB_s, h v hv]
  have hne : ¬ f n = nI v := by
    rw [hf]
    intro e
    have := congrArg Int32.toInt e
    rw [nI_toInt (by omega)] at this
    exact absurd this (by simp)
  simp [hne]
/-- alike cards: the first that is shown as a card is -/
def alB (p : Nat → Bool) : Nat → Bool
  | 0 => true
  | n + 1 => alB p n && p n
def fsN (p : Nat → Bool) : Nat → Nat
  | 0 => 0
  | n + 1 => if fsN p n < n then fsN p n else if p n then n else n + 1
theorem fsN_no {p : Nat → Bool} : ∀ n, (∀ j, j < n → p j = false) → fsN p n = n
  | 0, _ => rfl
  | n + 1, h => by
    unfold fsN
    rw [fsN_no n (fun j hj => h j (by omega)), if_neg (Nat.lt_irrefl n), h n (by omega)]
    rfl
theorem fsN_yes {p : Nat → Bool} {k : Nat} (h : ∀ j, j < k → p j = false) (hp : p k = true) : ∀ n, k < n → fsN p n = k
  | 0, hk => absurd hk (Nat.not_lt_zero k)
  | n + 1, hk => by
    unfold fsN
    by_cases e : k = n
    · subst e
      rw [fsN_no k h, if_neg (Nat.lt_irrefl k), hp]
      rfl
    · rw [fsN_yes h hp n (by omega), if_pos (by omega)]
theorem fsN_le (p : Nat → Bool) : ∀ n, fsN p n ≤ n
  | 0 => Nat.le_refl 0
  | n + 1 => by
    have := fsN_le p n
    unfold fsN
    split
    · omega
    · split <;> omega
def alkC (S : mw_M) (d j k c : Nat) : Bool := decide (entI S d (nI j) (nI c) = entI S d (nI k) (nI c)) || decide (¬ shwP S (nI (4 * d + c)))
def alkS (S : mw_M) (d j k : Nat) : Bool := alB (alkC S d j k) 4
def faS (S : mw_M) (d k : Nat) : Nat := fsN (fun j => alkS S d j k) k
/-- the number by which alike rows are told -/
def keyS (S : mw_M) (r : Nat) : Nat := 12 * faS S 0 (r / 12) + faS S 1 (r % 12)
theorem eqS.ent {S S2 : mw_M} (h : eqS S S2) {d : Nat} (hd : d < 2) {j c : Nat} (hj : j < 12) (hc : c < 4) : entI S2 d (nI j) (nI c) = entI S d (nI j) (nI c) := by
  unfold entI hkP hcP
  rw [h d (by omega), h (2 + d) (by omega), nI_clamp (by omega), nI_clamp (by omega), h (4 + 48 * d + (4 * j + c)) (by omega)]

/-- the array of the rows found, as the inner loop of inOrder has it: the place k is free -/
def ordI (M M1 : mw_M) (L P : List Nat) (i k : Nat) : Prop := (∀ q, ¬ (700 ≤ q ∧ q < 844) → M1 q = M q) ∧ ∀ j, j < L.length → ¬ j = k → M1 (700 + j) = nI (if j < k then P.getD j 0 else if j ≤ i then P.getD (j - 1) 0 else L.getD j 0)
def ordO (M M1 : mw_M) (L : List Nat) (i : Nat) : Prop := (∀ q, ¬ (700 ≤ q ∧ q < 844) → M1 q = M q) ∧ ∀ j, j < L.length → M1 (700 + j) = nI (if j < i then (srtS M (L.take i)).getD j 0 else L.getD j 0)
theorem ordO.eq {M M1 : mw_M} {L : List Nat} {i : Nat} (h : ordO M M1 L i) : eqS M M1 := fun q hq => h.1 q (by omega)
theorem ordI.eq {M M1 : mw_M} {L P : List Nat} {i k : Nat} (h : ordI M M1 L P i k) : eqS M M1 := fun q hq => h.1 q (by omega)
theorem ordO.open_ {M M1 : mw_M} {L : List Nat} {i : Nat} (h : ordO M M1 L i) : ordI M M1 L (srtS M (L.take i)) i i := by
  refine ⟨h.1, fun j hj hji => ?_⟩
  rw [h.2 j hj]
  by_cases z : j < i
  · rw [if_pos z, if_pos z]
  · rw [if_neg z, if_neg z, if_neg (by omega)]
theorem ordI.step {M M1 : mw_M} {L P : List Nat} {i k : Nat} (h : ordI M M1 L P i (k + 1)) (hL : L.length ≤ 144) (hk : k + 1 ≤ i) (hi : i < L.length) : ordI M (upd M1 (700 + 1 * (k + 1)) (M1 (700 + 1 * k))) L P i k := by
  refine ⟨fun q hq => by rw [upd_o (by omega)]; exact h.1 q hq, fun j hj hjk => ?_⟩
  by_cases e : j = k + 1
  · subst e
    rw [Nat.one_mul, upd_s, Nat.one_mul, h.2 k (by omega) (by omega), if_pos (by omega), if_neg (by omega), if_pos (by omega), Nat.add_sub_cancel]
  · rw [upd_o (by omega), h.2 j hj e]
    by_cases z : j < k
    · rw [if_pos (by omega), if_pos z]
    · rw [if_neg (by omega), if_neg z]
theorem ordI.close {M M1 : mw_M} {L : List Nat} {i k : Nat} (h : ordI M M1 L (srtS M (L.take i)) i k) (hi : i < L.length) (hL : L.length ≤ 144) (hk : kpos M (L.getD i 0) (srtS M (L.take i)) (srtS M (L.take i)).length = k) : ordO M (upd M1 (700 + 1 * k) (nI (L.getD i 0))) L (i + 1) := by
  have hki : k ≤ i := by
    have := kpos_le M (L.getD i 0) (srtS M (L.take i)) (srtS M (L.take i)).length
    rw [hk, srt_len, List.length_take] at this
    omega
  refine ⟨fun q hq => by rw [upd_o (by omega)]; exact h.1 q hq, fun j hj => ?_⟩
  rw [take_snoc hi, srt_snoc, insS_get hk]
  by_cases e : j = k
  · subst e
    rw [Nat.one_mul, upd_s, if_pos (by omega), if_neg (Nat.lt_irrefl j), if_pos rfl]
  · rw [upd_o (by omega), h.2 j hj e]
    by_cases z : j < k
    · rw [if_pos z, if_pos (by omega), if_pos z]
    · rw [if_neg z]
      by_cases z2 : j ≤ i
      · rw [if_pos z2, if_pos (by omega), if_neg z, if_neg e]
      · rw [if_neg z2, if_neg (by omega)]
theorem iX5_inOrder_X5 : ∀ w ∈ u_ws RX5 TX5 6, w ∈ wsX5_inOrder := fun w hw => (List.mem_cons_of_mem _ (List.mem_append_left _ (List.mem_append_left _ (List.mem_append_left _ (List.mem_append_right _ hw)))))
set_option maxRecDepth 100000 in
set_option maxHeartbeats 4000000 in
theorem lp_X5_inOrder_in {p : Program} {l : Launch} {e : Env} {s : State} {m : MethodId} {args : Array Value} {below : List Frame} {meth : Method} {c : Code} {G : mw_GG} {Q : State → Prop} (C : vv_C p s m args c G cX5_inOrder 5 wsX5_inOrder RX5) (M : mw_M) (hw : wfR M) {L : List Nat} (hL : L.length ≤ 144) (hV : ∀ r, r ∈ L → r < 144 ∧ valP M (r / 12) (r % 12)) {ix i : Nat} (hi : i < L.length) (hk : ∀ M1, ordO M M1 L (i + 1) → vv p l e ({ frames := 5, cells := 0, slots := 0, locals := 113 } : Room) s m args below meth c G 0 0 Q M1 82 [some (.ref (G.1 126)), some (.int (nI ix)), some (.int (nI i)), some (.int (nI (L.getD i 0))), none] []) : ∀ (k : Nat) (M1 : mw_M), k ≤ i → kpos M (L.getD i 0) (srtS M (L.take i)) k = kpos M (L.getD i 0) (srtS M (L.take i)) (srtS M (L.take i)).length → ordI M M1 L (srtS M (L.take i)) i k → vv p l e ({ frames := 5, cells := 0, slots := 0, locals := 113 } : Room) s m args below meth c G 0 0 Q M1 22 [some (.ref (G.1 126)), some (.int (nI ix)), some (.int (nI i)), some (.int (nI (L.getD i 0))), some (.int (nI k))] [] := by
  intro k
  induction k with
  | zero =>
    intro M1 h1 hkp hI
    refine vv_iload C 4 dX5_inOrder_22 rfl ?_
    refine vv_if_le C 72 dX5_inOrder_24 (by decide) (fun h_2 => ?_) (fun h_1 => absurd (show nI 0 ≤ 0 by decide) h_1)
    refine vv_aload_n C 0 dX5_inOrder_72 rfl rfl ?_
    refine vv_getr C (Cn := RX5) (T := TX5) (N := 6) sh_126 1 rfl rfl (by decide) iX5_inOrder_X5 (List.mem_of_getElem? (i := 2) rfl) rfl dX5_inOrder_73 ?_
    refine vv_iload C 4 dX5_inOrder_76 rfl ?_
    refine vv_iload_n C 3 dX5_inOrder_78 rfl rfl ?_
    refine vv_callVV C [.int (nI 0), .int (nI (L.getD i 0))] (c_X3_set nu_127 M1 (i := (nI 0)) (j := 0) rfl (by omega) (nI (L.getD i 0))) nu_127.1 rfl (cwV 2 C.1.2.2.2.2 gX5_inOrder_X3_set rfl rfl rfl (by decide +kernel) ⟨Nat.le_of_ble_eq_true rfl, Nat.le_of_ble_eq_true rfl⟩) rfl rfl rfl (Nat.le_of_ble_eq_true rfl) dX5_inOrder_79 ⟨Nat.le_refl _, Nat.le_refl _⟩ ?_
    refine vv_keep (ls2 := [some (.ref (G.1 126)), some (.int (nI ix)), some (.int (nI i)), some (.int (nI (L.getD i 0))), none]) ⟨rfl, rfl, rfl, rfl, trivial⟩ ?_
    exact hk _ (hI.close hi hL (hkp.symm.trans rfl))
  | succ k ih =>
    intro M1 h1 hkp hI
    refine vv_iload C 4 dX5_inOrder_22 rfl ?_
    refine vv_if_le C 72 dX5_inOrder_24 (by decide) (fun h_1 => absurd h_1 (nI_nle (Nat.succ_pos k) (by omega))) (fun h_2 => ?_)
    have hPl : (srtS M (L.take i)).length = i := by rw [srt_len, List.length_take]; omega
    have hPk : (srtS M (L.take i)).getD k 0 ∈ L := List.mem_of_mem_take (srt_perm.mem_iff.mp (getD_mem (by omega)))
    have hah : ahdS M1 (L.getD i 0 / 12) (L.getD i 0 % 12) ((srtS M (L.take i)).getD k 0 / 12) ((srtS M (L.take i)).getD k 0 % 12) = ahR M (L.getD i 0) ((srtS M (L.take i)).getD k 0) := hI.eq.ahr hw.2.1 (hV _ (getD_mem hi)).1 (hV _ hPk).1
    refine vv_aload_n C 0 dX5_inOrder_27 rfl rfl ?_
    refine vv_iload_n C 3 dX5_inOrder_28 rfl rfl ?_
    refine vv_aload_n C 0 dX5_inOrder_29 rfl rfl ?_
    refine vv_getr C (Cn := RX5) (T := TX5) (N := 6) sh_126 1 rfl rfl (by decide) iX5_inOrder_X5 (List.mem_of_getElem? (i := 2) rfl) rfl dX5_inOrder_30 ?_
    refine vv_iload C 4 dX5_inOrder_33 rfl ?_
    refine vv_iconst (v := 1) C dX5_inOrder_35 (by decide) ?_
    refine vv_isub C dX5_inOrder_36 ?_
    refine vv_top (y := nI k) (show nI (k + 1) - 1 = nI k from pk_sub (b := 1) (by omega)) ?_
    refine vv_callVI C [.int (nI k)] (c_X3_at nu_127 M1 (i := (nI k)) (j := k) rfl (by omega)) nu_127.1 rfl (cwV 1 C.1.2.2.2.2 gX5_inOrder_X3_at rfl rfl rfl (by decide +kernel) ⟨Nat.le_of_ble_eq_true rfl, Nat.le_of_ble_eq_true rfl⟩) rfl rfl rfl (Nat.le_of_ble_eq_true rfl) dX5_inOrder_37 ⟨Nat.le_refl _, Nat.le_refl _⟩ ?_
    refine vv_top (y := nI ((srtS M (L.take i)).getD k 0)) (by rw [Nat.one_mul, hI.2 k (by omega) (by omega), if_pos (by omega)]) ?_
    refine vv_callVI C [.int (nI (L.getD i 0)), .int (nI ((srtS M (L.take i)).getD k 0))] (c_X5_isAhead M1 (hI.eq.wf hw) (f := (L.getD i 0 / 12)) (g := (L.getD i 0 % 12)) (f2 := ((srtS M (L.take i)).getD k 0 / 12)) (g2 := ((srtS M (L.take i)).getD k 0 % 12)) (hI.eq.val (hV _ (getD_mem hi)).2) (hI.eq.val (hV _ hPk).2) (y := (nI (L.getD i 0))) (z := (nI ((srtS M (L.take i)).getD k 0))) row_eq row_eq) sh_126 rfl (cwV 2 C.1.2.2.2.2 gX5_inOrder_X5_isAhead rfl rfl rfl (by decide +kernel) ⟨Nat.le_of_ble_eq_true rfl, Nat.le_of_ble_eq_true rfl⟩) rfl rfl rfl (Nat.le_of_ble_eq_true rfl) dX5_inOrder_40 ⟨Nat.le_refl _, Nat.le_refl _⟩ ?_
    refine vv_bif_eq C 72 dX5_inOrder_43 (by decide) (fun h_nah => ?_) (fun h_ah => ?_)
    · have hnk : kpos M (L.getD i 0) (srtS M (L.take i)) (k + 1) = k + 1 := by
        show (if ahR M (L.getD i 0) ((srtS M (L.take i)).getD k 0) then _ else _) = _
        rw [if_neg (fun z => h_nah (hah.trans z))]
      refine vv_aload_n C 0 dX5_inOrder_72 rfl rfl ?_
      refine vv_getr C (Cn := RX5) (T := TX5) (N := 6) sh_126 1 rfl rfl (by decide) iX5_inOrder_X5 (List.mem_of_getElem? (i := 2) rfl) rfl dX5_inOrder_73 ?_
      refine vv_iload C 4 dX5_inOrder_76 rfl ?_
      refine vv_iload_n C 3 dX5_inOrder_78 rfl rfl ?_
      refine vv_callVV C [.int (nI (k + 1)), .int (nI (L.getD i 0))] (c_X3_set nu_127 M1 (i := (nI (k + 1))) (j := (k + 1)) rfl (by omega) (nI (L.getD i 0))) nu_127.1 rfl (cwV 2 C.1.2.2.2.2 gX5_inOrder_X3_set rfl rfl rfl (by decide +kernel) ⟨Nat.le_of_ble_eq_true rfl, Nat.le_of_ble_eq_true rfl⟩) rfl rfl rfl (Nat.le_of_ble_eq_true rfl) dX5_inOrder_79 ⟨Nat.le_refl _, Nat.le_refl _⟩ ?_
      refine vv_keep (ls2 := [some (.ref (G.1 126)), some (.int (nI ix)), some (.int (nI i)), some (.int (nI (L.getD i 0))), none]) ⟨rfl, rfl, rfl, rfl, trivial⟩ ?_
      exact hk _ (hI.close hi hL (hkp.symm.trans hnk))
    · have hyk : kpos M (L.getD i 0) (srtS M (L.take i)) (k + 1) = kpos M (L.getD i 0) (srtS M (L.take i)) k := by
        show (if ahR M (L.getD i 0) ((srtS M (L.take i)).getD k 0) then _ else _) = _
        rw [if_pos (hah.symm.trans h_ah)]
      refine vv_aload_n C 0 dX5_inOrder_46 rfl rfl ?_
      refine vv_getr C (Cn := RX5) (T := TX5) (N := 6) sh_126 1 rfl rfl (by decide) iX5_inOrder_X5 (List.mem_of_getElem? (i := 2) rfl) rfl dX5_inOrder_47 ?_
      refine vv_iload C 4 dX5_inOrder_50 rfl ?_
      refine vv_aload_n C 0 dX5_inOrder_52 rfl rfl ?_
      refine vv_getr C (Cn := RX5) (T := TX5) (N := 6) sh_126 1 rfl rfl (by decide) iX5_inOrder_X5 (List.mem_of_getElem? (i := 2) rfl) rfl dX5_inOrder_53 ?_
      refine vv_iload C 4 dX5_inOrder_56 rfl ?_
      refine vv_iconst (v := 1) C dX5_inOrder_58 (by decide) ?_
      refine vv_isub C dX5_inOrder_59 ?_
      refine vv_top (y := nI k) (show nI (k + 1) - 1 = nI k from pk_sub (b := 1) (by omega)) ?_
      refine vv_callVI C [.int (nI k)] (c_X3_at nu_127 M1 (i := (nI k)) (j := k) rfl (by omega)) nu_127.1 rfl (cwV 1 C.1.2.2.2.2 gX5_inOrder_X3_at rfl rfl rfl (by decide +kernel) ⟨Nat.le_of_ble_eq_true rfl, Nat.le_of_ble_eq_true rfl⟩) rfl rfl rfl (Nat.le_of_ble_eq_true rfl) dX5_inOrder_60 ⟨Nat.le_refl _, Nat.le_refl _⟩ ?_
      refine vv_callVV C [.int (nI (k + 1)), .int (M1 (700 + 1 * k))] (c_X3_set nu_127 M1 (i := (nI (k + 1))) (j := (k + 1)) rfl (by omega) (M1 (700 + 1 * k))) nu_127.1 rfl (cwV 2 C.1.2.2.2.2 gX5_inOrder_X3_set rfl rfl rfl (by decide +kernel) ⟨Nat.le_of_ble_eq_true rfl, Nat.le_of_ble_eq_true rfl⟩) rfl rfl rfl (Nat.le_of_ble_eq_true rfl) dX5_inOrder_63 ⟨Nat.le_refl _, Nat.le_refl _⟩ ?_
      refine vv_iinc (v := nI k) (ls2 := [some (.ref (G.1 126)), some (.int (nI ix)), some (.int (nI i)), some (.int (nI (L.getD i 0))), some (.int (nI k))]) C 4 dX5_inOrder_66 rfl (pk_m1 k) rfl ?_
      refine vv_goto C 22 dX5_inOrder_69 (by decide) ?_
      exact ih _ (by omega) (by rw [← hkp]; exact hyk.symm) (hI.step hL h1 hi)
set_option maxRecDepth 100000 in
set_option maxHeartbeats 4000000 in
theorem lp_X5_inOrder_out {p : Program} {l : Launch} {e : Env} {s : State} {m : MethodId} {args : Array Value} {below : List Frame} {meth : Method} {c : Code} {G : mw_GG} {Q : State → Prop} (C : vv_C p s m args c G cX5_inOrder 5 wsX5_inOrder RX5) (M : mw_M) (hw : wfR M) {L : List Nat} (hL : L.length ≤ 144) (hV : ∀ r, r ∈ L → r < 144 ∧ valP M (r / 12) (r % 12)) {ix : Nat} (hn : M 651 = nI L.length) (hk : ∀ M1, ordO M M1 L L.length → vv p l e ({ frames := 5, cells := 0, slots := 0, locals := 113 } : Room) s m args below meth c G 0 0 Q M1 88 [some (.ref (G.1 126)), some (.int (nI ix)), none, none, none] []) : ∀ (f i : Nat) (M1 : mw_M), L.length + 2 ≤ i + f → 1 ≤ i → (i ≤ L.length ∨ i = 1) → ordO M M1 L i → vv p l e ({ frames := 5, cells := 0, slots := 0, locals := 113 } : Room) s m args below meth c G 0 0 Q M1 2 [some (.ref (G.1 126)), some (.int (nI ix)), some (.int (nI i)), none, none] [] := by
  intro f
  induction f with
  | zero => intro i M1 h1 h2 h3 _; omega
  | succ f ih =>
    intro i M1 h1 h2 h3 hI
    refine vv_iload_n C 2 dX5_inOrder_2 rfl rfl ?_
    refine vv_aload_n C 0 dX5_inOrder_3 rfl rfl ?_
    refine vv_geti C (Cn := RX5) (T := TX5) (N := 6) sh_126 4 rfl rfl (by decide) iX5_inOrder_X5 (List.mem_of_getElem? (i := 1) rfl) rfl dX5_inOrder_4 ?_
    refine vv_top (y := nI L.length) (by rw [hI.1 651 (by omega)]; exact hn) ?_
    refine vv_icmp_ge C 88 dX5_inOrder_7 (by decide) (fun hge => ?_) (fun hlt => ?_)
    · have hge2 : L.length ≤ i := by
        rcases Nat.lt_or_ge i L.length with z | z
        · exact absurd hge (nI_ge z (by omega))
        · exact z
      refine vv_keep (ls2 := [some (.ref (G.1 126)), some (.int (nI ix)), none, none, none]) ⟨rfl, rfl, trivial⟩ ?_
      refine hk M1 ⟨hI.1, fun j hj => ?_⟩
      rw [hI.2 j hj, if_pos (by omega), if_pos hj, List.take_of_length_le hge2, List.take_of_length_le (Nat.le_refl _)]
    · have hi2 : i < L.length := by
        rcases Nat.lt_or_ge i L.length with z | z
        · exact z
        · exact absurd (nI_le z (by omega)) hlt
      refine vv_aload_n C 0 dX5_inOrder_10 rfl rfl ?_
      refine vv_getr C (Cn := RX5) (T := TX5) (N := 6) sh_126 1 rfl rfl (by decide) iX5_inOrder_X5 (List.mem_of_getElem? (i := 2) rfl) rfl dX5_inOrder_11 ?_
      refine vv_iload_n C 2 dX5_inOrder_14 rfl rfl ?_
      refine vv_callVI C [.int (nI i)] (c_X3_at nu_127 M1 (i := (nI i)) (j := i) rfl (by omega)) nu_127.1 rfl (cwV 1 C.1.2.2.2.2 gX5_inOrder_X3_at rfl rfl rfl (by decide +kernel) ⟨Nat.le_of_ble_eq_true rfl, Nat.le_of_ble_eq_true rfl⟩) rfl rfl rfl (Nat.le_of_ble_eq_true rfl) dX5_inOrder_15 ⟨Nat.le_refl _, Nat.le_refl _⟩ ?_
      refine vv_top (y := nI (L.getD i 0)) (by rw [Nat.one_mul, hI.2 i hi2, if_neg (Nat.lt_irrefl i)]) ?_
      refine vv_istore_n (ls2 := [some (.ref (G.1 126)), some (.int (nI ix)), some (.int (nI i)), some (.int (nI (L.getD i 0))), none]) C 3 dX5_inOrder_18 rfl (Nat.le_of_ble_eq_true rfl) rfl ?_
      refine vv_iload_n C 2 dX5_inOrder_19 rfl rfl ?_
      refine vv_istore (ls2 := [some (.ref (G.1 126)), some (.int (nI ix)), some (.int (nI i)), some (.int (nI (L.getD i 0))), some (.int (nI i))]) C 4 dX5_inOrder_20 (Nat.le_of_ble_eq_true rfl) rfl ?_
      refine lp_X5_inOrder_in C M hw hL hV hi2 (fun M2 hI2 => ?_) i M1 (Nat.le_refl i) (by rw [srt_len, List.length_take, Nat.min_eq_left (by omega)]) hI.open_
      refine vv_iinc (v := nI (i + 1)) (ls2 := [some (.ref (G.1 126)), some (.int (nI ix)), some (.int (nI (i + 1))), some (.int (nI (L.getD i 0))), none]) C 2 dX5_inOrder_82 rfl (nI_1 _) rfl ?_
      refine vv_goto C 2 dX5_inOrder_85 (by decide) ?_
      refine vv_keep (ls2 := [some (.ref (G.1 126)), some (.int (nI ix)), some (.int (nI (i + 1))), none, none]) ⟨rfl, rfl, rfl, trivial⟩ ?_
      exact ih (i + 1) M2 (by omega) (by omega) (by omega) hI2
set_option maxRecDepth 100000 in
set_option maxHeartbeats 4000000 in
theorem c_X5_inOrder {l : Launch} {G : mw_GG} (M : mw_M) (hw : wfR M) {L : List Nat} (hL : L.length ≤ 144) (hV : ∀ r, r ∈ L → r < 144 ∧ valP M (r / 12) (r % 12)) (hn : M 651 = nI L.length) (hA : ∀ j, j < L.length → M (700 + j) = nI (L.getD j 0)) {ix : Nat} (hix : ix < L.length) {x : Int32} (hx : x = nI ix) : mw_Met l yX5_inOrder wsX5_inOrder ({ frames := 5, cells := 0, slots := 0, locals := 113 } : Room) G [.ref (G.1 126), .int x] M (qIP (fun r M2 => r = nI ((srtS M L).getD ix 0) ∧ ∀ q, ¬ (700 ≤ q ∧ q < 844) → M2 q = M q)) := by
  refine mw_ofV (cc := cX5_inOrder) 5 (by decide) rfl rfl (Nat.le_of_ble_eq_true rfl) ?_
  intro p e s m args below meth c C hR hN0
  subst hx
  refine vv_loc (ls2 := [some (.ref (G.1 126)), some (.int (nI ix)), none, none, none]) rfl ?_
  refine vv_iconst (v := 1) C dX5_inOrder_0 (by decide) ?_
  refine vv_istore_n (ls2 := [some (.ref (G.1 126)), some (.int (nI ix)), some (.int 1), none, none]) C 2 dX5_inOrder_1 rfl (Nat.le_of_ble_eq_true rfl) rfl ?_
  refine vv_loc (ls2 := [some (.ref (G.1 126)), some (.int (nI ix)), some (.int (nI 1)), none, none]) rfl ?_
  refine lp_X5_inOrder_out C M hw hL hV hn (fun M2 hI2 => ?_) (L.length + 1) 1 M (by omega) (by omega) (Or.inr rfl) ⟨fun q _ => rfl, fun j hj => ?_⟩
  · refine vv_aload_n C 0 dX5_inOrder_88 rfl rfl ?_
    refine vv_getr C (Cn := RX5) (T := TX5) (N := 6) sh_126 1 rfl rfl (by decide) iX5_inOrder_X5 (List.mem_of_getElem? (i := 2) rfl) rfl dX5_inOrder_89 ?_
    refine vv_iload_n C 1 dX5_inOrder_92 rfl rfl ?_
    refine vv_callVI C [.int (nI ix)] (c_X3_at nu_127 M2 (i := nI ix) (j := ix) rfl (by omega)) nu_127.1 rfl (cwV 1 C.1.2.2.2.2 gX5_inOrder_X3_at rfl rfl rfl (by decide +kernel) ⟨Nat.le_of_ble_eq_true rfl, Nat.le_of_ble_eq_true rfl⟩) rfl rfl rfl (Nat.le_of_ble_eq_true rfl) dX5_inOrder_93 ⟨Nat.le_refl _, Nat.le_refl _⟩ ?_
    exact vv_iret C hR dX5_inOrder_96 (qIP_of ⟨by rw [Nat.one_mul, hI2.2 ix hix, if_pos hix, List.take_of_length_le (Nat.le_refl _)], hI2.1⟩)
  · rw [hA j hj]
    by_cases z : j < 1
    · rw [if_pos z, show j = 0 by omega, take_snoc (by omega)]
      rfl
    · rw [if_neg z]
theorem iX5_markNew_X5 : ∀ w ∈ u_ws RX5 TX5 6, w ∈ wsX5_markNew := fun w hw => (List.mem_cons_of_mem _ (List.mem_append_left _ (List.mem_append_right _ hw)))
set_option maxRecDepth 100000 in
set_option maxHeartbeats 4000000 in
theorem c_X5_markNew {l : Launch} {G : mw_GG} (M : mw_M) {j : Nat} (hj : j < 144) {x : Int32} (hx : x = nI j) : mw_Met l yX5_markNew wsX5_markNew ({ frames := 1, cells := 0, slots := 0, locals := 22 } : Room) G [.ref (G.1 126), .int x] M (qI (if M (850 + j) = 0 then 1 else 0) (upd M (850 + j) 1)) := by
  refine mw_ofV (cc := cX5_markNew) 3 (by decide) rfl rfl (Nat.le_of_ble_eq_true rfl) ?_
  intro p e s m args below meth c C hR hN0
  refine vv_loc (ls2 := [some (.ref (G.1 126)), some (.int x), none]) rfl ?_
  refine vv_aload_n C 0 dX5_markNew_0 rfl rfl ?_
  refine vv_getr C (Cn := RX5) (T := TX5) (N := 6) sh_126 2 rfl rfl (by decide) iX5_markNew_X5 (List.mem_of_getElem? (i := 1) rfl) rfl dX5_markNew_1 ?_
  refine vv_iload_n C 1 dX5_markNew_4 rfl rfl ?_
  refine vv_callVI C [.int x] (c_X3_at nu_129 M (i := x) (j := j) hx hj) nu_129.1 rfl (cwV 1 C.1.2.2.2.2 gX5_markNew_X3_at rfl rfl rfl (by decide +kernel) ⟨Nat.le_of_ble_eq_true rfl, Nat.le_of_ble_eq_true rfl⟩) rfl rfl rfl (Nat.le_of_ble_eq_true rfl) dX5_markNew_5 ⟨Nat.le_refl _, Nat.le_refl _⟩ ?_
  refine vv_top (y := M (850 + j)) (by rw [Nat.one_mul]) ?_
  refine vv_if_ne C 15 dX5_markNew_8 (by decide) (fun h_n => ?_) (fun h_z => ?_)
  · refine vv_iconst (v := 0) C dX5_markNew_15 (by decide) ?_
    refine vv_istore_n (ls2 := [some (.ref (G.1 126)), some (.int x), some (.int 0)]) C 2 dX5_markNew_16 rfl (Nat.le_of_ble_eq_true rfl) rfl ?_
    refine vv_aload_n C 0 dX5_markNew_17 rfl rfl ?_
    refine vv_getr C (Cn := RX5) (T := TX5) (N := 6) sh_126 2 rfl rfl (by decide) iX5_markNew_X5 (List.mem_of_getElem? (i := 1) rfl) rfl dX5_markNew_18 ?_
    refine vv_iload_n C 1 dX5_markNew_21 rfl rfl ?_
    refine vv_iconst (v := 1) C dX5_markNew_22 (by decide) ?_
    refine vv_callVV C [.int x, .int 1] (c_X3_set nu_129 M (i := x) (j := j) hx hj 1) nu_129.1 rfl (cwV 2 C.1.2.2.2.2 gX5_markNew_X3_set rfl rfl rfl (by decide +kernel) ⟨Nat.le_of_ble_eq_true rfl, Nat.le_of_ble_eq_true rfl⟩) rfl rfl rfl (Nat.le_of_ble_eq_true rfl) dX5_markNew_23 ⟨Nat.le_refl _, Nat.le_refl _⟩ ?_
    refine vv_iload_n C 2 dX5_markNew_26 rfl rfl ?_
    exact vv_iret C hR dX5_markNew_27 (qI_of ((if_neg h_n).symm) (by rw [Nat.one_mul]))
  · refine vv_iconst (v := 1) C dX5_markNew_11 (by decide) ?_
    refine vv_goto C 16 dX5_markNew_12 (by decide) ?_
    refine vv_istore_n (ls2 := [some (.ref (G.1 126)), some (.int x), some (.int 1)]) C 2 dX5_markNew_16 rfl (Nat.le_of_ble_eq_true rfl) rfl ?_
    refine vv_aload_n C 0 dX5_markNew_17 rfl rfl ?_
    refine vv_getr C (Cn := RX5) (T := TX5) (N := 6) sh_126 2 rfl rfl (by decide) iX5_markNew_X5 (List.mem_of_getElem? (i := 1) rfl) rfl dX5_markNew_18 ?_
    refine vv_iload_n C 1 dX5_markNew_21 rfl rfl ?_
    refine vv_iconst (v := 1) C dX5_markNew_22 (by decide) ?_
    refine vv_callVV C [.int x, .int 1] (c_X3_set nu_129 M (i := x) (j := j) hx hj 1) nu_129.1 rfl (cwV 2 C.1.2.2.2.2 gX5_markNew_X3_set rfl rfl rfl (by decide +kernel) ⟨Nat.le_of_ble_eq_true rfl, Nat.le_of_ble_eq_true rfl⟩) rfl rfl rfl (Nat.le_of_ble_eq_true rfl) dX5_markNew_23 ⟨Nat.le_refl _, Nat.le_refl _⟩ ?_
    refine vv_iload_n C 2 dX5_markNew_26 rfl rfl ?_
    exact vv_iret C hR dX5_markNew_27 (qI_of ((if_pos h_z).symm) (by rw [Nat.one_mul]))
theorem iX5_isAlike_X5 : ∀ w ∈ u_ws RX5 TX5 6, w ∈ wsX5_isAlike := fun w hw => (List.mem_cons_of_mem _ (List.mem_append_left _ (List.mem_append_left _ (List.mem_append_left _ (List.mem_append_right _ hw)))))
set_option maxRecDepth 100000 in
set_option maxHeartbeats 4000000 in
theorem lp_X5_isAlike {p : Program} {l : Launch} {e : Env} {s : State} {m : MethodId} {args : Array Value} {below : List Frame} {meth : Method} {c : Code} {G : mw_GG} (C : vv_C p s m args c G cX5_isAlike 7 wsX5_isAlike RX5) (hR : vv_R meth (some .boolean)) {d : Nat} (hd : d < 2) (M : mw_M) (hz : szP M d) {j k : Nat} : ∀ (n i : Nat), 5 ≤ i + n → i ≤ 4 → alB (alkC M d j k) i = true → vv p l e ({ frames := 3, cells := 0, slots := 0, locals := 63 } : Room) s m args below meth c G 0 0 (mw_E below args s G (qI (bI (alkS M d j k = true)) M)) M 13 [some (.ref (G.1 126)), some (.int (nI d)), some (.int (nI j)), some (.int (nI k)), some (.ref (G.1 (1 + 10 * d))), some (.int (nI i)), none] [] := by
  intro n
  induction n with
  | zero => intro i h1 h2 _; omega
  | succ n ih =>
    intro i h1 h2 hI
    refine vv_iload C 5 dX5_isAlike_13 rfl ?_
    refine vv_iconst (v := 4) C dX5_isAlike_15 (by decide) ?_
    refine vv_icmp_ge C 74 dX5_isAlike_16 (by decide) (fun hge => ?_) (fun hlt => ?_)
    · have hin : i = 4 := by
        rcases Nat.lt_or_ge i 4 with z | z
        · exact absurd hge (nI_ge (b := 4) z (by omega))
        · omega
      subst hin
      refine vv_iconst (v := 1) C dX5_isAlike_74 (by decide) ?_
      exact vv_zret1 C hR dX5_isAlike_75 (qI_of (bI_t hI).symm rfl)
    · have hi4 : i < 4 := by
        rcases Nat.lt_or_ge i 4 with z | z
        · exact z
        · exact absurd (nI_le (a := 4) z (by omega)) hlt
      refine vv_aload C 4 dX5_isAlike_19 rfl ?_
      refine vv_iload_n C 2 dX5_isAlike_21 rfl rfl ?_
      refine vv_iload C 5 dX5_isAlike_22 rfl ?_
      refine vv_callVI C [.int (nI j), .int (nI i)] (c_X0_entry (d := d) hd M hz (nI j) (nI i)) (mw_Dw_d hd).1 rfl (cwV 2 C.1.2.2.2.2 gX5_isAlike_X0_entry rfl rfl rfl (by decide +kernel) ⟨Nat.le_of_ble_eq_true rfl, Nat.le_of_ble_eq_true rfl⟩) rfl rfl rfl (Nat.le_of_ble_eq_true rfl) dX5_isAlike_24 ⟨Nat.le_refl _, Nat.le_refl _⟩ ?_
      refine vv_aload C 4 dX5_isAlike_27 rfl ?_
      refine vv_iload_n C 3 dX5_isAlike_29 rfl rfl ?_
      refine vv_iload C 5 dX5_isAlike_30 rfl ?_
      refine vv_callVI C [.int (nI k), .int (nI i)] (c_X0_entry (d := d) hd M hz (nI k) (nI i)) (mw_Dw_d hd).1 rfl (cwV 2 C.1.2.2.2.2 gX5_isAlike_X0_entry rfl rfl rfl (by decide +kernel) ⟨Nat.le_of_ble_eq_true rfl, Nat.le_of_ble_eq_true rfl⟩) rfl rfl rfl (Nat.le_of_ble_eq_true rfl) dX5_isAlike_32 ⟨Nat.le_refl _, Nat.le_refl _⟩ ?_
      refine vv_icmp_ne C 42 dX5_isAlike_35 (by decide) (fun h_ne => ?_) (fun h_eq => ?_)
      · refine vv_iconst (v := 0) C dX5_isAlike_42 (by decide) ?_
        refine vv_istore (ls2 := [some (.ref (G.1 126)), some (.int (nI d)), some (.int (nI j)), some (.int (nI k)), some (.ref (G.1 (1 + 10 * d))), some (.int (nI i)), some (.int 0)]) C 6 dX5_isAlike_43 (Nat.le_of_ble_eq_true rfl) rfl ?_
        refine vv_iload C 6 dX5_isAlike_45 rfl ?_
        refine vv_if_ne C 68 dX5_isAlike_47 (by decide) (fun h_5 => absurd h_5 (by decide)) (fun h_6 => ?_)
        refine vv_aload_n C 0 dX5_isAlike_50 rfl rfl ?_
        refine vv_getr C (Cn := RX5) (T := TX5) (N := 6) sh_126 0 rfl rfl (by decide) iX5_isAlike_X5 (List.mem_of_getElem? (i := 1) rfl) rfl dX5_isAlike_51 ?_
        refine vv_iload_n C 1 dX5_isAlike_54 rfl rfl ?_
        refine vv_iconst (v := 4) C dX5_isAlike_55 (by decide) ?_
        refine vv_imul C dX5_isAlike_56 ?_
        refine vv_iload C 5 dX5_isAlike_57 rfl ?_
        refine vv_iadd C dX5_isAlike_59 ?_
        refine vv_top (y := nI (4 * d + i)) (m4_nI d i) ?_
        refine vv_callVI C [.int (nI (4 * d + i))] (c_X6_isShown M (nI (4 * d + i))) sh_0 rfl (cwV 1 C.1.2.2.2.2 gX5_isAlike_X6_isShown rfl rfl rfl (by decide +kernel) ⟨Nat.le_of_ble_eq_true rfl, Nat.le_of_ble_eq_true rfl⟩) rfl rfl rfl (Nat.le_of_ble_eq_true rfl) dX5_isAlike_60 ⟨Nat.le_refl _, Nat.le_refl _⟩ ?_
        refine vv_bif_eq C 68 dX5_isAlike_63 (by decide) (fun h_ns => ?_) (fun h_s => ?_)
        · refine vv_iinc (v := nI (i + 1)) (ls2 := [some (.ref (G.1 126)), some (.int (nI d)), some (.int (nI j)), some (.int (nI k)), some (.ref (G.1 (1 + 10 * d))), some (.int (nI (i + 1))), some (.int 0)]) C 5 dX5_isAlike_68 rfl (nI_1 _) rfl ?_
          refine vv_goto C 13 dX5_isAlike_71 (by decide) ?_
          refine vv_keep (ls2 := [some (.ref (G.1 126)), some (.int (nI d)), some (.int (nI j)), some (.int (nI k)), some (.ref (G.1 (1 + 10 * d))), some (.int (nI (i + 1))), none]) ⟨rfl, rfl, rfl, rfl, rfl, rfl, trivial⟩ ?_
          exact ih (i + 1) (by omega) (by omega) (by show (alB (alkC M d j k) i && alkC M d j k i) = true; rw [hI]; simp [alkC, h_ns])
        · refine vv_iconst (v := 0) C dX5_isAlike_66 (by decide) ?_
          have hf : alkC M d j k i = false := by simp only [alkC, Bool.or_eq_false_iff, decide_eq_false_iff_not]; exact ⟨h_ne, fun z => z h_s⟩
          exact vv_zret0 C hR dX5_isAlike_67 (qI_of (bI_f (fun z => by
            have hz2 : ∀ m, i < m → m ≤ 4 → alB (alkC M d j k) m = false := by
              intro m
              induction m with
              | zero => intro h; omega
              | succ m ihm =>
                intro h3 h4
                show (alB (alkC M d j k) m && alkC M d j k m) = false
                by_cases e : i = m
                · rw [← e, hf, Bool.and_false]
                · rw [ihm (by omega) (by omega), Bool.false_and]
            unfold alkS at z
            rw [hz2 4 hi4 (by omega)] at z
            exact absurd z (by decide))).symm rfl)
      · refine vv_iconst (v := 1) C dX5_isAlike_38 (by decide) ?_
        refine vv_goto C 43 dX5_isAlike_39 (by decide) ?_
        refine vv_istore (ls2 := [some (.ref (G.1 126)), some (.int (nI d)), some (.int (nI j)), some (.int (nI k)), some (.ref (G.1 (1 + 10 * d))), some (.int (nI i)), some (.int 1)]) C 6 dX5_isAlike_43 (Nat.le_of_ble_eq_true rfl) rfl ?_
        refine vv_iload C 6 dX5_isAlike_45 rfl ?_
        refine vv_if_ne C 68 dX5_isAlike_47 (by decide) (fun h_10 => ?_) (fun h_9 => absurd h_9 (by decide))
        refine vv_iinc (v := nI (i + 1)) (ls2 := [some (.ref (G.1 126)), some (.int (nI d)), some (.int (nI j)), some (.int (nI k)), some (.ref (G.1 (1 + 10 * d))), some (.int (nI (i + 1))), some (.int 1)]) C 5 dX5_isAlike_68 rfl (nI_1 _) rfl ?_
        refine vv_goto C 13 dX5_isAlike_71 (by decide) ?_
        refine vv_keep (ls2 := [some (.ref (G.1 126)), some (.int (nI d)), some (.int (nI j)), some (.int (nI k)), some (.ref (G.1 (1 + 10 * d))), some (.int (nI (i + 1))), none]) ⟨rfl, rfl, rfl, rfl, rfl, rfl, trivial⟩ ?_
        exact ih (i + 1) (by omega) (by omega) (by show (alB (alkC M d j k) i && alkC M d j k i) = true; rw [hI]; simp [alkC, h_eq])
set_option maxRecDepth 100000 in
set_option maxHeartbeats 4000000 in
theorem c_X5_isAlike {l : Launch} {G : mw_GG} {d : Nat} (hd : d < 2) (M : mw_M) (hz : szP M d) {j k : Nat} {x y z : Int32} (hx : x = nI d) (hy : y = nI j) (hzz : z = nI k) : mw_Met l yX5_isAlike wsX5_isAlike ({ frames := 3, cells := 0, slots := 0, locals := 63 } : Room) G [.ref (G.1 126), .int x, .int y, .int z] M (qI (bI (alkS M d j k = true)) M) := by
  refine mw_ofV (cc := cX5_isAlike) 7 (by decide) rfl rfl (Nat.le_of_ble_eq_true rfl) ?_
  intro p e s m args below meth c C hR hN0
  subst hx
  subst hy
  subst hzz
  have hdN : dN (nI d) = d := by rcases (show d = 0 ∨ d = 1 by omega) with rfl | rfl <;> decide
  refine vv_loc (ls2 := [some (.ref (G.1 126)), some (.int (nI d)), some (.int (nI j)), some (.int (nI k)), none, none, none]) rfl ?_
  refine vv_aload_n C 0 dX5_isAlike_0 rfl rfl ?_
  refine vv_getr C (Cn := RX5) (T := TX5) (N := 6) sh_126 0 rfl rfl (by decide) iX5_isAlike_X5 (List.mem_of_getElem? (i := 1) rfl) rfl dX5_isAlike_1 ?_
  refine vv_iload_n C 1 dX5_isAlike_4 rfl rfl ?_
  refine vv_callVR C [.int (nI d)] (c_X6_drawer M (nI d)) sh_0 rfl (cwV 1 C.1.2.2.2.2 gX5_isAlike_X6_drawer rfl rfl rfl (by decide +kernel) ⟨Nat.le_of_ble_eq_true rfl, Nat.le_of_ble_eq_true rfl⟩) rfl rfl rfl (Nat.le_of_ble_eq_true rfl) dX5_isAlike_5 ⟨Nat.le_refl _, Nat.le_refl _⟩ ?_
  refine vv_topr (b := G.1 (1 + 10 * d)) (by rw [hdN]) ?_
  refine vv_astore (ls2 := [some (.ref (G.1 126)), some (.int (nI d)), some (.int (nI j)), some (.int (nI k)), some (.ref (G.1 (1 + 10 * d))), none, none]) C 4 dX5_isAlike_8 (Nat.le_of_ble_eq_true rfl) rfl ?_
  refine vv_iconst (v := 0) C dX5_isAlike_10 (by decide) ?_
  refine vv_istore (ls2 := [some (.ref (G.1 126)), some (.int (nI d)), some (.int (nI j)), some (.int (nI k)), some (.ref (G.1 (1 + 10 * d))), some (.int 0), none]) C 5 dX5_isAlike_11 (Nat.le_of_ble_eq_true rfl) rfl ?_
  refine vv_loc (ls2 := [some (.ref (G.1 126)), some (.int (nI d)), some (.int (nI j)), some (.int (nI k)), some (.ref (G.1 (1 + 10 * d))), some (.int (nI 0)), none]) rfl ?_
  exact lp_X5_isAlike C hR hd M hz 5 0 (by omega) (by omega) rfl
set_option maxRecDepth 100000 in
set_option maxHeartbeats 4000000 in
theorem lp_X5_firstAlike {p : Program} {l : Launch} {e : Env} {s : State} {m : MethodId} {args : Array Value} {below : List Frame} {meth : Method} {c : Code} {G : mw_GG} (C : vv_C p s m args c G cX5_firstAlike 4 wsX5_firstAlike RX5) (hR : vv_R meth (some .int)) {d : Nat} (hd : d < 2) (M : mw_M) (hz : szP M d) {k : Nat} (hk12 : k < 12) : ∀ (n i : Nat), k + 1 ≤ i + n → i ≤ k → (∀ j, j < i → alkS M d j k = false) → vv p l e ({ frames := 4, cells := 0, slots := 0, locals := 89 } : Room) s m args below meth c G 0 0 (mw_E below args s G (qI (nI (faS M d k)) M)) M 2 [some (.ref (G.1 126)), some (.int (nI d)), some (.int (nI k)), some (.int (nI i))] [] := by
  intro n
  induction n with
  | zero => intro i h1 h2 _; omega
  | succ n ih =>
    intro i h1 h2 hI
    refine vv_iload_n C 3 dX5_firstAlike_2 rfl rfl ?_
    refine vv_iload_n C 2 dX5_firstAlike_3 rfl rfl ?_
    refine vv_icmp_ge C 25 dX5_firstAlike_4 (by decide) (fun hge => ?_) (fun hlt => ?_)
    · refine vv_iload_n C 2 dX5_firstAlike_25 rfl rfl ?_
      have hin : i = k := by
        rcases Nat.lt_or_ge i k with z | z
        · exact absurd hge (nI_ge z (by omega))
        · omega
      subst hin
      exact vv_iret C hR dX5_firstAlike_26 (qI_of (by rw [show faS M d i = i from fsN_no i hI]) rfl)
    · have hik : i < k := by
        rcases Nat.lt_or_ge i k with z | z
        · exact z
        · exact absurd (nI_le z (by omega)) hlt
      refine vv_aload_n C 0 dX5_firstAlike_7 rfl rfl ?_
      refine vv_iload_n C 1 dX5_firstAlike_8 rfl rfl ?_
      refine vv_iload_n C 3 dX5_firstAlike_9 rfl rfl ?_
      refine vv_iload_n C 2 dX5_firstAlike_10 rfl rfl ?_
      refine vv_callVI C [.int (nI d), .int (nI i), .int (nI k)] (c_X5_isAlike (d := d) hd M hz (j := i) (k := k) (x := (nI d)) (y := (nI i)) (z := (nI k)) rfl rfl rfl) sh_126 rfl (cwV 3 C.1.2.2.2.2 gX5_firstAlike_X5_isAlike rfl rfl rfl (by decide +kernel) ⟨Nat.le_of_ble_eq_true rfl, Nat.le_of_ble_eq_true rfl⟩) rfl rfl rfl (Nat.le_of_ble_eq_true rfl) dX5_firstAlike_11 ⟨Nat.le_refl _, Nat.le_refl _⟩ ?_
      refine vv_bif_eq C 19 dX5_firstAlike_14 (by decide) (fun h_n => ?_) (fun h_y => ?_)
      · refine vv_iinc (v := nI (i + 1)) (ls2 := [some (.ref (G.1 126)), some (.int (nI d)), some (.int (nI k)), some (.int (nI (i + 1)))]) C 3 dX5_firstAlike_19 rfl (nI_1 _) rfl ?_
        refine vv_goto C 2 dX5_firstAlike_22 (by decide) ?_
        exact ih (i + 1) (by omega) (by omega) (fun j hj => by
          rcases Nat.lt_or_ge j i with z | z
          · exact hI j z
          · rw [show j = i by omega]; exact Bool.eq_false_iff.mpr h_n)
      · refine vv_iload_n C 3 dX5_firstAlike_17 rfl rfl ?_
        exact vv_iret C hR dX5_firstAlike_18 (qI_of (by rw [show faS M d k = i from fsN_yes hI h_y k hik]) rfl)
set_option maxRecDepth 100000 in
set_option maxHeartbeats 4000000 in
theorem c_X5_firstAlike {l : Launch} {G : mw_GG} {d : Nat} (hd : d < 2) (M : mw_M) (hz : szP M d) {k : Nat} (hk12 : k < 12) {x y : Int32} (hx : x = nI d) (hy : y = nI k) : mw_Met l yX5_firstAlike wsX5_firstAlike ({ frames := 4, cells := 0, slots := 0, locals := 89 } : Room) G [.ref (G.1 126), .int x, .int y] M (qI (nI (faS M d k)) M) := by
  refine mw_ofV (cc := cX5_firstAlike) 4 (by decide) rfl rfl (Nat.le_of_ble_eq_true rfl) ?_
  intro p e s m args below meth c C hR hN0
  subst hx
  subst hy
  refine vv_loc (ls2 := [some (.ref (G.1 126)), some (.int (nI d)), some (.int (nI k)), none]) rfl ?_
  refine vv_iconst (v := 0) C dX5_firstAlike_0 (by decide) ?_
  refine vv_istore_n (ls2 := [some (.ref (G.1 126)), some (.int (nI d)), some (.int (nI k)), some (.int 0)]) C 3 dX5_firstAlike_1 rfl (Nat.le_of_ble_eq_true rfl) rfl ?_
  refine vv_loc (ls2 := [some (.ref (G.1 126)), some (.int (nI d)), some (.int (nI k)), some (.int (nI 0))]) rfl ?_
  exact lp_X5_firstAlike C hR hd M hz hk12 (k + 1) 0 (by omega) (by omega) (fun j hj => by omega)
