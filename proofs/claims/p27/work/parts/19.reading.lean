/-! the text read as an example -/
abbrev dgP (x : Int32) : Prop := ¬ x < 48 ∧ ¬ 57 < x
abbrev ltP (x : Int32) : Prop := ¬ x < 119 ∧ ¬ 122 < x
def nmP (ch : Nat → Int32) (q : Nat) : Nat := if dgP (ch (q + 1)) then q + 2 else q + 1
def nmV (ch : Nat → Int32) (q : Nat) : Int32 := if ¬ dgP (ch q) then 0 else if dgP (ch (q + 1)) then 10 * (ch q - 48) + ch (q + 1) - 48 else ch q - 48
def nmM (M : mw_M) (t q : Nat) : mw_M := if dgP (chA M t q) then upd M 655 (nI (nmP (chA M t) q)) else upd (upd M 656 (nI q)) 657 1
abbrev clT : Type := Nat × Nat × Int32 × Int32 × Int32
/-- a cell: the reason of its fault (0: none), the place of the fault or behind the cell, kind and numbers -/
def bdR (ch : Nat → Int32) (q : Nat) (kn kl : Int32) : clT := if ltP (ch q) then (0, q + 1, kl, ch q - 119, 0) else if dgP (ch q) then (0, nmP ch q, kn, nmV ch q, 0) else (1, q, 0, 0, 0)
def nsR (ch : Nat → Int32) (q : Nat) : clT := if ¬ ch (nmP ch q) = 45 then (0, nmP ch q, 3, nmV ch q, 0) else if dgP (ch (nmP ch q + 1)) then (if nmV ch (nmP ch q + 1) < nmV ch q then (2, q, 0, 0, 0) else (0, nmP ch (nmP ch q + 1), 7, nmV ch q, nmV ch (nmP ch q + 1))) else (1, nmP ch q + 1, 0, 0, 0)
def clR (ch : Nat → Int32) (q : Nat) : clT := if dgP (ch q) then nsR ch q else if ch q = 33 then (0, q + 1, 2, 0, 0) else if ch q = 35 then (if dgP (ch (q + 1)) then (0, nmP ch (q + 1), 4, nmV ch (q + 1), 0) else (1, q + 1, 0, 0, 0)) else if ch q = 42 then (0, q + 1, 0, 0, 0) else if ch q = 60 then bdR ch (q + 1) 5 9 else if ch q = 62 then bdR ch (q + 1) 6 10 else if ch q = 95 then (0, q + 1, 1, 0, 0) else if ltP (ch q) then (0, q + 1, 8, ch q - 119, 0) else (1, q, 0, 0, 0)
abbrev psT : Type := Nat × Nat × List (Int32 × Int32 × Int32)
/-- the text from a place on, k cells yet allowed -/
def psR (ch : Nat → Int32) (t : Nat) : Nat → Nat → psT
  | 0, _ => (0, 0, [])
  | k + 1, q => if ¬ (clR ch q).1 = 0 then ((clR ch q).1, (clR ch q).2.1, [])
    else if ¬ (clR ch q).2.1 < t then (0, 0, [(clR ch q).2.2])
    else if ¬ ch (clR ch q).2.1 = 44 then (1, (clR ch q).2.1, [(clR ch q).2.2])
    else if k = 0 then (3, (clR ch q).2.1, [(clR ch q).2.2])
    else ((psR ch t k ((clR ch q).2.1 + 1)).1, (psR ch t k ((clR ch q).2.1 + 1)).2.1, (clR ch q).2.2 :: (psR ch t k ((clR ch q).2.1 + 1)).2.2)
def cmM (M : mw_M) (t q n : Nat) : mw_M := if ¬ q < t then M else if ¬ chA M t q = 44 then upd (upd (upd M 656 (nI q)) 657 1) 655 (nI (q + 1)) else if n < 4 then upd M 655 (nI (q + 1)) else upd (upd (upd M 656 (nI q)) 657 3) 655 (nI (q + 1))
/-- what reading one cell leaves behind -/
def rdO (M M2 : mw_M) (n : Nat) (r : clT) : Prop := (∀ q, ¬ (655 ≤ q ∧ q < 658) → ¬ (670 ≤ q ∧ q < 682) → M2 q = M q) ∧ M2 657 = nI r.1 ∧ (¬ r.1 = 0 → M2 656 = nI r.2.1) ∧ (r.1 = 0 → M2 655 = nI r.2.1 ∧ M2 (670 + 3 * n) = r.2.2.1 ∧ M2 (670 + 1 + 3 * n) = r.2.2.2.1 ∧ M2 (670 + 2 + 3 * n) = r.2.2.2.2 ∧ ∀ q, 670 ≤ q → q < 682 → ¬ (670 + 3 * n ≤ q ∧ q < 673 + 3 * n) → M2 q = M q)
theorem rdO_fill {M M1 : mw_M} {n q0 : Nat} {k a b : Int32} (hn : n < 4) (h1 : ∀ q, ¬ (655 ≤ q ∧ q < 658) → M1 q = M q) (h7 : M1 657 = 0) (h5 : M1 655 = nI q0) : rdO M (upd (upd (upd M1 (670 + 3 * n) k) (670 + 1 + 3 * n) a) (670 + 2 + 3 * n) b) n (0, q0, k, a, b) := by
  refine ⟨fun q z1 z2 => ?_, ?_, fun z => absurd rfl z, fun _ => ⟨?_, ?_, ?_, upd_s, fun q z1 z2 z3 => ?_⟩⟩
  · rw [upd_o (by omega), upd_o (by omega), upd_o (by omega)]
    exact h1 q z1
  · rw [upd_o (by omega), upd_o (by omega), upd_o (by omega)]
    exact h7
  · rw [upd_o (by omega), upd_o (by omega), upd_o (by omega)]
    exact h5
  · rw [upd_o (by omega), upd_o (by omega), upd_s]
  · rw [upd_o (by omega), upd_s]
  · rw [upd_o (by omega), upd_o (by omega), upd_o (by omega)]
    exact h1 q (by omega)
theorem rdO_star {M M1 : mw_M} {n q0 : Nat} (hn : n < 4) (h1 : ∀ q, ¬ (655 ≤ q ∧ q < 658) → M1 q = M q) (h7 : M1 657 = 0) (h5 : M1 655 = nI q0) (z0 : M (670 + 3 * n) = 0) (z1 : M (670 + 1 + 3 * n) = 0) (z2 : M (670 + 2 + 3 * n) = 0) : rdO M M1 n (0, q0, 0, 0, 0) :=
  ⟨fun q a1 _ => h1 q a1, h7, fun z => absurd rfl z, fun _ => ⟨h5, by rw [h1 _ (by omega)]; exact z0, by rw [h1 _ (by omega)]; exact z1, by rw [h1 _ (by omega)]; exact z2, fun q a1 a2 _ => h1 q (by omega)⟩⟩
theorem rdO_fault {M M2 : mw_M} {n r0 q0 : Nat} {r : Int32 × Int32 × Int32} (h1 : ∀ q, ¬ (655 ≤ q ∧ q < 658) → ¬ (670 ≤ q ∧ q < 682) → M2 q = M q) (hr : ¬ r0 = 0) (h7 : M2 657 = nI r0) (h6 : M2 656 = nI q0) : rdO M M2 n (r0, q0, r) := ⟨h1, h7, fun _ => h6, fun z => absurd z hr⟩
theorem upd_upd {M : mw_M} {k : Nat} {x y : Int32} : upd (upd M k x) k y = upd M k y := by
  funext q
  unfold upd
  split <;> rfl
/-- only the reading's own places were written -/
def inR (M M1 : mw_M) : Prop := ∀ q, ¬ (655 ≤ q ∧ q < 658) → M1 q = M q
theorem inR.rf {M : mw_M} : inR M M := fun _ _ => rfl
theorem inR.u {M M1 : mw_M} (h : inR M M1) {k : Nat} {x : Int32} (hk : 655 ≤ k ∧ k < 658) : inR M (upd M1 k x) := fun q hq => by rw [upd_o (by omega)]; exact h q hq
theorem inR.ch {M M1 : mw_M} (h : inR M M1) {t q : Nat} : chA M1 t q = chA M t q := by
  unfold chA
  by_cases z : q < t
  · rw [if_pos z, if_pos z, h _ (by omega)]
  · rw [if_neg z, if_neg z]
theorem inR.chf {M M1 : mw_M} (h : inR M M1) {t : Nat} : chA M1 t = chA M t := funext (fun _ => h.ch)
theorem inR.fl {M M1 : mw_M} (h : inR M M1) {n : Nat} {k a b : Int32} : ∀ q, ¬ (655 ≤ q ∧ q < 658) → ¬ (670 ≤ q ∧ q < 682) → (n < 4) → upd (upd (upd M1 (670 + 3 * n) k) (670 + 1 + 3 * n) a) (670 + 2 + 3 * n) b q = M q := fun q z1 z2 hn => by
  rw [upd_o (by omega), upd_o (by omega), upd_o (by omega)]
  exact h q z1
theorem nmM_ok {M : mw_M} {t q : Nat} {x : Int32} (h : dgP (chA M t q)) : nmM (upd M 655 x) t q = upd M 655 (nI (nmP (chA M t) q)) := by
  unfold nmM
  rw [(inR.rf.u (by omega)).chf, if_pos h, upd_upd]
theorem nmM_bad {M : mw_M} {t q : Nat} {x : Int32} (h : ¬ dgP (chA M t q)) : nmM (upd M 655 x) t q = upd (upd (upd M 655 x) 656 (nI q)) 657 1 := by
  unfold nmM
  rw [(inR.rf.u (by omega)).ch, if_neg h]
theorem rdO_in {M M1 M2 : mw_M} {n : Nat} {r : clT} (h : inR M M1) (h2 : rdO M1 M2 n r) : rdO M M2 n r :=
  ⟨fun q a1 a2 => (h2.1 q a1 a2).trans (h q a1), h2.2.1, h2.2.2.1, fun z => ⟨(h2.2.2.2 z).1, (h2.2.2.2 z).2.1, (h2.2.2.2 z).2.2.1, (h2.2.2.2 z).2.2.2.1, fun q a1 a2 a3 => ((h2.2.2.2 z).2.2.2.2 q a1 a2 a3).trans (h q (by omega))⟩⟩
theorem nmP_le (ch : Nat → Int32) (q : Nat) : q + 1 ≤ nmP ch q ∧ nmP ch q ≤ q + 2 := by
  unfold nmP
  split <;> omega
/-- a digit stands within the text -/
theorem dg_in {M : mw_M} {t q : Nat} (h : dgP (chA M t q)) : q < t := by
  unfold chA at h
  by_cases z : q < t
  · exact z
  · rw [if_neg z] at h
    exact absurd h.1 (by decide)
theorem nmP_in {M : mw_M} {t q : Nat} (h : dgP (chA M t q)) : nmP (chA M t) q ≤ t := by
  have h1 := dg_in h
  unfold nmP
  split
  · rename_i h2
    have := dg_in h2
    omega
  · omega
def stO (M M2 : mw_M) (r : psT) : Prop := (∀ q, ¬ (654 ≤ q ∧ q < 658) → ¬ (670 ≤ q ∧ q < 682) → M2 q = M q) ∧ M2 657 = nI r.1 ∧ (¬ r.1 = 0 → M2 656 = nI r.2.1) ∧ (r.1 = 0 → M2 654 = nI r.2.2.length ∧ ∀ i, i < 4 → M2 (670 + 3 * i) = (r.2.2.getD i (0, 0, 0)).1 ∧ M2 (670 + 1 + 3 * i) = (r.2.2.getD i (0, 0, 0)).2.1 ∧ M2 (670 + 2 + 3 * i) = (r.2.2.getD i (0, 0, 0)).2.2)
/-- midway: the cells acc were read, the next begins at q -/
def rdI (M M1 : mw_M) (t : Nat) (acc : List (Int32 × Int32 × Int32)) (q k : Nat) : Prop := (∀ q, ¬ (654 ≤ q ∧ q < 658) → ¬ (670 ≤ q ∧ q < 682) → M1 q = M q) ∧ M1 654 = nI acc.length ∧ M1 655 = nI q ∧ M1 657 = 0 ∧ (∀ i, i < 4 → M1 (670 + 3 * i) = (acc.getD i (0, 0, 0)).1 ∧ M1 (670 + 1 + 3 * i) = (acc.getD i (0, 0, 0)).2.1 ∧ M1 (670 + 2 + 3 * i) = (acc.getD i (0, 0, 0)).2.2) ∧ psR (chA M t) t 4 0 = ((psR (chA M t) t k q).1, (psR (chA M t) t k q).2.1, acc ++ (psR (chA M t) t k q).2.2) ∧ acc.length + k = 4 ∧ q ≤ 60
theorem rdI.ch {M M1 : mw_M} {t q k : Nat} {acc : List (Int32 × Int32 × Int32)} (h : rdI M M1 t acc q k) : chA M1 t = chA M t := by
  funext p
  unfold chA
  by_cases z : p < t
  · rw [if_pos z, if_pos z, h.1 _ (by omega) (by omega)]
  · rw [if_neg z, if_neg z]

set_option maxRecDepth 100000 in
set_option maxHeartbeats 4000000 in
theorem c_X4_isDigit {l : Launch} {G : mw_GG} (M : mw_M) (x : Int32) : mw_Met l yX4_isDigit wsX4_isDigit ({ frames := 0, cells := 0, slots := 0, locals := 0 } : Room) G [.int x] M (qI (bI (dgP x)) M) := by
  refine mw_ofV (cc := cX4_isDigit) 1 (by decide) rfl rfl (Nat.le_of_ble_eq_true rfl) ?_
  intro p e s m args below meth c C hR hN0
  refine vv_loc (ls2 := [some (.int x)]) rfl ?_
  refine vv_iload_n C 0 dX4_isDigit_0 rfl rfl ?_
  refine vv_bipush (v := 48) C dX4_isDigit_1 (by decide) ?_
  refine vv_icmp_lt C 16 dX4_isDigit_3 (by decide) (fun h_1 => ?_) (fun h_2 => ?_)
  · refine vv_iconst (v := 0) C dX4_isDigit_16 (by decide) ?_
    exact vv_zret0 C hR dX4_isDigit_17 (qI_of (by simp [bI, h_1]) (rfl))
  · refine vv_iload_n C 0 dX4_isDigit_6 rfl rfl ?_
    refine vv_bipush (v := 57) C dX4_isDigit_7 (by decide) ?_
    refine vv_icmp_gt C 16 dX4_isDigit_9 (by decide) (fun h_3 => ?_) (fun h_4 => ?_)
    · refine vv_iconst (v := 0) C dX4_isDigit_16 (by decide) ?_
      exact vv_zret0 C hR dX4_isDigit_17 (qI_of (by simp [bI, h_2, h_3]) (rfl))
    · refine vv_iconst (v := 1) C dX4_isDigit_12 (by decide) ?_
      refine vv_goto C 17 dX4_isDigit_13 (by decide) ?_
      exact vv_zret1 C hR dX4_isDigit_17 (qI_of (by simp [bI, h_2, h_4]) (rfl))
set_option maxRecDepth 100000 in
set_option maxHeartbeats 4000000 in
theorem c_X4_isLetter {l : Launch} {G : mw_GG} (M : mw_M) (x : Int32) : mw_Met l yX4_isLetter wsX4_isLetter ({ frames := 0, cells := 0, slots := 0, locals := 0 } : Room) G [.int x] M (qI (bI (ltP x)) M) := by
  refine mw_ofV (cc := cX4_isLetter) 1 (by decide) rfl rfl (Nat.le_of_ble_eq_true rfl) ?_
  intro p e s m args below meth c C hR hN0
  refine vv_loc (ls2 := [some (.int x)]) rfl ?_
  refine vv_iload_n C 0 dX4_isLetter_0 rfl rfl ?_
  refine vv_bipush (v := 119) C dX4_isLetter_1 (by decide) ?_
  refine vv_icmp_lt C 16 dX4_isLetter_3 (by decide) (fun h_1 => ?_) (fun h_2 => ?_)
  · refine vv_iconst (v := 0) C dX4_isLetter_16 (by decide) ?_
    exact vv_zret0 C hR dX4_isLetter_17 (qI_of (by simp [bI, h_1]) (rfl))
  · refine vv_iload_n C 0 dX4_isLetter_6 rfl rfl ?_
    refine vv_bipush (v := 122) C dX4_isLetter_7 (by decide) ?_
    refine vv_icmp_gt C 16 dX4_isLetter_9 (by decide) (fun h_3 => ?_) (fun h_4 => ?_)
    · refine vv_iconst (v := 0) C dX4_isLetter_16 (by decide) ?_
      exact vv_zret0 C hR dX4_isLetter_17 (qI_of (by simp [bI, h_2, h_3]) (rfl))
    · refine vv_iconst (v := 1) C dX4_isLetter_12 (by decide) ?_
      refine vv_goto C 17 dX4_isLetter_13 (by decide) ?_
      exact vv_zret1 C hR dX4_isLetter_17 (qI_of (by simp [bI, h_2, h_4]) (rfl))
theorem iX4_fail_X4 : ∀ w ∈ u_ws RX4 TX4 6, w ∈ wsX4_fail := fun w hw => (List.mem_cons_of_mem _ (List.mem_append_right _ hw))
set_option maxRecDepth 100000 in
set_option maxHeartbeats 4000000 in
theorem c_X4_fail {l : Launch} {G : mw_GG} (M : mw_M) (x y : Int32) : mw_Met l yX4_fail wsX4_fail ({ frames := 0, cells := 0, slots := 0, locals := 0 } : Room) G [.ref (G.1 136), .int x, .int y] M (qV (upd (upd M 656 x) 657 y)) := by
  refine mw_ofV (cc := cX4_fail) 3 (by decide) rfl rfl (Nat.le_of_ble_eq_true rfl) ?_
  intro p e s m args below meth c C hR hN0
  refine vv_loc (ls2 := [some (.ref (G.1 136)), some (.int x), some (.int y)]) rfl ?_
  refine vv_aload_n C 0 dX4_fail_0 rfl rfl ?_
  refine vv_iload_n C 1 dX4_fail_1 rfl rfl ?_
  refine vv_putf C (Cn := RX4) (T := TX4) (N := 6) sh_136 4 rfl rfl (by decide) iX4_fail_X4 (List.mem_of_getElem? (i := 1) rfl) rfl tyX4_ok nmX4 rfl rfl dX4_fail_2 ?_
  refine vv_aload_n C 0 dX4_fail_5 rfl rfl ?_
  refine vv_iload_n C 2 dX4_fail_6 rfl rfl ?_
  refine vv_putf C (Cn := RX4) (T := TX4) (N := 6) sh_136 5 rfl rfl (by decide) iX4_fail_X4 (List.mem_of_getElem? (i := 2) rfl) rfl tyX4_ok nmX4 rfl rfl dX4_fail_7 ?_
  exact vv_vret C hR dX4_fail_10 (qV_of (rfl))
theorem iX4_hasFault_X4 : ∀ w ∈ u_ws RX4 TX4 6, w ∈ wsX4_hasFault := fun w hw => (List.mem_cons_of_mem _ (List.mem_append_right _ hw))
set_option maxRecDepth 100000 in
set_option maxHeartbeats 4000000 in
theorem c_X4_hasFault {l : Launch} {G : mw_GG} (M : mw_M) : mw_Met l yX4_hasFault wsX4_hasFault ({ frames := 0, cells := 0, slots := 0, locals := 0 } : Room) G [.ref (G.1 136)] M (qI (bI (¬ M 657 = 0)) M) := by
  refine mw_ofV (cc := cX4_hasFault) 1 (by decide) rfl rfl (Nat.le_of_ble_eq_true rfl) ?_
  intro p e s m args below meth c C hR hN0
  refine vv_loc (ls2 := [some (.ref (G.1 136))]) rfl ?_
  refine vv_aload_n C 0 dX4_hasFault_0 rfl rfl ?_
  refine vv_geti C (Cn := RX4) (T := TX4) (N := 6) sh_136 5 rfl rfl (by decide) iX4_hasFault_X4 (List.mem_of_getElem? (i := 1) rfl) rfl dX4_hasFault_1 ?_
  refine vv_if_eq C 11 dX4_hasFault_4 (by decide) (fun h_1 => ?_) (fun h_2 => ?_)
  · refine vv_iconst (v := 0) C dX4_hasFault_11 (by decide) ?_
    exact vv_zret0 C hR dX4_hasFault_12 (qI_of (by simp [bI, h_1]) (rfl))
  · refine vv_iconst (v := 1) C dX4_hasFault_7 (by decide) ?_
    refine vv_goto C 12 dX4_hasFault_8 (by decide) ?_
    exact vv_zret1 C hR dX4_hasFault_12 (qI_of (by simp [bI, h_2]) (rfl))
theorem iX4_faultPlace_X4 : ∀ w ∈ u_ws RX4 TX4 6, w ∈ wsX4_faultPlace := fun w hw => (List.mem_cons_of_mem _ (List.mem_append_right _ hw))
set_option maxRecDepth 100000 in
set_option maxHeartbeats 4000000 in
theorem c_X4_faultPlace {l : Launch} {G : mw_GG} (M : mw_M) : mw_Met l yX4_faultPlace wsX4_faultPlace ({ frames := 0, cells := 0, slots := 0, locals := 0 } : Room) G [.ref (G.1 136)] M (qI (M 656) M) := by
  refine mw_ofV (cc := cX4_faultPlace) 1 (by decide) rfl rfl (Nat.le_of_ble_eq_true rfl) ?_
  intro p e s m args below meth c C hR hN0
  refine vv_loc (ls2 := [some (.ref (G.1 136))]) rfl ?_
  refine vv_aload_n C 0 dX4_faultPlace_0 rfl rfl ?_
  refine vv_geti C (Cn := RX4) (T := TX4) (N := 6) sh_136 4 rfl rfl (by decide) iX4_faultPlace_X4 (List.mem_of_getElem? (i := 1) rfl) rfl dX4_faultPlace_1 ?_
  exact vv_iret C hR dX4_faultPlace_4 (qI_of (rfl) (rfl))
theorem iX4_faultReason_X4 : ∀ w ∈ u_ws RX4 TX4 6, w ∈ wsX4_faultReason := fun w hw => (List.mem_cons_of_mem _ (List.mem_append_right _ hw))
set_option maxRecDepth 100000 in
set_option maxHeartbeats 4000000 in
theorem c_X4_faultReason {l : Launch} {G : mw_GG} (M : mw_M) : mw_Met l yX4_faultReason wsX4_faultReason ({ frames := 0, cells := 0, slots := 0, locals := 0 } : Room) G [.ref (G.1 136)] M (qI (M 657) M) := by
  refine mw_ofV (cc := cX4_faultReason) 1 (by decide) rfl rfl (Nat.le_of_ble_eq_true rfl) ?_
  intro p e s m args below meth c C hR hN0
  refine vv_loc (ls2 := [some (.ref (G.1 136))]) rfl ?_
  refine vv_aload_n C 0 dX4_faultReason_0 rfl rfl ?_
  refine vv_geti C (Cn := RX4) (T := TX4) (N := 6) sh_136 5 rfl rfl (by decide) iX4_faultReason_X4 (List.mem_of_getElem? (i := 1) rfl) rfl dX4_faultReason_1 ?_
  exact vv_iret C hR dX4_faultReason_4 (qI_of (rfl) (rfl))
theorem iX4_cells_X4 : ∀ w ∈ u_ws RX4 TX4 6, w ∈ wsX4_cells := fun w hw => (List.mem_cons_of_mem _ (List.mem_append_right _ hw))
set_option maxRecDepth 100000 in
set_option maxHeartbeats 4000000 in
theorem c_X4_cells {l : Launch} {G : mw_GG} (M : mw_M) : mw_Met l yX4_cells wsX4_cells ({ frames := 0, cells := 0, slots := 0, locals := 0 } : Room) G [.ref (G.1 136)] M (qI (M 654) M) := by
  refine mw_ofV (cc := cX4_cells) 1 (by decide) rfl rfl (Nat.le_of_ble_eq_true rfl) ?_
  intro p e s m args below meth c C hR hN0
  refine vv_loc (ls2 := [some (.ref (G.1 136))]) rfl ?_
  refine vv_aload_n C 0 dX4_cells_0 rfl rfl ?_
  refine vv_geti C (Cn := RX4) (T := TX4) (N := 6) sh_136 2 rfl rfl (by decide) iX4_cells_X4 (List.mem_of_getElem? (i := 1) rfl) rfl dX4_cells_1 ?_
  exact vv_iret C hR dX4_cells_4 (qI_of (rfl) (rfl))
theorem iX4_example_X4 : ∀ w ∈ u_ws RX4 TX4 6, w ∈ wsX4_example := fun w hw => (List.mem_cons_of_mem _ (List.mem_append_right _ hw))
set_option maxRecDepth 100000 in
set_option maxHeartbeats 4000000 in
theorem c_X4_example {l : Launch} {G : mw_GG} (M : mw_M) : mw_Met l yX4_example wsX4_example ({ frames := 0, cells := 0, slots := 0, locals := 0 } : Room) G [.ref (G.1 136)] M (qR (G.1 137) M) := by
  refine mw_ofV (cc := cX4_example) 1 (by decide) rfl rfl (Nat.le_of_ble_eq_true rfl) ?_
  intro p e s m args below meth c C hR hN0
  refine vv_loc (ls2 := [some (.ref (G.1 136))]) rfl ?_
  refine vv_aload_n C 0 dX4_example_0 rfl rfl ?_
  refine vv_getr C (Cn := RX4) (T := TX4) (N := 6) sh_136 1 rfl rfl (by decide) iX4_example_X4 (List.mem_of_getElem? (i := 1) rfl) rfl dX4_example_1 ?_
  exact vv_aret C hR dX4_example_4 (qR_of (rfl) (rfl))
theorem iX4_readNumber_X4 : ∀ w ∈ u_ws RX4 TX4 6, w ∈ wsX4_readNumber := fun w hw => (List.mem_cons_of_mem _ (List.mem_append_left _ (List.mem_append_left _ (List.mem_append_right _ hw))))
set_option maxRecDepth 100000 in
set_option maxHeartbeats 4000000 in
theorem c_X4_readNumber {l : Launch} {G : mw_GG} (M : mw_M) {t : Nat} (ht : M 653 = nI t) (ht60 : t ≤ 60) {q : Nat} (hq : M 655 = nI q) (hq60 : q ≤ 100) : mw_Met l yX4_readNumber wsX4_readNumber ({ frames := 2, cells := 0, slots := 0, locals := 42 } : Room) G [.ref (G.1 136)] M (qI (nmV (chA M t) q) (nmM M t q)) := by
  refine mw_ofV (cc := cX4_readNumber) 4 (by decide) rfl rfl (Nat.le_of_ble_eq_true rfl) ?_
  intro p e s m args below meth c C hR hN0
  refine vv_loc (ls2 := [some (.ref (G.1 136)), none, none, none]) rfl ?_
  refine vv_aload_n C 0 dX4_readNumber_0 rfl rfl ?_
  refine vv_getr C (Cn := RX4) (T := TX4) (N := 6) sh_136 0 rfl rfl (by decide) iX4_readNumber_X4 (List.mem_of_getElem? (i := 1) rfl) rfl dX4_readNumber_1 ?_
  refine vv_aload_n C 0 dX4_readNumber_4 rfl rfl ?_
  refine vv_geti C (Cn := RX4) (T := TX4) (N := 6) sh_136 3 rfl rfl (by decide) iX4_readNumber_X4 (List.mem_of_getElem? (i := 2) rfl) rfl dX4_readNumber_5 ?_
  refine vv_callVI C [.int (M 655)] (c_X7_characterAt M (t := t) ht ht60 (i := (M 655)) (j := q) hq (by omega)) sh_133 rfl (cwV 1 C.1.2.2.2.2 gX4_readNumber_X7_characterAt rfl rfl rfl (by decide +kernel) ⟨Nat.le_of_ble_eq_true rfl, Nat.le_of_ble_eq_true rfl⟩) rfl rfl rfl (Nat.le_of_ble_eq_true rfl) dX4_readNumber_8 ⟨Nat.le_refl _, Nat.le_refl _⟩ ?_
  refine vv_istore_n (ls2 := [some (.ref (G.1 136)), some (.int (chA M t q)), none, none]) C 1 dX4_readNumber_11 rfl (Nat.le_of_ble_eq_true rfl) rfl ?_
  refine vv_iload_n C 1 dX4_readNumber_12 rfl rfl ?_
  refine vv_callSI C [.int (chA M t q)] (c_X4_isDigit M (chA M t q)) (cwS 1 C.1.2.2.2.2 gX4_readNumber_X4_isDigit rfl rfl rfl (by decide +kernel) ⟨Nat.le_of_ble_eq_true rfl, Nat.le_of_ble_eq_true rfl⟩) rfl rfl rfl (Nat.le_of_ble_eq_true rfl) dX4_readNumber_13 ⟨Nat.le_refl _, Nat.le_refl _⟩ ?_
  refine vv_bif_ne C 30 dX4_readNumber_16 (by decide) (fun h_d => ?_) (fun h_nd => ?_)
  · refine vv_iload_n C 1 dX4_readNumber_30 rfl rfl ?_
    refine vv_bipush (v := 48) C dX4_readNumber_31 (by decide) ?_
    refine vv_isub C dX4_readNumber_33 ?_
    refine vv_istore_n (ls2 := [some (.ref (G.1 136)), some (.int (chA M t q)), some (.int ((chA M t q) - 48)), none]) C 2 dX4_readNumber_34 rfl (Nat.le_of_ble_eq_true rfl) rfl ?_
    refine vv_aload_n C 0 dX4_readNumber_35 rfl rfl ?_
    refine vv_dup C dX4_readNumber_36 rfl ?_
    refine vv_geti C (Cn := RX4) (T := TX4) (N := 6) sh_136 3 rfl rfl (by decide) iX4_readNumber_X4 (List.mem_of_getElem? (i := 2) rfl) rfl dX4_readNumber_37 ?_
    refine vv_iconst (v := 1) C dX4_readNumber_40 (by decide) ?_
    refine vv_iadd C dX4_readNumber_41 ?_
    refine vv_top (y := nI (q + 1)) (by rw [hq]; exact nI_1 q) ?_
    refine vv_putf C (Cn := RX4) (T := TX4) (N := 6) sh_136 3 rfl rfl (by decide) iX4_readNumber_X4 (List.mem_of_getElem? (i := 2) rfl) rfl tyX4_ok nmX4 rfl rfl dX4_readNumber_42 ?_
    refine vv_aload_n C 0 dX4_readNumber_45 rfl rfl ?_
    refine vv_getr C (Cn := RX4) (T := TX4) (N := 6) sh_136 0 rfl rfl (by decide) iX4_readNumber_X4 (List.mem_of_getElem? (i := 1) rfl) rfl dX4_readNumber_46 ?_
    refine vv_aload_n C 0 dX4_readNumber_49 rfl rfl ?_
    refine vv_geti C (Cn := RX4) (T := TX4) (N := 6) sh_136 3 rfl rfl (by decide) iX4_readNumber_X4 (List.mem_of_getElem? (i := 2) rfl) rfl dX4_readNumber_50 ?_
    refine vv_callVI C [.int ((upd M 655 (nI (q + 1))) 655)] (c_X7_characterAt (upd M 655 (nI (q + 1))) (t := t) (by rw [upd_o (by omega)]; exact ht) ht60 (i := ((upd M 655 (nI (q + 1))) 655)) (j := (q + 1)) upd_s (by omega)) sh_133 rfl (cwV 1 C.1.2.2.2.2 gX4_readNumber_X7_characterAt rfl rfl rfl (by decide +kernel) ⟨Nat.le_of_ble_eq_true rfl, Nat.le_of_ble_eq_true rfl⟩) rfl rfl rfl (Nat.le_of_ble_eq_true rfl) dX4_readNumber_53 ⟨Nat.le_refl _, Nat.le_refl _⟩ ?_
    refine vv_top (y := chA M t (q + 1)) ((inR.rf.u (by omega)).ch) ?_
    refine vv_istore_n (ls2 := [some (.ref (G.1 136)), some (.int (chA M t q)), some (.int ((chA M t q) - 48)), some (.int (chA M t (q + 1)))]) C 3 dX4_readNumber_56 rfl (Nat.le_of_ble_eq_true rfl) rfl ?_
    refine vv_iload_n C 3 dX4_readNumber_57 rfl rfl ?_
    refine vv_callSI C [.int (chA M t (q + 1))] (c_X4_isDigit (upd M 655 (nI (q + 1))) (chA M t (q + 1))) (cwS 1 C.1.2.2.2.2 gX4_readNumber_X4_isDigit rfl rfl rfl (by decide +kernel) ⟨Nat.le_of_ble_eq_true rfl, Nat.le_of_ble_eq_true rfl⟩) rfl rfl rfl (Nat.le_of_ble_eq_true rfl) dX4_readNumber_58 ⟨Nat.le_refl _, Nat.le_refl _⟩ ?_
    refine vv_bif_eq C 84 dX4_readNumber_61 (by decide) (fun h_nd2 => ?_) (fun h_d2 => ?_)
    · refine vv_iload_n C 2 dX4_readNumber_84 rfl rfl ?_
      exact vv_iret C hR dX4_readNumber_85 (qI_of (by unfold nmV; rw [if_neg (fun z => z h_d), if_neg h_nd2]) (by unfold nmM nmP; rw [if_pos h_d, if_neg h_nd2]))
    · refine vv_bipush (v := 10) C dX4_readNumber_64 (by decide) ?_
      refine vv_iload_n C 2 dX4_readNumber_66 rfl rfl ?_
      refine vv_imul C dX4_readNumber_67 ?_
      refine vv_iload_n C 3 dX4_readNumber_68 rfl rfl ?_
      refine vv_iadd C dX4_readNumber_69 ?_
      refine vv_bipush (v := 48) C dX4_readNumber_70 (by decide) ?_
      refine vv_isub C dX4_readNumber_72 ?_
      refine vv_istore_n (ls2 := [some (.ref (G.1 136)), some (.int (chA M t q)), some (.int (((10 * ((chA M t q) - 48)) + (chA M t (q + 1))) - 48)), some (.int (chA M t (q + 1)))]) C 2 dX4_readNumber_73 rfl (Nat.le_of_ble_eq_true rfl) rfl ?_
      refine vv_aload_n C 0 dX4_readNumber_74 rfl rfl ?_
      refine vv_dup C dX4_readNumber_75 rfl ?_
      refine vv_geti C (Cn := RX4) (T := TX4) (N := 6) sh_136 3 rfl rfl (by decide) iX4_readNumber_X4 (List.mem_of_getElem? (i := 2) rfl) rfl dX4_readNumber_76 ?_
      refine vv_iconst (v := 1) C dX4_readNumber_79 (by decide) ?_
      refine vv_iadd C dX4_readNumber_80 ?_
      refine vv_top (y := nI (q + 2)) (by rw [upd_s]; exact nI_1 (q + 1)) ?_
      refine vv_putf C (Cn := RX4) (T := TX4) (N := 6) sh_136 3 rfl rfl (by decide) iX4_readNumber_X4 (List.mem_of_getElem? (i := 2) rfl) rfl tyX4_ok nmX4 rfl rfl dX4_readNumber_81 ?_
      refine vv_iload_n C 2 dX4_readNumber_84 rfl rfl ?_
      exact vv_iret C hR dX4_readNumber_85 (qI_of (by unfold nmV; rw [if_neg (fun z => z h_d), if_pos h_d2]) (by rw [upd_upd]; unfold nmM nmP; rw [if_pos h_d, if_pos h_d2]))
  · refine vv_aload_n C 0 dX4_readNumber_19 rfl rfl ?_
    refine vv_aload_n C 0 dX4_readNumber_20 rfl rfl ?_
    refine vv_geti C (Cn := RX4) (T := TX4) (N := 6) sh_136 3 rfl rfl (by decide) iX4_readNumber_X4 (List.mem_of_getElem? (i := 2) rfl) rfl dX4_readNumber_21 ?_
    refine vv_iconst (v := 1) C dX4_readNumber_24 (by decide) ?_
    refine vv_callVV C [.int (M 655), .int 1] (c_X4_fail M (M 655) 1) sh_136 rfl (cwV 2 C.1.2.2.2.2 gX4_readNumber_X4_fail rfl rfl rfl (by decide +kernel) ⟨Nat.le_of_ble_eq_true rfl, Nat.le_of_ble_eq_true rfl⟩) rfl rfl rfl (Nat.le_of_ble_eq_true rfl) dX4_readNumber_25 ⟨Nat.le_refl _, Nat.le_refl _⟩ ?_
    refine vv_iconst (v := 0) C dX4_readNumber_28 (by decide) ?_
    exact vv_iret C hR dX4_readNumber_29 (qI_of (by unfold nmV; rw [if_pos h_nd]) (by rw [hq]; unfold nmM; rw [if_neg h_nd]))
theorem iX4_readBound_X4 : ∀ w ∈ u_ws RX4 TX4 6, w ∈ wsX4_readBound := fun w hw => (List.mem_cons_of_mem _ (List.mem_append_left _ (List.mem_append_left _ (List.mem_append_left _ (List.mem_append_right _ hw)))))
set_option maxRecDepth 100000 in
set_option maxHeartbeats 4000000 in
theorem c_X4_readBound {l : Launch} {G : mw_GG} (M : mw_M) {t : Nat} (ht : M 653 = nI t) (ht60 : t ≤ 60) {q n : Nat} (hq : M 655 = nI q) (hq60 : q ≤ 100) (hn : M 654 = nI n) (hn4 : n < 4) (h7 : M 657 = 0) (x y : Int32) : mw_Met l yX4_readBound wsX4_readBound ({ frames := 3, cells := 0, slots := 0, locals := 65 } : Room) G [.ref (G.1 136), .int x, .int y] M (qVP (fun M2 => rdO M M2 n (bdR (chA M t) q x y))) := by
  refine mw_ofV (cc := cX4_readBound) 4 (by decide) rfl rfl (Nat.le_of_ble_eq_true rfl) ?_
  intro p e s m args below meth c C hR hN0
  refine vv_loc (ls2 := [some (.ref (G.1 136)), some (.int x), some (.int y), none]) rfl ?_
  refine vv_aload_n C 0 dX4_readBound_0 rfl rfl ?_
  refine vv_getr C (Cn := RX4) (T := TX4) (N := 6) sh_136 0 rfl rfl (by decide) iX4_readBound_X4 (List.mem_of_getElem? (i := 1) rfl) rfl dX4_readBound_1 ?_
  refine vv_aload_n C 0 dX4_readBound_4 rfl rfl ?_
  refine vv_geti C (Cn := RX4) (T := TX4) (N := 6) sh_136 3 rfl rfl (by decide) iX4_readBound_X4 (List.mem_of_getElem? (i := 2) rfl) rfl dX4_readBound_5 ?_
  refine vv_callVI C [.int (M 655)] (c_X7_characterAt M (t := t) ht ht60 (i := (M 655)) (j := q) hq (by omega)) sh_133 rfl (cwV 1 C.1.2.2.2.2 gX4_readBound_X7_characterAt rfl rfl rfl (by decide +kernel) ⟨Nat.le_of_ble_eq_true rfl, Nat.le_of_ble_eq_true rfl⟩) rfl rfl rfl (Nat.le_of_ble_eq_true rfl) dX4_readBound_8 ⟨Nat.le_refl _, Nat.le_refl _⟩ ?_
  refine vv_istore_n (ls2 := [some (.ref (G.1 136)), some (.int x), some (.int y), some (.int (chA M t q))]) C 3 dX4_readBound_11 rfl (Nat.le_of_ble_eq_true rfl) rfl ?_
  refine vv_iload_n C 3 dX4_readBound_12 rfl rfl ?_
  refine vv_callSI C [.int (chA M t q)] (c_X4_isLetter M (chA M t q)) (cwS 1 C.1.2.2.2.2 gX4_readBound_X4_isLetter rfl rfl rfl (by decide +kernel) ⟨Nat.le_of_ble_eq_true rfl, Nat.le_of_ble_eq_true rfl⟩) rfl rfl rfl (Nat.le_of_ble_eq_true rfl) dX4_readBound_13 ⟨Nat.le_refl _, Nat.le_refl _⟩ ?_
  refine vv_bif_eq C 49 dX4_readBound_16 (by decide) (fun h_nl => ?_) (fun h_l => ?_)
  · rcases Classical.em (dgP (chA M t q)) with h_dg | h_ndg
    · refine vv_aload_n C 0 dX4_readBound_49 rfl rfl ?_
      refine vv_getr C (Cn := RX4) (T := TX4) (N := 6) sh_136 1 rfl rfl (by decide) iX4_readBound_X4 (List.mem_of_getElem? (i := 3) rfl) rfl dX4_readBound_50 ?_
      refine vv_aload_n C 0 dX4_readBound_53 rfl rfl ?_
      refine vv_geti C (Cn := RX4) (T := TX4) (N := 6) sh_136 2 rfl rfl (by decide) iX4_readBound_X4 (List.mem_of_getElem? (i := 4) rfl) rfl dX4_readBound_54 ?_
      refine vv_iload_n C 1 dX4_readBound_57 rfl rfl ?_
      refine vv_aload_n C 0 dX4_readBound_58 rfl rfl ?_
      refine vv_callVI C [] (c_X4_readNumber M (t := t) ht ht60 (q := q) hq (by omega)) sh_136 rfl (cwV 0 C.1.2.2.2.2 gX4_readBound_X4_readNumber rfl rfl rfl (by decide +kernel) ⟨Nat.le_of_ble_eq_true rfl, Nat.le_of_ble_eq_true rfl⟩) rfl rfl rfl (Nat.le_of_ble_eq_true rfl) dX4_readBound_59 ⟨Nat.le_refl _, Nat.le_refl _⟩ ?_
      refine vv_mem (show nmM M t q = upd M 655 (nI (nmP (chA M t) q)) from if_pos h_dg) ?_
      refine vv_iconst (v := 0) C dX4_readBound_62 (by decide) ?_
      refine vv_callVV C [.int (M 654), .int x, .int (nmV (chA M t) q), .int 0] (c_X1_fill mw_Ex_137 (upd M 655 (nI (nmP (chA M t) q))) (i := (M 654)) (j := n) hn hn4 x (nmV (chA M t) q) 0) mw_Ex_137.1 rfl (cwV 4 C.1.2.2.2.2 gX4_readBound_X1_fill rfl rfl rfl (by decide +kernel) ⟨Nat.le_of_ble_eq_true rfl, Nat.le_of_ble_eq_true rfl⟩) rfl rfl rfl (Nat.le_of_ble_eq_true rfl) dX4_readBound_63 ⟨Nat.le_refl _, Nat.le_refl _⟩ ?_
      exact vv_vret C hR dX4_readBound_66 (qVP_of (by rw [show bdR (chA M t) q x y = (0, nmP (chA M t) q, x, nmV (chA M t) q, 0) from (if_neg h_nl).trans (if_pos h_dg)]; exact rdO_fill hn4 (inR.rf.u (by omega)) (by rw [upd_o (by omega)]; exact h7) upd_s))
    · refine vv_aload_n C 0 dX4_readBound_49 rfl rfl ?_
      refine vv_getr C (Cn := RX4) (T := TX4) (N := 6) sh_136 1 rfl rfl (by decide) iX4_readBound_X4 (List.mem_of_getElem? (i := 3) rfl) rfl dX4_readBound_50 ?_
      refine vv_aload_n C 0 dX4_readBound_53 rfl rfl ?_
      refine vv_geti C (Cn := RX4) (T := TX4) (N := 6) sh_136 2 rfl rfl (by decide) iX4_readBound_X4 (List.mem_of_getElem? (i := 4) rfl) rfl dX4_readBound_54 ?_
      refine vv_iload_n C 1 dX4_readBound_57 rfl rfl ?_
      refine vv_aload_n C 0 dX4_readBound_58 rfl rfl ?_
      refine vv_callVI C [] (c_X4_readNumber M (t := t) ht ht60 (q := q) hq (by omega)) sh_136 rfl (cwV 0 C.1.2.2.2.2 gX4_readBound_X4_readNumber rfl rfl rfl (by decide +kernel) ⟨Nat.le_of_ble_eq_true rfl, Nat.le_of_ble_eq_true rfl⟩) rfl rfl rfl (Nat.le_of_ble_eq_true rfl) dX4_readBound_59 ⟨Nat.le_refl _, Nat.le_refl _⟩ ?_
      refine vv_mem (show nmM M t q = upd (upd M 656 (nI q)) 657 1 from if_neg h_ndg) ?_
      refine vv_iconst (v := 0) C dX4_readBound_62 (by decide) ?_
      refine vv_callVV C [.int (M 654), .int x, .int (nmV (chA M t) q), .int 0] (c_X1_fill mw_Ex_137 (upd (upd M 656 (nI q)) 657 1) (i := (M 654)) (j := n) hn hn4 x (nmV (chA M t) q) 0) mw_Ex_137.1 rfl (cwV 4 C.1.2.2.2.2 gX4_readBound_X1_fill rfl rfl rfl (by decide +kernel) ⟨Nat.le_of_ble_eq_true rfl, Nat.le_of_ble_eq_true rfl⟩) rfl rfl rfl (Nat.le_of_ble_eq_true rfl) dX4_readBound_63 ⟨Nat.le_refl _, Nat.le_refl _⟩ ?_
      exact vv_vret C hR dX4_readBound_66 (qVP_of (by rw [show bdR (chA M t) q x y = (1, q, 0, 0, 0) from (if_neg h_nl).trans (if_neg h_ndg)]; exact rdO_fault (fun z a1 a2 => ((inR.rf.u (by omega)).u (by omega)).fl z a1 a2 hn4) (by decide) (by rw [upd_o (by omega), upd_o (by omega), upd_o (by omega), upd_s]; rfl) (by rw [upd_o (by omega), upd_o (by omega), upd_o (by omega), upd_o (by omega), upd_s])))
  · refine vv_aload_n C 0 dX4_readBound_19 rfl rfl ?_
    refine vv_dup C dX4_readBound_20 rfl ?_
    refine vv_geti C (Cn := RX4) (T := TX4) (N := 6) sh_136 3 rfl rfl (by decide) iX4_readBound_X4 (List.mem_of_getElem? (i := 2) rfl) rfl dX4_readBound_21 ?_
    refine vv_iconst (v := 1) C dX4_readBound_24 (by decide) ?_
    refine vv_iadd C dX4_readBound_25 ?_
    refine vv_top (y := nI (q + 1)) (by rw [hq]; exact nI_1 q) ?_
    refine vv_putf C (Cn := RX4) (T := TX4) (N := 6) sh_136 3 rfl rfl (by decide) iX4_readBound_X4 (List.mem_of_getElem? (i := 2) rfl) rfl tyX4_ok nmX4 rfl rfl dX4_readBound_26 ?_
    refine vv_aload_n C 0 dX4_readBound_29 rfl rfl ?_
    refine vv_getr C (Cn := RX4) (T := TX4) (N := 6) sh_136 1 rfl rfl (by decide) iX4_readBound_X4 (List.mem_of_getElem? (i := 3) rfl) rfl dX4_readBound_30 ?_
    refine vv_aload_n C 0 dX4_readBound_33 rfl rfl ?_
    refine vv_geti C (Cn := RX4) (T := TX4) (N := 6) sh_136 2 rfl rfl (by decide) iX4_readBound_X4 (List.mem_of_getElem? (i := 4) rfl) rfl dX4_readBound_34 ?_
    refine vv_iload_n C 2 dX4_readBound_37 rfl rfl ?_
    refine vv_iload_n C 3 dX4_readBound_38 rfl rfl ?_
    refine vv_bipush (v := 119) C dX4_readBound_39 (by decide) ?_
    refine vv_isub C dX4_readBound_41 ?_
    refine vv_iconst (v := 0) C dX4_readBound_42 (by decide) ?_
    refine vv_callVV C [.int ((upd M 655 (nI (q + 1))) 654), .int y, .int ((chA M t q) - 119), .int 0] (c_X1_fill mw_Ex_137 (upd M 655 (nI (q + 1))) (i := ((upd M 655 (nI (q + 1))) 654)) (j := n) (by rw [upd_o (by omega)]; exact hn) hn4 y ((chA M t q) - 119) 0) mw_Ex_137.1 rfl (cwV 4 C.1.2.2.2.2 gX4_readBound_X1_fill rfl rfl rfl (by decide +kernel) ⟨Nat.le_of_ble_eq_true rfl, Nat.le_of_ble_eq_true rfl⟩) rfl rfl rfl (Nat.le_of_ble_eq_true rfl) dX4_readBound_43 ⟨Nat.le_refl _, Nat.le_refl _⟩ ?_
    refine vv_goto C 66 dX4_readBound_46 (by decide) ?_
    exact vv_vret C hR dX4_readBound_66 (qVP_of (by rw [show bdR (chA M t) q x y = (0, q + 1, y, chA M t q - 119, 0) from if_pos h_l]; exact rdO_fill hn4 (inR.rf.u (by omega)) (by rw [upd_o (by omega)]; exact h7) upd_s))
theorem iX4_readNumbers_X4 : ∀ w ∈ u_ws RX4 TX4 6, w ∈ wsX4_readNumbers := fun w hw => (List.mem_cons_of_mem _ (List.mem_append_left _ (List.mem_append_left _ (List.mem_append_left _ (List.mem_append_right _ hw)))))
set_option maxRecDepth 100000 in
set_option maxHeartbeats 4000000 in
theorem c_X4_readNumbers {l : Launch} {G : mw_GG} (M : mw_M) {t : Nat} (ht : M 653 = nI t) (ht60 : t ≤ 60) {q n : Nat} (hq : M 655 = nI q) (hq60 : q ≤ 100) (hn : M 654 = nI n) (hn4 : n < 4) (h7 : M 657 = 0) (hd : dgP (chA M t q)) : mw_Met l yX4_readNumbers wsX4_readNumbers ({ frames := 3, cells := 0, slots := 0, locals := 65 } : Room) G [.ref (G.1 136)] M (qVP (fun M2 => rdO M M2 n (nsR (chA M t) q))) := by
  refine mw_ofV (cc := cX4_readNumbers) 4 (by decide) rfl rfl (Nat.le_of_ble_eq_true rfl) ?_
  intro p e s m args below meth c C hR hN0
  refine vv_loc (ls2 := [some (.ref (G.1 136)), none, none, none]) rfl ?_
  have hA := nmP_le (chA M t) q
  have hA2 := nmP_in hd
  refine vv_aload_n C 0 dX4_readNumbers_0 rfl rfl ?_
  refine vv_geti C (Cn := RX4) (T := TX4) (N := 6) sh_136 3 rfl rfl (by decide) iX4_readNumbers_X4 (List.mem_of_getElem? (i := 1) rfl) rfl dX4_readNumbers_1 ?_
  refine vv_istore_n (ls2 := [some (.ref (G.1 136)), some (.int (M 655)), none, none]) C 1 dX4_readNumbers_4 rfl (Nat.le_of_ble_eq_true rfl) rfl ?_
  refine vv_aload_n C 0 dX4_readNumbers_5 rfl rfl ?_
  refine vv_callVI C [] (c_X4_readNumber M (t := t) ht ht60 (q := q) hq (by omega)) sh_136 rfl (cwV 0 C.1.2.2.2.2 gX4_readNumbers_X4_readNumber rfl rfl rfl (by decide +kernel) ⟨Nat.le_of_ble_eq_true rfl, Nat.le_of_ble_eq_true rfl⟩) rfl rfl rfl (Nat.le_of_ble_eq_true rfl) dX4_readNumbers_6 ⟨Nat.le_refl _, Nat.le_refl _⟩ ?_
  refine vv_mem (M2 := upd M 655 (nI (nmP (chA M t) q))) (if_pos hd) ?_
  refine vv_istore_n (ls2 := [some (.ref (G.1 136)), some (.int (M 655)), some (.int (nmV (chA M t) q)), none]) C 2 dX4_readNumbers_9 rfl (Nat.le_of_ble_eq_true rfl) rfl ?_
  refine vv_aload_n C 0 dX4_readNumbers_10 rfl rfl ?_
  refine vv_getr C (Cn := RX4) (T := TX4) (N := 6) sh_136 0 rfl rfl (by decide) iX4_readNumbers_X4 (List.mem_of_getElem? (i := 2) rfl) rfl dX4_readNumbers_11 ?_
  refine vv_aload_n C 0 dX4_readNumbers_14 rfl rfl ?_
  refine vv_geti C (Cn := RX4) (T := TX4) (N := 6) sh_136 3 rfl rfl (by decide) iX4_readNumbers_X4 (List.mem_of_getElem? (i := 1) rfl) rfl dX4_readNumbers_15 ?_
  refine vv_callVI C [.int ((upd M 655 (nI (nmP (chA M t) q))) 655)] (c_X7_characterAt (upd M 655 (nI (nmP (chA M t) q))) (t := t) (by rw [upd_o (by omega)]; exact ht) ht60 (i := ((upd M 655 (nI (nmP (chA M t) q))) 655)) (j := (nmP (chA M t) q)) upd_s (by omega)) sh_133 rfl (cwV 1 C.1.2.2.2.2 gX4_readNumbers_X7_characterAt rfl rfl rfl (by decide +kernel) ⟨Nat.le_of_ble_eq_true rfl, Nat.le_of_ble_eq_true rfl⟩) rfl rfl rfl (Nat.le_of_ble_eq_true rfl) dX4_readNumbers_18 ⟨Nat.le_refl _, Nat.le_refl _⟩ ?_
  refine vv_top (y := chA M t (nmP (chA M t) q)) ((inR.rf.u (by omega)).ch) ?_
  refine vv_bipush (v := 45) C dX4_readNumbers_21 (by decide) ?_
  refine vv_icmp_eq C 41 dX4_readNumbers_23 (by decide) (fun h_m => ?_) (fun h_nm => ?_)
  · refine vv_aload_n C 0 dX4_readNumbers_41 rfl rfl ?_
    refine vv_dup C dX4_readNumbers_42 rfl ?_
    refine vv_geti C (Cn := RX4) (T := TX4) (N := 6) sh_136 3 rfl rfl (by decide) iX4_readNumbers_X4 (List.mem_of_getElem? (i := 1) rfl) rfl dX4_readNumbers_43 ?_
    refine vv_iconst (v := 1) C dX4_readNumbers_46 (by decide) ?_
    refine vv_iadd C dX4_readNumbers_47 ?_
    refine vv_top (y := nI (nmP (chA M t) q + 1)) (by rw [upd_s]; exact nI_1 _) ?_
    refine vv_putf C (Cn := RX4) (T := TX4) (N := 6) sh_136 3 rfl rfl (by decide) iX4_readNumbers_X4 (List.mem_of_getElem? (i := 1) rfl) rfl tyX4_ok nmX4 rfl rfl dX4_readNumbers_48 ?_
    refine vv_mem (M2 := upd M 655 (nI (nmP (chA M t) q + 1))) upd_upd ?_
    rcases Classical.em (dgP (chA M t (nmP (chA M t) q + 1))) with h_dg | h_ndg
    · refine vv_aload_n C 0 dX4_readNumbers_51 rfl rfl ?_
      refine vv_callVI C [] (c_X4_readNumber (upd M 655 (nI (nmP (chA M t) q + 1))) (t := t) (by rw [upd_o (by omega)]; exact ht) ht60 (q := (nmP (chA M t) q + 1)) upd_s (by omega)) sh_136 rfl (cwV 0 C.1.2.2.2.2 gX4_readNumbers_X4_readNumber rfl rfl rfl (by decide +kernel) ⟨Nat.le_of_ble_eq_true rfl, Nat.le_of_ble_eq_true rfl⟩) rfl rfl rfl (Nat.le_of_ble_eq_true rfl) dX4_readNumbers_52 ⟨Nat.le_refl _, Nat.le_refl _⟩ ?_
      refine vv_top (y := nmV (chA M t) (nmP (chA M t) q + 1)) (by rw [(inR.rf.u (by omega)).chf]) ?_
      refine vv_mem (M2 := upd M 655 (nI (nmP (chA M t) (nmP (chA M t) q + 1)))) (nmM_ok h_dg) ?_
      refine vv_istore_n (ls2 := [some (.ref (G.1 136)), some (.int (M 655)), some (.int (nmV (chA M t) q)), some (.int (nmV (chA M t) (nmP (chA M t) q + 1)))]) C 3 dX4_readNumbers_55 rfl (Nat.le_of_ble_eq_true rfl) rfl ?_
      refine vv_aload_n C 0 dX4_readNumbers_56 rfl rfl ?_
      refine vv_callVI C [] (c_X4_hasFault (upd M 655 (nI (nmP (chA M t) (nmP (chA M t) q + 1))))) sh_136 rfl (cwV 0 C.1.2.2.2.2 gX4_readNumbers_X4_hasFault rfl rfl rfl (by decide +kernel) ⟨Nat.le_of_ble_eq_true rfl, Nat.le_of_ble_eq_true rfl⟩) rfl rfl rfl (Nat.le_of_ble_eq_true rfl) dX4_readNumbers_57 ⟨Nat.le_refl _, Nat.le_refl _⟩ ?_
      refine vv_bif_ne C 74 dX4_readNumbers_60 (by decide) (fun h_3 => absurd (by rw [upd_o (by omega)]; exact h7) h_3) (fun h_4 => ?_)
      refine vv_iload_n C 3 dX4_readNumbers_63 rfl rfl ?_
      refine vv_iload_n C 2 dX4_readNumbers_64 rfl rfl ?_
      refine vv_icmp_ge C 74 dX4_readNumbers_65 (by decide) (fun h_ge => ?_) (fun h_lt => ?_)
      · refine vv_aload_n C 0 dX4_readNumbers_74 rfl rfl ?_
        refine vv_getr C (Cn := RX4) (T := TX4) (N := 6) sh_136 1 rfl rfl (by decide) iX4_readNumbers_X4 (List.mem_of_getElem? (i := 3) rfl) rfl dX4_readNumbers_75 ?_
        refine vv_aload_n C 0 dX4_readNumbers_78 rfl rfl ?_
        refine vv_geti C (Cn := RX4) (T := TX4) (N := 6) sh_136 2 rfl rfl (by decide) iX4_readNumbers_X4 (List.mem_of_getElem? (i := 4) rfl) rfl dX4_readNumbers_79 ?_
        refine vv_bipush (v := 7) C dX4_readNumbers_82 (by decide) ?_
        refine vv_iload_n C 2 dX4_readNumbers_84 rfl rfl ?_
        refine vv_iload_n C 3 dX4_readNumbers_85 rfl rfl ?_
        refine vv_callVV C [.int ((upd M 655 (nI (nmP (chA M t) (nmP (chA M t) q + 1)))) 654), .int 7, .int (nmV (chA M t) q), .int (nmV (chA M t) (nmP (chA M t) q + 1))] (c_X1_fill mw_Ex_137 (upd M 655 (nI (nmP (chA M t) (nmP (chA M t) q + 1)))) (i := ((upd M 655 (nI (nmP (chA M t) (nmP (chA M t) q + 1)))) 654)) (j := n) (by first | (rw [upd_o (by omega)]; exact hn) | (rw [upd_o (by omega), upd_o (by omega), upd_o (by omega)]; exact hn)) hn4 7 (nmV (chA M t) q) (nmV (chA M t) (nmP (chA M t) q + 1))) mw_Ex_137.1 rfl (cwV 4 C.1.2.2.2.2 gX4_readNumbers_X1_fill rfl rfl rfl (by decide +kernel) ⟨Nat.le_of_ble_eq_true rfl, Nat.le_of_ble_eq_true rfl⟩) rfl rfl rfl (Nat.le_of_ble_eq_true rfl) dX4_readNumbers_86 ⟨Nat.le_refl _, Nat.le_refl _⟩ ?_
        exact vv_vret C hR dX4_readNumbers_89 (qVP_of (by rw [show nsR (chA M t) q = (0, nmP (chA M t) (nmP (chA M t) q + 1), 7, nmV (chA M t) q, nmV (chA M t) (nmP (chA M t) q + 1)) from (if_neg (fun z => z h_m)).trans ((if_pos h_dg).trans (if_neg (Int32.not_lt.mpr h_ge)))]; exact rdO_fill hn4 (inR.rf.u (by omega)) (by rw [upd_o (by omega)]; exact h7) upd_s))
      · refine vv_aload_n C 0 dX4_readNumbers_68 rfl rfl ?_
        refine vv_iload_n C 1 dX4_readNumbers_69 rfl rfl ?_
        refine vv_iconst (v := 2) C dX4_readNumbers_70 (by decide) ?_
        refine vv_callVV C [.int (M 655), .int 2] (c_X4_fail (upd M 655 (nI (nmP (chA M t) (nmP (chA M t) q + 1)))) (M 655) 2) sh_136 rfl (cwV 2 C.1.2.2.2.2 gX4_readNumbers_X4_fail rfl rfl rfl (by decide +kernel) ⟨Nat.le_of_ble_eq_true rfl, Nat.le_of_ble_eq_true rfl⟩) rfl rfl rfl (Nat.le_of_ble_eq_true rfl) dX4_readNumbers_71 ⟨Nat.le_refl _, Nat.le_refl _⟩ ?_
        refine vv_aload_n C 0 dX4_readNumbers_74 rfl rfl ?_
        refine vv_getr C (Cn := RX4) (T := TX4) (N := 6) sh_136 1 rfl rfl (by decide) iX4_readNumbers_X4 (List.mem_of_getElem? (i := 3) rfl) rfl dX4_readNumbers_75 ?_
        refine vv_aload_n C 0 dX4_readNumbers_78 rfl rfl ?_
        refine vv_geti C (Cn := RX4) (T := TX4) (N := 6) sh_136 2 rfl rfl (by decide) iX4_readNumbers_X4 (List.mem_of_getElem? (i := 4) rfl) rfl dX4_readNumbers_79 ?_
        refine vv_bipush (v := 7) C dX4_readNumbers_82 (by decide) ?_
        refine vv_iload_n C 2 dX4_readNumbers_84 rfl rfl ?_
        refine vv_iload_n C 3 dX4_readNumbers_85 rfl rfl ?_
        refine vv_callVV C [.int ((upd (upd (upd M 655 (nI (nmP (chA M t) (nmP (chA M t) q + 1)))) 656 (M 655)) 657 2) 654), .int 7, .int (nmV (chA M t) q), .int (nmV (chA M t) (nmP (chA M t) q + 1))] (c_X1_fill mw_Ex_137 (upd (upd (upd M 655 (nI (nmP (chA M t) (nmP (chA M t) q + 1)))) 656 (M 655)) 657 2) (i := ((upd (upd (upd M 655 (nI (nmP (chA M t) (nmP (chA M t) q + 1)))) 656 (M 655)) 657 2) 654)) (j := n) (by first | (rw [upd_o (by omega)]; exact hn) | (rw [upd_o (by omega), upd_o (by omega), upd_o (by omega)]; exact hn)) hn4 7 (nmV (chA M t) q) (nmV (chA M t) (nmP (chA M t) q + 1))) mw_Ex_137.1 rfl (cwV 4 C.1.2.2.2.2 gX4_readNumbers_X1_fill rfl rfl rfl (by decide +kernel) ⟨Nat.le_of_ble_eq_true rfl, Nat.le_of_ble_eq_true rfl⟩) rfl rfl rfl (Nat.le_of_ble_eq_true rfl) dX4_readNumbers_86 ⟨Nat.le_refl _, Nat.le_refl _⟩ ?_
        exact vv_vret C hR dX4_readNumbers_89 (qVP_of (by rw [show nsR (chA M t) q = (2, q, 0, 0, 0) from (if_neg (fun z => z h_m)).trans ((if_pos h_dg).trans (if_pos (Int32.not_le.mp h_lt)))]; exact rdO_fault (fun z a1 a2 => (((inR.rf.u (by omega)).u (by omega)).u (by omega)).fl z a1 a2 hn4) (by decide) (by rw [upd_o (by omega), upd_o (by omega), upd_o (by omega), upd_s]; rfl) (by rw [upd_o (by omega), upd_o (by omega), upd_o (by omega), upd_o (by omega), upd_s]; exact hq)))
    · refine vv_aload_n C 0 dX4_readNumbers_51 rfl rfl ?_
      refine vv_callVI C [] (c_X4_readNumber (upd M 655 (nI (nmP (chA M t) q + 1))) (t := t) (by rw [upd_o (by omega)]; exact ht) ht60 (q := (nmP (chA M t) q + 1)) upd_s (by omega)) sh_136 rfl (cwV 0 C.1.2.2.2.2 gX4_readNumbers_X4_readNumber rfl rfl rfl (by decide +kernel) ⟨Nat.le_of_ble_eq_true rfl, Nat.le_of_ble_eq_true rfl⟩) rfl rfl rfl (Nat.le_of_ble_eq_true rfl) dX4_readNumbers_52 ⟨Nat.le_refl _, Nat.le_refl _⟩ ?_
      refine vv_top (y := nmV (chA M t) (nmP (chA M t) q + 1)) (by rw [(inR.rf.u (by omega)).chf]) ?_
      refine vv_mem (M2 := upd (upd (upd M 655 (nI (nmP (chA M t) q + 1))) 656 (nI (nmP (chA M t) q + 1))) 657 1) (nmM_bad h_ndg) ?_
      refine vv_istore_n (ls2 := [some (.ref (G.1 136)), some (.int (M 655)), some (.int (nmV (chA M t) q)), some (.int (nmV (chA M t) (nmP (chA M t) q + 1)))]) C 3 dX4_readNumbers_55 rfl (Nat.le_of_ble_eq_true rfl) rfl ?_
      refine vv_aload_n C 0 dX4_readNumbers_56 rfl rfl ?_
      refine vv_callVI C [] (c_X4_hasFault (upd (upd (upd M 655 (nI (nmP (chA M t) q + 1))) 656 (nI (nmP (chA M t) q + 1))) 657 1)) sh_136 rfl (cwV 0 C.1.2.2.2.2 gX4_readNumbers_X4_hasFault rfl rfl rfl (by decide +kernel) ⟨Nat.le_of_ble_eq_true rfl, Nat.le_of_ble_eq_true rfl⟩) rfl rfl rfl (Nat.le_of_ble_eq_true rfl) dX4_readNumbers_57 ⟨Nat.le_refl _, Nat.le_refl _⟩ ?_
      refine vv_bif_ne C 74 dX4_readNumbers_60 (by decide) (fun h_8 => ?_) (fun h_7 => (h_7 (by rw [upd_s]; decide)).elim)
      refine vv_aload_n C 0 dX4_readNumbers_74 rfl rfl ?_
      refine vv_getr C (Cn := RX4) (T := TX4) (N := 6) sh_136 1 rfl rfl (by decide) iX4_readNumbers_X4 (List.mem_of_getElem? (i := 3) rfl) rfl dX4_readNumbers_75 ?_
      refine vv_aload_n C 0 dX4_readNumbers_78 rfl rfl ?_
      refine vv_geti C (Cn := RX4) (T := TX4) (N := 6) sh_136 2 rfl rfl (by decide) iX4_readNumbers_X4 (List.mem_of_getElem? (i := 4) rfl) rfl dX4_readNumbers_79 ?_
      refine vv_bipush (v := 7) C dX4_readNumbers_82 (by decide) ?_
      refine vv_iload_n C 2 dX4_readNumbers_84 rfl rfl ?_
      refine vv_iload_n C 3 dX4_readNumbers_85 rfl rfl ?_
      refine vv_callVV C [.int ((upd (upd (upd M 655 (nI (nmP (chA M t) q + 1))) 656 (nI (nmP (chA M t) q + 1))) 657 1) 654), .int 7, .int (nmV (chA M t) q), .int (nmV (chA M t) (nmP (chA M t) q + 1))] (c_X1_fill mw_Ex_137 (upd (upd (upd M 655 (nI (nmP (chA M t) q + 1))) 656 (nI (nmP (chA M t) q + 1))) 657 1) (i := ((upd (upd (upd M 655 (nI (nmP (chA M t) q + 1))) 656 (nI (nmP (chA M t) q + 1))) 657 1) 654)) (j := n) (by first | (rw [upd_o (by omega)]; exact hn) | (rw [upd_o (by omega), upd_o (by omega), upd_o (by omega)]; exact hn)) hn4 7 (nmV (chA M t) q) (nmV (chA M t) (nmP (chA M t) q + 1))) mw_Ex_137.1 rfl (cwV 4 C.1.2.2.2.2 gX4_readNumbers_X1_fill rfl rfl rfl (by decide +kernel) ⟨Nat.le_of_ble_eq_true rfl, Nat.le_of_ble_eq_true rfl⟩) rfl rfl rfl (Nat.le_of_ble_eq_true rfl) dX4_readNumbers_86 ⟨Nat.le_refl _, Nat.le_refl _⟩ ?_
      exact vv_vret C hR dX4_readNumbers_89 (qVP_of (by rw [show nsR (chA M t) q = (1, nmP (chA M t) q + 1, 0, 0, 0) from (if_neg (fun z => z h_m)).trans (if_neg h_ndg)]; exact rdO_fault (fun z a1 a2 => (((inR.rf.u (by omega)).u (by omega)).u (by omega)).fl z a1 a2 hn4) (by decide) (by rw [upd_o (by omega), upd_o (by omega), upd_o (by omega), upd_s]; rfl) (by rw [upd_o (by omega), upd_o (by omega), upd_o (by omega), upd_o (by omega), upd_s])))
  · refine vv_aload_n C 0 dX4_readNumbers_26 rfl rfl ?_
    refine vv_getr C (Cn := RX4) (T := TX4) (N := 6) sh_136 1 rfl rfl (by decide) iX4_readNumbers_X4 (List.mem_of_getElem? (i := 3) rfl) rfl dX4_readNumbers_27 ?_
    refine vv_aload_n C 0 dX4_readNumbers_30 rfl rfl ?_
    refine vv_geti C (Cn := RX4) (T := TX4) (N := 6) sh_136 2 rfl rfl (by decide) iX4_readNumbers_X4 (List.mem_of_getElem? (i := 4) rfl) rfl dX4_readNumbers_31 ?_
    refine vv_iconst (v := 3) C dX4_readNumbers_34 (by decide) ?_
    refine vv_iload_n C 2 dX4_readNumbers_35 rfl rfl ?_
    refine vv_iconst (v := 0) C dX4_readNumbers_36 (by decide) ?_
    refine vv_callVV C [.int ((upd M 655 (nI (nmP (chA M t) q))) 654), .int 3, .int (nmV (chA M t) q), .int 0] (c_X1_fill mw_Ex_137 (upd M 655 (nI (nmP (chA M t) q))) (i := ((upd M 655 (nI (nmP (chA M t) q))) 654)) (j := n) (by rw [upd_o (by omega)]; exact hn) hn4 3 (nmV (chA M t) q) 0) mw_Ex_137.1 rfl (cwV 4 C.1.2.2.2.2 gX4_readNumbers_X1_fill rfl rfl rfl (by decide +kernel) ⟨Nat.le_of_ble_eq_true rfl, Nat.le_of_ble_eq_true rfl⟩) rfl rfl rfl (Nat.le_of_ble_eq_true rfl) dX4_readNumbers_37 ⟨Nat.le_refl _, Nat.le_refl _⟩ ?_
    exact vv_vret C hR dX4_readNumbers_40 (qVP_of (by rw [show nsR (chA M t) q = (0, nmP (chA M t) q, 3, nmV (chA M t) q, 0) from if_pos h_nm]; exact rdO_fill hn4 (inR.rf.u (by omega)) (by rw [upd_o (by omega)]; exact h7) upd_s))
theorem iX4_readCell_X4 : ∀ w ∈ u_ws RX4 TX4 6, w ∈ wsX4_readCell := fun w hw => (List.mem_cons_of_mem _ (List.mem_append_left _ (List.mem_append_left _ (List.mem_append_left _ (List.mem_append_right _ hw)))))
set_option maxRecDepth 100000 in
set_option maxHeartbeats 4000000 in
theorem c_X4_readCell {l : Launch} {G : mw_GG} (M : mw_M) {t : Nat} (ht : M 653 = nI t) (ht60 : t ≤ 60) {q n : Nat} (hq : M 655 = nI q) (hq60 : q ≤ 90) (hn : M 654 = nI n) (hn4 : n < 4) (h7 : M 657 = 0) (hz : M (670 + 3 * n) = 0 ∧ M (670 + 1 + 3 * n) = 0 ∧ M (670 + 2 + 3 * n) = 0) {x : Int32} (hx : x = chA M t q) : mw_Met l yX4_readCell wsX4_readCell ({ frames := 4, cells := 0, slots := 0, locals := 88 } : Room) G [.ref (G.1 136), .int x] M (qVP (fun M2 => rdO M M2 n (clR (chA M t) q))) := by
  refine mw_ofV (cc := cX4_readCell) 3 (by decide) rfl rfl (Nat.le_of_ble_eq_true rfl) ?_
  intro p e s m args below meth c C hR hN0
  subst hx
  refine vv_loc (ls2 := [some (.ref (G.1 136)), some (.int (chA M t q)), none]) rfl ?_
  refine vv_iload_n C 1 dX4_readCell_0 rfl rfl ?_
  refine vv_callSI C [.int (chA M t q)] (c_X4_isDigit M (chA M t q)) (cwS 1 C.1.2.2.2.2 gX4_readCell_X4_isDigit rfl rfl rfl (by decide +kernel) ⟨Nat.le_of_ble_eq_true rfl, Nat.le_of_ble_eq_true rfl⟩) rfl rfl rfl (Nat.le_of_ble_eq_true rfl) dX4_readCell_1 ⟨Nat.le_refl _, Nat.le_refl _⟩ ?_
  refine vv_bif_eq C 12 dX4_readCell_4 (by decide) (fun h_ndg => ?_) (fun h_dg => ?_)
  · refine vv_aload_n C 0 dX4_readCell_12 rfl rfl ?_
    refine vv_geti C (Cn := RX4) (T := TX4) (N := 6) sh_136 3 rfl rfl (by decide) iX4_readCell_X4 (List.mem_of_getElem? (i := 1) rfl) rfl dX4_readCell_13 ?_
    refine vv_istore_n (ls2 := [some (.ref (G.1 136)), some (.int (chA M t q)), some (.int (M 655))]) C 2 dX4_readCell_16 rfl (Nat.le_of_ble_eq_true rfl) rfl ?_
    refine vv_aload_n C 0 dX4_readCell_17 rfl rfl ?_
    refine vv_dup C dX4_readCell_18 rfl ?_
    refine vv_geti C (Cn := RX4) (T := TX4) (N := 6) sh_136 3 rfl rfl (by decide) iX4_readCell_X4 (List.mem_of_getElem? (i := 1) rfl) rfl dX4_readCell_19 ?_
    refine vv_iconst (v := 1) C dX4_readCell_22 (by decide) ?_
    refine vv_iadd C dX4_readCell_23 ?_
    refine vv_top (y := nI (q + 1)) (by rw [hq]; exact nI_1 q) ?_
    refine vv_putf C (Cn := RX4) (T := TX4) (N := 6) sh_136 3 rfl rfl (by decide) iX4_readCell_X4 (List.mem_of_getElem? (i := 1) rfl) rfl tyX4_ok nmX4 rfl rfl dX4_readCell_24 ?_
    refine vv_iload_n C 1 dX4_readCell_27 rfl rfl ?_
    rcases Classical.em (chA M t q = 33) with e_33 | n_33
    · refine vv_lookup C 108 (off := 80) dX4_readCell_28 (by decide) (by rw [e_33]; decide) (by decide) ?_
      refine vv_aload_n C 0 dX4_readCell_108 rfl rfl ?_
      refine vv_getr C (Cn := RX4) (T := TX4) (N := 6) sh_136 1 rfl rfl (by decide) iX4_readCell_X4 (List.mem_of_getElem? (i := 2) rfl) rfl dX4_readCell_109 ?_
      refine vv_aload_n C 0 dX4_readCell_112 rfl rfl ?_
      refine vv_geti C (Cn := RX4) (T := TX4) (N := 6) sh_136 2 rfl rfl (by decide) iX4_readCell_X4 (List.mem_of_getElem? (i := 3) rfl) rfl dX4_readCell_113 ?_
      refine vv_iconst (v := 2) C dX4_readCell_116 (by decide) ?_
      refine vv_iconst (v := 0) C dX4_readCell_117 (by decide) ?_
      refine vv_iconst (v := 0) C dX4_readCell_118 (by decide) ?_
      refine vv_callVV C [.int ((upd M 655 (nI (q + 1))) 654), .int 2, .int 0, .int 0] (c_X1_fill mw_Ex_137 (upd M 655 (nI (q + 1))) (i := ((upd M 655 (nI (q + 1))) 654)) (j := n) (by rw [upd_o (by omega)]; exact hn) hn4 2 0 0) mw_Ex_137.1 rfl (cwV 4 C.1.2.2.2.2 gX4_readCell_X1_fill rfl rfl rfl (by decide +kernel) ⟨Nat.le_of_ble_eq_true rfl, Nat.le_of_ble_eq_true rfl⟩) rfl rfl rfl (Nat.le_of_ble_eq_true rfl) dX4_readCell_119 ⟨Nat.le_refl _, Nat.le_refl _⟩ ?_
      refine vv_goto C 200 dX4_readCell_122 (by decide) ?_
      exact vv_vret C hR dX4_readCell_200 (qVP_of (by rw [show clR (chA M t) q = (0, q + 1, 2, 0, 0) by unfold clR; rw [if_neg h_ndg]; rw [if_pos e_33]]; exact rdO_fill hn4 (inR.rf.u (by omega)) (by rw [upd_o (by omega)]; exact h7) upd_s))
    rcases Classical.em (chA M t q = 35) with e_35 | n_35
    · refine vv_lookup C 125 (off := 97) dX4_readCell_28 (by decide) (by rw [e_35]; decide) (by decide) ?_
      rcases Classical.em (dgP (chA M t (q + 1))) with h_dg2 | h_ndg2
      · refine vv_aload_n C 0 dX4_readCell_125 rfl rfl ?_
        refine vv_getr C (Cn := RX4) (T := TX4) (N := 6) sh_136 1 rfl rfl (by decide) iX4_readCell_X4 (List.mem_of_getElem? (i := 2) rfl) rfl dX4_readCell_126 ?_
        refine vv_aload_n C 0 dX4_readCell_129 rfl rfl ?_
        refine vv_geti C (Cn := RX4) (T := TX4) (N := 6) sh_136 2 rfl rfl (by decide) iX4_readCell_X4 (List.mem_of_getElem? (i := 3) rfl) rfl dX4_readCell_130 ?_
        refine vv_iconst (v := 4) C dX4_readCell_133 (by decide) ?_
        refine vv_aload_n C 0 dX4_readCell_134 rfl rfl ?_
        refine vv_callVI C [] (c_X4_readNumber (upd M 655 (nI (q + 1))) (t := t) (by rw [upd_o (by omega)]; exact ht) ht60 (q := (q + 1)) upd_s (by omega)) sh_136 rfl (cwV 0 C.1.2.2.2.2 gX4_readCell_X4_readNumber rfl rfl rfl (by decide +kernel) ⟨Nat.le_of_ble_eq_true rfl, Nat.le_of_ble_eq_true rfl⟩) rfl rfl rfl (Nat.le_of_ble_eq_true rfl) dX4_readCell_135 ⟨Nat.le_refl _, Nat.le_refl _⟩ ?_
        refine vv_top (y := nmV (chA M t) (q + 1)) (by rw [(inR.rf.u (by omega)).chf]) ?_
        refine vv_mem (M2 := upd M 655 (nI (nmP (chA M t) (q + 1)))) (nmM_ok h_dg2) ?_
        refine vv_iconst (v := 0) C dX4_readCell_138 (by decide) ?_
        refine vv_callVV C [.int ((upd M 655 (nI (q + 1))) 654), .int 4, .int (nmV (chA M t) (q + 1)), .int 0] (c_X1_fill mw_Ex_137 (upd M 655 (nI (nmP (chA M t) (q + 1)))) (i := ((upd M 655 (nI (q + 1))) 654)) (j := n) (by rw [upd_o (by omega)]; exact hn) hn4 4 (nmV (chA M t) (q + 1)) 0) mw_Ex_137.1 rfl (cwV 4 C.1.2.2.2.2 gX4_readCell_X1_fill rfl rfl rfl (by decide +kernel) ⟨Nat.le_of_ble_eq_true rfl, Nat.le_of_ble_eq_true rfl⟩) rfl rfl rfl (Nat.le_of_ble_eq_true rfl) dX4_readCell_139 ⟨Nat.le_refl _, Nat.le_refl _⟩ ?_
        refine vv_goto C 200 dX4_readCell_142 (by decide) ?_
        exact vv_vret C hR dX4_readCell_200 (qVP_of (by rw [show clR (chA M t) q = (0, nmP (chA M t) (q + 1), 4, nmV (chA M t) (q + 1), 0) by unfold clR; rw [if_neg h_ndg]; rw [if_neg n_33]; rw [if_pos e_35]; rw [if_pos h_dg2]]; exact rdO_fill hn4 (inR.rf.u (by omega)) (by rw [upd_o (by omega)]; exact h7) upd_s))
      · refine vv_aload_n C 0 dX4_readCell_125 rfl rfl ?_
        refine vv_getr C (Cn := RX4) (T := TX4) (N := 6) sh_136 1 rfl rfl (by decide) iX4_readCell_X4 (List.mem_of_getElem? (i := 2) rfl) rfl dX4_readCell_126 ?_
        refine vv_aload_n C 0 dX4_readCell_129 rfl rfl ?_
        refine vv_geti C (Cn := RX4) (T := TX4) (N := 6) sh_136 2 rfl rfl (by decide) iX4_readCell_X4 (List.mem_of_getElem? (i := 3) rfl) rfl dX4_readCell_130 ?_
        refine vv_iconst (v := 4) C dX4_readCell_133 (by decide) ?_
        refine vv_aload_n C 0 dX4_readCell_134 rfl rfl ?_
        refine vv_callVI C [] (c_X4_readNumber (upd M 655 (nI (q + 1))) (t := t) (by rw [upd_o (by omega)]; exact ht) ht60 (q := (q + 1)) upd_s (by omega)) sh_136 rfl (cwV 0 C.1.2.2.2.2 gX4_readCell_X4_readNumber rfl rfl rfl (by decide +kernel) ⟨Nat.le_of_ble_eq_true rfl, Nat.le_of_ble_eq_true rfl⟩) rfl rfl rfl (Nat.le_of_ble_eq_true rfl) dX4_readCell_135 ⟨Nat.le_refl _, Nat.le_refl _⟩ ?_
        refine vv_top (y := nmV (chA M t) (q + 1)) (by rw [(inR.rf.u (by omega)).chf]) ?_
        refine vv_mem (M2 := upd (upd (upd M 655 (nI (q + 1))) 656 (nI (q + 1))) 657 1) (nmM_bad h_ndg2) ?_
        refine vv_iconst (v := 0) C dX4_readCell_138 (by decide) ?_
        refine vv_callVV C [.int ((upd M 655 (nI (q + 1))) 654), .int 4, .int (nmV (chA M t) (q + 1)), .int 0] (c_X1_fill mw_Ex_137 (upd (upd (upd M 655 (nI (q + 1))) 656 (nI (q + 1))) 657 1) (i := ((upd M 655 (nI (q + 1))) 654)) (j := n) (by rw [upd_o (by omega)]; exact hn) hn4 4 (nmV (chA M t) (q + 1)) 0) mw_Ex_137.1 rfl (cwV 4 C.1.2.2.2.2 gX4_readCell_X1_fill rfl rfl rfl (by decide +kernel) ⟨Nat.le_of_ble_eq_true rfl, Nat.le_of_ble_eq_true rfl⟩) rfl rfl rfl (Nat.le_of_ble_eq_true rfl) dX4_readCell_139 ⟨Nat.le_refl _, Nat.le_refl _⟩ ?_
        refine vv_goto C 200 dX4_readCell_142 (by decide) ?_
        exact vv_vret C hR dX4_readCell_200 (qVP_of (by rw [show clR (chA M t) q = (1, q + 1, 0, 0, 0) by unfold clR; rw [if_neg h_ndg]; rw [if_neg n_33]; rw [if_pos e_35]; rw [if_neg h_ndg2]]; exact rdO_fault (fun z a1 a2 => (((inR.rf.u (by omega)).u (by omega)).u (by omega)).fl z a1 a2 hn4) (by decide) (by rw [upd_o (by omega), upd_o (by omega), upd_o (by omega), upd_s]; rfl) (by rw [upd_o (by omega), upd_o (by omega), upd_o (by omega), upd_o (by omega), upd_s])))
    rcases Classical.em (chA M t q = 42) with e_42 | n_42
    · refine vv_lookup C 88 (off := 60) dX4_readCell_28 (by decide) (by rw [e_42]; decide) (by decide) ?_
      refine vv_goto C 200 dX4_readCell_88 (by decide) ?_
      exact vv_vret C hR dX4_readCell_200 (qVP_of (by rw [show clR (chA M t) q = (0, q + 1, 0, 0, 0) by unfold clR; rw [if_neg h_ndg]; rw [if_neg n_33]; rw [if_neg n_35]; rw [if_pos e_42]]; exact rdO_star hn4 (inR.rf.u (by omega)) (by rw [upd_o (by omega)]; exact h7) upd_s hz.1 hz.2.1 hz.2.2))
    rcases Classical.em (chA M t q = 60) with e_60 | n_60
    · refine vv_lookup C 145 (off := 117) dX4_readCell_28 (by decide) (by rw [e_60]; decide) (by decide) ?_
      refine vv_aload_n C 0 dX4_readCell_145 rfl rfl ?_
      refine vv_iconst (v := 5) C dX4_readCell_146 (by decide) ?_
      refine vv_bipush (v := 9) C dX4_readCell_147 (by decide) ?_
      refine vv_callVVP C [.int 5, .int 9] (c_X4_readBound (upd M 655 (nI (q + 1))) (t := t) (by rw [upd_o (by omega)]; exact ht) ht60 (q := (q + 1)) (n := n) upd_s (by omega) (by rw [upd_o (by omega)]; exact hn) hn4 (by rw [upd_o (by omega)]; exact h7) 5 9) sh_136 rfl (cwV 2 C.1.2.2.2.2 gX4_readCell_X4_readBound rfl rfl rfl (by decide +kernel) ⟨Nat.le_of_ble_eq_true rfl, Nat.le_of_ble_eq_true rfl⟩) rfl rfl rfl (Nat.le_of_ble_eq_true rfl) dX4_readCell_149 ⟨Nat.le_refl _, Nat.le_refl _⟩ (fun M_3 h_4 => ?_)
      refine vv_goto C 200 dX4_readCell_152 (by decide) ?_
      exact vv_vret C hR dX4_readCell_200 (qVP_of (by rw [show clR (chA M t) q = bdR (chA M t) (q + 1) 5 9 by unfold clR; rw [if_neg h_ndg]; rw [if_neg n_33]; rw [if_neg n_35]; rw [if_neg n_42]; rw [if_pos e_60]]; exact rdO_in ((inR.rf (M := M)).u (k := 655) (x := nI (q + 1)) (by omega)) (by rw [((inR.rf (M := M)).u (k := 655) (x := nI (q + 1)) (by omega)).chf] at h_4; exact h_4)))
    rcases Classical.em (chA M t q = 62) with e_62 | n_62
    · refine vv_lookup C 155 (off := 127) dX4_readCell_28 (by decide) (by rw [e_62]; decide) (by decide) ?_
      refine vv_aload_n C 0 dX4_readCell_155 rfl rfl ?_
      refine vv_bipush (v := 6) C dX4_readCell_156 (by decide) ?_
      refine vv_bipush (v := 10) C dX4_readCell_158 (by decide) ?_
      refine vv_callVVP C [.int 6, .int 10] (c_X4_readBound (upd M 655 (nI (q + 1))) (t := t) (by rw [upd_o (by omega)]; exact ht) ht60 (q := (q + 1)) (n := n) upd_s (by omega) (by rw [upd_o (by omega)]; exact hn) hn4 (by rw [upd_o (by omega)]; exact h7) 6 10) sh_136 rfl (cwV 2 C.1.2.2.2.2 gX4_readCell_X4_readBound rfl rfl rfl (by decide +kernel) ⟨Nat.le_of_ble_eq_true rfl, Nat.le_of_ble_eq_true rfl⟩) rfl rfl rfl (Nat.le_of_ble_eq_true rfl) dX4_readCell_160 ⟨Nat.le_refl _, Nat.le_refl _⟩ (fun M_5 h_6 => ?_)
      refine vv_goto C 200 dX4_readCell_163 (by decide) ?_
      exact vv_vret C hR dX4_readCell_200 (qVP_of (by rw [show clR (chA M t) q = bdR (chA M t) (q + 1) 6 10 by unfold clR; rw [if_neg h_ndg]; rw [if_neg n_33]; rw [if_neg n_35]; rw [if_neg n_42]; rw [if_neg n_60]; rw [if_pos e_62]]; exact rdO_in ((inR.rf (M := M)).u (k := 655) (x := nI (q + 1)) (by omega)) (by rw [((inR.rf (M := M)).u (k := 655) (x := nI (q + 1)) (by omega)).chf] at h_6; exact h_6)))
    rcases Classical.em (chA M t q = 95) with e_95 | n_95
    · refine vv_lookup C 91 (off := 63) dX4_readCell_28 (by decide) (by rw [e_95]; decide) (by decide) ?_
      refine vv_aload_n C 0 dX4_readCell_91 rfl rfl ?_
      refine vv_getr C (Cn := RX4) (T := TX4) (N := 6) sh_136 1 rfl rfl (by decide) iX4_readCell_X4 (List.mem_of_getElem? (i := 2) rfl) rfl dX4_readCell_92 ?_
      refine vv_aload_n C 0 dX4_readCell_95 rfl rfl ?_
      refine vv_geti C (Cn := RX4) (T := TX4) (N := 6) sh_136 2 rfl rfl (by decide) iX4_readCell_X4 (List.mem_of_getElem? (i := 3) rfl) rfl dX4_readCell_96 ?_
      refine vv_iconst (v := 1) C dX4_readCell_99 (by decide) ?_
      refine vv_iconst (v := 0) C dX4_readCell_100 (by decide) ?_
      refine vv_iconst (v := 0) C dX4_readCell_101 (by decide) ?_
      refine vv_callVV C [.int ((upd M 655 (nI (q + 1))) 654), .int 1, .int 0, .int 0] (c_X1_fill mw_Ex_137 (upd M 655 (nI (q + 1))) (i := ((upd M 655 (nI (q + 1))) 654)) (j := n) (by rw [upd_o (by omega)]; exact hn) hn4 1 0 0) mw_Ex_137.1 rfl (cwV 4 C.1.2.2.2.2 gX4_readCell_X1_fill rfl rfl rfl (by decide +kernel) ⟨Nat.le_of_ble_eq_true rfl, Nat.le_of_ble_eq_true rfl⟩) rfl rfl rfl (Nat.le_of_ble_eq_true rfl) dX4_readCell_102 ⟨Nat.le_refl _, Nat.le_refl _⟩ ?_
      refine vv_goto C 200 dX4_readCell_105 (by decide) ?_
      exact vv_vret C hR dX4_readCell_200 (qVP_of (by rw [show clR (chA M t) q = (0, q + 1, 1, 0, 0) by unfold clR; rw [if_neg h_ndg]; rw [if_neg n_33]; rw [if_neg n_35]; rw [if_neg n_42]; rw [if_neg n_60]; rw [if_neg n_62]; rw [if_pos e_95]]; exact rdO_fill hn4 (inR.rf.u (by omega)) (by rw [upd_o (by omega)]; exact h7) upd_s))
    refine vv_lookup C 166 (off := 138) dX4_readCell_28 (by decide) (by rw [lv_osw n_33 (show ((33 : Int32)).toInt = 33 by decide)]; rw [lv_osw n_35 (show ((35 : Int32)).toInt = 35 by decide)]; rw [lv_osw n_42 (show ((42 : Int32)).toInt = 42 by decide)]; rw [lv_osw n_60 (show ((60 : Int32)).toInt = 60 by decide)]; rw [lv_osw n_62 (show ((62 : Int32)).toInt = 62 by decide)]; rw [lv_osw n_95 (show ((95 : Int32)).toInt = 95 by decide)]; rfl) (by decide) ?_
    refine vv_iload_n C 1 dX4_readCell_166 rfl rfl ?_
    refine vv_callSI C [.int (chA M t q)] (c_X4_isLetter (upd M 655 (nI (q + 1))) (chA M t q)) (cwS 1 C.1.2.2.2.2 gX4_readCell_X4_isLetter rfl rfl rfl (by decide +kernel) ⟨Nat.le_of_ble_eq_true rfl, Nat.le_of_ble_eq_true rfl⟩) rfl rfl rfl (Nat.le_of_ble_eq_true rfl) dX4_readCell_167 ⟨Nat.le_refl _, Nat.le_refl _⟩ ?_
    refine vv_bif_eq C 194 dX4_readCell_170 (by decide) (fun h_nl => ?_) (fun h_l => ?_)
    · refine vv_aload_n C 0 dX4_readCell_194 rfl rfl ?_
      refine vv_iload_n C 2 dX4_readCell_195 rfl rfl ?_
      refine vv_iconst (v := 1) C dX4_readCell_196 (by decide) ?_
      refine vv_callVV C [.int (M 655), .int 1] (c_X4_fail (upd M 655 (nI (q + 1))) (M 655) 1) sh_136 rfl (cwV 2 C.1.2.2.2.2 gX4_readCell_X4_fail rfl rfl rfl (by decide +kernel) ⟨Nat.le_of_ble_eq_true rfl, Nat.le_of_ble_eq_true rfl⟩) rfl rfl rfl (Nat.le_of_ble_eq_true rfl) dX4_readCell_197 ⟨Nat.le_refl _, Nat.le_refl _⟩ ?_
      exact vv_vret C hR dX4_readCell_200 (qVP_of (by rw [show clR (chA M t) q = (1, q, 0, 0, 0) by unfold clR; rw [if_neg h_ndg]; rw [if_neg n_33]; rw [if_neg n_35]; rw [if_neg n_42]; rw [if_neg n_60]; rw [if_neg n_62]; rw [if_neg n_95]; rw [if_neg h_nl]]; exact rdO_fault (fun z a1 a2 => (((inR.rf.u (by omega)).u (by omega)).u (by omega)) z a1) (by decide) (by rw [upd_s]; rfl) (by rw [upd_o (by omega), upd_s]; exact hq)))
    · refine vv_aload_n C 0 dX4_readCell_173 rfl rfl ?_
      refine vv_getr C (Cn := RX4) (T := TX4) (N := 6) sh_136 1 rfl rfl (by decide) iX4_readCell_X4 (List.mem_of_getElem? (i := 2) rfl) rfl dX4_readCell_174 ?_
      refine vv_aload_n C 0 dX4_readCell_177 rfl rfl ?_
      refine vv_geti C (Cn := RX4) (T := TX4) (N := 6) sh_136 2 rfl rfl (by decide) iX4_readCell_X4 (List.mem_of_getElem? (i := 3) rfl) rfl dX4_readCell_178 ?_
      refine vv_bipush (v := 8) C dX4_readCell_181 (by decide) ?_
      refine vv_iload_n C 1 dX4_readCell_183 rfl rfl ?_
      refine vv_bipush (v := 119) C dX4_readCell_184 (by decide) ?_
      refine vv_isub C dX4_readCell_186 ?_
      refine vv_iconst (v := 0) C dX4_readCell_187 (by decide) ?_
      refine vv_callVV C [.int ((upd M 655 (nI (q + 1))) 654), .int 8, .int ((chA M t q) - 119), .int 0] (c_X1_fill mw_Ex_137 (upd M 655 (nI (q + 1))) (i := ((upd M 655 (nI (q + 1))) 654)) (j := n) (by rw [upd_o (by omega)]; exact hn) hn4 8 ((chA M t q) - 119) 0) mw_Ex_137.1 rfl (cwV 4 C.1.2.2.2.2 gX4_readCell_X1_fill rfl rfl rfl (by decide +kernel) ⟨Nat.le_of_ble_eq_true rfl, Nat.le_of_ble_eq_true rfl⟩) rfl rfl rfl (Nat.le_of_ble_eq_true rfl) dX4_readCell_188 ⟨Nat.le_refl _, Nat.le_refl _⟩ ?_
      refine vv_goto C 200 dX4_readCell_191 (by decide) ?_
      exact vv_vret C hR dX4_readCell_200 (qVP_of (by rw [show clR (chA M t) q = (0, q + 1, 8, chA M t q - 119, 0) by unfold clR; rw [if_neg h_ndg]; rw [if_neg n_33]; rw [if_neg n_35]; rw [if_neg n_42]; rw [if_neg n_60]; rw [if_neg n_62]; rw [if_neg n_95]; rw [if_pos h_l]]; exact rdO_fill hn4 (inR.rf.u (by omega)) (by rw [upd_o (by omega)]; exact h7) upd_s))
  · refine vv_aload_n C 0 dX4_readCell_7 rfl rfl ?_
    refine vv_callVVP C [] (c_X4_readNumbers M (t := t) ht ht60 (q := q) (n := n) hq (by omega) hn hn4 h7 h_dg) sh_136 rfl (cwV 0 C.1.2.2.2.2 gX4_readCell_X4_readNumbers rfl rfl rfl (by decide +kernel) ⟨Nat.le_of_ble_eq_true rfl, Nat.le_of_ble_eq_true rfl⟩) rfl rfl rfl (Nat.le_of_ble_eq_true rfl) dX4_readCell_8 ⟨Nat.le_refl _, Nat.le_refl _⟩ (fun M_9 h_10 => ?_)
    exact vv_vret C hR dX4_readCell_11 (qVP_of (by rw [show clR (chA M t) q = nsR (chA M t) q from if_pos h_dg]; exact h_10))
