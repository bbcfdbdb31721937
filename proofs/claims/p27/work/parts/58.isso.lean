/-! what the class tells of its state, beside the law's own numbers -/
theorem rd_valueOf {V : mw_M} {x k c : Int32} : (op_valueOf V x k c).2 = V := if_2
theorem rd_cellOf {V : mw_M} {x c w : Int32} : (op_cellOf V x c w).2 = V := if_2
theorem rd_row {V : mw_M} {x w : Int32} : (op_row V x w).2 = V := if_2
theorem rd_why {V : mw_M} {x w : Int32} : (op_why V x w).2 = V := if_2
/-- the memory behind a call that only tells -/
theorem cl_rd {M Mi M2 N : mw_M} (h : clO Mi M) (e : N = Mi) (h2 : clO M2 N) : clO M2 M := h.tr (h2.of e)
theorem clO.q {M M2 : mw_M} (h : clO M2 M) {q : Nat} (hq : q < 651) : M2 q = M q := h q (by unfold clS; omega)
theorem val_in {V : mw_M} {d k i : Nat} (hd : d < 2) (hk12 : k < 12) (hi4 : i < 4) (hk : ¬ V (2 + d) ≤ nI k) (hi : ¬ V d ≤ nI i) : (op_valueOf V (nI d) (nI k) (nI i)).1 = V (4 + 48 * d + (4 * k + i)) := by
  unfold op_valueOf posS
  rw [if_pos ⟨⟨bit_d hd, by rw [dN_d hd]; exact ⟨nI_pos (by omega), hi⟩⟩, by rw [dN_d hd]; exact ⟨nI_pos (by omega), hk⟩⟩, dN_d hd, nI_clamp (by omega), nI_clamp (by omega)]
theorem val_out {V : mw_M} {d k i : Nat} (hd : d < 2) (h : V (2 + d) ≤ nI k ∨ V d ≤ nI i) : (op_valueOf V (nI d) (nI k) (nI i)).1 = -11 := by
  unfold op_valueOf
  rw [if_neg (fun z => by
    have h1 := z.1.2
    have h2 := z.2
    rw [dN_d hd] at h1 h2
    exact h.elim h2.2 h1.2)]
theorem cof_in {V : mw_M} {d i w : Nat} (hd : d < 2) (hi4 : i < 4) (hw : w < 4) (hi : ¬ V d ≤ nI i) : (op_cellOf V (nI d) (nI i) (nI w)).1 = cofI V d i (nI w) := by
  unfold op_cellOf
  rw [if_pos ⟨⟨bit_d hd, by rw [dN_d hd]; exact ⟨nI_pos (by omega), hi⟩⟩, nI_pos (by omega), fun y => absurd ((nI_ltI (a := 3) (by omega) (by omega)).mp y) (by omega)⟩, dN_d hd, nI_clamp (by omega)]
theorem cof_out {V : mw_M} {d i : Nat} {w : Int32} (hd : d < 2) (hi : V d ≤ nI i) : (op_cellOf V (nI d) (nI i) w).1 = -11 := by
  unfold op_cellOf
  rw [if_neg (fun z => by
    have h1 := z.1.2
    rw [dN_d hd] at h1
    exact h1.2 hi)]
/-- whether the card k fits the cell i by itself, in the law's way -/
def ltF (S : mw_M) (i k : Nat) : Bool := tkB (S (100 + 3 * i)) (S (101 + 3 * i)) (S (102 + 3 * i)) (S (4 + 48 * (i / 4) + (4 * k + i % 4)))
theorem ltF_cf {S : mw_M} {i k n : Nat} (hi : i < 8) (hn : S (2 + i / 4) = nI n) (hn12 : n ≤ 12) (hk : k < n) (hw : ¬ S (i / 4) ≤ nI (i % 4)) : s_cf S (i / 4) (i % 4) k = ltF S i k := by
  unfold s_cf ltF
  rw [show 100 + 12 * (i / 4) + 3 * (i % 4) = 100 + 3 * i by omega, show 100 + 12 * (i / 4) + 1 + 3 * (i % 4) = 101 + 3 * i by omega, show 100 + 12 * (i / 4) + 2 + 3 * (i % 4) = 102 + 3 * i by omega]
  rw [ent_at (by omega) (by rw [hn]; exact nI_ge hk (by omega)) hw (by omega) (by omega)]
theorem ltF_hi {S : mw_M} (hw : wfV S) {i k : Nat} (hi : i < 8) (h : 9 ≤ S (100 + 3 * i)) : ltF S i k = false := by
  obtain ⟨kd, a, b, h1, h2, -⟩ := hw.2.2.2.1 i hi
  unfold ltF
  rw [h1] at h ⊢
  exact tk_hi ((nI_leI (a := 9) (by omega) (by omega)).mp h) h2
theorem cof_3 {S Mi : mw_M} (hq : clO Mi S) {i n : Nat} (hi : i < 8) (hn : S (2 + i / 4) = nI n) (hn12 : n ≤ 12) (hw : ¬ S (i / 4) ≤ nI (i % 4)) : cofI Mi (i / 4) (i % 4) (nI 3) = nI (cntB (ltF S i) n) := by
  have e : Mi (2 + i / 4) = nI n := (hq.q (by omega)).trans hn
  rw [cof_n (by decide), nN_of e hn12]
  refine congrArg nI (cntB_c (fun k hk => ?_))
  rw [ltF_cf hi e hn12 hk (by rw [hq.q (by omega)]; exact hw)]
  unfold ltF
  rw [hq.q (by omega), hq.q (by omega), hq.q (by omega), hq.q (by omega)]
def otF (S : mw_M) (i : Nat) : Bool := decide (¬ S (100 + 3 * i) = 0)
theorem oth_8 {S : mw_M} : cntB (otF S) 8 = othN S 0 + othN S 1 := by
  have e0 : ∀ i, decide (¬ S (100 + 12 * 0 + 3 * i) = 0) = otF S i := fun i => rfl
  have e1 : ∀ i, decide (¬ S (100 + 12 * 1 + 3 * i) = 0) = otF S (4 + i) := fun i => by unfold otF; rw [show 100 + 12 * 1 + 3 * i = 100 + 3 * (4 + i) by omega]
  unfold othN
  simp only [cntB, e0, e1]
  show _ = _ + (((_ + (if otF S 4 = true then 1 else 0)) + (if otF S 5 = true then 1 else 0) + (if otF S 6 = true then 1 else 0)) + (if otF S 7 = true then 1 else 0))
  omega
theorem oth_cl {M Mi : mw_M} (cl : clO Mi M) : nI (othN Mi 0) + nI (othN Mi 1) = nI (cntB (otF M) 8) := by
  have e : ∀ d, d < 2 → othN Mi d = othN M d := fun d hd => cntB_c (fun i hi => by rw [cl.q (by omega)])
  rw [oth_8, nI_add, e 0 (by omega), e 1 (by omega)]
theorem cn_0 {V : mw_M} : (op_count V 0).1 = V 2 := by
  show cntI V 0 = _
  unfold cntI
  rw [if_pos rfl]
theorem cn_1 {V : mw_M} : (op_count V 1).1 = V 3 := by
  show cntI V 1 = _
  unfold cntI
  rw [if_neg (by decide : ¬ (1 : Int32) = 0), if_pos rfl]
theorem cn_2 {V : mw_M} : (op_count V 2).1 = V 0 := by
  show cntI V 2 = _
  unfold cntI
  rw [if_neg (by decide : ¬ (2 : Int32) = 0), if_neg (by decide : ¬ (2 : Int32) = 1), if_pos rfl]
theorem cn_3 {V : mw_M} : (op_count V 3).1 = V 1 := by
  show cntI V 3 = _
  unfold cntI
  rw [if_neg (by decide : ¬ (3 : Int32) = 0), if_neg (by decide : ¬ (3 : Int32) = 1), if_neg (by decide : ¬ (3 : Int32) = 2), if_pos rfl]
theorem cn_4 {V : mw_M} : (op_count V 4).1 = bI (V 124 = 1) := by
  show cntI V 4 = _
  unfold cntI
  rw [if_neg (by decide : ¬ (4 : Int32) = 0), if_neg (by decide : ¬ (4 : Int32) = 1), if_neg (by decide : ¬ (4 : Int32) = 2), if_neg (by decide : ¬ (4 : Int32) = 3), if_pos rfl]
theorem cn_5 {V : mw_M} : (op_count V 5).1 = nI (othN V 0) + nI (othN V 1) := by
  show cntI V 5 = _
  unfold cntI
  rw [if_neg (by decide : ¬ (5 : Int32) = 0), if_neg (by decide : ¬ (5 : Int32) = 1), if_neg (by decide : ¬ (5 : Int32) = 2), if_neg (by decide : ¬ (5 : Int32) = 3), if_neg (by decide : ¬ (5 : Int32) = 4), if_pos rfl]
theorem cn_6 {V : mw_M} : (op_count V 6).1 = V 129 := by
  show cntI V 6 = _
  unfold cntI
  rw [if_neg (by decide : ¬ (6 : Int32) = 0), if_neg (by decide : ¬ (6 : Int32) = 1), if_neg (by decide : ¬ (6 : Int32) = 2), if_neg (by decide : ¬ (6 : Int32) = 3), if_neg (by decide : ¬ (6 : Int32) = 4), if_neg (by decide : ¬ (6 : Int32) = 5), if_pos rfl]
theorem cn_8 {V : mw_M} : (op_count V 8).1 = V 653 := by
  show cntI V 8 = _
  unfold cntI
  rw [if_neg (by decide : ¬ (8 : Int32) = 0), if_neg (by decide : ¬ (8 : Int32) = 1), if_neg (by decide : ¬ (8 : Int32) = 2), if_neg (by decide : ¬ (8 : Int32) = 3), if_neg (by decide : ¬ (8 : Int32) = 4), if_neg (by decide : ¬ (8 : Int32) = 5), if_neg (by decide : ¬ (8 : Int32) = 6), if_neg (by decide : ¬ (8 : Int32) = 7), if_pos rfl]
theorem cn_10 {V : mw_M} : (op_count V 10).1 = V 125 := by
  show cntI V 10 = _
  unfold cntI
  rw [if_neg (by decide : ¬ (10 : Int32) = 0), if_neg (by decide : ¬ (10 : Int32) = 1), if_neg (by decide : ¬ (10 : Int32) = 2), if_neg (by decide : ¬ (10 : Int32) = 3), if_neg (by decide : ¬ (10 : Int32) = 4), if_neg (by decide : ¬ (10 : Int32) = 5), if_neg (by decide : ¬ (10 : Int32) = 6), if_neg (by decide : ¬ (10 : Int32) = 7), if_neg (by decide : ¬ (10 : Int32) = 8), if_pos rfl]
theorem cn_11 {V : mw_M} : (op_count V 11).1 = V 127 := by
  show cntI V 11 = _
  unfold cntI
  rw [if_neg (by decide : ¬ (11 : Int32) = 0), if_neg (by decide : ¬ (11 : Int32) = 1), if_neg (by decide : ¬ (11 : Int32) = 2), if_neg (by decide : ¬ (11 : Int32) = 3), if_neg (by decide : ¬ (11 : Int32) = 4), if_neg (by decide : ¬ (11 : Int32) = 5), if_neg (by decide : ¬ (11 : Int32) = 6), if_neg (by decide : ¬ (11 : Int32) = 7), if_neg (by decide : ¬ (11 : Int32) = 8), if_neg (by decide : ¬ (11 : Int32) = 10), if_pos rfl]
theorem cn_12 {V : mw_M} : (op_count V 12).1 = bI (V 126 = 1) := by
  show cntI V 12 = _
  unfold cntI
  rw [if_neg (by decide : ¬ (12 : Int32) = 0), if_neg (by decide : ¬ (12 : Int32) = 1), if_neg (by decide : ¬ (12 : Int32) = 2), if_neg (by decide : ¬ (12 : Int32) = 3), if_neg (by decide : ¬ (12 : Int32) = 4), if_neg (by decide : ¬ (12 : Int32) = 5), if_neg (by decide : ¬ (12 : Int32) = 6), if_neg (by decide : ¬ (12 : Int32) = 7), if_neg (by decide : ¬ (12 : Int32) = 8), if_neg (by decide : ¬ (12 : Int32) = 10), if_neg (by decide : ¬ (12 : Int32) = 11), if_pos rfl]
theorem cn_13 {V : mw_M} : (op_count V 13).1 = bI (V 128 = 1) := by
  show cntI V 13 = _
  unfold cntI
  rw [if_neg (by decide : ¬ (13 : Int32) = 0), if_neg (by decide : ¬ (13 : Int32) = 1), if_neg (by decide : ¬ (13 : Int32) = 2), if_neg (by decide : ¬ (13 : Int32) = 3), if_neg (by decide : ¬ (13 : Int32) = 4), if_neg (by decide : ¬ (13 : Int32) = 5), if_neg (by decide : ¬ (13 : Int32) = 6), if_neg (by decide : ¬ (13 : Int32) = 7), if_neg (by decide : ¬ (13 : Int32) = 8), if_neg (by decide : ¬ (13 : Int32) = 10), if_neg (by decide : ¬ (13 : Int32) = 11), if_neg (by decide : ¬ (13 : Int32) = 12), if_pos rfl]
theorem cn_9 {V : mw_M} : (op_count V 9).1 = -11 := by
  show cntI V 9 = _
  unfold cntI
  rw [if_neg (by decide : ¬ (9 : Int32) = 0), if_neg (by decide : ¬ (9 : Int32) = 1), if_neg (by decide : ¬ (9 : Int32) = 2), if_neg (by decide : ¬ (9 : Int32) = 3), if_neg (by decide : ¬ (9 : Int32) = 4), if_neg (by decide : ¬ (9 : Int32) = 5), if_neg (by decide : ¬ (9 : Int32) = 6), if_neg (by decide : ¬ (9 : Int32) = 7), if_neg (by decide : ¬ (9 : Int32) = 8), if_neg (by decide : ¬ (9 : Int32) = 10), if_neg (by decide : ¬ (9 : Int32) = 11), if_neg (by decide : ¬ (9 : Int32) = 12), if_neg (by decide : ¬ (9 : Int32) = 13)]
theorem cn_14 {V : mw_M} : (op_count V 14).1 = -11 := by
  show cntI V 14 = _
  unfold cntI
  rw [if_neg (by decide : ¬ (14 : Int32) = 0), if_neg (by decide : ¬ (14 : Int32) = 1), if_neg (by decide : ¬ (14 : Int32) = 2), if_neg (by decide : ¬ (14 : Int32) = 3), if_neg (by decide : ¬ (14 : Int32) = 4), if_neg (by decide : ¬ (14 : Int32) = 5), if_neg (by decide : ¬ (14 : Int32) = 6), if_neg (by decide : ¬ (14 : Int32) = 7), if_neg (by decide : ¬ (14 : Int32) = 8), if_neg (by decide : ¬ (14 : Int32) = 10), if_neg (by decide : ¬ (14 : Int32) = 11), if_neg (by decide : ¬ (14 : Int32) = 12), if_neg (by decide : ¬ (14 : Int32) = 13)]

theorem clO.law {M M2 : mw_M} (h : clO M2 M) (q : Nat) (hq : 1100 ≤ q) : M2 q = M q := h q (by unfold clS; omega)
set_option maxRecDepth 100000 in
set_option maxHeartbeats 4000000 in
theorem lp_isSo1 {p : Program} {l : Launch} {e : Env} {s : State} {m : MethodId} {args : Array Value} {below : List Frame} {meth : Method} {c : Code} {G : mw_GG} {Q : State → Prop} (C : vv_C p s m args c G cL_isSo 12 wsL_isSo RL) {M : mw_M} (h : linv M) (hk : ∀ Mi, clO Mi M → vv p l e ({ frames := 4, cells := 0, slots := 0, locals := 92 } : Room) s m args below meth c G 0 0 Q Mi 104 [some (.ref (G.1 144)), some (.ref (G.1 145)), some (.ref (G.1 146)), some (.ref (G.1 147)), some (.ref (G.1 148)), some (.ref (G.1 149)), some (.int 1), some (.int 0), none, none, none, none] []) : ∀ (n i : Nat) (Mi : mw_M), 97 ≤ i + n → i ≤ 96 → clO Mi M → vv p l e ({ frames := 4, cells := 0, slots := 0, locals := 92 } : Room) s m args below meth c G 0 0 Q Mi 9 [some (.ref (G.1 144)), some (.ref (G.1 145)), some (.ref (G.1 146)), some (.ref (G.1 147)), some (.ref (G.1 148)), some (.ref (G.1 149)), some (.int 1), some (.int 0), some (.int (nI i)), none, none, none] [] := by
  intro n
  induction n with
  | zero => intro i Mi h1 h2 _; omega
  | succ n ih =>
    intro i Mi h1 h2 cl
    refine vv_iload C 8 dL_isSo_9 rfl ?_
    refine vv_bipush (v := 96) C dL_isSo_11 (by decide) ?_
    refine vv_ncmp_ge C i 96 104 dL_isSo_13 (by decide) (by omega) (by decide) (fun h_ge => ?_) (fun h_lt => ?_)
    · refine vv_keep (ls2 := [some (.ref (G.1 144)), some (.ref (G.1 145)), some (.ref (G.1 146)), some (.ref (G.1 147)), some (.ref (G.1 148)), some (.ref (G.1 149)), some (.int 1), some (.int 0), none, none, none, none]) ⟨rfl, rfl, rfl, rfl, rfl, rfl, rfl, rfl, trivial⟩ ?_
      exact hk _ cl
    · refine vv_iload C 6 dL_isSo_16 rfl ?_
      refine vv_nif_eq C 1 104 dL_isSo_18 (by decide) (by decide) (fun h_3 => absurd h_3 (by decide)) (fun h_4 => ?_)
      obtain ⟨kn, hkn12, hkn, hgn⟩ := h.sz (d := i / 48) (by omega)
      obtain ⟨wd, hwd1, hwd4, hwd, hgw⟩ := h.wd (d := i / 48) (by omega)
      refine vv_iload C 8 dL_isSo_21 rfl ?_
      refine vv_bipush (v := 48) C dL_isSo_23 (by decide) ?_
      refine vv_idiv C dL_isSo_25 (by decide) ?_
      refine vv_top (y := nI (i / 48)) (pk_div (a := i) (d := 48) (by omega) (by omega) (by omega)) ?_
      refine vv_istore (ls2 := [some (.ref (G.1 144)), some (.ref (G.1 145)), some (.ref (G.1 146)), some (.ref (G.1 147)), some (.ref (G.1 148)), some (.ref (G.1 149)), some (.int 1), some (.int 0), some (.int (nI i)), some (.int (nI (i / 48))), none, none]) C 9 dL_isSo_26 (Nat.le_of_ble_eq_true rfl) rfl ?_
      refine vv_iload C 8 dL_isSo_28 rfl ?_
      refine vv_iconst (v := 4) C dL_isSo_30 (by decide) ?_
      refine vv_idiv C dL_isSo_31 (by decide) ?_
      refine vv_top (y := nI (i / 4)) (pk_div (a := i) (d := 4) (by omega) (by omega) (by omega)) ?_
      refine vv_bipush (v := 12) C dL_isSo_32 (by decide) ?_
      refine vv_irem C dL_isSo_34 (by decide) ?_
      refine vv_top (y := nI ((i / 4) % 12)) (pk_rem (a := i / 4) (d := 12) (by omega) (by omega) (by omega)) ?_
      refine vv_istore (ls2 := [some (.ref (G.1 144)), some (.ref (G.1 145)), some (.ref (G.1 146)), some (.ref (G.1 147)), some (.ref (G.1 148)), some (.ref (G.1 149)), some (.int 1), some (.int 0), some (.int (nI i)), some (.int (nI (i / 48))), some (.int (nI ((i / 4) % 12))), none]) C 10 dL_isSo_35 (Nat.le_of_ble_eq_true rfl) rfl ?_
      refine vv_iload C 8 dL_isSo_37 rfl ?_
      refine vv_iconst (v := 4) C dL_isSo_39 (by decide) ?_
      refine vv_irem C dL_isSo_40 (by decide) ?_
      refine vv_top (y := nI (i % 4)) (pk_rem (a := i) (d := 4) (by omega) (by omega) (by omega)) ?_
      refine vv_istore (ls2 := [some (.ref (G.1 144)), some (.ref (G.1 145)), some (.ref (G.1 146)), some (.ref (G.1 147)), some (.ref (G.1 148)), some (.ref (G.1 149)), some (.int 1), some (.int 0), some (.int (nI i)), some (.int (nI (i / 48))), some (.int (nI ((i / 4) % 12))), some (.int (nI (i % 4)))]) C 11 dL_isSo_41 (Nat.le_of_ble_eq_true rfl) rfl ?_
      refine vv_aload_n C 0 dL_isSo_43 rfl rfl ?_
      refine vv_iload C 9 dL_isSo_44 rfl ?_
      refine vv_iload C 10 dL_isSo_46 rfl ?_
      refine vv_iload C 11 dL_isSo_48 rfl ?_
      refine vv_callVIP C [.int (nI (i / 48)), .int (nI ((i / 4) % 12)), .int (nI (i % 4))] (c_X8_valueOf Mi (lsame1 h cl).1.1.1 (lsame1 h cl).1.1.2.1 (lsame1 h cl).1.1.2.2.1 (nI (i / 48)) (nI ((i / 4) % 12)) (nI (i % 4))) sh_144 rfl (cwV 3 C.1.2.2.2.2 gL_isSo_X8_valueOf rfl rfl rfl (by decide +kernel) ⟨Nat.le_of_ble_eq_true rfl, Nat.le_of_ble_eq_true rfl⟩) rfl rfl rfl (Nat.le_of_ble_eq_true rfl) dL_isSo_50 ⟨Nat.le_refl _, Nat.le_refl _⟩ (fun x_5 M_6 h_7 => ?_)
      have cl_1 := cl_rd cl rd_valueOf h_7.2
      refine vv_iload C 10 dL_isSo_53 rfl ?_
      refine vv_aload_n C 1 dL_isSo_55 rfl rfl ?_
      refine vv_iconst (v := 2) C dL_isSo_56 (by decide) ?_
      refine vv_iload C 9 dL_isSo_57 rfl ?_
      refine vv_iadd C dL_isSo_59 ?_
      refine vv_top (y := nI (2 + (i / 48))) (nI_add 2 (i / 48)) ?_
      refine vv_ald (j := 2 + (i / 48)) (q := 1100 + (2 + (i / 48))) C sh_145 rfl (by omega) (by omega) dL_isSo_60 ?_
      refine vv_top (y := nI kn) ((cl_1.law _ (by omega)).trans hgn) ?_
      refine vv_ncmp_ge C ((i / 4) % 12) kn 86 dL_isSo_61 (by decide) (by omega) (by omega) (fun h_nk => ?_) (fun h_k => ?_)
      · refine vv_bipush (v := (-11)) C dL_isSo_86 (by decide) ?_
        refine vv_icmp_ne C 95 dL_isSo_88 (by decide) (fun h_10 => absurd (h_7.1.trans (val_out (by omega) (Or.inl (by rw [cl.q (by omega), hkn]; exact nI_le h_nk (by omega))))) h_10) (fun h_11 => ?_)
        refine vv_iconst (v := 1) C dL_isSo_91 (by decide) ?_
        refine vv_goto C 96 dL_isSo_92 (by decide) ?_
        refine vv_istore (ls2 := [some (.ref (G.1 144)), some (.ref (G.1 145)), some (.ref (G.1 146)), some (.ref (G.1 147)), some (.ref (G.1 148)), some (.ref (G.1 149)), some (.int 1), some (.int 0), some (.int (nI i)), some (.int (nI (i / 48))), some (.int (nI ((i / 4) % 12))), some (.int (nI (i % 4)))]) C 6 dL_isSo_96 (Nat.le_of_ble_eq_true rfl) rfl ?_
        refine vv_iinc (v := nI (i + 1)) (ls2 := [some (.ref (G.1 144)), some (.ref (G.1 145)), some (.ref (G.1 146)), some (.ref (G.1 147)), some (.ref (G.1 148)), some (.ref (G.1 149)), some (.int 1), some (.int 0), some (.int (nI (i + 1))), some (.int (nI (i / 48))), some (.int (nI ((i / 4) % 12))), some (.int (nI (i % 4)))]) C 8 dL_isSo_98 rfl (nI_add i 1) rfl ?_
        refine vv_goto C 9 dL_isSo_101 (by decide) ?_
        refine vv_keep (ls2 := [some (.ref (G.1 144)), some (.ref (G.1 145)), some (.ref (G.1 146)), some (.ref (G.1 147)), some (.ref (G.1 148)), some (.ref (G.1 149)), some (.int 1), some (.int 0), some (.int (nI (i + 1))), none, none, none]) ⟨rfl, rfl, rfl, rfl, rfl, rfl, rfl, rfl, rfl, trivial⟩ ?_
        exact ih (i + 1) _ (by omega) (by omega) cl_1
      · refine vv_iload C 11 dL_isSo_64 rfl ?_
        refine vv_aload_n C 1 dL_isSo_66 rfl rfl ?_
        refine vv_iload C 9 dL_isSo_67 rfl ?_
        refine vv_ald (j := i / 48) (q := 1100 + (i / 48)) C sh_145 rfl (by omega) (by omega) dL_isSo_69 ?_
        refine vv_top (y := nI wd) ((cl_1.law _ (by omega)).trans hgw) ?_
        refine vv_ncmp_ge C (i % 4) wd 86 dL_isSo_70 (by decide) (by omega) (by omega) (fun h_nc => ?_) (fun h_c => ?_)
        · refine vv_bipush (v := (-11)) C dL_isSo_86 (by decide) ?_
          refine vv_icmp_ne C 95 dL_isSo_88 (by decide) (fun h_14 => absurd (h_7.1.trans (val_out (by omega) (Or.inr (by rw [cl.q (by omega), hwd]; exact nI_le h_nc (by omega))))) h_14) (fun h_15 => ?_)
          refine vv_iconst (v := 1) C dL_isSo_91 (by decide) ?_
          refine vv_goto C 96 dL_isSo_92 (by decide) ?_
          refine vv_istore (ls2 := [some (.ref (G.1 144)), some (.ref (G.1 145)), some (.ref (G.1 146)), some (.ref (G.1 147)), some (.ref (G.1 148)), some (.ref (G.1 149)), some (.int 1), some (.int 0), some (.int (nI i)), some (.int (nI (i / 48))), some (.int (nI ((i / 4) % 12))), some (.int (nI (i % 4)))]) C 6 dL_isSo_96 (Nat.le_of_ble_eq_true rfl) rfl ?_
          refine vv_iinc (v := nI (i + 1)) (ls2 := [some (.ref (G.1 144)), some (.ref (G.1 145)), some (.ref (G.1 146)), some (.ref (G.1 147)), some (.ref (G.1 148)), some (.ref (G.1 149)), some (.int 1), some (.int 0), some (.int (nI (i + 1))), some (.int (nI (i / 48))), some (.int (nI ((i / 4) % 12))), some (.int (nI (i % 4)))]) C 8 dL_isSo_98 rfl (nI_add i 1) rfl ?_
          refine vv_goto C 9 dL_isSo_101 (by decide) ?_
          refine vv_keep (ls2 := [some (.ref (G.1 144)), some (.ref (G.1 145)), some (.ref (G.1 146)), some (.ref (G.1 147)), some (.ref (G.1 148)), some (.ref (G.1 149)), some (.int 1), some (.int 0), some (.int (nI (i + 1))), none, none, none]) ⟨rfl, rfl, rfl, rfl, rfl, rfl, rfl, rfl, rfl, trivial⟩ ?_
          exact ih (i + 1) _ (by omega) (by omega) cl_1
        · obtain ⟨u, hu, hS, hV⟩ := h.1.2.1.2.1 (i / 48) (i / 4 % 12) (by omega) (by omega) (by rw [hkn]; exact nI_ge h_k (by omega))
          have hV2 := (cl_1.law _ (by omega)).trans hV
          refine vv_aload_n C 2 dL_isSo_73 rfl rfl ?_
          refine vv_iload C 9 dL_isSo_74 rfl ?_
          refine vv_iload C 10 dL_isSo_76 rfl ?_
          refine vv_iload C 11 dL_isSo_78 rfl ?_
          refine vv_callSI C [.ref (G.1 146), .int (nI (i / 48)), .int (nI ((i / 4) % 12)), .int (nI (i % 4))] (c_L_get M_6 (d := i / 48) (k := (i / 4) % 12) (i := i % 4) (by omega) (by omega) (by omega) (u := u) hu hV2) (cwS 4 C.1.2.2.2.2 gL_isSo_L_get rfl rfl rfl (by decide +kernel) ⟨Nat.le_of_ble_eq_true rfl, Nat.le_of_ble_eq_true rfl⟩) rfl rfl rfl (Nat.le_of_ble_eq_true rfl) dL_isSo_80 ⟨Nat.le_refl _, Nat.le_refl _⟩ ?_
          refine vv_goto C 88 dL_isSo_83 (by decide) ?_
          refine vv_icmp_ne C 95 dL_isSo_88 (by decide) (fun h_16 => absurd (h_7.1.trans ((val_in (by omega) (by omega) (by omega) (by rw [cl.q (by omega), hkn]; exact nI_ge h_k (by omega)) (by rw [cl.q (by omega), hwd]; exact nI_ge h_c (by omega))).trans ((cl.q (by omega)).trans (hS (i % 4) (by omega))))) h_16) (fun h_17 => ?_)
          refine vv_iconst (v := 1) C dL_isSo_91 (by decide) ?_
          refine vv_goto C 96 dL_isSo_92 (by decide) ?_
          refine vv_istore (ls2 := [some (.ref (G.1 144)), some (.ref (G.1 145)), some (.ref (G.1 146)), some (.ref (G.1 147)), some (.ref (G.1 148)), some (.ref (G.1 149)), some (.int 1), some (.int 0), some (.int (nI i)), some (.int (nI (i / 48))), some (.int (nI ((i / 4) % 12))), some (.int (nI (i % 4)))]) C 6 dL_isSo_96 (Nat.le_of_ble_eq_true rfl) rfl ?_
          refine vv_iinc (v := nI (i + 1)) (ls2 := [some (.ref (G.1 144)), some (.ref (G.1 145)), some (.ref (G.1 146)), some (.ref (G.1 147)), some (.ref (G.1 148)), some (.ref (G.1 149)), some (.int 1), some (.int 0), some (.int (nI (i + 1))), some (.int (nI (i / 48))), some (.int (nI ((i / 4) % 12))), some (.int (nI (i % 4)))]) C 8 dL_isSo_98 rfl (nI_add i 1) rfl ?_
          refine vv_goto C 9 dL_isSo_101 (by decide) ?_
          refine vv_keep (ls2 := [some (.ref (G.1 144)), some (.ref (G.1 145)), some (.ref (G.1 146)), some (.ref (G.1 147)), some (.ref (G.1 148)), some (.ref (G.1 149)), some (.int 1), some (.int 0), some (.int (nI (i + 1))), none, none, none]) ⟨rfl, rfl, rfl, rfl, rfl, rfl, rfl, rfl, rfl, trivial⟩ ?_
          exact ih (i + 1) _ (by omega) (by omega) cl_1
set_option maxRecDepth 100000 in
set_option maxHeartbeats 4000000 in
theorem lp_isSo2 {p : Program} {l : Launch} {e : Env} {s : State} {m : MethodId} {args : Array Value} {below : List Frame} {meth : Method} {c : Code} {G : mw_GG} {Q : State → Prop} (C : vv_C p s m args c G cL_isSo 12 wsL_isSo RL) {M : mw_M} (h : linv M) {i kn wd : Nat} (hi8 : i < 8) (hkn12 : kn ≤ 12) (hkn : M (2 + i / 4) = nI kn) (hgn : M (1100 + (2 + i / 4)) = nI kn) (hwd : M (i / 4) = nI wd) (hwd4 : wd ≤ 4) (hgw : M (1100 + i / 4) = nI wd) {Mi : mw_M} (cl : clO Mi M) {cnt : Nat} (hk : vv p l e ({ frames := 4, cells := 0, slots := 0, locals := 92 } : Room) s m args below meth c G 0 0 Q Mi 216 [some (.ref (G.1 144)), some (.ref (G.1 145)), some (.ref (G.1 146)), some (.ref (G.1 147)), some (.ref (G.1 148)), some (.ref (G.1 149)), some (.int 1), some (.int (nI cnt)), some (.int (nI i)), some (.int (nI (i / 4))), some (.int (nI (cntB (ltF M i) kn))), none] []) : ∀ (n k : Nat), kn + 1 ≤ k + n → k ≤ kn → vv p l e ({ frames := 4, cells := 0, slots := 0, locals := 92 } : Room) s m args below meth c G 0 0 Q Mi 148 [some (.ref (G.1 144)), some (.ref (G.1 145)), some (.ref (G.1 146)), some (.ref (G.1 147)), some (.ref (G.1 148)), some (.ref (G.1 149)), some (.int 1), some (.int (nI cnt)), some (.int (nI i)), some (.int (nI (i / 4))), some (.int (nI (cntB (ltF M i) k))), some (.int (nI k))] [] := by
  intro n
  induction n with
  | zero => intro k h1 h2; omega
  | succ n ih =>
    intro k h1 h2
    have hcb := cntB_le (ltF M i) k
    refine vv_iload C 11 dL_isSo_148 rfl ?_
    refine vv_aload_n C 1 dL_isSo_150 rfl rfl ?_
    refine vv_iconst (v := 2) C dL_isSo_151 (by decide) ?_
    refine vv_iload C 9 dL_isSo_152 rfl ?_
    refine vv_iadd C dL_isSo_154 ?_
    refine vv_top (y := nI (2 + (i / 4))) (nI_add 2 (i / 4)) ?_
    refine vv_ald (j := 2 + (i / 4)) (q := 1100 + (2 + (i / 4))) C sh_145 rfl (by omega) (by omega) dL_isSo_155 ?_
    refine vv_top (y := nI kn) ((cl.law _ (by omega)).trans hgn) ?_
    refine vv_ncmp_ge C k kn 216 dL_isSo_156 (by decide) (by omega) (by omega) (fun h_ge => ?_) (fun h_lt => ?_)
    · refine vv_keep (ls2 := [some (.ref (G.1 144)), some (.ref (G.1 145)), some (.ref (G.1 146)), some (.ref (G.1 147)), some (.ref (G.1 148)), some (.ref (G.1 149)), some (.int 1), some (.int (nI cnt)), some (.int (nI i)), some (.int (nI (i / 4))), some (.int (nI (cntB (ltF M i) k))), none]) ⟨rfl, rfl, rfl, rfl, rfl, rfl, rfl, rfl, rfl, rfl, rfl, trivial⟩ ?_
      have e : k = kn := by omega
      subst e
      exact hk
    · refine vv_iload C 10 dL_isSo_159 rfl ?_
      refine vv_aload_n C 3 dL_isSo_161 rfl rfl ?_
      refine vv_iload C 8 dL_isSo_162 rfl ?_
      refine vv_ald (j := i) (q := 1300 + i) C sh_147 rfl (by omega) (by omega) dL_isSo_164 ?_
      refine vv_top (y := M (100 + 3 * i)) ((lsameR h.1.2.1 cl).e (by omega)) ?_
      refine vv_bipush (v := 9) C dL_isSo_165 (by decide) ?_
      refine vv_icmp_ge C 206 dL_isSo_167 (by decide) (fun h_9 => ?_) (fun h_n9 => ?_)
      · refine vv_iconst (v := 0) C dL_isSo_206 (by decide) ?_
        refine vv_iadd C dL_isSo_207 ?_
        refine vv_top (y := nI (cntB (ltF M i) (k + 1))) ((nI_add _ _).trans (congrArg nI (cntB_f (ltF_hi h.1.1.1 hi8 h_9)).symm)) ?_
        refine vv_istore (ls2 := [some (.ref (G.1 144)), some (.ref (G.1 145)), some (.ref (G.1 146)), some (.ref (G.1 147)), some (.ref (G.1 148)), some (.ref (G.1 149)), some (.int 1), some (.int (nI cnt)), some (.int (nI i)), some (.int (nI (i / 4))), some (.int (nI (cntB (ltF M i) (k + 1)))), some (.int (nI k))]) C 10 dL_isSo_208 (Nat.le_of_ble_eq_true rfl) rfl ?_
        refine vv_iinc (v := nI (k + 1)) (ls2 := [some (.ref (G.1 144)), some (.ref (G.1 145)), some (.ref (G.1 146)), some (.ref (G.1 147)), some (.ref (G.1 148)), some (.ref (G.1 149)), some (.int 1), some (.int (nI cnt)), some (.int (nI i)), some (.int (nI (i / 4))), some (.int (nI (cntB (ltF M i) (k + 1)))), some (.int (nI (k + 1)))]) C 11 dL_isSo_210 rfl (nI_add k 1) rfl ?_
        refine vv_goto C 148 dL_isSo_213 (by decide) ?_
        exact ih (k + 1) (by omega) (by omega)
      · obtain ⟨u, hu, hS, hV⟩ := h.1.2.1.2.1 (i / 4) k (by omega) (by omega) (by rw [hkn]; exact nI_ge h_lt (by omega))
        have hV2 := (cl.law _ (by omega)).trans hV
        refine vv_aload_n C 3 dL_isSo_170 rfl rfl ?_
        refine vv_iload C 8 dL_isSo_171 rfl ?_
        refine vv_ald (j := i) (q := 1300 + i) C sh_147 rfl (by omega) (by omega) dL_isSo_173 ?_
        refine vv_top (y := M (100 + 3 * i)) ((lsameR h.1.2.1 cl).e (by omega)) ?_
        refine vv_aload C 4 dL_isSo_174 rfl ?_
        refine vv_iload C 8 dL_isSo_176 rfl ?_
        refine vv_ald (j := i) (q := 1310 + i) C sh_148 rfl (by omega) (by omega) dL_isSo_178 ?_
        refine vv_top (y := M (101 + 3 * i)) ((lsameR h.1.2.1 cl).a (by omega)) ?_
        refine vv_aload C 5 dL_isSo_179 rfl ?_
        refine vv_iload C 8 dL_isSo_181 rfl ?_
        refine vv_ald (j := i) (q := 1320 + i) C sh_149 rfl (by omega) (by omega) dL_isSo_183 ?_
        refine vv_top (y := M (102 + 3 * i)) ((lsameR h.1.2.1 cl).b (by omega)) ?_
        refine vv_aload_n C 2 dL_isSo_184 rfl rfl ?_
        refine vv_iload C 9 dL_isSo_185 rfl ?_
        refine vv_iload C 11 dL_isSo_187 rfl ?_
        refine vv_iload C 8 dL_isSo_189 rfl ?_
        refine vv_iconst (v := 4) C dL_isSo_191 (by decide) ?_
        refine vv_irem C dL_isSo_192 (by decide) ?_
        refine vv_top (y := nI (i % 4)) (pk_rem (a := i) (d := 4) (by omega) (by omega) (by omega)) ?_
        refine vv_callSI C [.ref (G.1 146), .int (nI (i / 4)), .int (nI k), .int (nI (i % 4))] (c_L_get Mi (d := i / 4) (k := k) (i := i % 4) (by omega) (by omega) (by omega) (u := u) hu hV2) (cwS 4 C.1.2.2.2.2 gL_isSo_L_get rfl rfl rfl (by decide +kernel) ⟨Nat.le_of_ble_eq_true rfl, Nat.le_of_ble_eq_true rfl⟩) rfl rfl rfl (Nat.le_of_ble_eq_true rfl) dL_isSo_193 ⟨Nat.le_refl _, Nat.le_refl _⟩ ?_
        refine vv_top (y := M (4 + 48 * (i / 4) + (4 * k + i % 4))) ((hS (i % 4) (by omega)).symm) ?_
        refine vv_callSI C [.int (M (100 + 3 * i)), .int (M (101 + 3 * i)), .int (M (102 + 3 * i)), .int (M (4 + 48 * (i / 4) + (4 * k + i % 4)))] (c_L_plain Mi (M (100 + 3 * i)) (M (101 + 3 * i)) (M (102 + 3 * i)) (M (4 + 48 * (i / 4) + (4 * k + i % 4))) (h.1.1.1.2.2.1 (48 * (i / 4) + (4 * k + i % 4)) (by omega) |> fun z => by rw [show 4 + 48 * (i / 4) + (4 * k + i % 4) = 4 + (48 * (i / 4) + (4 * k + i % 4)) by omega]; exact z)) (cwS 4 C.1.2.2.2.2 gL_isSo_L_plain rfl rfl rfl (by decide +kernel) ⟨Nat.le_of_ble_eq_true rfl, Nat.le_of_ble_eq_true rfl⟩) rfl rfl rfl (Nat.le_of_ble_eq_true rfl) dL_isSo_196 ⟨Nat.le_refl _, Nat.le_refl _⟩ ?_
        refine vv_bif_eq C 206 dL_isSo_199 (by decide) (fun h_nt => ?_) (fun h_t => ?_)
        · refine vv_iconst (v := 0) C dL_isSo_206 (by decide) ?_
          refine vv_iadd C dL_isSo_207 ?_
          refine vv_top (y := nI (cntB (ltF M i) (k + 1))) ((nI_add _ _).trans (congrArg nI (cntB_f (by unfold ltF; exact Bool.eq_false_iff.mpr h_nt)).symm)) ?_
          refine vv_istore (ls2 := [some (.ref (G.1 144)), some (.ref (G.1 145)), some (.ref (G.1 146)), some (.ref (G.1 147)), some (.ref (G.1 148)), some (.ref (G.1 149)), some (.int 1), some (.int (nI cnt)), some (.int (nI i)), some (.int (nI (i / 4))), some (.int (nI (cntB (ltF M i) (k + 1)))), some (.int (nI k))]) C 10 dL_isSo_208 (Nat.le_of_ble_eq_true rfl) rfl ?_
          refine vv_iinc (v := nI (k + 1)) (ls2 := [some (.ref (G.1 144)), some (.ref (G.1 145)), some (.ref (G.1 146)), some (.ref (G.1 147)), some (.ref (G.1 148)), some (.ref (G.1 149)), some (.int 1), some (.int (nI cnt)), some (.int (nI i)), some (.int (nI (i / 4))), some (.int (nI (cntB (ltF M i) (k + 1)))), some (.int (nI (k + 1)))]) C 11 dL_isSo_210 rfl (nI_add k 1) rfl ?_
          refine vv_goto C 148 dL_isSo_213 (by decide) ?_
          exact ih (k + 1) (by omega) (by omega)
        · refine vv_iconst (v := 1) C dL_isSo_202 (by decide) ?_
          refine vv_goto C 207 dL_isSo_203 (by decide) ?_
          refine vv_iadd C dL_isSo_207 ?_
          refine vv_top (y := nI (cntB (ltF M i) (k + 1))) ((nI_add _ _).trans (congrArg nI (cntB_t (by unfold ltF; exact h_t)).symm)) ?_
          refine vv_istore (ls2 := [some (.ref (G.1 144)), some (.ref (G.1 145)), some (.ref (G.1 146)), some (.ref (G.1 147)), some (.ref (G.1 148)), some (.ref (G.1 149)), some (.int 1), some (.int (nI cnt)), some (.int (nI i)), some (.int (nI (i / 4))), some (.int (nI (cntB (ltF M i) (k + 1)))), some (.int (nI k))]) C 10 dL_isSo_208 (Nat.le_of_ble_eq_true rfl) rfl ?_
          refine vv_iinc (v := nI (k + 1)) (ls2 := [some (.ref (G.1 144)), some (.ref (G.1 145)), some (.ref (G.1 146)), some (.ref (G.1 147)), some (.ref (G.1 148)), some (.ref (G.1 149)), some (.int 1), some (.int (nI cnt)), some (.int (nI i)), some (.int (nI (i / 4))), some (.int (nI (cntB (ltF M i) (k + 1)))), some (.int (nI (k + 1)))]) C 11 dL_isSo_210 rfl (nI_add k 1) rfl ?_
          refine vv_goto C 148 dL_isSo_213 (by decide) ?_
          exact ih (k + 1) (by omega) (by omega)
set_option maxRecDepth 100000 in
set_option maxHeartbeats 4000000 in
theorem lp_isSo3 {p : Program} {l : Launch} {e : Env} {s : State} {m : MethodId} {args : Array Value} {below : List Frame} {meth : Method} {c : Code} {G : mw_GG} {Q : State → Prop} (C : vv_C p s m args c G cL_isSo 12 wsL_isSo RL) {M : mw_M} (h : linv M) {i kn wd : Nat} (hi8 : i < 8) (hkn12 : kn ≤ 12) (hkn : M (2 + i / 4) = nI kn) (hgn : M (1100 + (2 + i / 4)) = nI kn) (hwd : M (i / 4) = nI wd) (hwd4 : wd ≤ 4) (hgw : M (1100 + i / 4) = nI wd) {Mi : mw_M} (cl : clO Mi M) {cnt : Nat} (hk : ∀ Mi, clO Mi M → vv p l e ({ frames := 4, cells := 0, slots := 0, locals := 92 } : Room) s m args below meth c G 0 0 Q Mi 107 [some (.ref (G.1 144)), some (.ref (G.1 145)), some (.ref (G.1 146)), some (.ref (G.1 147)), some (.ref (G.1 148)), some (.ref (G.1 149)), some (.int 1), some (.int (nI cnt)), some (.int (nI (i + 1))), none, none, none] []) : vv p l e ({ frames := 4, cells := 0, slots := 0, locals := 92 } : Room) s m args below meth c G 0 0 Q Mi 216 [some (.ref (G.1 144)), some (.ref (G.1 145)), some (.ref (G.1 146)), some (.ref (G.1 147)), some (.ref (G.1 148)), some (.ref (G.1 149)), some (.int 1), some (.int (nI cnt)), some (.int (nI i)), some (.int (nI (i / 4))), some (.int (nI (cntB (ltF M i) kn))), none] [] := by
  refine vv_iload C 8 dL_isSo_216 rfl ?_
  refine vv_iconst (v := 4) C dL_isSo_218 (by decide) ?_
  refine vv_irem C dL_isSo_219 (by decide) ?_
  refine vv_top (y := nI (i % 4)) (pk_rem (a := i) (d := 4) (by omega) (by omega) (by omega)) ?_
  refine vv_aload_n C 1 dL_isSo_220 rfl rfl ?_
  refine vv_iload C 9 dL_isSo_221 rfl ?_
  refine vv_ald (j := i / 4) (q := 1100 + (i / 4)) C sh_145 rfl (by omega) (by omega) dL_isSo_223 ?_
  refine vv_top (y := nI wd) ((cl.law _ (by omega)).trans hgw) ?_
  refine vv_ncmp_ge C (i % 4) wd 231 dL_isSo_224 (by decide) (by omega) (by omega) (fun h_out => ?_) (fun h_in => ?_)
  · refine vv_iconst (v := 0) C dL_isSo_231 (by decide) ?_
    refine vv_istore (ls2 := [some (.ref (G.1 144)), some (.ref (G.1 145)), some (.ref (G.1 146)), some (.ref (G.1 147)), some (.ref (G.1 148)), some (.ref (G.1 149)), some (.int 1), some (.int (nI cnt)), some (.int (nI i)), some (.int (nI (i / 4))), some (.int (nI (cntB (ltF M i) kn))), some (.int 0)]) C 11 dL_isSo_232 (Nat.le_of_ble_eq_true rfl) rfl ?_
    refine vv_aload_n C 0 dL_isSo_234 rfl rfl ?_
    refine vv_iload C 9 dL_isSo_235 rfl ?_
    refine vv_iload C 8 dL_isSo_237 rfl ?_
    refine vv_iconst (v := 4) C dL_isSo_239 (by decide) ?_
    refine vv_irem C dL_isSo_240 (by decide) ?_
    refine vv_top (y := nI (i % 4)) (pk_rem (a := i) (d := 4) (by omega) (by omega) (by omega)) ?_
    refine vv_iconst (v := 0) C dL_isSo_241 (by decide) ?_
    refine vv_callVIP C [.int (nI (i / 4)), .int (nI (i % 4)), .int 0] (c_X8_cellOf Mi (lsame1 h cl).1.1.1 (lsame1 h cl).1.1.2.1 (lsame1 h cl).1.1.2.2.1 (nI (i / 4)) (nI (i % 4)) 0) sh_144 rfl (cwV 3 C.1.2.2.2.2 gL_isSo_X8_cellOf rfl rfl rfl (by decide +kernel) ⟨Nat.le_of_ble_eq_true rfl, Nat.le_of_ble_eq_true rfl⟩) rfl rfl rfl (Nat.le_of_ble_eq_true rfl) dL_isSo_242 ⟨Nat.le_refl _, Nat.le_refl _⟩ (fun x_3 M_4 h_5 => ?_)
    have cl_2 := cl_rd cl rd_cellOf h_5.2
    refine vv_iload C 11 dL_isSo_245 rfl ?_
    refine vv_nif_eq C 0 257 dL_isSo_247 (by decide) (by decide) (fun h_7 => ?_) (fun h_6 => absurd h_6 (by decide))
    refine vv_bipush (v := (-11)) C dL_isSo_257 (by decide) ?_
    refine vv_icmp_ne C 350 dL_isSo_259 (by decide) (fun h_8 => absurd (h_5.1.trans (cof_out (by omega) (by rw [cl.q (by omega), hwd]; exact nI_le h_out (by omega)))) h_8) (fun h_9 => ?_)
    refine vv_aload_n C 0 dL_isSo_262 rfl rfl ?_
    refine vv_iload C 9 dL_isSo_263 rfl ?_
    refine vv_iload C 8 dL_isSo_265 rfl ?_
    refine vv_iconst (v := 4) C dL_isSo_267 (by decide) ?_
    refine vv_irem C dL_isSo_268 (by decide) ?_
    refine vv_top (y := nI (i % 4)) (pk_rem (a := i) (d := 4) (by omega) (by omega) (by omega)) ?_
    refine vv_iconst (v := 1) C dL_isSo_269 (by decide) ?_
    refine vv_callVIP C [.int (nI (i / 4)), .int (nI (i % 4)), .int 1] (c_X8_cellOf M_4 (lsame1 h cl_2).1.1.1 (lsame1 h cl_2).1.1.2.1 (lsame1 h cl_2).1.1.2.2.1 (nI (i / 4)) (nI (i % 4)) 1) sh_144 rfl (cwV 3 C.1.2.2.2.2 gL_isSo_X8_cellOf rfl rfl rfl (by decide +kernel) ⟨Nat.le_of_ble_eq_true rfl, Nat.le_of_ble_eq_true rfl⟩) rfl rfl rfl (Nat.le_of_ble_eq_true rfl) dL_isSo_270 ⟨Nat.le_refl _, Nat.le_refl _⟩ (fun x_10 M_11 h_12 => ?_)
    have cl_3 := cl_rd cl_2 rd_cellOf h_12.2
    refine vv_iload C 11 dL_isSo_273 rfl ?_
    refine vv_nif_eq C 0 286 dL_isSo_275 (by decide) (by decide) (fun h_14 => ?_) (fun h_13 => absurd h_13 (by decide))
    refine vv_bipush (v := (-11)) C dL_isSo_286 (by decide) ?_
    refine vv_icmp_ne C 350 dL_isSo_288 (by decide) (fun h_15 => absurd (h_12.1.trans (cof_out (by omega) (by rw [cl_2.q (by omega), hwd]; exact nI_le h_out (by omega)))) h_15) (fun h_16 => ?_)
    refine vv_aload_n C 0 dL_isSo_291 rfl rfl ?_
    refine vv_iload C 9 dL_isSo_292 rfl ?_
    refine vv_iload C 8 dL_isSo_294 rfl ?_
    refine vv_iconst (v := 4) C dL_isSo_296 (by decide) ?_
    refine vv_irem C dL_isSo_297 (by decide) ?_
    refine vv_top (y := nI (i % 4)) (pk_rem (a := i) (d := 4) (by omega) (by omega) (by omega)) ?_
    refine vv_iconst (v := 2) C dL_isSo_298 (by decide) ?_
    refine vv_callVIP C [.int (nI (i / 4)), .int (nI (i % 4)), .int 2] (c_X8_cellOf M_11 (lsame1 h cl_3).1.1.1 (lsame1 h cl_3).1.1.2.1 (lsame1 h cl_3).1.1.2.2.1 (nI (i / 4)) (nI (i % 4)) 2) sh_144 rfl (cwV 3 C.1.2.2.2.2 gL_isSo_X8_cellOf rfl rfl rfl (by decide +kernel) ⟨Nat.le_of_ble_eq_true rfl, Nat.le_of_ble_eq_true rfl⟩) rfl rfl rfl (Nat.le_of_ble_eq_true rfl) dL_isSo_299 ⟨Nat.le_refl _, Nat.le_refl _⟩ (fun x_17 M_18 h_19 => ?_)
    have cl_4 := cl_rd cl_3 rd_cellOf h_19.2
    refine vv_iload C 11 dL_isSo_302 rfl ?_
    refine vv_nif_eq C 0 315 dL_isSo_304 (by decide) (by decide) (fun h_21 => ?_) (fun h_20 => absurd h_20 (by decide))
    refine vv_bipush (v := (-11)) C dL_isSo_315 (by decide) ?_
    refine vv_icmp_ne C 350 dL_isSo_317 (by decide) (fun h_22 => absurd (h_19.1.trans (cof_out (by omega) (by rw [cl_3.q (by omega), hwd]; exact nI_le h_out (by omega)))) h_22) (fun h_23 => ?_)
    refine vv_aload_n C 0 dL_isSo_320 rfl rfl ?_
    refine vv_iload C 9 dL_isSo_321 rfl ?_
    refine vv_iload C 8 dL_isSo_323 rfl ?_
    refine vv_iconst (v := 4) C dL_isSo_325 (by decide) ?_
    refine vv_irem C dL_isSo_326 (by decide) ?_
    refine vv_top (y := nI (i % 4)) (pk_rem (a := i) (d := 4) (by omega) (by omega) (by omega)) ?_
    refine vv_iconst (v := 3) C dL_isSo_327 (by decide) ?_
    refine vv_callVIP C [.int (nI (i / 4)), .int (nI (i % 4)), .int 3] (c_X8_cellOf M_18 (lsame1 h cl_4).1.1.1 (lsame1 h cl_4).1.1.2.1 (lsame1 h cl_4).1.1.2.2.1 (nI (i / 4)) (nI (i % 4)) 3) sh_144 rfl (cwV 3 C.1.2.2.2.2 gL_isSo_X8_cellOf rfl rfl rfl (by decide +kernel) ⟨Nat.le_of_ble_eq_true rfl, Nat.le_of_ble_eq_true rfl⟩) rfl rfl rfl (Nat.le_of_ble_eq_true rfl) dL_isSo_328 ⟨Nat.le_refl _, Nat.le_refl _⟩ (fun x_24 M_25 h_26 => ?_)
    have cl_5 := cl_rd cl_4 rd_cellOf h_26.2
    refine vv_iload C 11 dL_isSo_331 rfl ?_
    refine vv_nif_eq C 0 341 dL_isSo_333 (by decide) (by decide) (fun h_28 => ?_) (fun h_27 => absurd h_27 (by decide))
    refine vv_bipush (v := (-11)) C dL_isSo_341 (by decide) ?_
    refine vv_icmp_ne C 350 dL_isSo_343 (by decide) (fun h_29 => absurd (h_26.1.trans (cof_out (by omega) (by rw [cl_4.q (by omega), hwd]; exact nI_le h_out (by omega)))) h_29) (fun h_30 => ?_)
    refine vv_iconst (v := 1) C dL_isSo_346 (by decide) ?_
    refine vv_goto C 351 dL_isSo_347 (by decide) ?_
    refine vv_istore (ls2 := [some (.ref (G.1 144)), some (.ref (G.1 145)), some (.ref (G.1 146)), some (.ref (G.1 147)), some (.ref (G.1 148)), some (.ref (G.1 149)), some (.int 1), some (.int (nI cnt)), some (.int (nI i)), some (.int (nI (i / 4))), some (.int (nI (cntB (ltF M i) kn))), some (.int 0)]) C 6 dL_isSo_351 (Nat.le_of_ble_eq_true rfl) rfl ?_
    refine vv_iinc (v := nI (i + 1)) (ls2 := [some (.ref (G.1 144)), some (.ref (G.1 145)), some (.ref (G.1 146)), some (.ref (G.1 147)), some (.ref (G.1 148)), some (.ref (G.1 149)), some (.int 1), some (.int (nI cnt)), some (.int (nI (i + 1))), some (.int (nI (i / 4))), some (.int (nI (cntB (ltF M i) kn))), some (.int 0)]) C 8 dL_isSo_353 rfl (nI_add i 1) rfl ?_
    refine vv_goto C 107 dL_isSo_356 (by decide) ?_
    refine vv_keep (ls2 := [some (.ref (G.1 144)), some (.ref (G.1 145)), some (.ref (G.1 146)), some (.ref (G.1 147)), some (.ref (G.1 148)), some (.ref (G.1 149)), some (.int 1), some (.int (nI cnt)), some (.int (nI (i + 1))), none, none, none]) ⟨rfl, rfl, rfl, rfl, rfl, rfl, rfl, rfl, rfl, trivial⟩ ?_
    exact hk _ cl_5
  · refine vv_iconst (v := 1) C dL_isSo_227 (by decide) ?_
    refine vv_goto C 232 dL_isSo_228 (by decide) ?_
    refine vv_istore (ls2 := [some (.ref (G.1 144)), some (.ref (G.1 145)), some (.ref (G.1 146)), some (.ref (G.1 147)), some (.ref (G.1 148)), some (.ref (G.1 149)), some (.int 1), some (.int (nI cnt)), some (.int (nI i)), some (.int (nI (i / 4))), some (.int (nI (cntB (ltF M i) kn))), some (.int 1)]) C 11 dL_isSo_232 (Nat.le_of_ble_eq_true rfl) rfl ?_
    refine vv_aload_n C 0 dL_isSo_234 rfl rfl ?_
    refine vv_iload C 9 dL_isSo_235 rfl ?_
    refine vv_iload C 8 dL_isSo_237 rfl ?_
    refine vv_iconst (v := 4) C dL_isSo_239 (by decide) ?_
    refine vv_irem C dL_isSo_240 (by decide) ?_
    refine vv_top (y := nI (i % 4)) (pk_rem (a := i) (d := 4) (by omega) (by omega) (by omega)) ?_
    refine vv_iconst (v := 0) C dL_isSo_241 (by decide) ?_
    refine vv_callVIP C [.int (nI (i / 4)), .int (nI (i % 4)), .int 0] (c_X8_cellOf Mi (lsame1 h cl).1.1.1 (lsame1 h cl).1.1.2.1 (lsame1 h cl).1.1.2.2.1 (nI (i / 4)) (nI (i % 4)) 0) sh_144 rfl (cwV 3 C.1.2.2.2.2 gL_isSo_X8_cellOf rfl rfl rfl (by decide +kernel) ⟨Nat.le_of_ble_eq_true rfl, Nat.le_of_ble_eq_true rfl⟩) rfl rfl rfl (Nat.le_of_ble_eq_true rfl) dL_isSo_242 ⟨Nat.le_refl _, Nat.le_refl _⟩ (fun x_31 M_32 h_33 => ?_)
    have cl_6 := cl_rd cl rd_cellOf h_33.2
    refine vv_iload C 11 dL_isSo_245 rfl ?_
    refine vv_nif_eq C 1 257 dL_isSo_247 (by decide) (by decide) (fun h_34 => absurd h_34 (by decide)) (fun h_35 => ?_)
    refine vv_aload_n C 3 dL_isSo_250 rfl rfl ?_
    refine vv_iload C 8 dL_isSo_251 rfl ?_
    refine vv_ald (j := i) (q := 1300 + i) C sh_147 rfl (by omega) (by omega) dL_isSo_253 ?_
    refine vv_top (y := M (100 + 3 * i)) ((lsameR h.1.2.1 cl_6).e (by omega)) ?_
    refine vv_goto C 259 dL_isSo_254 (by decide) ?_
    refine vv_icmp_ne C 350 dL_isSo_259 (by decide) (fun h_36 => absurd (h_33.1.trans ((cof_in (w := 0) (by omega) (by omega) (by omega) (by rw [cl.q (by omega), hwd]; exact nI_ge h_in (by omega))).trans ((cof_0).trans ((cl.q (by omega)).trans (congrArg M (by omega)))))) h_36) (fun h_37 => ?_)
    refine vv_aload_n C 0 dL_isSo_262 rfl rfl ?_
    refine vv_iload C 9 dL_isSo_263 rfl ?_
    refine vv_iload C 8 dL_isSo_265 rfl ?_
    refine vv_iconst (v := 4) C dL_isSo_267 (by decide) ?_
    refine vv_irem C dL_isSo_268 (by decide) ?_
    refine vv_top (y := nI (i % 4)) (pk_rem (a := i) (d := 4) (by omega) (by omega) (by omega)) ?_
    refine vv_iconst (v := 1) C dL_isSo_269 (by decide) ?_
    refine vv_callVIP C [.int (nI (i / 4)), .int (nI (i % 4)), .int 1] (c_X8_cellOf M_32 (lsame1 h cl_6).1.1.1 (lsame1 h cl_6).1.1.2.1 (lsame1 h cl_6).1.1.2.2.1 (nI (i / 4)) (nI (i % 4)) 1) sh_144 rfl (cwV 3 C.1.2.2.2.2 gL_isSo_X8_cellOf rfl rfl rfl (by decide +kernel) ⟨Nat.le_of_ble_eq_true rfl, Nat.le_of_ble_eq_true rfl⟩) rfl rfl rfl (Nat.le_of_ble_eq_true rfl) dL_isSo_270 ⟨Nat.le_refl _, Nat.le_refl _⟩ (fun x_38 M_39 h_40 => ?_)
    have cl_7 := cl_rd cl_6 rd_cellOf h_40.2
    refine vv_iload C 11 dL_isSo_273 rfl ?_
    refine vv_nif_eq C 1 286 dL_isSo_275 (by decide) (by decide) (fun h_41 => absurd h_41 (by decide)) (fun h_42 => ?_)
    refine vv_aload C 4 dL_isSo_278 rfl ?_
    refine vv_iload C 8 dL_isSo_280 rfl ?_
    refine vv_ald (j := i) (q := 1310 + i) C sh_148 rfl (by omega) (by omega) dL_isSo_282 ?_
    refine vv_top (y := M (101 + 3 * i)) ((lsameR h.1.2.1 cl_7).a (by omega)) ?_
    refine vv_goto C 288 dL_isSo_283 (by decide) ?_
    refine vv_icmp_ne C 350 dL_isSo_288 (by decide) (fun h_43 => absurd (h_40.1.trans ((cof_in (w := 1) (by omega) (by omega) (by omega) (by rw [cl_6.q (by omega), hwd]; exact nI_ge h_in (by omega))).trans ((cof_1).trans ((cl_6.q (by omega)).trans (congrArg M (by omega)))))) h_43) (fun h_44 => ?_)
    refine vv_aload_n C 0 dL_isSo_291 rfl rfl ?_
    refine vv_iload C 9 dL_isSo_292 rfl ?_
    refine vv_iload C 8 dL_isSo_294 rfl ?_
    refine vv_iconst (v := 4) C dL_isSo_296 (by decide) ?_
    refine vv_irem C dL_isSo_297 (by decide) ?_
    refine vv_top (y := nI (i % 4)) (pk_rem (a := i) (d := 4) (by omega) (by omega) (by omega)) ?_
    refine vv_iconst (v := 2) C dL_isSo_298 (by decide) ?_
    refine vv_callVIP C [.int (nI (i / 4)), .int (nI (i % 4)), .int 2] (c_X8_cellOf M_39 (lsame1 h cl_7).1.1.1 (lsame1 h cl_7).1.1.2.1 (lsame1 h cl_7).1.1.2.2.1 (nI (i / 4)) (nI (i % 4)) 2) sh_144 rfl (cwV 3 C.1.2.2.2.2 gL_isSo_X8_cellOf rfl rfl rfl (by decide +kernel) ⟨Nat.le_of_ble_eq_true rfl, Nat.le_of_ble_eq_true rfl⟩) rfl rfl rfl (Nat.le_of_ble_eq_true rfl) dL_isSo_299 ⟨Nat.le_refl _, Nat.le_refl _⟩ (fun x_45 M_46 h_47 => ?_)
    have cl_8 := cl_rd cl_7 rd_cellOf h_47.2
    refine vv_iload C 11 dL_isSo_302 rfl ?_
    refine vv_nif_eq C 1 315 dL_isSo_304 (by decide) (by decide) (fun h_48 => absurd h_48 (by decide)) (fun h_49 => ?_)
    refine vv_aload C 5 dL_isSo_307 rfl ?_
    refine vv_iload C 8 dL_isSo_309 rfl ?_
    refine vv_ald (j := i) (q := 1320 + i) C sh_149 rfl (by omega) (by omega) dL_isSo_311 ?_
    refine vv_top (y := M (102 + 3 * i)) ((lsameR h.1.2.1 cl_8).b (by omega)) ?_
    refine vv_goto C 317 dL_isSo_312 (by decide) ?_
    refine vv_icmp_ne C 350 dL_isSo_317 (by decide) (fun h_50 => absurd (h_47.1.trans ((cof_in (w := 2) (by omega) (by omega) (by omega) (by rw [cl_7.q (by omega), hwd]; exact nI_ge h_in (by omega))).trans ((cof_2).trans ((cl_7.q (by omega)).trans (congrArg M (by omega)))))) h_50) (fun h_51 => ?_)
    refine vv_aload_n C 0 dL_isSo_320 rfl rfl ?_
    refine vv_iload C 9 dL_isSo_321 rfl ?_
    refine vv_iload C 8 dL_isSo_323 rfl ?_
    refine vv_iconst (v := 4) C dL_isSo_325 (by decide) ?_
    refine vv_irem C dL_isSo_326 (by decide) ?_
    refine vv_top (y := nI (i % 4)) (pk_rem (a := i) (d := 4) (by omega) (by omega) (by omega)) ?_
    refine vv_iconst (v := 3) C dL_isSo_327 (by decide) ?_
    refine vv_callVIP C [.int (nI (i / 4)), .int (nI (i % 4)), .int 3] (c_X8_cellOf M_46 (lsame1 h cl_8).1.1.1 (lsame1 h cl_8).1.1.2.1 (lsame1 h cl_8).1.1.2.2.1 (nI (i / 4)) (nI (i % 4)) 3) sh_144 rfl (cwV 3 C.1.2.2.2.2 gL_isSo_X8_cellOf rfl rfl rfl (by decide +kernel) ⟨Nat.le_of_ble_eq_true rfl, Nat.le_of_ble_eq_true rfl⟩) rfl rfl rfl (Nat.le_of_ble_eq_true rfl) dL_isSo_328 ⟨Nat.le_refl _, Nat.le_refl _⟩ (fun x_52 M_53 h_54 => ?_)
    have cl_9 := cl_rd cl_8 rd_cellOf h_54.2
    refine vv_iload C 11 dL_isSo_331 rfl ?_
    refine vv_nif_eq C 1 341 dL_isSo_333 (by decide) (by decide) (fun h_55 => absurd h_55 (by decide)) (fun h_56 => ?_)
    refine vv_iload C 10 dL_isSo_336 rfl ?_
    refine vv_goto C 343 dL_isSo_338 (by decide) ?_
    refine vv_icmp_ne C 350 dL_isSo_343 (by decide) (fun h_57 => absurd (h_54.1.trans ((cof_in (w := 3) (by omega) (by omega) (by omega) (by rw [cl_8.q (by omega), hwd]; exact nI_ge h_in (by omega))).trans (cof_3 cl_8 hi8 hkn hkn12 (by rw [hwd]; exact nI_ge h_in (by omega))))) h_57) (fun h_58 => ?_)
    refine vv_iconst (v := 1) C dL_isSo_346 (by decide) ?_
    refine vv_goto C 351 dL_isSo_347 (by decide) ?_
    refine vv_istore (ls2 := [some (.ref (G.1 144)), some (.ref (G.1 145)), some (.ref (G.1 146)), some (.ref (G.1 147)), some (.ref (G.1 148)), some (.ref (G.1 149)), some (.int 1), some (.int (nI cnt)), some (.int (nI i)), some (.int (nI (i / 4))), some (.int (nI (cntB (ltF M i) kn))), some (.int 1)]) C 6 dL_isSo_351 (Nat.le_of_ble_eq_true rfl) rfl ?_
    refine vv_iinc (v := nI (i + 1)) (ls2 := [some (.ref (G.1 144)), some (.ref (G.1 145)), some (.ref (G.1 146)), some (.ref (G.1 147)), some (.ref (G.1 148)), some (.ref (G.1 149)), some (.int 1), some (.int (nI cnt)), some (.int (nI (i + 1))), some (.int (nI (i / 4))), some (.int (nI (cntB (ltF M i) kn))), some (.int 1)]) C 8 dL_isSo_353 rfl (nI_add i 1) rfl ?_
    refine vv_goto C 107 dL_isSo_356 (by decide) ?_
    refine vv_keep (ls2 := [some (.ref (G.1 144)), some (.ref (G.1 145)), some (.ref (G.1 146)), some (.ref (G.1 147)), some (.ref (G.1 148)), some (.ref (G.1 149)), some (.int 1), some (.int (nI cnt)), some (.int (nI (i + 1))), none, none, none]) ⟨rfl, rfl, rfl, rfl, rfl, rfl, rfl, rfl, rfl, trivial⟩ ?_
    exact hk _ cl_9
set_option maxRecDepth 100000 in
set_option maxHeartbeats 4000000 in
theorem lp_isSo4 {p : Program} {l : Launch} {e : Env} {s : State} {m : MethodId} {args : Array Value} {below : List Frame} {meth : Method} {c : Code} {G : mw_GG} {Q : State → Prop} (C : vv_C p s m args c G cL_isSo 12 wsL_isSo RL) {M : mw_M} (h : linv M) (hk : ∀ Mi, clO Mi M → vv p l e ({ frames := 4, cells := 0, slots := 0, locals := 92 } : Room) s m args below meth c G 0 0 Q Mi 359 [some (.ref (G.1 144)), some (.ref (G.1 145)), some (.ref (G.1 146)), some (.ref (G.1 147)), some (.ref (G.1 148)), some (.ref (G.1 149)), some (.int 1), some (.int (nI (cntB (otF M) 8))), none, none, none, none] []) : ∀ (n i : Nat) (Mi : mw_M), 9 ≤ i + n → i ≤ 8 → clO Mi M → vv p l e ({ frames := 4, cells := 0, slots := 0, locals := 92 } : Room) s m args below meth c G 0 0 Q Mi 107 [some (.ref (G.1 144)), some (.ref (G.1 145)), some (.ref (G.1 146)), some (.ref (G.1 147)), some (.ref (G.1 148)), some (.ref (G.1 149)), some (.int 1), some (.int (nI (cntB (otF M) i))), some (.int (nI i)), none, none, none] [] := by
  intro n
  induction n with
  | zero => intro i Mi h1 h2 _; omega
  | succ n ih =>
    intro i Mi h1 h2 cl
    have hcb := cntB_le (otF M) i
    refine vv_iload C 8 dL_isSo_107 rfl ?_
    refine vv_bipush (v := 8) C dL_isSo_109 (by decide) ?_
    refine vv_ncmp_ge C i 8 359 dL_isSo_111 (by decide) (by omega) (by decide) (fun h_ge => ?_) (fun h_lt => ?_)
    · refine vv_keep (ls2 := [some (.ref (G.1 144)), some (.ref (G.1 145)), some (.ref (G.1 146)), some (.ref (G.1 147)), some (.ref (G.1 148)), some (.ref (G.1 149)), some (.int 1), some (.int (nI (cntB (otF M) i))), none, none, none, none]) ⟨rfl, rfl, rfl, rfl, rfl, rfl, rfl, rfl, trivial⟩ ?_
      have e : i = 8 := by omega
      subst e
      exact hk _ cl
    · refine vv_iload C 6 dL_isSo_114 rfl ?_
      refine vv_nif_eq C 1 359 dL_isSo_116 (by decide) (by decide) (fun h_3 => absurd h_3 (by decide)) (fun h_4 => ?_)
      obtain ⟨kn, hkn12, hkn, hgn⟩ := h.sz (d := i / 4) (by omega)
      obtain ⟨wd, hwd1, hwd4, hwd, hgw⟩ := h.wd (d := i / 4) (by omega)
      refine vv_iload C 8 dL_isSo_119 rfl ?_
      refine vv_iconst (v := 4) C dL_isSo_121 (by decide) ?_
      refine vv_idiv C dL_isSo_122 (by decide) ?_
      refine vv_top (y := nI (i / 4)) (pk_div (a := i) (d := 4) (by omega) (by omega) (by omega)) ?_
      refine vv_istore (ls2 := [some (.ref (G.1 144)), some (.ref (G.1 145)), some (.ref (G.1 146)), some (.ref (G.1 147)), some (.ref (G.1 148)), some (.ref (G.1 149)), some (.int 1), some (.int (nI (cntB (otF M) i))), some (.int (nI i)), some (.int (nI (i / 4))), none, none]) C 9 dL_isSo_123 (Nat.le_of_ble_eq_true rfl) rfl ?_
      refine vv_iload C 7 dL_isSo_125 rfl ?_
      refine vv_aload_n C 3 dL_isSo_127 rfl rfl ?_
      refine vv_iload C 8 dL_isSo_128 rfl ?_
      refine vv_ald (j := i) (q := 1300 + i) C sh_147 rfl (by omega) (by omega) dL_isSo_130 ?_
      refine vv_top (y := M (100 + 3 * i)) ((lsameR h.1.2.1 cl).e (by omega)) ?_
      refine vv_if_ne C 138 dL_isSo_131 (by decide) (fun h_nz => ?_) (fun h_z => ?_)
      · refine vv_iconst (v := 1) C dL_isSo_138 (by decide) ?_
        refine vv_iadd C dL_isSo_139 ?_
        refine vv_top (y := nI (cntB (otF M) (i + 1))) ((nI_add _ _).trans (congrArg nI (cntB_t (decide_eq_true h_nz)).symm)) ?_
        refine vv_istore (ls2 := [some (.ref (G.1 144)), some (.ref (G.1 145)), some (.ref (G.1 146)), some (.ref (G.1 147)), some (.ref (G.1 148)), some (.ref (G.1 149)), some (.int 1), some (.int (nI (cntB (otF M) (i + 1)))), some (.int (nI i)), some (.int (nI (i / 4))), none, none]) C 7 dL_isSo_140 (Nat.le_of_ble_eq_true rfl) rfl ?_
        refine vv_iconst (v := 0) C dL_isSo_142 (by decide) ?_
        refine vv_istore (ls2 := [some (.ref (G.1 144)), some (.ref (G.1 145)), some (.ref (G.1 146)), some (.ref (G.1 147)), some (.ref (G.1 148)), some (.ref (G.1 149)), some (.int 1), some (.int (nI (cntB (otF M) (i + 1)))), some (.int (nI i)), some (.int (nI (i / 4))), some (.int 0), none]) C 10 dL_isSo_143 (Nat.le_of_ble_eq_true rfl) rfl ?_
        refine vv_iconst (v := 0) C dL_isSo_145 (by decide) ?_
        refine vv_istore (ls2 := [some (.ref (G.1 144)), some (.ref (G.1 145)), some (.ref (G.1 146)), some (.ref (G.1 147)), some (.ref (G.1 148)), some (.ref (G.1 149)), some (.int 1), some (.int (nI (cntB (otF M) (i + 1)))), some (.int (nI i)), some (.int (nI (i / 4))), some (.int 0), some (.int 0)]) C 11 dL_isSo_146 (Nat.le_of_ble_eq_true rfl) rfl ?_
        refine vv_loc (ls2 := [some (.ref (G.1 144)), some (.ref (G.1 145)), some (.ref (G.1 146)), some (.ref (G.1 147)), some (.ref (G.1 148)), some (.ref (G.1 149)), some (.int 1), some (.int (nI (cntB (otF M) (i + 1)))), some (.int (nI i)), some (.int (nI (i / 4))), some (.int (nI (cntB (ltF M i) 0))), some (.int 0)]) rfl ?_
        refine lp_isSo2 C h (by omega) hkn12 hkn hgn hwd hwd4 hgw cl ?_ (kn + 1) 0 (by omega) (by omega)
        refine lp_isSo3 C h (by omega) hkn12 hkn hgn hwd hwd4 hgw cl (fun Mi2 cl2 => ?_)
        exact ih (i + 1) Mi2 (by omega) (by omega) cl2
      · refine vv_iconst (v := 0) C dL_isSo_134 (by decide) ?_
        refine vv_goto C 139 dL_isSo_135 (by decide) ?_
        refine vv_iadd C dL_isSo_139 ?_
        refine vv_top (y := nI (cntB (otF M) (i + 1))) ((nI_add _ _).trans (congrArg nI (cntB_f (decide_eq_false (fun z => z h_z))).symm)) ?_
        refine vv_istore (ls2 := [some (.ref (G.1 144)), some (.ref (G.1 145)), some (.ref (G.1 146)), some (.ref (G.1 147)), some (.ref (G.1 148)), some (.ref (G.1 149)), some (.int 1), some (.int (nI (cntB (otF M) (i + 1)))), some (.int (nI i)), some (.int (nI (i / 4))), none, none]) C 7 dL_isSo_140 (Nat.le_of_ble_eq_true rfl) rfl ?_
        refine vv_iconst (v := 0) C dL_isSo_142 (by decide) ?_
        refine vv_istore (ls2 := [some (.ref (G.1 144)), some (.ref (G.1 145)), some (.ref (G.1 146)), some (.ref (G.1 147)), some (.ref (G.1 148)), some (.ref (G.1 149)), some (.int 1), some (.int (nI (cntB (otF M) (i + 1)))), some (.int (nI i)), some (.int (nI (i / 4))), some (.int 0), none]) C 10 dL_isSo_143 (Nat.le_of_ble_eq_true rfl) rfl ?_
        refine vv_iconst (v := 0) C dL_isSo_145 (by decide) ?_
        refine vv_istore (ls2 := [some (.ref (G.1 144)), some (.ref (G.1 145)), some (.ref (G.1 146)), some (.ref (G.1 147)), some (.ref (G.1 148)), some (.ref (G.1 149)), some (.int 1), some (.int (nI (cntB (otF M) (i + 1)))), some (.int (nI i)), some (.int (nI (i / 4))), some (.int 0), some (.int 0)]) C 11 dL_isSo_146 (Nat.le_of_ble_eq_true rfl) rfl ?_
        refine vv_loc (ls2 := [some (.ref (G.1 144)), some (.ref (G.1 145)), some (.ref (G.1 146)), some (.ref (G.1 147)), some (.ref (G.1 148)), some (.ref (G.1 149)), some (.int 1), some (.int (nI (cntB (otF M) (i + 1)))), some (.int (nI i)), some (.int (nI (i / 4))), some (.int (nI (cntB (ltF M i) 0))), some (.int 0)]) rfl ?_
        refine lp_isSo2 C h (by omega) hkn12 hkn hgn hwd hwd4 hgw cl ?_ (kn + 1) 0 (by omega) (by omega)
        refine lp_isSo3 C h (by omega) hkn12 hkn hgn hwd hwd4 hgw cl (fun Mi2 cl2 => ?_)
        exact ih (i + 1) Mi2 (by omega) (by omega) cl2
set_option maxRecDepth 100000 in
set_option maxHeartbeats 4000000 in
theorem lp_isSo5 {p : Program} {l : Launch} {e : Env} {s : State} {m : MethodId} {args : Array Value} {below : List Frame} {meth : Method} {c : Code} {G : mw_GG} (C : vv_C p s m args c G cL_isSo 12 wsL_isSo RL) (hR : vv_R meth (some .boolean)) {M : mw_M} (h : linv M) {Mi : mw_M} (cl : clO Mi M) : vv p l e ({ frames := 4, cells := 0, slots := 0, locals := 92 } : Room) s m args below meth c G 0 0 (mw_E below args s G (qIP (fun r M2 => r = 1 ∧ linv M2))) Mi 359 [some (.ref (G.1 144)), some (.ref (G.1 145)), some (.ref (G.1 146)), some (.ref (G.1 147)), some (.ref (G.1 148)), some (.ref (G.1 149)), some (.int 1), some (.int (nI (cntB (otF M) 8))), none, none, none, none] [] := by
  refine vv_iload C 6 dL_isSo_359 rfl ?_
  refine vv_nif_eq C 1 506 dL_isSo_361 (by decide) (by decide) (fun h_1 => absurd h_1 (by decide)) (fun h_2 => ?_)
  refine vv_aload_n C 0 dL_isSo_364 rfl rfl ?_
  refine vv_iconst (v := 0) C dL_isSo_365 (by decide) ?_
  refine vv_callVIP C [.int 0] (c_X8_count Mi (lsame1 h cl).1.1.1 (lsame1 h cl).1.1.2.1 (lsame1 h cl).1.1.2.2.1 0) sh_144 rfl (cwV 1 C.1.2.2.2.2 gL_isSo_X8_count rfl rfl rfl (by decide +kernel) ⟨Nat.le_of_ble_eq_true rfl, Nat.le_of_ble_eq_true rfl⟩) rfl rfl rfl (Nat.le_of_ble_eq_true rfl) dL_isSo_366 ⟨Nat.le_refl _, Nat.le_refl _⟩ (fun x_3 M_4 h_5 => ?_)
  have cl_10 := cl_rd cl rfl h_5.2
  have hx_0 := h_5.1.trans (cn_0.trans (cl.q (by omega)))
  refine vv_aload_n C 1 dL_isSo_369 rfl rfl ?_
  refine vv_iconst (v := 2) C dL_isSo_370 (by decide) ?_
  refine vv_ald (j := 2) (q := 1102) C sh_145 rfl (by decide) rfl dL_isSo_371 ?_
  refine vv_top (y := M 2) ((lsameR h.1.2.1 cl_10).g2) ?_
  refine vv_icmp_ne C 506 dL_isSo_372 (by decide) (fun h_6 => absurd hx_0 h_6) (fun h_7 => ?_)
  refine vv_aload_n C 0 dL_isSo_375 rfl rfl ?_
  refine vv_iconst (v := 1) C dL_isSo_376 (by decide) ?_
  refine vv_callVIP C [.int 1] (c_X8_count M_4 (lsame1 h cl_10).1.1.1 (lsame1 h cl_10).1.1.2.1 (lsame1 h cl_10).1.1.2.2.1 1) sh_144 rfl (cwV 1 C.1.2.2.2.2 gL_isSo_X8_count rfl rfl rfl (by decide +kernel) ⟨Nat.le_of_ble_eq_true rfl, Nat.le_of_ble_eq_true rfl⟩) rfl rfl rfl (Nat.le_of_ble_eq_true rfl) dL_isSo_377 ⟨Nat.le_refl _, Nat.le_refl _⟩ (fun x_8 M_9 h_10 => ?_)
  have cl_11 := cl_rd cl_10 rfl h_10.2
  have hx_1 := h_10.1.trans (cn_1.trans (cl_10.q (by omega)))
  refine vv_aload_n C 1 dL_isSo_380 rfl rfl ?_
  refine vv_iconst (v := 3) C dL_isSo_381 (by decide) ?_
  refine vv_ald (j := 3) (q := 1103) C sh_145 rfl (by decide) rfl dL_isSo_382 ?_
  refine vv_top (y := M 3) ((lsameR h.1.2.1 cl_11).g3) ?_
  refine vv_icmp_ne C 506 dL_isSo_383 (by decide) (fun h_11 => absurd hx_1 h_11) (fun h_12 => ?_)
  refine vv_aload_n C 0 dL_isSo_386 rfl rfl ?_
  refine vv_iconst (v := 2) C dL_isSo_387 (by decide) ?_
  refine vv_callVIP C [.int 2] (c_X8_count M_9 (lsame1 h cl_11).1.1.1 (lsame1 h cl_11).1.1.2.1 (lsame1 h cl_11).1.1.2.2.1 2) sh_144 rfl (cwV 1 C.1.2.2.2.2 gL_isSo_X8_count rfl rfl rfl (by decide +kernel) ⟨Nat.le_of_ble_eq_true rfl, Nat.le_of_ble_eq_true rfl⟩) rfl rfl rfl (Nat.le_of_ble_eq_true rfl) dL_isSo_388 ⟨Nat.le_refl _, Nat.le_refl _⟩ (fun x_13 M_14 h_15 => ?_)
  have cl_12 := cl_rd cl_11 rfl h_15.2
  have hx_2 := h_15.1.trans (cn_2.trans (cl_11.q (by omega)))
  refine vv_aload_n C 1 dL_isSo_391 rfl rfl ?_
  refine vv_iconst (v := 0) C dL_isSo_392 (by decide) ?_
  refine vv_ald (j := 0) (q := 1100) C sh_145 rfl (by decide) rfl dL_isSo_393 ?_
  refine vv_top (y := M 0) ((lsameR h.1.2.1 cl_12).g0) ?_
  refine vv_icmp_ne C 506 dL_isSo_394 (by decide) (fun h_16 => absurd hx_2 h_16) (fun h_17 => ?_)
  refine vv_aload_n C 0 dL_isSo_397 rfl rfl ?_
  refine vv_iconst (v := 3) C dL_isSo_398 (by decide) ?_
  refine vv_callVIP C [.int 3] (c_X8_count M_14 (lsame1 h cl_12).1.1.1 (lsame1 h cl_12).1.1.2.1 (lsame1 h cl_12).1.1.2.2.1 3) sh_144 rfl (cwV 1 C.1.2.2.2.2 gL_isSo_X8_count rfl rfl rfl (by decide +kernel) ⟨Nat.le_of_ble_eq_true rfl, Nat.le_of_ble_eq_true rfl⟩) rfl rfl rfl (Nat.le_of_ble_eq_true rfl) dL_isSo_399 ⟨Nat.le_refl _, Nat.le_refl _⟩ (fun x_18 M_19 h_20 => ?_)
  have cl_13 := cl_rd cl_12 rfl h_20.2
  have hx_3 := h_20.1.trans (cn_3.trans (cl_12.q (by omega)))
  refine vv_aload_n C 1 dL_isSo_402 rfl rfl ?_
  refine vv_iconst (v := 1) C dL_isSo_403 (by decide) ?_
  refine vv_ald (j := 1) (q := 1101) C sh_145 rfl (by decide) rfl dL_isSo_404 ?_
  refine vv_top (y := M 1) ((lsameR h.1.2.1 cl_13).g1) ?_
  refine vv_icmp_ne C 506 dL_isSo_405 (by decide) (fun h_21 => absurd hx_3 h_21) (fun h_22 => ?_)
  refine vv_aload_n C 0 dL_isSo_408 rfl rfl ?_
  refine vv_iconst (v := 4) C dL_isSo_409 (by decide) ?_
  refine vv_callVIP C [.int 4] (c_X8_count M_19 (lsame1 h cl_13).1.1.1 (lsame1 h cl_13).1.1.2.1 (lsame1 h cl_13).1.1.2.2.1 4) sh_144 rfl (cwV 1 C.1.2.2.2.2 gL_isSo_X8_count rfl rfl rfl (by decide +kernel) ⟨Nat.le_of_ble_eq_true rfl, Nat.le_of_ble_eq_true rfl⟩) rfl rfl rfl (Nat.le_of_ble_eq_true rfl) dL_isSo_410 ⟨Nat.le_refl _, Nat.le_refl _⟩ (fun x_23 M_24 h_25 => ?_)
  have cl_14 := cl_rd cl_13 rfl h_25.2
  have hx_4 := h_25.1.trans (cn_4.trans ((bI_c (by rw [cl_13.q (by omega)])).trans (bI_bit h.1.1.1.2.2.2.2.2.1)))
  refine vv_aload_n C 1 dL_isSo_413 rfl rfl ?_
  refine vv_iconst (v := 4) C dL_isSo_414 (by decide) ?_
  refine vv_ald (j := 4) (q := 1104) C sh_145 rfl (by decide) rfl dL_isSo_415 ?_
  refine vv_top (y := M 124) ((lsameR h.1.2.1 cl_14).g4) ?_
  refine vv_icmp_ne C 506 dL_isSo_416 (by decide) (fun h_26 => absurd hx_4 h_26) (fun h_27 => ?_)
  refine vv_aload_n C 0 dL_isSo_419 rfl rfl ?_
  refine vv_iconst (v := 5) C dL_isSo_420 (by decide) ?_
  refine vv_callVIP C [.int 5] (c_X8_count M_24 (lsame1 h cl_14).1.1.1 (lsame1 h cl_14).1.1.2.1 (lsame1 h cl_14).1.1.2.2.1 5) sh_144 rfl (cwV 1 C.1.2.2.2.2 gL_isSo_X8_count rfl rfl rfl (by decide +kernel) ⟨Nat.le_of_ble_eq_true rfl, Nat.le_of_ble_eq_true rfl⟩) rfl rfl rfl (Nat.le_of_ble_eq_true rfl) dL_isSo_421 ⟨Nat.le_refl _, Nat.le_refl _⟩ (fun x_28 M_29 h_30 => ?_)
  have cl_15 := cl_rd cl_14 rfl h_30.2
  have hx_5 := h_30.1.trans (cn_5.trans (oth_cl cl_14))
  refine vv_iload C 7 dL_isSo_424 rfl ?_
  refine vv_icmp_ne C 506 dL_isSo_426 (by decide) (fun h_31 => absurd hx_5 h_31) (fun h_32 => ?_)
  refine vv_aload_n C 0 dL_isSo_429 rfl rfl ?_
  refine vv_bipush (v := 6) C dL_isSo_430 (by decide) ?_
  refine vv_callVIP C [.int 6] (c_X8_count M_29 (lsame1 h cl_15).1.1.1 (lsame1 h cl_15).1.1.2.1 (lsame1 h cl_15).1.1.2.2.1 6) sh_144 rfl (cwV 1 C.1.2.2.2.2 gL_isSo_X8_count rfl rfl rfl (by decide +kernel) ⟨Nat.le_of_ble_eq_true rfl, Nat.le_of_ble_eq_true rfl⟩) rfl rfl rfl (Nat.le_of_ble_eq_true rfl) dL_isSo_432 ⟨Nat.le_refl _, Nat.le_refl _⟩ (fun x_33 M_34 h_35 => ?_)
  have cl_16 := cl_rd cl_15 rfl h_35.2
  have hx_6 := h_35.1.trans (cn_6.trans (cl_15.q (by omega)))
  refine vv_aload_n C 1 dL_isSo_435 rfl rfl ?_
  refine vv_bipush (v := 9) C dL_isSo_436 (by decide) ?_
  refine vv_ald (j := 9) (q := 1109) C sh_145 rfl (by decide) rfl dL_isSo_438 ?_
  refine vv_top (y := M 129) ((lsameR h.1.2.1 cl_16).g9) ?_
  refine vv_icmp_ne C 506 dL_isSo_439 (by decide) (fun h_36 => absurd hx_6 h_36) (fun h_37 => ?_)
  refine vv_aload_n C 0 dL_isSo_442 rfl rfl ?_
  refine vv_bipush (v := 8) C dL_isSo_443 (by decide) ?_
  refine vv_callVIP C [.int 8] (c_X8_count M_34 (lsame1 h cl_16).1.1.1 (lsame1 h cl_16).1.1.2.1 (lsame1 h cl_16).1.1.2.2.1 8) sh_144 rfl (cwV 1 C.1.2.2.2.2 gL_isSo_X8_count rfl rfl rfl (by decide +kernel) ⟨Nat.le_of_ble_eq_true rfl, Nat.le_of_ble_eq_true rfl⟩) rfl rfl rfl (Nat.le_of_ble_eq_true rfl) dL_isSo_445 ⟨Nat.le_refl _, Nat.le_refl _⟩ (fun x_38 M_39 h_40 => ?_)
  have cl_17 := cl_rd cl_16 rfl h_40.2
  have hx_8 := h_40.1.trans (cn_8.trans ((cl_653 cl_16).trans h.2))
  refine vv_if_ne C 506 dL_isSo_448 (by decide) (fun h_41 => absurd hx_8 h_41) (fun h_42 => ?_)
  refine vv_aload_n C 0 dL_isSo_451 rfl rfl ?_
  refine vv_bipush (v := 10) C dL_isSo_452 (by decide) ?_
  refine vv_callVIP C [.int 10] (c_X8_count M_39 (lsame1 h cl_17).1.1.1 (lsame1 h cl_17).1.1.2.1 (lsame1 h cl_17).1.1.2.2.1 10) sh_144 rfl (cwV 1 C.1.2.2.2.2 gL_isSo_X8_count rfl rfl rfl (by decide +kernel) ⟨Nat.le_of_ble_eq_true rfl, Nat.le_of_ble_eq_true rfl⟩) rfl rfl rfl (Nat.le_of_ble_eq_true rfl) dL_isSo_454 ⟨Nat.le_refl _, Nat.le_refl _⟩ (fun x_43 M_44 h_45 => ?_)
  have cl_18 := cl_rd cl_17 rfl h_45.2
  have hx_10 := h_45.1.trans (cn_10.trans (cl_17.q (by omega)))
  refine vv_aload_n C 1 dL_isSo_457 rfl rfl ?_
  refine vv_iconst (v := 5) C dL_isSo_458 (by decide) ?_
  refine vv_ald (j := 5) (q := 1105) C sh_145 rfl (by decide) rfl dL_isSo_459 ?_
  refine vv_top (y := M 125) ((lsameR h.1.2.1 cl_18).1.2.2.1 0 (by omega)) ?_
  refine vv_icmp_ne C 506 dL_isSo_460 (by decide) (fun h_46 => absurd hx_10 h_46) (fun h_47 => ?_)
  refine vv_aload_n C 0 dL_isSo_463 rfl rfl ?_
  refine vv_bipush (v := 11) C dL_isSo_464 (by decide) ?_
  refine vv_callVIP C [.int 11] (c_X8_count M_44 (lsame1 h cl_18).1.1.1 (lsame1 h cl_18).1.1.2.1 (lsame1 h cl_18).1.1.2.2.1 11) sh_144 rfl (cwV 1 C.1.2.2.2.2 gL_isSo_X8_count rfl rfl rfl (by decide +kernel) ⟨Nat.le_of_ble_eq_true rfl, Nat.le_of_ble_eq_true rfl⟩) rfl rfl rfl (Nat.le_of_ble_eq_true rfl) dL_isSo_466 ⟨Nat.le_refl _, Nat.le_refl _⟩ (fun x_48 M_49 h_50 => ?_)
  have cl_19 := cl_rd cl_18 rfl h_50.2
  have hx_11 := h_50.1.trans (cn_11.trans (cl_18.q (by omega)))
  refine vv_aload_n C 1 dL_isSo_469 rfl rfl ?_
  refine vv_bipush (v := 7) C dL_isSo_470 (by decide) ?_
  refine vv_ald (j := 7) (q := 1107) C sh_145 rfl (by decide) rfl dL_isSo_472 ?_
  refine vv_top (y := M 127) ((lsameR h.1.2.1 cl_19).1.2.2.1 2 (by omega)) ?_
  refine vv_icmp_ne C 506 dL_isSo_473 (by decide) (fun h_51 => absurd hx_11 h_51) (fun h_52 => ?_)
  refine vv_aload_n C 0 dL_isSo_476 rfl rfl ?_
  refine vv_bipush (v := 12) C dL_isSo_477 (by decide) ?_
  refine vv_callVIP C [.int 12] (c_X8_count M_49 (lsame1 h cl_19).1.1.1 (lsame1 h cl_19).1.1.2.1 (lsame1 h cl_19).1.1.2.2.1 12) sh_144 rfl (cwV 1 C.1.2.2.2.2 gL_isSo_X8_count rfl rfl rfl (by decide +kernel) ⟨Nat.le_of_ble_eq_true rfl, Nat.le_of_ble_eq_true rfl⟩) rfl rfl rfl (Nat.le_of_ble_eq_true rfl) dL_isSo_479 ⟨Nat.le_refl _, Nat.le_refl _⟩ (fun x_53 M_54 h_55 => ?_)
  have cl_20 := cl_rd cl_19 rfl h_55.2
  have hx_12 := h_55.1.trans (cn_12.trans ((bI_c (by rw [cl_19.q (by omega)])).trans (bI_bit (h.1.1.1.2.2.2.2.2.2 0 (by omega)).2)))
  refine vv_aload_n C 1 dL_isSo_482 rfl rfl ?_
  refine vv_bipush (v := 6) C dL_isSo_483 (by decide) ?_
  refine vv_ald (j := 6) (q := 1106) C sh_145 rfl (by decide) rfl dL_isSo_485 ?_
  refine vv_top (y := M 126) ((lsameR h.1.2.1 cl_20).1.2.2.1 1 (by omega)) ?_
  refine vv_icmp_ne C 506 dL_isSo_486 (by decide) (fun h_56 => absurd hx_12 h_56) (fun h_57 => ?_)
  refine vv_aload_n C 0 dL_isSo_489 rfl rfl ?_
  refine vv_bipush (v := 13) C dL_isSo_490 (by decide) ?_
  refine vv_callVIP C [.int 13] (c_X8_count M_54 (lsame1 h cl_20).1.1.1 (lsame1 h cl_20).1.1.2.1 (lsame1 h cl_20).1.1.2.2.1 13) sh_144 rfl (cwV 1 C.1.2.2.2.2 gL_isSo_X8_count rfl rfl rfl (by decide +kernel) ⟨Nat.le_of_ble_eq_true rfl, Nat.le_of_ble_eq_true rfl⟩) rfl rfl rfl (Nat.le_of_ble_eq_true rfl) dL_isSo_492 ⟨Nat.le_refl _, Nat.le_refl _⟩ (fun x_58 M_59 h_60 => ?_)
  have cl_21 := cl_rd cl_20 rfl h_60.2
  have hx_13 := h_60.1.trans (cn_13.trans ((bI_c (by rw [cl_20.q (by omega)])).trans (bI_bit (h.1.1.1.2.2.2.2.2.2 1 (by omega)).2)))
  refine vv_aload_n C 1 dL_isSo_495 rfl rfl ?_
  refine vv_bipush (v := 8) C dL_isSo_496 (by decide) ?_
  refine vv_ald (j := 8) (q := 1108) C sh_145 rfl (by decide) rfl dL_isSo_498 ?_
  refine vv_top (y := M 128) ((lsameR h.1.2.1 cl_21).1.2.2.1 3 (by omega)) ?_
  refine vv_icmp_ne C 506 dL_isSo_499 (by decide) (fun h_61 => absurd hx_13 h_61) (fun h_62 => ?_)
  refine vv_iconst (v := 1) C dL_isSo_502 (by decide) ?_
  refine vv_goto C 507 dL_isSo_503 (by decide) ?_
  exact vv_zret1 C hR dL_isSo_507 (qIP_of ⟨rfl, lsame1 h cl_21⟩)
set_option maxRecDepth 100000 in
set_option maxHeartbeats 4000000 in
theorem c_L_isSo {l : Launch} {G : mw_GG} {M : mw_M} (h : linv M) : mw_Met l yL_isSo wsL_isSo ({ frames := 4, cells := 0, slots := 0, locals := 92 } : Room) G [.ref (G.1 144), .ref (G.1 145), .ref (G.1 146), .ref (G.1 147), .ref (G.1 148), .ref (G.1 149)] M (qIP (fun r M2 => r = 1 ∧ linv M2)) := by
  refine mw_ofV (cc := cL_isSo) 12 (by decide) rfl rfl (Nat.le_of_ble_eq_true rfl) ?_
  intro p e s m args below meth c C hR hN0
  refine vv_loc (ls2 := [some (.ref (G.1 144)), some (.ref (G.1 145)), some (.ref (G.1 146)), some (.ref (G.1 147)), some (.ref (G.1 148)), some (.ref (G.1 149)), none, none, none, none, none, none]) rfl ?_
  refine vv_iconst (v := 1) C dL_isSo_0 (by decide) ?_
  refine vv_istore (ls2 := [some (.ref (G.1 144)), some (.ref (G.1 145)), some (.ref (G.1 146)), some (.ref (G.1 147)), some (.ref (G.1 148)), some (.ref (G.1 149)), some (.int 1), none, none, none, none, none]) C 6 dL_isSo_1 (Nat.le_of_ble_eq_true rfl) rfl ?_
  refine vv_iconst (v := 0) C dL_isSo_3 (by decide) ?_
  refine vv_istore (ls2 := [some (.ref (G.1 144)), some (.ref (G.1 145)), some (.ref (G.1 146)), some (.ref (G.1 147)), some (.ref (G.1 148)), some (.ref (G.1 149)), some (.int 1), some (.int 0), none, none, none, none]) C 7 dL_isSo_4 (Nat.le_of_ble_eq_true rfl) rfl ?_
  refine vv_iconst (v := 0) C dL_isSo_6 (by decide) ?_
  refine vv_istore (ls2 := [some (.ref (G.1 144)), some (.ref (G.1 145)), some (.ref (G.1 146)), some (.ref (G.1 147)), some (.ref (G.1 148)), some (.ref (G.1 149)), some (.int 1), some (.int 0), some (.int 0), none, none, none]) C 8 dL_isSo_7 (Nat.le_of_ble_eq_true rfl) rfl ?_
  refine lp_isSo1 C h (fun M1 cl1 => ?_) 97 0 M (by omega) (by omega) clO.rf
  refine vv_iconst (v := 0) C dL_isSo_104 (by decide) ?_
  refine vv_istore (ls2 := [some (.ref (G.1 144)), some (.ref (G.1 145)), some (.ref (G.1 146)), some (.ref (G.1 147)), some (.ref (G.1 148)), some (.ref (G.1 149)), some (.int 1), some (.int 0), some (.int 0), none, none, none]) C 8 dL_isSo_105 (Nat.le_of_ble_eq_true rfl) rfl ?_
  refine vv_loc (ls2 := [some (.ref (G.1 144)), some (.ref (G.1 145)), some (.ref (G.1 146)), some (.ref (G.1 147)), some (.ref (G.1 148)), some (.ref (G.1 149)), some (.int 1), some (.int (nI (cntB (otF M) 0))), some (.int 0), none, none, none]) rfl ?_
  exact lp_isSo4 C h (fun M2 cl2 => lp_isSo5 C hR h cl2) 9 0 M1 (by omega) (by omega) cl1
