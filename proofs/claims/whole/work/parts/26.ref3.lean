theorem bI_bit {x : Int32} (h : x = 0 ∨ x = 1) : bI (x = 1) = x := by
  rcases h with rfl | rfl <;> decide
def s_ld (M : mw_M) (p i : Nat) : mw_M := fun q => if 2000 ≤ q ∧ q < 2000 + i then M (3000 + (130 * p + (q - 2000))) else M q
theorem ld_0' {M : mw_M} {p : Nat} : s_ld M p 0 = M := by
  funext q
  unfold s_ld
  rw [if_neg (by omega)]
theorem ld_o {M : mw_M} {p i q : Nat} (h : ¬ (2000 ≤ q ∧ q < 2000 + i)) : s_ld M p i q = M q := by unfold s_ld; rw [if_neg h]
theorem ld_step {M : mw_M} {p i : Nat} (hi : i < 130) (hp : p < 4) : upd (s_ld M p i) (2000 + i) (s_ld M p i (3000 + (130 * p + i))) = s_ld M p (i + 1) := by
  funext q
  by_cases z : q = 2000 + i
  · rw [z, upd_s, ld_o (by omega)]
    unfold s_ld
    rw [if_pos (by omega)]
    exact congrArg M (by omega)
  · rw [upd_o z]
    unfold s_ld
    by_cases z2 : 2000 ≤ q ∧ q < 2000 + i
    · rw [if_pos z2, if_pos (by omega)]
    · rw [if_neg z2, if_neg (by omega)]
theorem rest_hN {V : mw_M} (hh : hiV V) : hN (s_rest V (hN V)) = hN V - 1 := by
  have := hh.2
  show (s_rest V (hN V) 650).toNatClampNeg = _
  unfold s_rest
  rw [if_pos rfl]
  exact nI_clamp (by omega)
theorem rest_lo {V : mw_M} {h q : Nat} (hq : q < 520) : s_rest V h q = V (q + 130) := by
  unfold s_rest
  rw [if_neg (by omega), if_pos hq]
theorem rest_hi {V : mw_M} {h q : Nat} (hq : 651 ≤ q) : s_rest V h q = V q := by
  unfold s_rest
  rw [if_neg (by omega), if_neg (by omega)]
theorem und_end {M V : mw_M} (h : relO M V) (hh : hiV V) (h1 : 1 ≤ hN V) : relO (s_ld (upd M 1100 (nI (hN V - 1))) (hN V - 1) 130) (s_rest V (hN V)) ∧ rfO M (s_ld (upd M 1100 (nI (hN V - 1))) (hN V - 1) 130) := by
  have h4 := hh.2
  refine ⟨⟨fun k hk => ?_, ⟨?_, fun i hi k hk => ?_⟩, ?_, fun j hj => ?_⟩, fun q hq => ?_⟩
  · rw [rest_lo (by omega)]
    unfold s_ld
    rw [if_pos (by omega), upd_o (by omega)]
    have := h.2.1.2 0 (by omega) k hk
    rw [show 2000 + k - 2000 = k by omega]
    exact this.trans (congrArg V (by omega))
  · rw [ld_o (by omega), upd_s]
    unfold s_rest
    rw [if_pos rfl]
  · rw [rest_hN hh] at hi ⊢
    rw [ld_o (by omega), upd_o (by omega), rest_lo (by omega), show hN V - 1 - 1 - i = hN V - 1 - (i + 1) by omega, h.2.1.2 (i + 1) (by omega) k hk]
    exact congrArg V (by omega)
  · rw [ld_o (by omega), upd_o (by omega), rest_hi (by omega)]
    exact h.2.2.1
  · rw [ld_o (by omega), upd_o (by omega), rest_hi (by omega)]
    exact h.2.2.2 j hj
  · rw [ld_o (by omega), upd_o (by omega)]
theorem m1_lt {a : Int32} (ha : ¬ a < 0) : -1 < a := by
  rw [Int32.lt_iff_toInt_lt] at ha ⊢
  have e0 : (0 : Int32).toInt = 0 := by decide
  have e1 : (-1 : Int32).toInt = -1 := by decide
  omega
theorem m1_le {a : Int32} (ha : ¬ a < 0) : -1 ≤ a := by
  rw [Int32.lt_iff_toInt_lt] at ha
  rw [Int32.le_iff_toInt_le]
  have e0 : (0 : Int32).toInt = 0 := by decide
  have e1 : (-1 : Int32).toInt = -1 := by decide
  omega
theorem m1_ne {a : Int32} (ha : ¬ a < 0) : ¬ -1 = a := fun z => ha (by rw [← z]; decide)
theorem fit_tk {kd : Nat} (hk : kd ≤ 8) {a b v : Int32} (ha : ¬ a < 0) : fitR (nI kd) a b v = tkB (nI kd) a b v := by
  have h : kd = 0 ∨ kd = 1 ∨ kd = 2 ∨ kd = 3 ∨ kd = 4 ∨ kd = 5 ∨ kd = 6 ∨ kd = 7 ∨ kd = 8 := by omega
  have h1 := m1_lt ha
  have h2 := m1_le ha
  have h3 := m1_ne ha
  rcases h with rfl | rfl | rfl | rfl | rfl | rfl | rfl | rfl | rfl
  · rfl
  · rfl
  · show decide (¬ v = -1) = if v = -1 then false else true
    by_cases hv : v = -1
    · rw [if_pos hv, decide_eq_false (fun z => z hv)]
    · rw [if_neg hv, decide_eq_true hv]
  · show decide (v = a) = if v = -1 then false else decide (v = a)
    by_cases hv : v = -1
    · rw [if_pos hv, hv, decide_eq_false h3]
    · rw [if_neg hv]
  · show decide (¬ v = -1 ∧ ¬ v = a) = if v = -1 then false else decide (¬ v = a)
    by_cases hv : v = -1
    · rw [if_pos hv, decide_eq_false (fun z => z.1 hv)]
    · rw [if_neg hv, decide_eq_decide]
      exact ⟨fun z => z.2, fun z => ⟨hv, z⟩⟩
  · show decide (¬ v = -1 ∧ ¬ a ≤ v) = if v = -1 then false else decide (¬ a ≤ v)
    by_cases hv : v = -1
    · rw [if_pos hv, decide_eq_false (fun z => z.1 hv)]
    · rw [if_neg hv, decide_eq_decide]
      exact ⟨fun z => z.2, fun z => ⟨hv, z⟩⟩
  · show decide (¬ v ≤ a) = if v = -1 then false else decide (¬ v ≤ a)
    by_cases hv : v = -1
    · rw [if_pos hv, hv, decide_eq_false (fun z => z h2)]
    · rw [if_neg hv]
  · show decide (inP v a b) = if v = -1 then false else decide (¬ v < a ∧ ¬ b < v)
    by_cases hv : v = -1
    · rw [if_pos hv, hv, decide_eq_false (fun z => z.1 h1)]
    · rw [if_neg hv]
  · show decide (¬ v = -1) = if v = -1 then false else true
    by_cases hv : v = -1
    · rw [if_pos hv, decide_eq_false (fun z => z hv)]
    · rw [if_neg hv, decide_eq_true hv]
theorem tk_hi {kd : Nat} (h : 9 ≤ kd) (h10 : kd ≤ 10) {a b v : Int32} : tkB (nI kd) a b v = false := by
  have h : kd = 9 ∨ kd = 10 := by omega
  rcases h with rfl | rfl
  · show (if v = -1 then false else false) = false
    split <;> rfl
  · show (if v = -1 then false else false) = false
    split <;> rfl
theorem wf_cl {V : mw_M} (hw : wfV V) {d c : Nat} (hd : d < 2) (hc : c < 4) : ∃ k a b, V (100 + 12 * d + 3 * c) = nI k ∧ k ≤ 10 ∧ V (100 + 12 * d + 3 * c + 1) = nI a ∧ a < 100 ∧ (8 ≤ k → a < 4) ∧ V (100 + 12 * d + 3 * c + 2) = nI b ∧ b < 100 := by
  obtain ⟨k, a, b, h1, h2, h3, h4, h5, h6, h7⟩ := hw.2.2.2.1 (4 * d + c) (by omega)
  refine ⟨k, a, b, ?_, h2, ?_, h4, h5, ?_, h7⟩
  · rw [← h1]
    exact congrArg V (by omega)
  · rw [← h3]
    exact congrArg V (by omega)
  · rw [← h6]
    exact congrArg V (by omega)
theorem ent_at {V : mw_M} {d k c : Nat} (hd : d < 2) (hk : ¬ V (2 + d) ≤ nI k) (hc : ¬ V d ≤ nI c) (h1 : k < 12) (h2 : c < 4) : entI V d (nI k) (nI c) = V (4 + 48 * d + (4 * k + c)) := by
  unfold entI
  rw [if_pos ⟨⟨nI_pos (by omega), hk⟩, nI_pos (by omega), hc⟩, nI_clamp (by omega), nI_clamp (by omega)]
theorem iX9_others_X9 : ∀ w ∈ u_ws RX9 TX9 13, w ∈ wsX9_others := fun w hw => (List.mem_cons_of_mem _ (List.mem_append_right _ hw))
set_option maxRecDepth 100000 in
set_option maxHeartbeats 4000000 in
theorem lp_X9_others {p : Program} {l : Launch} {e : Env} {s : State} {m : MethodId} {args : Array Value} {below : List Frame} {meth : Method} {c : Code} {G : mw_GG} {Q : State → Prop} (C : vv_C p s m args c G cX9_others 4 wsX9_others RX9) (M V : mw_M) (hV : vwO M V) {d n : Nat} (hd : d < 2) (hn : V d = nI n) (hn4 : n ≤ 4) (hk : vv p l e ({ frames := 1, cells := 0, slots := 0, locals := 23 } : Room) s m args below meth c G 0 0 Q M 40 [some (.ref (G.1 145)), some (.int (nI d)), some (.int (nI (cntB (fun j => decide (¬ V (100 + 12 * d + 3 * j) = 0)) n))), some (.int (nI n))] []) : ∀ (k i : Nat), n + 1 ≤ i + k → i ≤ n → vv p l e ({ frames := 1, cells := 0, slots := 0, locals := 23 } : Room) s m args below meth c G 0 0 Q M 4 [some (.ref (G.1 145)), some (.int (nI d)), some (.int (nI (cntB (fun j => decide (¬ V (100 + 12 * d + 3 * j) = 0)) i))), some (.int (nI i))] [] := by
  intro k
  induction k with
  | zero => intro i h1 h2; omega
  | succ k ih =>
    intro i h1 h2
    refine vv_iload_n C 3 dX9_others_4 rfl rfl ?_
    refine vv_aload_n C 0 dX9_others_5 rfl rfl ?_
    refine vv_getr C (Cn := RX9) (T := TX9) (N := 13) sh_145 0 rfl rfl (by decide) iX9_others_X9 (List.mem_of_getElem? (i := 1) rfl) rfl dX9_others_6 ?_
    refine vv_iconst (v := 0) C dX9_others_9 (by decide) ?_
    refine vv_iload_n C 1 dX9_others_10 rfl rfl ?_
    refine vv_iadd C dX9_others_11 ?_
    refine vv_ald (j := 0 + d) (q := 2000 + (0 + d)) C sh_146 (ix_0 d) (by omega) (by omega) dX9_others_12 ?_
    refine vv_top (y := nI n) (by rw [Nat.zero_add, hV d (by omega)]; exact hn) ?_
    refine vv_icmp_ge C 40 dX9_others_13 (by decide) (fun hge => ?_) (fun hlt => ?_)
    · have hin : i = n := by
        rcases Nat.lt_or_ge i n with z | z
        · exact absurd hge (nI_ge (b := n) z (by omega))
        · omega
      subst hin
      exact hk
    · have hi4 : i < n := by
        rcases Nat.lt_or_ge i n with z | z
        · exact z
        · exact absurd (nI_le (a := n) z (by omega)) hlt
      refine vv_iload_n C 2 dX9_others_16 rfl rfl ?_
      refine vv_aload_n C 0 dX9_others_17 rfl rfl ?_
      refine vv_iload_n C 1 dX9_others_18 rfl rfl ?_
      refine vv_iload_n C 3 dX9_others_19 rfl rfl ?_
      refine vv_iconst (v := 0) C dX9_others_20 (by decide) ?_
      refine vv_callVI C [.int (nI d), .int (nI i), .int 0] (c_X9_cellAt M V hV (d := d) (cc := i) (w := 0) ⟨hd, by omega, by decide⟩ (x := (nI d)) (y := (nI i)) (z := 0) rfl rfl (by decide)) sh_145 rfl (cwV 3 C.1.2.2.2.2 gX9_others_X9_cellAt rfl rfl rfl (by decide +kernel) ⟨Nat.le_of_ble_eq_true rfl, Nat.le_of_ble_eq_true rfl⟩) rfl rfl rfl (Nat.le_of_ble_eq_true rfl) dX9_others_21 ⟨Nat.le_refl _, Nat.le_refl _⟩ ?_
      refine vv_if_eq C 31 dX9_others_24 (by decide) (fun he => ?_) (fun hne => ?_)
      · refine vv_iconst (v := 0) C dX9_others_31 (by decide) ?_
        refine vv_iadd C dX9_others_32 ?_
        refine vv_top (y := nI (cntB (fun j => decide (¬ V (100 + 12 * d + 3 * j) = 0)) i)) (Int32.add_zero _) ?_
        refine vv_istore_n (ls2 := [some (.ref (G.1 145)), some (.int (nI d)), some (.int (nI (cntB (fun j => decide (¬ V (100 + 12 * d + 3 * j) = 0)) i))), some (.int (nI i))]) C 2 dX9_others_33 rfl (Nat.le_of_ble_eq_true rfl) rfl ?_
        refine vv_iinc (v := nI (i + 1)) (ls2 := [some (.ref (G.1 145)), some (.int (nI d)), some (.int (nI (cntB (fun j => decide (¬ V (100 + 12 * d + 3 * j) = 0)) i))), some (.int (nI (i + 1)))]) C 3 dX9_others_34 rfl (nI_1 _) rfl ?_
        refine vv_goto C 4 dX9_others_37 (by decide) ?_
        have e := ih (i + 1) (by omega) (by omega)
        rw [cntB_f (show (fun j => decide (¬ V (100 + 12 * d + 3 * j) = 0)) i = false from decide_eq_false (fun z => z he))] at e
        exact e
      · refine vv_iconst (v := 1) C dX9_others_27 (by decide) ?_
        refine vv_goto C 32 dX9_others_28 (by decide) ?_
        refine vv_iadd C dX9_others_32 ?_
        refine vv_top (y := nI (cntB (fun j => decide (¬ V (100 + 12 * d + 3 * j) = 0)) i + 1)) (nI_1 _) ?_
        refine vv_istore_n (ls2 := [some (.ref (G.1 145)), some (.int (nI d)), some (.int (nI (cntB (fun j => decide (¬ V (100 + 12 * d + 3 * j) = 0)) i + 1))), some (.int (nI i))]) C 2 dX9_others_33 rfl (Nat.le_of_ble_eq_true rfl) rfl ?_
        refine vv_iinc (v := nI (i + 1)) (ls2 := [some (.ref (G.1 145)), some (.int (nI d)), some (.int (nI (cntB (fun j => decide (¬ V (100 + 12 * d + 3 * j) = 0)) i + 1))), some (.int (nI (i + 1)))]) C 3 dX9_others_34 rfl (nI_1 _) rfl ?_
        refine vv_goto C 4 dX9_others_37 (by decide) ?_
        have e := ih (i + 1) (by omega) (by omega)
        rw [cntB_t (show (fun j => decide (¬ V (100 + 12 * d + 3 * j) = 0)) i = true from decide_eq_true hne)] at e
        exact e
theorem szd {V : mw_M} (hw : wfV V) {d : Nat} (hd : d < 2) : szP V d := by
  rcases Nat.lt_or_ge d 1 with z | z
  · rw [show d = 0 by omega]
    exact hw.1
  · rw [show d = 1 by omega]
    exact hw.2.1
theorem oth_cut {V : mw_M} {d n : Nat} (hn : V d = nI n) (hn4 : n ≤ 4) (hz : ∀ c, c < 4 → V d ≤ nI c → V (100 + 12 * d + 3 * c) = 0) : nI (cntB (fun j => decide (¬ V (100 + 12 * d + 3 * j) = 0)) n) = nI (othN V d) :=
  congrArg nI (cnt_cut 4 hn4 (fun i h1 h2 => decide_eq_false (fun z => z (hz i h2 (by rw [hn]; exact nI_le h1 (by omega)))))).symm
set_option maxRecDepth 100000 in
set_option maxHeartbeats 4000000 in
theorem c_X9_others {l : Launch} {G : mw_GG} (M V : mw_M) (hV : vwO M V) {d : Nat} (hd : d < 2) (hs : szP V d) (hz : ∀ c, c < 4 → V d ≤ nI c → V (100 + 12 * d + 3 * c) = 0) {x : Int32} (hx : x = nI d) : mw_Met l yX9_others wsX9_others ({ frames := 1, cells := 0, slots := 0, locals := 23 } : Room) G [.ref (G.1 145), .int x] M (qI (nI (othN V d)) M) := by
  refine mw_ofV (cc := cX9_others) 4 (by decide) rfl rfl (Nat.le_of_ble_eq_true rfl) ?_
  intro p e s m args below meth c C hR hN0
  subst hx
  obtain ⟨n, n2, hn, hn4, -⟩ := hs
  refine vv_loc (ls2 := [some (.ref (G.1 145)), some (.int (nI d)), none, none]) rfl ?_
  refine vv_iconst (v := 0) C dX9_others_0 (by decide) ?_
  refine vv_istore_n (ls2 := [some (.ref (G.1 145)), some (.int (nI d)), some (.int 0), none]) C 2 dX9_others_1 rfl (Nat.le_of_ble_eq_true rfl) rfl ?_
  refine vv_iconst (v := 0) C dX9_others_2 (by decide) ?_
  refine vv_istore_n (ls2 := [some (.ref (G.1 145)), some (.int (nI d)), some (.int 0), some (.int 0)]) C 3 dX9_others_3 rfl (Nat.le_of_ble_eq_true rfl) rfl ?_
  refine vv_loc (ls2 := [some (.ref (G.1 145)), some (.int (nI d)), some (.int (nI (cntB (fun j => decide (¬ V (100 + 12 * d + 3 * j) = 0)) 0))), some (.int (nI 0))]) rfl ?_
  refine lp_X9_others C M V hV hd hn hn4 ?_ (n + 1) 0 (by omega) (by omega)
  refine vv_iload_n C 2 dX9_others_40 rfl rfl ?_
  exact vv_iret C hR dX9_others_41 (qI_of (oth_cut hn hn4 hz) rfl)
set_option maxRecDepth 100000 in
set_option maxHeartbeats 4000000 in
theorem c_X9_clear {l : Launch} {G : mw_GG} (M V : mw_M) (hV : relO M V) (hw : wfV V) (hh : hiV V) (ht : txV V) (x : Int32) : mw_Met l yX9_clear wsX9_clear ({ frames := 2, cells := 0, slots := 0, locals := 46 } : Room) G [.ref (G.1 145), .int x] M (qIP (fun r M2 => r = (op_clear V x).1 ∧ relO M2 (op_clear V x).2 ∧ rfO M M2)) := by
  refine mw_ofV (cc := cX9_clear) 4 (by decide) rfl rfl (Nat.le_of_ble_eq_true rfl) ?_
  intro p e s m args below meth c C hR hN0
  refine vv_loc (ls2 := [some (.ref (G.1 145)), some (.int x), none, none]) rfl ?_
  have hR0 := hw.wfR
  have hdx := dN_lt x
  refine vv_iload_n C 1 dX9_clear_0 rfl rfl ?_
  refine vv_callSI C [.int x] (c_X9_isDrawer M x) (cwS 1 C.1.2.2.2.2 gX9_clear_X9_isDrawer rfl rfl rfl (by decide +kernel) ⟨Nat.le_of_ble_eq_true rfl, Nat.le_of_ble_eq_true rfl⟩) rfl rfl rfl (Nat.le_of_ble_eq_true rfl) dX9_clear_1 ⟨Nat.le_refl _, Nat.le_refl _⟩ ?_
  refine vv_bif_ne C 10 dX9_clear_4 (by decide) (fun h_d => ?_) (fun h_nd => ?_)
  · refine vv_aload_n C 0 dX9_clear_10 rfl rfl ?_
    refine vv_callVVP C [] (c_X9_changes M V hV hh) sh_145 rfl (cwV 0 C.1.2.2.2.2 gX9_clear_X9_changes rfl rfl rfl (by decide +kernel) ⟨Nat.le_of_ble_eq_true rfl, Nat.le_of_ble_eq_true rfl⟩) rfl rfl rfl (Nat.le_of_ble_eq_true rfl) dX9_clear_11 ⟨Nat.le_refl _, Nat.le_refl _⟩ (fun M_3 h_4 => ?_)
    have hC := h_4
    refine vv_aload_n C 0 dX9_clear_14 rfl rfl ?_
    refine vv_iload_n C 1 dX9_clear_15 rfl rfl ?_
    refine vv_callVI C [.int x] (c_X9_others M_3 (kpS V) hC.1.1 (d := (dN x)) (dN_lt x) (kpS_eq.sz hdx (szD hw x)) (fun c hc hle => by rw [kpS_lo (by omega)] at hle ⊢; exact hw.2.2.2.2.1 _ hdx c hc hle) (x := x) (dN_nI h_d)) sh_145 rfl (cwV 1 C.1.2.2.2.2 gX9_clear_X9_others rfl rfl rfl (by decide +kernel) ⟨Nat.le_of_ble_eq_true rfl, Nat.le_of_ble_eq_true rfl⟩) rfl rfl rfl (Nat.le_of_ble_eq_true rfl) dX9_clear_16 ⟨Nat.le_refl _, Nat.le_refl _⟩ ?_
    refine vv_istore_n (ls2 := [some (.ref (G.1 145)), some (.int x), some (.int (nI (othN (kpS V) (dN x)))), none]) C 2 dX9_clear_19 rfl (Nat.le_of_ble_eq_true rfl) rfl ?_
    refine vv_iconst (v := 0) C dX9_clear_20 (by decide) ?_
    refine vv_istore_n (ls2 := [some (.ref (G.1 145)), some (.int x), some (.int (nI (othN (kpS V) (dN x)))), some (.int 0)]) C 3 dX9_clear_21 rfl (Nat.le_of_ble_eq_true rfl) rfl ?_
    refine vv_iload_n C 3 dX9_clear_22 rfl rfl ?_
    refine vv_iconst (v := 4) C dX9_clear_23 (by decide) ?_
    refine vv_icmp_ge C 42 dX9_clear_24 (by decide) (fun h_5 => absurd h_5 (by decide)) (fun h_6 => ?_)
    refine vv_aload_n C 0 dX9_clear_27 rfl rfl ?_
    refine vv_iload_n C 1 dX9_clear_28 rfl rfl ?_
    refine vv_iload_n C 3 dX9_clear_29 rfl rfl ?_
    refine vv_iconst (v := 0) C dX9_clear_30 (by decide) ?_
    refine vv_iconst (v := 0) C dX9_clear_31 (by decide) ?_
    refine vv_iconst (v := 0) C dX9_clear_32 (by decide) ?_
    refine vv_callVV C [.int x, .int 0, .int 0, .int 0, .int 0] (c_X9_setsCell M_3 (d := (dN x)) (cc := 0) ⟨dN_lt x, by decide⟩ (x := x) (y := 0) (dN_nI h_d) (by decide) 0 0 0) sh_145 rfl (cwV 5 C.1.2.2.2.2 gX9_clear_X9_setsCell rfl rfl rfl (by decide +kernel) ⟨Nat.le_of_ble_eq_true rfl, Nat.le_of_ble_eq_true rfl⟩) rfl rfl rfl (Nat.le_of_ble_eq_true rfl) dX9_clear_33 ⟨Nat.le_refl _, Nat.le_refl _⟩ ?_
    refine vv_iinc (v := 1) (ls2 := [some (.ref (G.1 145)), some (.int x), some (.int (nI (othN (kpS V) (dN x)))), some (.int 1)]) C 3 dX9_clear_36 rfl (by decide) rfl ?_
    refine vv_goto C 22 dX9_clear_39 (by decide) ?_
    refine vv_iload_n C 3 dX9_clear_22 rfl rfl ?_
    refine vv_iconst (v := 4) C dX9_clear_23 (by decide) ?_
    refine vv_icmp_ge C 42 dX9_clear_24 (by decide) (fun h_7 => absurd h_7 (by decide)) (fun h_8 => ?_)
    refine vv_aload_n C 0 dX9_clear_27 rfl rfl ?_
    refine vv_iload_n C 1 dX9_clear_28 rfl rfl ?_
    refine vv_iload_n C 3 dX9_clear_29 rfl rfl ?_
    refine vv_iconst (v := 0) C dX9_clear_30 (by decide) ?_
    refine vv_iconst (v := 0) C dX9_clear_31 (by decide) ?_
    refine vv_iconst (v := 0) C dX9_clear_32 (by decide) ?_
    refine vv_callVV C [.int x, .int 1, .int 0, .int 0, .int 0] (c_X9_setsCell (s_cl M_3 2000 (dN x) 0 0 0 0) (d := (dN x)) (cc := 1) ⟨dN_lt x, by decide⟩ (x := x) (y := 1) (dN_nI h_d) (by decide) 0 0 0) sh_145 rfl (cwV 5 C.1.2.2.2.2 gX9_clear_X9_setsCell rfl rfl rfl (by decide +kernel) ⟨Nat.le_of_ble_eq_true rfl, Nat.le_of_ble_eq_true rfl⟩) rfl rfl rfl (Nat.le_of_ble_eq_true rfl) dX9_clear_33 ⟨Nat.le_refl _, Nat.le_refl _⟩ ?_
    refine vv_iinc (v := 2) (ls2 := [some (.ref (G.1 145)), some (.int x), some (.int (nI (othN (kpS V) (dN x)))), some (.int 2)]) C 3 dX9_clear_36 rfl (by decide) rfl ?_
    refine vv_goto C 22 dX9_clear_39 (by decide) ?_
    refine vv_iload_n C 3 dX9_clear_22 rfl rfl ?_
    refine vv_iconst (v := 4) C dX9_clear_23 (by decide) ?_
    refine vv_icmp_ge C 42 dX9_clear_24 (by decide) (fun h_9 => absurd h_9 (by decide)) (fun h_10 => ?_)
    refine vv_aload_n C 0 dX9_clear_27 rfl rfl ?_
    refine vv_iload_n C 1 dX9_clear_28 rfl rfl ?_
    refine vv_iload_n C 3 dX9_clear_29 rfl rfl ?_
    refine vv_iconst (v := 0) C dX9_clear_30 (by decide) ?_
    refine vv_iconst (v := 0) C dX9_clear_31 (by decide) ?_
    refine vv_iconst (v := 0) C dX9_clear_32 (by decide) ?_
    refine vv_callVV C [.int x, .int 2, .int 0, .int 0, .int 0] (c_X9_setsCell (s_cl (s_cl M_3 2000 (dN x) 0 0 0 0) 2000 (dN x) 1 0 0 0) (d := (dN x)) (cc := 2) ⟨dN_lt x, by decide⟩ (x := x) (y := 2) (dN_nI h_d) (by decide) 0 0 0) sh_145 rfl (cwV 5 C.1.2.2.2.2 gX9_clear_X9_setsCell rfl rfl rfl (by decide +kernel) ⟨Nat.le_of_ble_eq_true rfl, Nat.le_of_ble_eq_true rfl⟩) rfl rfl rfl (Nat.le_of_ble_eq_true rfl) dX9_clear_33 ⟨Nat.le_refl _, Nat.le_refl _⟩ ?_
    refine vv_iinc (v := 3) (ls2 := [some (.ref (G.1 145)), some (.int x), some (.int (nI (othN (kpS V) (dN x)))), some (.int 3)]) C 3 dX9_clear_36 rfl (by decide) rfl ?_
    refine vv_goto C 22 dX9_clear_39 (by decide) ?_
    refine vv_iload_n C 3 dX9_clear_22 rfl rfl ?_
    refine vv_iconst (v := 4) C dX9_clear_23 (by decide) ?_
    refine vv_icmp_ge C 42 dX9_clear_24 (by decide) (fun h_11 => absurd h_11 (by decide)) (fun h_12 => ?_)
    refine vv_aload_n C 0 dX9_clear_27 rfl rfl ?_
    refine vv_iload_n C 1 dX9_clear_28 rfl rfl ?_
    refine vv_iload_n C 3 dX9_clear_29 rfl rfl ?_
    refine vv_iconst (v := 0) C dX9_clear_30 (by decide) ?_
    refine vv_iconst (v := 0) C dX9_clear_31 (by decide) ?_
    refine vv_iconst (v := 0) C dX9_clear_32 (by decide) ?_
    refine vv_callVV C [.int x, .int 3, .int 0, .int 0, .int 0] (c_X9_setsCell (s_cl (s_cl (s_cl M_3 2000 (dN x) 0 0 0 0) 2000 (dN x) 1 0 0 0) 2000 (dN x) 2 0 0 0) (d := (dN x)) (cc := 3) ⟨dN_lt x, by decide⟩ (x := x) (y := 3) (dN_nI h_d) (by decide) 0 0 0) sh_145 rfl (cwV 5 C.1.2.2.2.2 gX9_clear_X9_setsCell rfl rfl rfl (by decide +kernel) ⟨Nat.le_of_ble_eq_true rfl, Nat.le_of_ble_eq_true rfl⟩) rfl rfl rfl (Nat.le_of_ble_eq_true rfl) dX9_clear_33 ⟨Nat.le_refl _, Nat.le_refl _⟩ ?_
    refine vv_iinc (v := 4) (ls2 := [some (.ref (G.1 145)), some (.int x), some (.int (nI (othN (kpS V) (dN x)))), some (.int 4)]) C 3 dX9_clear_36 rfl (by decide) rfl ?_
    refine vv_goto C 22 dX9_clear_39 (by decide) ?_
    refine vv_iload_n C 3 dX9_clear_22 rfl rfl ?_
    refine vv_iconst (v := 4) C dX9_clear_23 (by decide) ?_
    refine vv_icmp_ge C 42 dX9_clear_24 (by decide) (fun h_14 => ?_) (fun h_13 => absurd h_13 (by decide))
    refine vv_iload_n C 2 dX9_clear_42 rfl rfl ?_
    exact vv_iret C hR dX9_clear_43 (qIP_of (by rw [show op_clear V x = (nI (othN V (dN x)), s_zero (kpS V) (100 + 12 * dN x)) from if_pos h_d]; exact ⟨(congrArg nI (cntB_c (fun i hi => by rw [kpS_lo (by omega)]))), ((((hC.1.cl (c := 0) hdx (by decide)).cl (c := 1) hdx (by decide)).cl (c := 2) hdx (by decide)).cl (c := 3) hdx (by decide)).to cl_zero, hC.2.cl.cl.cl.cl⟩))
  · refine vv_bipush (v := (-11)) C dX9_clear_7 (by decide) ?_
    exact vv_iret C hR dX9_clear_9 (qIP_of (by rw [show op_clear V x = (-11, V) from if_neg h_nd]; exact ⟨rfl, hV, rfO.rf⟩))
theorem iX9_count_X9 : ∀ w ∈ u_ws RX9 TX9 13, w ∈ wsX9_count := fun w hw => (List.mem_cons_of_mem _ (List.mem_append_right _ hw))
set_option maxRecDepth 100000 in
set_option maxHeartbeats 4000000 in
theorem c_X9_count {l : Launch} {G : mw_GG} (M V : mw_M) (hV : relO M V) (hw : wfV V) (hh : hiV V) (ht : txV V) (w : Int32) : mw_Met l yX9_count wsX9_count ({ frames := 2, cells := 0, slots := 0, locals := 46 } : Room) G [.ref (G.1 145), .int w] M (qIP (fun r M2 => r = (op_count V w).1 ∧ relO M2 (op_count V w).2 ∧ rfO M M2)) := by
  refine mw_ofV (cc := cX9_count) 2 (by decide) rfl rfl (Nat.le_of_ble_eq_true rfl) ?_
  intro p e s m args below meth c C hR hN0
  refine vv_loc (ls2 := [some (.ref (G.1 145)), some (.int w)]) rfl ?_
  have hR0 := hw.wfR
  refine vv_iload_n C 1 dX9_count_0 rfl rfl ?_
  rcases Classical.em (w = 0) with h_1 | h_2
  · refine vv_tsIn C 0 72 dX9_count_1 h_1 (by decide) (by decide) rfl (by decide) ?_
    refine vv_aload_n C 0 dX9_count_72 rfl rfl ?_
    refine vv_getr C (Cn := RX9) (T := TX9) (N := 13) sh_145 0 rfl rfl (by decide) iX9_count_X9 (List.mem_of_getElem? (i := 1) rfl) rfl dX9_count_73 ?_
    refine vv_iconst (v := 2) C dX9_count_76 (by decide) ?_
    refine vv_iload_n C 1 dX9_count_77 rfl rfl ?_
    refine vv_iadd C dX9_count_78 ?_
    refine vv_ald (j := 2) (q := 2002) C sh_146 (by rw [h_1]; decide) (by decide) rfl dX9_count_79 ?_
    refine vv_top (y := V 2) (hV.1 2 (by decide)) ?_
    exact vv_iret C hR dX9_count_80 (qIP_of ⟨by simp [op_count, cntI, h_1], hV, rfO.rf⟩)
  rcases Classical.em (w = 1) with h_3 | h_4
  · refine vv_tsIn C 1 72 dX9_count_1 h_3 (by decide) (by decide) rfl (by decide) ?_
    refine vv_aload_n C 0 dX9_count_72 rfl rfl ?_
    refine vv_getr C (Cn := RX9) (T := TX9) (N := 13) sh_145 0 rfl rfl (by decide) iX9_count_X9 (List.mem_of_getElem? (i := 1) rfl) rfl dX9_count_73 ?_
    refine vv_iconst (v := 2) C dX9_count_76 (by decide) ?_
    refine vv_iload_n C 1 dX9_count_77 rfl rfl ?_
    refine vv_iadd C dX9_count_78 ?_
    refine vv_ald (j := 3) (q := 2003) C sh_146 (by rw [h_3]; decide) (by decide) rfl dX9_count_79 ?_
    refine vv_top (y := V 3) (hV.1 3 (by decide)) ?_
    exact vv_iret C hR dX9_count_80 (qIP_of ⟨by simp [op_count, cntI, h_2, h_3], hV, rfO.rf⟩)
  rcases Classical.em (w = 2) with h_5 | h_6
  · refine vv_tsIn C 2 81 dX9_count_1 h_5 (by decide) (by decide) rfl (by decide) ?_
    refine vv_aload_n C 0 dX9_count_81 rfl rfl ?_
    refine vv_getr C (Cn := RX9) (T := TX9) (N := 13) sh_145 0 rfl rfl (by decide) iX9_count_X9 (List.mem_of_getElem? (i := 1) rfl) rfl dX9_count_82 ?_
    refine vv_iconst (v := 0) C dX9_count_85 (by decide) ?_
    refine vv_iload_n C 1 dX9_count_86 rfl rfl ?_
    refine vv_iadd C dX9_count_87 ?_
    refine vv_iconst (v := 2) C dX9_count_88 (by decide) ?_
    refine vv_isub C dX9_count_89 ?_
    refine vv_ald (j := 0) (q := 2000) C sh_146 (by rw [h_5]; decide) (by decide) rfl dX9_count_90 ?_
    refine vv_top (y := V 0) (hV.1 0 (by decide)) ?_
    exact vv_iret C hR dX9_count_91 (qIP_of ⟨by simp [op_count, cntI, h_2, h_4, h_5], hV, rfO.rf⟩)
  rcases Classical.em (w = 3) with h_7 | h_8
  · refine vv_tsIn C 3 81 dX9_count_1 h_7 (by decide) (by decide) rfl (by decide) ?_
    refine vv_aload_n C 0 dX9_count_81 rfl rfl ?_
    refine vv_getr C (Cn := RX9) (T := TX9) (N := 13) sh_145 0 rfl rfl (by decide) iX9_count_X9 (List.mem_of_getElem? (i := 1) rfl) rfl dX9_count_82 ?_
    refine vv_iconst (v := 0) C dX9_count_85 (by decide) ?_
    refine vv_iload_n C 1 dX9_count_86 rfl rfl ?_
    refine vv_iadd C dX9_count_87 ?_
    refine vv_iconst (v := 2) C dX9_count_88 (by decide) ?_
    refine vv_isub C dX9_count_89 ?_
    refine vv_ald (j := 1) (q := 2001) C sh_146 (by rw [h_7]; decide) (by decide) rfl dX9_count_90 ?_
    refine vv_top (y := V 1) (hV.1 1 (by decide)) ?_
    exact vv_iret C hR dX9_count_91 (qIP_of ⟨by simp [op_count, cntI, h_2, h_4, h_6, h_7], hV, rfO.rf⟩)
  rcases Classical.em (w = 4) with h_9 | h_10
  · refine vv_tsIn C 4 92 dX9_count_1 h_9 (by decide) (by decide) rfl (by decide) ?_
    refine vv_aload_n C 0 dX9_count_92 rfl rfl ?_
    refine vv_getr C (Cn := RX9) (T := TX9) (N := 13) sh_145 0 rfl rfl (by decide) iX9_count_X9 (List.mem_of_getElem? (i := 1) rfl) rfl dX9_count_93 ?_
    refine vv_bipush (v := 124) C dX9_count_96 (by decide) ?_
    refine vv_ald (j := 124) (q := 2124) C sh_146 (by decide) (by decide) rfl dX9_count_98 ?_
    refine vv_top (y := V 124) (hV.1 124 (by decide)) ?_
    exact vv_iret C hR dX9_count_99 (qIP_of ⟨(bI_bit (hw.2.2.2.2.2.1)).symm.trans (by simp [op_count, cntI, h_2, h_4, h_6, h_8, h_9]), hV, rfO.rf⟩)
  rcases Classical.em (w = 5) with h_11 | h_12
  · refine vv_tsIn C 5 100 dX9_count_1 h_11 (by decide) (by decide) rfl (by decide) ?_
    refine vv_aload_n C 0 dX9_count_100 rfl rfl ?_
    refine vv_iconst (v := 0) C dX9_count_101 (by decide) ?_
    refine vv_callVI C [.int 0] (c_X9_others M V hV.1 (d := 0) (by decide) hw.1 (hw.2.2.2.2.1 0 (by decide)) (x := 0) rfl) sh_145 rfl (cwV 1 C.1.2.2.2.2 gX9_count_X9_others rfl rfl rfl (by decide +kernel) ⟨Nat.le_of_ble_eq_true rfl, Nat.le_of_ble_eq_true rfl⟩) rfl rfl rfl (Nat.le_of_ble_eq_true rfl) dX9_count_102 ⟨Nat.le_refl _, Nat.le_refl _⟩ ?_
    refine vv_aload_n C 0 dX9_count_105 rfl rfl ?_
    refine vv_iconst (v := 1) C dX9_count_106 (by decide) ?_
    refine vv_callVI C [.int 1] (c_X9_others M V hV.1 (d := 1) (by decide) hw.2.1 (hw.2.2.2.2.1 1 (by decide)) (x := 1) rfl) sh_145 rfl (cwV 1 C.1.2.2.2.2 gX9_count_X9_others rfl rfl rfl (by decide +kernel) ⟨Nat.le_of_ble_eq_true rfl, Nat.le_of_ble_eq_true rfl⟩) rfl rfl rfl (Nat.le_of_ble_eq_true rfl) dX9_count_107 ⟨Nat.le_refl _, Nat.le_refl _⟩ ?_
    refine vv_iadd C dX9_count_110 ?_
    exact vv_iret C hR dX9_count_111 (qIP_of ⟨by simp [op_count, cntI, h_2, h_4, h_6, h_8, h_10, h_11], hV, rfO.rf⟩)
  rcases Classical.em (w = 6) with h_13 | h_14
  · refine vv_tsIn C 6 112 dX9_count_1 h_13 (by decide) (by decide) rfl (by decide) ?_
    refine vv_aload_n C 0 dX9_count_112 rfl rfl ?_
    refine vv_getr C (Cn := RX9) (T := TX9) (N := 13) sh_145 0 rfl rfl (by decide) iX9_count_X9 (List.mem_of_getElem? (i := 1) rfl) rfl dX9_count_113 ?_
    refine vv_sipush (v := 129) C dX9_count_116 (by decide) ?_
    refine vv_ald (j := 129) (q := 2129) C sh_146 (by decide) (by decide) rfl dX9_count_119 ?_
    refine vv_top (y := V 129) (hV.1 129 (by decide)) ?_
    exact vv_iret C hR dX9_count_120 (qIP_of ⟨by simp [op_count, cntI, h_2, h_4, h_6, h_8, h_10, h_12, h_13], hV, rfO.rf⟩)
  rcases Classical.em (w = 7) with h_15 | h_16
  · refine vv_tsIn C 7 121 dX9_count_1 h_15 (by decide) (by decide) rfl (by decide) ?_
    refine vv_aload_n C 0 dX9_count_121 rfl rfl ?_
    refine vv_geti C (Cn := RX9) (T := TX9) (N := 13) sh_145 2 rfl rfl (by decide) iX9_count_X9 (List.mem_of_getElem? (i := 2) rfl) rfl dX9_count_122 ?_
    refine vv_top (y := V 650) hV.2.1.1 ?_
    exact vv_iret C hR dX9_count_125 (qIP_of ⟨by simp [op_count, cntI, h_2, h_4, h_6, h_8, h_10, h_12, h_14, h_15], hV, rfO.rf⟩)
  rcases Classical.em (w = 8) with h_17 | h_18
  · refine vv_tsIn C 8 126 dX9_count_1 h_17 (by decide) (by decide) rfl (by decide) ?_
    refine vv_aload_n C 0 dX9_count_126 rfl rfl ?_
    refine vv_geti C (Cn := RX9) (T := TX9) (N := 13) sh_145 4 rfl rfl (by decide) iX9_count_X9 (List.mem_of_getElem? (i := 3) rfl) rfl dX9_count_127 ?_
    refine vv_top (y := V 653) hV.2.2.1 ?_
    exact vv_iret C hR dX9_count_130 (qIP_of ⟨by simp [op_count, cntI, h_2, h_4, h_6, h_8, h_10, h_12, h_14, h_16, h_17], hV, rfO.rf⟩)
  rcases Classical.em (w = 10) with h_19 | h_20
  · refine vv_tsIn C 10 131 dX9_count_1 h_19 (by decide) (by decide) rfl (by decide) ?_
    refine vv_aload_n C 0 dX9_count_131 rfl rfl ?_
    refine vv_getr C (Cn := RX9) (T := TX9) (N := 13) sh_145 0 rfl rfl (by decide) iX9_count_X9 (List.mem_of_getElem? (i := 1) rfl) rfl dX9_count_132 ?_
    refine vv_bipush (v := 125) C dX9_count_135 (by decide) ?_
    refine vv_iconst (v := 2) C dX9_count_137 (by decide) ?_
    refine vv_iload_n C 1 dX9_count_138 rfl rfl ?_
    refine vv_bipush (v := 10) C dX9_count_139 (by decide) ?_
    refine vv_isub C dX9_count_141 ?_
    refine vv_imul C dX9_count_142 ?_
    refine vv_iadd C dX9_count_143 ?_
    refine vv_ald (j := 125) (q := 2125) C sh_146 (by rw [h_19]; decide) (by decide) rfl dX9_count_144 ?_
    refine vv_top (y := V 125) (hV.1 125 (by decide)) ?_
    exact vv_iret C hR dX9_count_145 (qIP_of ⟨by simp [op_count, cntI, h_2, h_4, h_6, h_8, h_10, h_12, h_14, h_16, h_18, h_19], hV, rfO.rf⟩)
  rcases Classical.em (w = 11) with h_21 | h_22
  · refine vv_tsIn C 11 131 dX9_count_1 h_21 (by decide) (by decide) rfl (by decide) ?_
    refine vv_aload_n C 0 dX9_count_131 rfl rfl ?_
    refine vv_getr C (Cn := RX9) (T := TX9) (N := 13) sh_145 0 rfl rfl (by decide) iX9_count_X9 (List.mem_of_getElem? (i := 1) rfl) rfl dX9_count_132 ?_
    refine vv_bipush (v := 125) C dX9_count_135 (by decide) ?_
    refine vv_iconst (v := 2) C dX9_count_137 (by decide) ?_
    refine vv_iload_n C 1 dX9_count_138 rfl rfl ?_
    refine vv_bipush (v := 10) C dX9_count_139 (by decide) ?_
    refine vv_isub C dX9_count_141 ?_
    refine vv_imul C dX9_count_142 ?_
    refine vv_iadd C dX9_count_143 ?_
    refine vv_ald (j := 127) (q := 2127) C sh_146 (by rw [h_21]; decide) (by decide) rfl dX9_count_144 ?_
    refine vv_top (y := V 127) (hV.1 127 (by decide)) ?_
    exact vv_iret C hR dX9_count_145 (qIP_of ⟨by simp [op_count, cntI, h_2, h_4, h_6, h_8, h_10, h_12, h_14, h_16, h_18, h_20, h_21], hV, rfO.rf⟩)
  rcases Classical.em (w = 12) with h_23 | h_24
  · refine vv_tsIn C 12 146 dX9_count_1 h_23 (by decide) (by decide) rfl (by decide) ?_
    refine vv_aload_n C 0 dX9_count_146 rfl rfl ?_
    refine vv_getr C (Cn := RX9) (T := TX9) (N := 13) sh_145 0 rfl rfl (by decide) iX9_count_X9 (List.mem_of_getElem? (i := 1) rfl) rfl dX9_count_147 ?_
    refine vv_bipush (v := 126) C dX9_count_150 (by decide) ?_
    refine vv_iconst (v := 2) C dX9_count_152 (by decide) ?_
    refine vv_iload_n C 1 dX9_count_153 rfl rfl ?_
    refine vv_bipush (v := 12) C dX9_count_154 (by decide) ?_
    refine vv_isub C dX9_count_156 ?_
    refine vv_imul C dX9_count_157 ?_
    refine vv_iadd C dX9_count_158 ?_
    refine vv_ald (j := 126) (q := 2126) C sh_146 (by rw [h_23]; decide) (by decide) rfl dX9_count_159 ?_
    refine vv_top (y := V 126) (hV.1 126 (by decide)) ?_
    exact vv_iret C hR dX9_count_160 (qIP_of ⟨(bI_bit ((hw.2.2.2.2.2.2 0 (by decide)).2)).symm.trans (by simp [op_count, cntI, h_2, h_4, h_6, h_8, h_10, h_12, h_14, h_16, h_18, h_20, h_22, h_23]), hV, rfO.rf⟩)
  rcases Classical.em (w = 13) with h_25 | h_26
  · refine vv_tsIn C 13 146 dX9_count_1 h_25 (by decide) (by decide) rfl (by decide) ?_
    refine vv_aload_n C 0 dX9_count_146 rfl rfl ?_
    refine vv_getr C (Cn := RX9) (T := TX9) (N := 13) sh_145 0 rfl rfl (by decide) iX9_count_X9 (List.mem_of_getElem? (i := 1) rfl) rfl dX9_count_147 ?_
    refine vv_bipush (v := 126) C dX9_count_150 (by decide) ?_
    refine vv_iconst (v := 2) C dX9_count_152 (by decide) ?_
    refine vv_iload_n C 1 dX9_count_153 rfl rfl ?_
    refine vv_bipush (v := 12) C dX9_count_154 (by decide) ?_
    refine vv_isub C dX9_count_156 ?_
    refine vv_imul C dX9_count_157 ?_
    refine vv_iadd C dX9_count_158 ?_
    refine vv_ald (j := 128) (q := 2128) C sh_146 (by rw [h_25]; decide) (by decide) rfl dX9_count_159 ?_
    refine vv_top (y := V 128) (hV.1 128 (by decide)) ?_
    exact vv_iret C hR dX9_count_160 (qIP_of ⟨(bI_bit ((hw.2.2.2.2.2.2 1 (by decide)).2)).symm.trans (by simp [op_count, cntI, h_2, h_4, h_6, h_8, h_10, h_12, h_14, h_16, h_18, h_20, h_22, h_24, h_25]), hV, rfO.rf⟩)
  rcases Classical.em (w = 9) with h_28 | h_29
  · refine vv_tsIn C 9 161 dX9_count_1 h_28 (by decide) (by decide) rfl (by decide) ?_
    refine vv_bipush (v := (-11)) C dX9_count_161 (by decide) ?_
    exact vv_iret C hR dX9_count_163 (qIP_of ⟨by simp [op_count, cntI, h_2, h_4, h_6, h_8, h_10, h_12, h_14, h_16, h_18, h_20, h_22, h_24, h_26, h_28], hV, rfO.rf⟩)
  refine vv_tsOut C 161 dX9_count_1 (by have t0 := lv_neT (a := 0) h_2 (by decide); have t1 := lv_neT (a := 1) h_4 (by decide); have t2 := lv_neT (a := 2) h_6 (by decide); have t3 := lv_neT (a := 3) h_8 (by decide); have t4 := lv_neT (a := 4) h_10 (by decide); have t5 := lv_neT (a := 5) h_12 (by decide); have t6 := lv_neT (a := 6) h_14 (by decide); have t7 := lv_neT (a := 7) h_16 (by decide); have t8 := lv_neT (a := 8) h_18 (by decide); have t9 := lv_neT (a := 9) h_29 (by decide); have t10 := lv_neT (a := 10) h_20 (by decide); have t11 := lv_neT (a := 11) h_22 (by decide); have t12 := lv_neT (a := 12) h_24 (by decide); have t13 := lv_neT (a := 13) h_26 (by decide); omega) (by decide) ?_
  refine vv_bipush (v := (-11)) C dX9_count_161 (by decide) ?_
  exact vv_iret C hR dX9_count_163 (qIP_of ⟨by simp [op_count, cntI, h_2, h_4, h_6, h_8, h_10, h_12, h_14, h_16, h_18, h_20, h_22, h_24, h_26, h_29], hV, rfO.rf⟩)
theorem iX9_undo_X9 : ∀ w ∈ u_ws RX9 TX9 13, w ∈ wsX9_undo := fun w hw => (List.mem_cons_of_mem _ (List.mem_append_right _ hw))
set_option maxRecDepth 100000 in
set_option maxHeartbeats 4000000 in
theorem lp_X9_undo {p : Program} {l : Launch} {e : Env} {s : State} {m : MethodId} {args : Array Value} {below : List Frame} {meth : Method} {c : Code} {G : mw_GG} {Q : State → Prop} (C : vv_C p s m args c G cX9_undo 2 wsX9_undo RX9) (M : mw_M) {pp : Nat} (hp : M 1100 = nI pp) (hp4 : pp < 4) (hk : vv p l e ({ frames := 0, cells := 0, slots := 0, locals := 0 } : Room) s m args below meth c G 0 0 Q (s_ld M pp 130) 56 [some (.ref (G.1 145)), some (.int (nI 130))] []) : ∀ (k i : Nat), 131 ≤ i + k → i ≤ 130 → vv p l e ({ frames := 0, cells := 0, slots := 0, locals := 0 } : Room) s m args below meth c G 0 0 Q (s_ld M pp i) 22 [some (.ref (G.1 145)), some (.int (nI i))] [] := by
  intro k
  induction k with
  | zero => intro i h1 h2; omega
  | succ k ih =>
    intro i h1 h2
    refine vv_iload_n C 1 dX9_undo_22 rfl rfl ?_
    refine vv_sipush (v := 130) C dX9_undo_23 (by decide) ?_
    refine vv_icmp_ge C 56 dX9_undo_26 (by decide) (fun hge => ?_) (fun hlt => ?_)
    · have hin : i = 130 := by
        rcases Nat.lt_or_ge i 130 with z | z
        · exact absurd hge (nI_ge (b := 130) z (by omega))
        · omega
      subst hin
      exact hk
    · have hi4 : i < 130 := by
        rcases Nat.lt_or_ge i 130 with z | z
        · exact z
        · exact absurd (nI_le (a := 130) z (by omega)) hlt
      refine vv_aload_n C 0 dX9_undo_29 rfl rfl ?_
      refine vv_getr C (Cn := RX9) (T := TX9) (N := 13) sh_145 0 rfl rfl (by decide) iX9_undo_X9 (List.mem_of_getElem? (i := 2) rfl) rfl dX9_undo_30 ?_
      refine vv_iload_n C 1 dX9_undo_33 rfl rfl ?_
      refine vv_aload_n C 0 dX9_undo_34 rfl rfl ?_
      refine vv_getr C (Cn := RX9) (T := TX9) (N := 13) sh_145 1 rfl rfl (by decide) iX9_undo_X9 (List.mem_of_getElem? (i := 3) rfl) rfl dX9_undo_35 ?_
      refine vv_sipush (v := 130) C dX9_undo_38 (by decide) ?_
      refine vv_aload_n C 0 dX9_undo_41 rfl rfl ?_
      refine vv_geti C (Cn := RX9) (T := TX9) (N := 13) sh_145 2 rfl rfl (by decide) iX9_undo_X9 (List.mem_of_getElem? (i := 1) rfl) rfl dX9_undo_42 ?_
      refine vv_imul C dX9_undo_45 ?_
      refine vv_iload_n C 1 dX9_undo_46 rfl rfl ?_
      refine vv_iadd C dX9_undo_47 ?_
      refine vv_ald (j := 130 * pp + i) (q := 3000 + (130 * pp + i)) C sh_147 (by rw [ld_o (by omega), hp, show (130 : Int32) = nI 130 from rfl, pk_mul, nI_add]) (by omega) (by omega) dX9_undo_48 ?_
      refine vv_ast (j := i) (q := 2000 + i) C sh_146 rfl (by omega) (by omega) dX9_undo_49 ?_
      refine vv_mem (M2 := s_ld M pp (i + 1)) (ld_step hi4 hp4) ?_
      refine vv_iinc (v := nI (i + 1)) (ls2 := [some (.ref (G.1 145)), some (.int (nI (i + 1)))]) C 1 dX9_undo_50 rfl (nI_1 _) rfl ?_
      refine vv_goto C 22 dX9_undo_53 (by decide) ?_
      exact ih (i + 1) (by omega) (by omega)
set_option maxRecDepth 100000 in
set_option maxHeartbeats 4000000 in
theorem c_X9_undo {l : Launch} {G : mw_GG} (M V : mw_M) (hV : relO M V) (hw : wfV V) (hh : hiV V) (ht : txV V) : mw_Met l yX9_undo wsX9_undo ({ frames := 0, cells := 0, slots := 0, locals := 0 } : Room) G [.ref (G.1 145)] M (qIP (fun r M2 => r = (op_undo V).1 ∧ relO M2 (op_undo V).2 ∧ rfO M M2)) := by
  refine mw_ofV (cc := cX9_undo) 2 (by decide) rfl rfl (Nat.le_of_ble_eq_true rfl) ?_
  intro p e s m args below meth c C hR hN0
  refine vv_loc (ls2 := [some (.ref (G.1 145)), none]) rfl ?_
  have hR0 := hw.wfR
  refine vv_aload_n C 0 dX9_undo_0 rfl rfl ?_
  refine vv_geti C (Cn := RX9) (T := TX9) (N := 13) sh_145 2 rfl rfl (by decide) iX9_undo_X9 (List.mem_of_getElem? (i := 1) rfl) rfl dX9_undo_1 ?_
  refine vv_if_ne C 10 dX9_undo_4 (by decide) (fun h_n0 => ?_) (fun h_0 => ?_)
  · have h1 : 1 ≤ hN V := by
      rcases Nat.eq_zero_or_pos (hN V) with z | z
      · exact absurd (by rw [hV.2.1.1, hh.1, z]; rfl) h_n0
      · exact z
    refine vv_aload_n C 0 dX9_undo_10 rfl rfl ?_
    refine vv_dup C dX9_undo_11 rfl ?_
    refine vv_geti C (Cn := RX9) (T := TX9) (N := 13) sh_145 2 rfl rfl (by decide) iX9_undo_X9 (List.mem_of_getElem? (i := 1) rfl) rfl dX9_undo_12 ?_
    refine vv_iconst (v := 1) C dX9_undo_15 (by decide) ?_
    refine vv_isub C dX9_undo_16 ?_
    refine vv_putf C (Cn := RX9) (T := TX9) (N := 13) sh_145 2 rfl rfl (by decide) iX9_undo_X9 (List.mem_of_getElem? (i := 1) rfl) rfl tyX9_ok nmX9 rfl rfl dX9_undo_17 ?_
    refine vv_iconst (v := 0) C dX9_undo_20 (by decide) ?_
    refine vv_istore_n (ls2 := [some (.ref (G.1 145)), some (.int 0)]) C 1 dX9_undo_21 rfl (Nat.le_of_ble_eq_true rfl) rfl ?_
    have hm1 : V 650 - 1 = nI (hN V - 1) := by rw [hh.1]; exact nI_subI (b := 1) h1
    refine vv_mem (M2 := s_ld (upd M 1100 (nI (hN V - 1))) (hN V - 1) 0) (by rw [ld_0', hV.2.1.1, hm1]) ?_
    refine vv_loc (ls2 := [some (.ref (G.1 145)), some (.int (nI 0))]) rfl ?_
    have h4 := hh.2
    refine lp_X9_undo C (upd M 1100 (nI (hN V - 1))) (pp := hN V - 1) upd_s (by omega) ?_ 131 0 (by omega) (by omega)
    refine vv_aload_n C 0 dX9_undo_56 rfl rfl ?_
    refine vv_geti C (Cn := RX9) (T := TX9) (N := 13) sh_145 2 rfl rfl (by decide) iX9_undo_X9 (List.mem_of_getElem? (i := 1) rfl) rfl dX9_undo_57 ?_
    exact vv_iret C hR dX9_undo_60 (qIP_of (by rw [show op_undo V = (nI (hN V - 1), s_rest V (hN V)) from if_neg (fun z => h_n0 (hV.2.1.1.trans z))]; exact ⟨by rw [ld_o (by omega), upd_s], und_end hV hh h1⟩))
  · refine vv_bipush (v := (-12)) C dX9_undo_7 (by decide) ?_
    exact vv_iret C hR dX9_undo_9 (qIP_of (by rw [show op_undo V = (-12, V) from if_pos (hV.2.1.1.symm.trans h_0)]; exact ⟨rfl, hV, rfO.rf⟩))
set_option maxRecDepth 100000 in
set_option maxHeartbeats 4000000 in
theorem c_X9_fitsOne {l : Launch} {G : mw_GG} (M : mw_M) (x y z v : Int32) : mw_Met l yX9_fitsOne wsX9_fitsOne ({ frames := 1, cells := 0, slots := 0, locals := 22 } : Room) G [.int x, .int y, .int z, .int v] M (qI (bI (fitR x y z v = true)) M) := by
  refine mw_ofV (cc := cX9_fitsOne) 4 (by decide) rfl rfl (Nat.le_of_ble_eq_true rfl) ?_
  intro p e s m args below meth c C hR hN0
  refine vv_loc (ls2 := [some (.int x), some (.int y), some (.int z), some (.int v)]) rfl ?_
  refine vv_iload_n C 0 dX9_fitsOne_0 rfl rfl ?_
  rcases Classical.em (x = 0) with h_1 | h_2
  · refine vv_tsIn C 0 48 dX9_fitsOne_1 h_1 (by decide) (by decide) rfl (by decide) ?_
    refine vv_iconst (v := 1) C dX9_fitsOne_48 (by decide) ?_
    exact vv_zret1 C hR dX9_fitsOne_49 (qI_of (by simp [bI, inP, fitR, h_1]) (rfl))
  rcases Classical.em (x = 1) with h_3 | h_4
  · refine vv_tsIn C 1 50 dX9_fitsOne_1 h_3 (by decide) (by decide) rfl (by decide) ?_
    refine vv_iload_n C 3 dX9_fitsOne_50 rfl rfl ?_
    refine vv_iconst (v := (-1)) C dX9_fitsOne_51 (by decide) ?_
    refine vv_icmp_ne C 59 dX9_fitsOne_52 (by decide) (fun h_5 => ?_) (fun h_6 => ?_)
    · refine vv_iconst (v := 0) C dX9_fitsOne_59 (by decide) ?_
      exact vv_zret0 C hR dX9_fitsOne_60 (qI_of (by simp [bI, inP, fitR, h_2, h_3, h_5]) (rfl))
    · refine vv_iconst (v := 1) C dX9_fitsOne_55 (by decide) ?_
      refine vv_goto C 60 dX9_fitsOne_56 (by decide) ?_
      exact vv_zret1 C hR dX9_fitsOne_60 (qI_of (by simp [bI, inP, fitR, h_2, h_3, h_6]) (rfl))
  rcases Classical.em (x = 3) with h_7 | h_8
  · refine vv_tsIn C 3 61 dX9_fitsOne_1 h_7 (by decide) (by decide) rfl (by decide) ?_
    refine vv_iload_n C 3 dX9_fitsOne_61 rfl rfl ?_
    refine vv_iload_n C 1 dX9_fitsOne_62 rfl rfl ?_
    refine vv_icmp_ne C 70 dX9_fitsOne_63 (by decide) (fun h_9 => ?_) (fun h_10 => ?_)
    · refine vv_iconst (v := 0) C dX9_fitsOne_70 (by decide) ?_
      exact vv_zret0 C hR dX9_fitsOne_71 (qI_of (by simp [bI, inP, fitR, h_2, h_4, h_7, h_9]) (rfl))
    · refine vv_iconst (v := 1) C dX9_fitsOne_66 (by decide) ?_
      refine vv_goto C 71 dX9_fitsOne_67 (by decide) ?_
      exact vv_zret1 C hR dX9_fitsOne_71 (qI_of (by simp [bI, inP, fitR, h_2, h_4, h_7, h_10]) (rfl))
  rcases Classical.em (x = 4) with h_11 | h_12
  · refine vv_tsIn C 4 72 dX9_fitsOne_1 h_11 (by decide) (by decide) rfl (by decide) ?_
    refine vv_iload_n C 3 dX9_fitsOne_72 rfl rfl ?_
    refine vv_iconst (v := (-1)) C dX9_fitsOne_73 (by decide) ?_
    refine vv_icmp_eq C 86 dX9_fitsOne_74 (by decide) (fun h_13 => ?_) (fun h_14 => ?_)
    · refine vv_iconst (v := 0) C dX9_fitsOne_86 (by decide) ?_
      exact vv_zret0 C hR dX9_fitsOne_87 (qI_of (by simp [bI, inP, fitR, h_2, h_4, h_8, h_11, h_13]) (rfl))
    · refine vv_iload_n C 3 dX9_fitsOne_77 rfl rfl ?_
      refine vv_iload_n C 1 dX9_fitsOne_78 rfl rfl ?_
      refine vv_icmp_eq C 86 dX9_fitsOne_79 (by decide) (fun h_15 => ?_) (fun h_16 => ?_)
      · refine vv_iconst (v := 0) C dX9_fitsOne_86 (by decide) ?_
        exact vv_zret0 C hR dX9_fitsOne_87 (qI_of (by simp [bI, inP, fitR, h_2, h_4, h_8, h_11, h_14, h_15]) (rfl))
      · refine vv_iconst (v := 1) C dX9_fitsOne_82 (by decide) ?_
        refine vv_goto C 87 dX9_fitsOne_83 (by decide) ?_
        exact vv_zret1 C hR dX9_fitsOne_87 (qI_of (by simp [bI, inP, fitR, h_2, h_4, h_8, h_11, h_14, h_16]) (rfl))
  rcases Classical.em (x = 5) with h_17 | h_18
  · refine vv_tsIn C 5 88 dX9_fitsOne_1 h_17 (by decide) (by decide) rfl (by decide) ?_
    refine vv_iload_n C 3 dX9_fitsOne_88 rfl rfl ?_
    refine vv_iconst (v := (-1)) C dX9_fitsOne_89 (by decide) ?_
    refine vv_icmp_eq C 102 dX9_fitsOne_90 (by decide) (fun h_19 => ?_) (fun h_20 => ?_)
    · refine vv_iconst (v := 0) C dX9_fitsOne_102 (by decide) ?_
      exact vv_zret0 C hR dX9_fitsOne_103 (qI_of (by simp [bI, inP, fitR, h_2, h_4, h_8, h_12, h_17, h_19]) (rfl))
    · refine vv_iload_n C 3 dX9_fitsOne_93 rfl rfl ?_
      refine vv_iload_n C 1 dX9_fitsOne_94 rfl rfl ?_
      refine vv_icmp_ge C 102 dX9_fitsOne_95 (by decide) (fun h_21 => ?_) (fun h_22 => ?_)
      · refine vv_iconst (v := 0) C dX9_fitsOne_102 (by decide) ?_
        exact vv_zret0 C hR dX9_fitsOne_103 (qI_of (by simp [bI, inP, fitR, h_2, h_4, h_8, h_12, h_17, h_20, h_21]) (rfl))
      · refine vv_iconst (v := 1) C dX9_fitsOne_98 (by decide) ?_
        refine vv_goto C 103 dX9_fitsOne_99 (by decide) ?_
        exact vv_zret1 C hR dX9_fitsOne_103 (qI_of (by simp [bI, inP, fitR, h_2, h_4, h_8, h_12, h_17, h_20, h_22]) (rfl))
  rcases Classical.em (x = 6) with h_23 | h_24
  · refine vv_tsIn C 6 104 dX9_fitsOne_1 h_23 (by decide) (by decide) rfl (by decide) ?_
    refine vv_iload_n C 3 dX9_fitsOne_104 rfl rfl ?_
    refine vv_iload_n C 1 dX9_fitsOne_105 rfl rfl ?_
    refine vv_icmp_le C 113 dX9_fitsOne_106 (by decide) (fun h_25 => ?_) (fun h_26 => ?_)
    · refine vv_iconst (v := 0) C dX9_fitsOne_113 (by decide) ?_
      exact vv_zret0 C hR dX9_fitsOne_114 (qI_of (by simp [bI, inP, fitR, h_2, h_4, h_8, h_12, h_18, h_23, h_25]) (rfl))
    · refine vv_iconst (v := 1) C dX9_fitsOne_109 (by decide) ?_
      refine vv_goto C 114 dX9_fitsOne_110 (by decide) ?_
      exact vv_zret1 C hR dX9_fitsOne_114 (qI_of (by simp [bI, inP, fitR, h_2, h_4, h_8, h_12, h_18, h_23, h_26]) (rfl))
  rcases Classical.em (x = 7) with h_27 | h_28
  · refine vv_tsIn C 7 115 dX9_fitsOne_1 h_27 (by decide) (by decide) rfl (by decide) ?_
    refine vv_iload_n C 3 dX9_fitsOne_115 rfl rfl ?_
    refine vv_iload_n C 1 dX9_fitsOne_116 rfl rfl ?_
    refine vv_iload_n C 2 dX9_fitsOne_117 rfl rfl ?_
    refine vv_callSI C [.int v, .int y, .int z] (c_X9_in M v y z) (cwS 3 C.1.2.2.2.2 gX9_fitsOne_X9_in rfl rfl rfl (by decide +kernel) ⟨Nat.le_of_ble_eq_true rfl, Nat.le_of_ble_eq_true rfl⟩) rfl rfl rfl (Nat.le_of_ble_eq_true rfl) dX9_fitsOne_118 ⟨Nat.le_refl _, Nat.le_refl _⟩ ?_
    exact vv_zret C hR dX9_fitsOne_121 (qI_of (by simp [bI, inP, fitR, h_2, h_4, h_8, h_12, h_18, h_24, h_27]) (rfl))
  rcases Classical.em (x = 2) with h_30 | h_31
  · refine vv_tsIn C 2 122 dX9_fitsOne_1 h_30 (by decide) (by decide) rfl (by decide) ?_
    refine vv_iload_n C 3 dX9_fitsOne_122 rfl rfl ?_
    refine vv_iconst (v := (-1)) C dX9_fitsOne_123 (by decide) ?_
    refine vv_icmp_eq C 131 dX9_fitsOne_124 (by decide) (fun h_32 => ?_) (fun h_33 => ?_)
    · refine vv_iconst (v := 0) C dX9_fitsOne_131 (by decide) ?_
      exact vv_zret0 C hR dX9_fitsOne_132 (qI_of (by simp [bI, inP, fitR, h_2, h_4, h_8, h_12, h_18, h_24, h_28, h_30, h_32]) (rfl))
    · refine vv_iconst (v := 1) C dX9_fitsOne_127 (by decide) ?_
      refine vv_goto C 132 dX9_fitsOne_128 (by decide) ?_
      exact vv_zret1 C hR dX9_fitsOne_132 (qI_of (by simp [bI, inP, fitR, h_2, h_4, h_8, h_12, h_18, h_24, h_28, h_30, h_33]) (rfl))
  refine vv_tsOut C 122 dX9_fitsOne_1 (by have t0 := lv_neT (a := 0) h_2 (by decide); have t1 := lv_neT (a := 1) h_4 (by decide); have t2 := lv_neT (a := 2) h_31 (by decide); have t3 := lv_neT (a := 3) h_8 (by decide); have t4 := lv_neT (a := 4) h_12 (by decide); have t5 := lv_neT (a := 5) h_18 (by decide); have t6 := lv_neT (a := 6) h_24 (by decide); have t7 := lv_neT (a := 7) h_28 (by decide); omega) (by decide) ?_
  refine vv_iload_n C 3 dX9_fitsOne_122 rfl rfl ?_
  refine vv_iconst (v := (-1)) C dX9_fitsOne_123 (by decide) ?_
  refine vv_icmp_eq C 131 dX9_fitsOne_124 (by decide) (fun h_34 => ?_) (fun h_35 => ?_)
  · refine vv_iconst (v := 0) C dX9_fitsOne_131 (by decide) ?_
    exact vv_zret0 C hR dX9_fitsOne_132 (qI_of (by simp [bI, inP, fitR, h_2, h_4, h_8, h_12, h_18, h_24, h_28, h_31, h_34]) (rfl))
  · refine vv_iconst (v := 1) C dX9_fitsOne_127 (by decide) ?_
    refine vv_goto C 132 dX9_fitsOne_128 (by decide) ?_
    exact vv_zret1 C hR dX9_fitsOne_132 (qI_of (by simp [bI, inP, fitR, h_2, h_4, h_8, h_12, h_18, h_24, h_28, h_31, h_35]) (rfl))
