def byS (V : mw_M) (k f g o w : Nat) : Int32 := if askP V (V (125 + 2 * k)) then vS V (V (125 + 2 * k)).toNatClampNeg f g - vS V (V (125 + 2 * k)).toNatClampNeg o w else 0
def sgB (u x : Int32) : Bool := if u = 1 then decide (¬ 0 ≤ x) else decide (¬ x ≤ 0)
def bhS (V : mw_M) (f g o w : Nat) : Bool := if byS V 0 f g o w = 0 then (if byS V 1 f g o w = 0 then false else sgB (V 128) (byS V 1 f g o w)) else sgB (V 126) (byS V 0 f g o w)
theorem by_a {V : mw_M} {k f g o w c : Nat} (h : V (125 + 2 * k) = nI c) (hc : c < 8) (ha : askP V (nI c)) : byS V k f g o w = vS V c f g - vS V c o w := by
  unfold byS
  rw [h, if_pos ha, nI_clamp (by omega)]
theorem by_na {V : mw_M} {k f g o w : Nat} (ha : ¬ askP V (V (125 + 2 * k))) : byS V k f g o w = 0 := if_neg ha
theorem ask_neg {V : mw_M} {x : Int32} (h : x < 0) : ¬ askP V x := fun z => by
  rcases z with z | z
  · exact z.2.1 h
  · have := z.1
    rw [Int32.le_iff_toInt_le] at this
    rw [Int32.lt_iff_toInt_lt] at h
    have e0 : (0 : Int32).toInt = 0 := by decide
    have e4 : (4 : Int32).toInt = 4 := by decide
    omega
def smI (x : Int32) : Prop := -200 ≤ x.toInt ∧ x.toInt ≤ 200
theorem sm_v {x : Int32} (h : vlP x) : -1 ≤ x.toInt ∧ x.toInt ≤ 99 := by
  rcases h with rfl | ⟨w, hw, rfl⟩
  · decide
  · rw [nI_toInt (by omega)]
    omega
theorem sub_int {a b : Int32} (ha : -1 ≤ a.toInt ∧ a.toInt ≤ 99) (hb : -1 ≤ b.toInt ∧ b.toInt ≤ 99) : (a - b).toInt = a.toInt - b.toInt := by
  rw [Int32.toInt_sub]
  unfold Int.bmod
  have e : ((2 : Nat) ^ 32 : Nat) = 4294967296 := by decide
  rw [e]
  dsimp only
  split <;> omega
theorem nI_dec {k : Nat} (h : 1 ≤ k) : nI k + -1 = nI (k - 1) := by
  obtain ⟨j, rfl⟩ : ∃ j, k = j + 1 := ⟨k - 1, by omega⟩
  exact pk_m1 j
theorem cmp_by {V : mw_M} (hw : wfV V) {k f g o w : Nat} (hk : k < 2) (hb : f < 12 ∧ g < 12 ∧ o < 12 ∧ w < 12) : (cmpS V k o w f g = 0 ↔ byS V k f g o w = 0) ∧ decide (¬ 0 ≤ cmpS V k o w f g) = sgB (V (126 + 2 * k)) (byS V k f g o w) := by
  unfold cmpS byS sgB
  by_cases ha : askP V (V (125 + 2 * k))
  · rw [if_pos ha, if_pos ha]
    obtain ⟨c, hc, e⟩ := ask_nI hw.2.1 ha
    rw [e, nI_clamp (by omega)]
    have h1 := sm_v (vlP_vS hw (c := c) (f := f) (g := g) hc hb.1 hb.2.1)
    have h2 := sm_v (vlP_vS hw (c := c) (f := o) (g := w) hc hb.2.2.1 hb.2.2.2)
    by_cases hu : V (126 + 2 * k) = 1
    · rw [if_pos hu, if_pos hu, Int32.neg_sub]
      exact ⟨Iff.rfl, rfl⟩
    · rw [if_neg hu, if_neg hu]
      have e0 : (0 : Int32).toInt = 0 := by decide
      constructor
      · rw [← Int32.toInt_inj, ← Int32.toInt_inj, sub_int h1 h2, sub_int h2 h1, e0]
        omega
      · rw [decide_eq_decide, Int32.le_iff_toInt_le, Int32.le_iff_toInt_le, sub_int h1 h2, sub_int h2 h1, e0]
        omega
  · rw [if_neg ha, if_neg ha]
    refine ⟨Iff.rfl, ?_⟩
    split <;> rfl
theorem bh_ahd {V : mw_M} (hw : wfV V) {f g o w : Nat} (hb : f < 12 ∧ g < 12 ∧ o < 12 ∧ w < 12) : ahdS V o w f g = bhS V f g o w := by
  have c0 := cmp_by hw (k := 0) (by decide) hb
  have c1 := cmp_by hw (k := 1) (by decide) hb
  unfold ahdS bhS
  by_cases z : byS V 0 f g o w = 0
  · rw [if_pos (c0.1.mpr z), if_pos z, c1.2]
    by_cases z1 : byS V 1 f g o w = 0
    · rw [if_pos z1, z1]
      unfold sgB
      split <;> rfl
    · rw [if_neg z1]
  · rw [if_neg (fun w => z (c0.1.mp w)), if_neg z, c0.2]
/-- the rows found, in the reference -/
def arR (M : mw_M) (P : List Nat) : Prop := ∀ j, j < P.length → M (1300 + j) = nI (P.getD j 0 / 12) ∧ M (1450 + j) = nI (P.getD j 0 % 12)
def fnS (q : Nat) : Prop := q = 1102 ∨ (1300 ≤ q ∧ q < 1600)
def layI (M M1 : mw_M) (P : List Nat) (k : Nat) : Prop := (∀ q, ¬ (1300 ≤ q ∧ q < 1600) → M1 q = M q) ∧ ∀ j, j ≤ P.length → ¬ j = k → M1 (1300 + j) = nI ((if j < k then P.getD j 0 else P.getD (j - 1) 0) / 12) ∧ M1 (1450 + j) = nI ((if j < k then P.getD j 0 else P.getD (j - 1) 0) % 12)
theorem layI.start {M : mw_M} {P : List Nat} (h : arR M P) : layI M M P P.length :=
  ⟨fun _ _ => rfl, fun j h1 h2 => by rw [if_pos (by omega)]; exact h j (by omega)⟩
theorem layI.step {M M1 : mw_M} {P : List Nat} {k : Nat} (h : layI M M1 P k) (h1 : 1 ≤ k) (hk : k ≤ P.length) (hl : P.length < 144) {x y : Int32} (hx : x = nI (P.getD (k - 1) 0 / 12)) (hy : y = nI (P.getD (k - 1) 0 % 12)) : layI M (upd (upd M1 (1300 + k) x) (1450 + k) y) P (k - 1) := by
  refine ⟨fun q hq => by rw [upd_o (by omega), upd_o (by omega)]; exact h.1 q hq, fun j h2 h3 => ?_⟩
  by_cases z : j = k
  · rw [if_neg (by omega), z, upd_s, upd_o (by omega), upd_s]
    exact ⟨hx, hy⟩
  · rw [upd_o (by omega), upd_o (by omega), upd_o (by omega), upd_o (by omega)]
    have := h.2 j h2 z
    by_cases z2 : j < k
    · rw [if_pos z2] at this
      rw [if_pos (by omega)]
      exact this
    · rw [if_neg z2] at this
      rw [if_neg (by omega)]
      exact this
theorem layI.done {V M M1 : mw_M} {P : List Nat} {k r : Nat} (h : layI M M1 P k) (hkp : kpos V r P P.length = k) (hl : P.length < 144) {x y : Int32} (hx : x = nI (r / 12)) (hy : y = nI (r % 12)) {n : Int32} : arR (upd (upd (upd M1 (1300 + k) x) (1450 + k) y) 1102 n) (insS V r P) ∧ ∀ q, ¬ fnS q → upd (upd (upd M1 (1300 + k) x) (1450 + k) y) 1102 n q = M q := by
  have hle : k ≤ P.length := by rw [← hkp]; exact kpos_le V r P P.length
  refine ⟨fun j hj => ?_, fun q hq => ?_⟩
  · rw [insS_len] at hj
    rw [insS_get hkp, upd_o (by omega), upd_o (by omega)]
    by_cases z : j = k
    · rw [z, if_neg (by omega), if_pos rfl, upd_s, upd_o (by omega), upd_s]
      exact ⟨hx, hy⟩
    · rw [upd_o (by omega), upd_o (by omega), upd_o (by omega), upd_o (by omega)]
      have := h.2 j (by omega) z
      by_cases z2 : j < k
      · rw [if_pos z2] at this ⊢
        exact this
      · rw [if_neg z2] at this ⊢
        rw [if_neg z]
        exact this
  · unfold fnS at hq
    rw [upd_o (by omega), upd_o (by omega), upd_o (by omega)]
    exact h.1 q (by omega)
def fndR (V M M1 : mw_M) (L : List Nat) : Prop := arR M1 (srtS V L) ∧ M1 1102 = nI L.length ∧ ∀ q, ¬ fnS q → M1 q = M q
theorem fndR.vw {V M M1 : mw_M} {L : List Nat} (h : fndR V M M1 L) (hV : vwO M V) : vwO M1 V := fun k hk => (h.2.2 _ (by unfold fnS; omega)).trans (hV k hk)
theorem lst_mem {S : mw_M} {lo mm f g : Nat} (hm : mm ≤ 12) (hf : f < 12) (hg : g ≤ 12) : ∀ r, r ∈ lstF S lo mm f ++ lstG S lo f g → r < 144 := by
  have hG : ∀ i k, i < 12 → k ≤ 12 → ∀ r, r ∈ lstG S lo i k → r < 144 := fun i k hi hk r hr => by
    unfold lstG at hr
    obtain ⟨j, hj, rfl⟩ := List.mem_map.mp hr
    have := List.mem_range.mp (List.mem_filter.mp hj).1
    omega
  intro r hr
  rcases List.mem_append.mp hr with z | z
  · unfold lstF at z
    obtain ⟨i, hi, hr2⟩ := List.mem_flatMap.mp z
    exact hG i mm (by have := List.mem_range.mp hi; omega) hm r hr2
  · exact hG f g hf hg r z
theorem lst_ln {S : mw_M} {lo mm f g : Nat} (hm : mm ≤ 12) (hf : f < 12) (hg : g < 12) : (lstF S lo mm f ++ lstG S lo f g).length < 144 := by
  rw [List.length_append]
  have h1 := lstF_len (S := S) (lo := lo) hm f
  have h2 := lstG_len (S := S) (lo := lo) (f := f) g
  omega
theorem rtI_m {k : Nat} (h : k ≤ 8) : rtI k = -14 ↔ k = 8 := by
  unfold rtI
  by_cases z : k < 8
  · rw [if_pos z]
    constructor
    · intro w
      exact absurd (show nI k < 0 by rw [w]; decide) (nI_pos (by omega))
    · intro w
      omega
  · rw [if_neg z]
    exact ⟨fun _ => by omega, fun _ => rfl⟩
theorem fndR.add {V M M1 M2 : mw_M} {L : List Nat} {r : Nat} (h : fndR V M M1 L) (h1 : arR M2 (insS V r (srtS V L))) (h2 : M2 1102 = nI ((srtS V L).length + 1)) (h3 : ∀ q, ¬ fnS q → M2 q = M1 q) : fndR V M M2 (L ++ [r]) :=
  ⟨by rw [srt_snoc]; exact h1, by rw [h2, srt_len, List.length_append]; rfl, fun q hq => (h3 q hq).trans (h.2.2 q hq)⟩
theorem iX9_isBehind_X9 : ∀ w ∈ u_ws RX9 TX9 13, w ∈ wsX9_isBehind := fun w hw => (List.mem_cons_of_mem _ (List.mem_append_right _ hw))
set_option maxRecDepth 100000 in
set_option maxHeartbeats 4000000 in
theorem c_X9_isBehind {l : Launch} {G : mw_GG} (M V : mw_M) (hV : vwO M V) (hw : wfV V) {f g o w : Nat} (hb : f < 12 ∧ g < 12 ∧ o < 12 ∧ w < 12) {x y z u : Int32} (hx : x = nI f) (hy : y = nI g) (hz : z = nI o) (hu : u = nI w) : mw_Met l yX9_isBehind wsX9_isBehind ({ frames := 2, cells := 0, slots := 0, locals := 45 } : Room) G [.ref (G.1 145), .int x, .int y, .int z, .int u] M (qI (bI (ahdS V o w f g = true)) M) := by
  refine mw_ofV (cc := cX9_isBehind) 8 (by decide) rfl rfl (Nat.le_of_ble_eq_true rfl) ?_
  intro p e s m args below meth c C hR hN0
  subst hx
  subst hy
  subst hz
  subst hu
  refine vv_loc (ls2 := [some (.ref (G.1 145)), some (.int (nI f)), some (.int (nI g)), some (.int (nI o)), some (.int (nI w)), none, none, none]) rfl ?_
  refine vv_iconst (v := 0) C dX9_isBehind_0 (by decide) ?_
  refine vv_istore (ls2 := [some (.ref (G.1 145)), some (.int (nI f)), some (.int (nI g)), some (.int (nI o)), some (.int (nI w)), some (.int 0), none, none]) C 5 dX9_isBehind_1 (Nat.le_of_ble_eq_true rfl) rfl ?_
  refine vv_iload C 5 dX9_isBehind_3 rfl ?_
  refine vv_iconst (v := 2) C dX9_isBehind_5 (by decide) ?_
  refine vv_icmp_ge C 114 dX9_isBehind_6 (by decide) (fun h_1 => absurd h_1 (by decide)) (fun h_2 => ?_)
  refine vv_aload_n C 0 dX9_isBehind_9 rfl rfl ?_
  refine vv_getr C (Cn := RX9) (T := TX9) (N := 13) sh_145 0 rfl rfl (by decide) iX9_isBehind_X9 (List.mem_of_getElem? (i := 1) rfl) rfl dX9_isBehind_10 ?_
  refine vv_bipush (v := 125) C dX9_isBehind_13 (by decide) ?_
  refine vv_iconst (v := 2) C dX9_isBehind_15 (by decide) ?_
  refine vv_iload C 5 dX9_isBehind_16 rfl ?_
  refine vv_imul C dX9_isBehind_18 ?_
  refine vv_iadd C dX9_isBehind_19 ?_
  refine vv_ald (j := 125) (q := 2125) C sh_146 (by decide) (by decide) rfl dX9_isBehind_20 ?_
  refine vv_top (y := V 125) (hV 125 (by decide)) ?_
  refine vv_istore (ls2 := [some (.ref (G.1 145)), some (.int (nI f)), some (.int (nI g)), some (.int (nI o)), some (.int (nI w)), some (.int 0), some (.int (V 125)), none]) C 6 dX9_isBehind_21 (Nat.le_of_ble_eq_true rfl) rfl ?_
  refine vv_iload C 6 dX9_isBehind_23 rfl ?_
  refine vv_if_lt C 58 dX9_isBehind_25 (by decide) (fun h_lt0 => ?_) (fun h_ge0 => ?_)
  · refine vv_iconst (v := 0) C dX9_isBehind_58 (by decide) ?_
    refine vv_istore (ls2 := [some (.ref (G.1 145)), some (.int (nI f)), some (.int (nI g)), some (.int (nI o)), some (.int (nI w)), some (.int 0), some (.int (V 125)), some (.int 0)]) C 7 dX9_isBehind_59 (Nat.le_of_ble_eq_true rfl) rfl ?_
    have hby0 : 0 = byS V 0 f g o w := (by_na (k := 0) (ask_neg h_lt0)).symm
    refine vv_loc (ls2 := [some (.ref (G.1 145)), some (.int (nI f)), some (.int (nI g)), some (.int (nI o)), some (.int (nI w)), some (.int 0), some (.int (V 125)), some (.int (byS V 0 f g o w))]) (by rw [hby0]) ?_
    refine vv_iload C 7 dX9_isBehind_61 rfl ?_
    refine vv_if_eq C 108 dX9_isBehind_63 (by decide) (fun h_z0 => ?_) (fun h_nz0 => ?_)
    · refine vv_iinc (v := 1) (ls2 := [some (.ref (G.1 145)), some (.int (nI f)), some (.int (nI g)), some (.int (nI o)), some (.int (nI w)), some (.int 1), some (.int (V 125)), some (.int (byS V 0 f g o w))]) C 5 dX9_isBehind_108 rfl (by decide) rfl ?_
      refine vv_goto C 3 dX9_isBehind_111 (by decide) ?_
      refine vv_iload C 5 dX9_isBehind_3 rfl ?_
      refine vv_iconst (v := 2) C dX9_isBehind_5 (by decide) ?_
      refine vv_icmp_ge C 114 dX9_isBehind_6 (by decide) (fun h_7 => absurd h_7 (by decide)) (fun h_8 => ?_)
      refine vv_aload_n C 0 dX9_isBehind_9 rfl rfl ?_
      refine vv_getr C (Cn := RX9) (T := TX9) (N := 13) sh_145 0 rfl rfl (by decide) iX9_isBehind_X9 (List.mem_of_getElem? (i := 1) rfl) rfl dX9_isBehind_10 ?_
      refine vv_bipush (v := 125) C dX9_isBehind_13 (by decide) ?_
      refine vv_iconst (v := 2) C dX9_isBehind_15 (by decide) ?_
      refine vv_iload C 5 dX9_isBehind_16 rfl ?_
      refine vv_imul C dX9_isBehind_18 ?_
      refine vv_iadd C dX9_isBehind_19 ?_
      refine vv_ald (j := 127) (q := 2127) C sh_146 (by decide) (by decide) rfl dX9_isBehind_20 ?_
      refine vv_top (y := V 127) (hV 127 (by decide)) ?_
      refine vv_istore (ls2 := [some (.ref (G.1 145)), some (.int (nI f)), some (.int (nI g)), some (.int (nI o)), some (.int (nI w)), some (.int 1), some (.int (V 127)), some (.int (byS V 0 f g o w))]) C 6 dX9_isBehind_21 (Nat.le_of_ble_eq_true rfl) rfl ?_
      refine vv_iload C 6 dX9_isBehind_23 rfl ?_
      refine vv_if_lt C 58 dX9_isBehind_25 (by decide) (fun h_lt1 => ?_) (fun h_ge1 => ?_)
      · refine vv_iconst (v := 0) C dX9_isBehind_58 (by decide) ?_
        refine vv_istore (ls2 := [some (.ref (G.1 145)), some (.int (nI f)), some (.int (nI g)), some (.int (nI o)), some (.int (nI w)), some (.int 1), some (.int (V 127)), some (.int 0)]) C 7 dX9_isBehind_59 (Nat.le_of_ble_eq_true rfl) rfl ?_
        have hby1 : 0 = byS V 1 f g o w := (by_na (k := 1) (ask_neg h_lt1)).symm
        refine vv_loc (ls2 := [some (.ref (G.1 145)), some (.int (nI f)), some (.int (nI g)), some (.int (nI o)), some (.int (nI w)), some (.int 1), some (.int (V 127)), some (.int (byS V 1 f g o w))]) (by rw [hby1]) ?_
        refine vv_iload C 7 dX9_isBehind_61 rfl ?_
        refine vv_if_eq C 108 dX9_isBehind_63 (by decide) (fun h_z1 => ?_) (fun h_nz1 => ?_)
        · refine vv_iinc (v := 2) (ls2 := [some (.ref (G.1 145)), some (.int (nI f)), some (.int (nI g)), some (.int (nI o)), some (.int (nI w)), some (.int 2), some (.int (V 127)), some (.int (byS V 1 f g o w))]) C 5 dX9_isBehind_108 rfl (by decide) rfl ?_
          refine vv_goto C 3 dX9_isBehind_111 (by decide) ?_
          refine vv_iload C 5 dX9_isBehind_3 rfl ?_
          refine vv_iconst (v := 2) C dX9_isBehind_5 (by decide) ?_
          refine vv_icmp_ge C 114 dX9_isBehind_6 (by decide) (fun h_14 => ?_) (fun h_13 => absurd h_13 (by decide))
          refine vv_iconst (v := 0) C dX9_isBehind_114 (by decide) ?_
          exact vv_zret0 C hR dX9_isBehind_115 (qI_of (by rw [bh_ahd hw hb]; simp [bI, bhS, sgB, h_z0, h_z1]) rfl)
        · refine vv_aload_n C 0 dX9_isBehind_66 rfl rfl ?_
          refine vv_getr C (Cn := RX9) (T := TX9) (N := 13) sh_145 0 rfl rfl (by decide) iX9_isBehind_X9 (List.mem_of_getElem? (i := 1) rfl) rfl dX9_isBehind_67 ?_
          refine vv_bipush (v := 125) C dX9_isBehind_70 (by decide) ?_
          refine vv_iconst (v := 2) C dX9_isBehind_72 (by decide) ?_
          refine vv_iload C 5 dX9_isBehind_73 rfl ?_
          refine vv_imul C dX9_isBehind_75 ?_
          refine vv_iadd C dX9_isBehind_76 ?_
          refine vv_iconst (v := 1) C dX9_isBehind_77 (by decide) ?_
          refine vv_iadd C dX9_isBehind_78 ?_
          refine vv_ald (j := 128) (q := 2128) C sh_146 (by decide) (by decide) rfl dX9_isBehind_79 ?_
          refine vv_top (y := V 128) (hV 128 (by decide)) ?_
          refine vv_iconst (v := 1) C dX9_isBehind_80 (by decide) ?_
          refine vv_icmp_ne C 97 dX9_isBehind_81 (by decide) (fun h_u1 => ?_) (fun h_d1 => ?_)
          · refine vv_iload C 7 dX9_isBehind_97 rfl ?_
            refine vv_if_le C 106 dX9_isBehind_99 (by decide) (fun h_le1 => ?_) (fun h_gt1 => ?_)
            · refine vv_iconst (v := 0) C dX9_isBehind_106 (by decide) ?_
              exact vv_zret0 C hR dX9_isBehind_107 (qI_of (by rw [bh_ahd hw hb]; simp [bI, bhS, sgB, h_z0, h_nz1, h_u1, h_le1]) rfl)
            · refine vv_iconst (v := 1) C dX9_isBehind_102 (by decide) ?_
              refine vv_goto C 107 dX9_isBehind_103 (by decide) ?_
              exact vv_zret1 C hR dX9_isBehind_107 (qI_of (by rw [bh_ahd hw hb]; simp [bI, bhS, sgB, h_z0, h_nz1, h_u1, h_gt1]) rfl)
          · refine vv_iload C 7 dX9_isBehind_84 rfl ?_
            refine vv_if_ge C 93 dX9_isBehind_86 (by decide) (fun h_g1 => ?_) (fun h_l1 => ?_)
            · refine vv_iconst (v := 0) C dX9_isBehind_93 (by decide) ?_
              refine vv_goto C 107 dX9_isBehind_94 (by decide) ?_
              exact vv_zret0 C hR dX9_isBehind_107 (qI_of (by rw [bh_ahd hw hb]; simp [bI, bhS, sgB, h_z0, h_nz1, h_d1, h_g1]) rfl)
            · refine vv_iconst (v := 1) C dX9_isBehind_89 (by decide) ?_
              refine vv_goto C 107 dX9_isBehind_90 (by decide) ?_
              exact vv_zret1 C hR dX9_isBehind_107 (qI_of (by rw [bh_ahd hw hb]; simp [bI, bhS, sgB, h_z0, h_nz1, h_d1, h_l1]) rfl)
      · obtain ⟨c1, hc1, hce1⟩ : ∃ c, c < 8 ∧ V 127 = nI c := (hw.2.2.2.2.2.2 1 (by decide)).1.elim (fun z => absurd (show V 127 < 0 by rw [show V 127 = -1 from z]; decide) h_ge1) id
        refine vv_aload_n C 0 dX9_isBehind_28 rfl rfl ?_
        refine vv_iload C 6 dX9_isBehind_29 rfl ?_
        refine vv_callVI C [.int (V 127)] (c_X9_isAsked M V hV (cc := c1) hc1 (x := (V 127)) hce1) sh_145 rfl (cwV 1 C.1.2.2.2.2 gX9_isBehind_X9_isAsked rfl rfl rfl (by decide +kernel) ⟨Nat.le_of_ble_eq_true rfl, Nat.le_of_ble_eq_true rfl⟩) rfl rfl rfl (Nat.le_of_ble_eq_true rfl) dX9_isBehind_31 ⟨Nat.le_refl _, Nat.le_refl _⟩ ?_
        refine vv_bif_eq C 58 dX9_isBehind_34 (by decide) (fun h_na1 => ?_) (fun h_a1 => ?_)
        · refine vv_iconst (v := 0) C dX9_isBehind_58 (by decide) ?_
          refine vv_istore (ls2 := [some (.ref (G.1 145)), some (.int (nI f)), some (.int (nI g)), some (.int (nI o)), some (.int (nI w)), some (.int 1), some (.int (V 127)), some (.int 0)]) C 7 dX9_isBehind_59 (Nat.le_of_ble_eq_true rfl) rfl ?_
          have hby1 : 0 = byS V 1 f g o w := (by_na (k := 1) (fun z => h_na1 (by rw [← hce1]; exact z))).symm
          refine vv_loc (ls2 := [some (.ref (G.1 145)), some (.int (nI f)), some (.int (nI g)), some (.int (nI o)), some (.int (nI w)), some (.int 1), some (.int (V 127)), some (.int (byS V 1 f g o w))]) (by rw [hby1]) ?_
          refine vv_iload C 7 dX9_isBehind_61 rfl ?_
          refine vv_if_eq C 108 dX9_isBehind_63 (by decide) (fun h_z1 => ?_) (fun h_nz1 => ?_)
          · refine vv_iinc (v := 2) (ls2 := [some (.ref (G.1 145)), some (.int (nI f)), some (.int (nI g)), some (.int (nI o)), some (.int (nI w)), some (.int 2), some (.int (V 127)), some (.int (byS V 1 f g o w))]) C 5 dX9_isBehind_108 rfl (by decide) rfl ?_
            refine vv_goto C 3 dX9_isBehind_111 (by decide) ?_
            refine vv_iload C 5 dX9_isBehind_3 rfl ?_
            refine vv_iconst (v := 2) C dX9_isBehind_5 (by decide) ?_
            refine vv_icmp_ge C 114 dX9_isBehind_6 (by decide) (fun h_26 => ?_) (fun h_25 => absurd h_25 (by decide))
            refine vv_iconst (v := 0) C dX9_isBehind_114 (by decide) ?_
            exact vv_zret0 C hR dX9_isBehind_115 (qI_of (by rw [bh_ahd hw hb]; simp [bI, bhS, sgB, h_z0, h_z1]) rfl)
          · refine vv_aload_n C 0 dX9_isBehind_66 rfl rfl ?_
            refine vv_getr C (Cn := RX9) (T := TX9) (N := 13) sh_145 0 rfl rfl (by decide) iX9_isBehind_X9 (List.mem_of_getElem? (i := 1) rfl) rfl dX9_isBehind_67 ?_
            refine vv_bipush (v := 125) C dX9_isBehind_70 (by decide) ?_
            refine vv_iconst (v := 2) C dX9_isBehind_72 (by decide) ?_
            refine vv_iload C 5 dX9_isBehind_73 rfl ?_
            refine vv_imul C dX9_isBehind_75 ?_
            refine vv_iadd C dX9_isBehind_76 ?_
            refine vv_iconst (v := 1) C dX9_isBehind_77 (by decide) ?_
            refine vv_iadd C dX9_isBehind_78 ?_
            refine vv_ald (j := 128) (q := 2128) C sh_146 (by decide) (by decide) rfl dX9_isBehind_79 ?_
            refine vv_top (y := V 128) (hV 128 (by decide)) ?_
            refine vv_iconst (v := 1) C dX9_isBehind_80 (by decide) ?_
            refine vv_icmp_ne C 97 dX9_isBehind_81 (by decide) (fun h_u1 => ?_) (fun h_d1 => ?_)
            · refine vv_iload C 7 dX9_isBehind_97 rfl ?_
              refine vv_if_le C 106 dX9_isBehind_99 (by decide) (fun h_le1 => ?_) (fun h_gt1 => ?_)
              · refine vv_iconst (v := 0) C dX9_isBehind_106 (by decide) ?_
                exact vv_zret0 C hR dX9_isBehind_107 (qI_of (by rw [bh_ahd hw hb]; simp [bI, bhS, sgB, h_z0, h_nz1, h_u1, h_le1]) rfl)
              · refine vv_iconst (v := 1) C dX9_isBehind_102 (by decide) ?_
                refine vv_goto C 107 dX9_isBehind_103 (by decide) ?_
                exact vv_zret1 C hR dX9_isBehind_107 (qI_of (by rw [bh_ahd hw hb]; simp [bI, bhS, sgB, h_z0, h_nz1, h_u1, h_gt1]) rfl)
            · refine vv_iload C 7 dX9_isBehind_84 rfl ?_
              refine vv_if_ge C 93 dX9_isBehind_86 (by decide) (fun h_g1 => ?_) (fun h_l1 => ?_)
              · refine vv_iconst (v := 0) C dX9_isBehind_93 (by decide) ?_
                refine vv_goto C 107 dX9_isBehind_94 (by decide) ?_
                exact vv_zret0 C hR dX9_isBehind_107 (qI_of (by rw [bh_ahd hw hb]; simp [bI, bhS, sgB, h_z0, h_nz1, h_d1, h_g1]) rfl)
              · refine vv_iconst (v := 1) C dX9_isBehind_89 (by decide) ?_
                refine vv_goto C 107 dX9_isBehind_90 (by decide) ?_
                exact vv_zret1 C hR dX9_isBehind_107 (qI_of (by rw [bh_ahd hw hb]; simp [bI, bhS, sgB, h_z0, h_nz1, h_d1, h_l1]) rfl)
        · refine vv_aload_n C 0 dX9_isBehind_37 rfl rfl ?_
          refine vv_iload_n C 1 dX9_isBehind_38 rfl rfl ?_
          refine vv_iload_n C 2 dX9_isBehind_39 rfl rfl ?_
          refine vv_iload C 6 dX9_isBehind_40 rfl ?_
          refine vv_callVI C [.int (nI f), .int (nI g), .int (V 127)] (c_X9_at M V hV (f := f) (g := g) (cc := c1) ⟨hb.1, hb.2.1, hc1⟩ (x := (nI f)) (y := (nI g)) (z := (V 127)) rfl rfl hce1) sh_145 rfl (cwV 3 C.1.2.2.2.2 gX9_isBehind_X9_at rfl rfl rfl (by decide +kernel) ⟨Nat.le_of_ble_eq_true rfl, Nat.le_of_ble_eq_true rfl⟩) rfl rfl rfl (Nat.le_of_ble_eq_true rfl) dX9_isBehind_42 ⟨Nat.le_refl _, Nat.le_refl _⟩ ?_
          refine vv_aload_n C 0 dX9_isBehind_45 rfl rfl ?_
          refine vv_iload_n C 3 dX9_isBehind_46 rfl rfl ?_
          refine vv_iload C 4 dX9_isBehind_47 rfl ?_
          refine vv_iload C 6 dX9_isBehind_49 rfl ?_
          refine vv_callVI C [.int (nI o), .int (nI w), .int (V 127)] (c_X9_at M V hV (f := o) (g := w) (cc := c1) ⟨hb.2.2.1, hb.2.2.2, hc1⟩ (x := (nI o)) (y := (nI w)) (z := (V 127)) rfl rfl hce1) sh_145 rfl (cwV 3 C.1.2.2.2.2 gX9_isBehind_X9_at rfl rfl rfl (by decide +kernel) ⟨Nat.le_of_ble_eq_true rfl, Nat.le_of_ble_eq_true rfl⟩) rfl rfl rfl (Nat.le_of_ble_eq_true rfl) dX9_isBehind_51 ⟨Nat.le_refl _, Nat.le_refl _⟩ ?_
          refine vv_isub C dX9_isBehind_54 ?_
          refine vv_goto C 59 dX9_isBehind_55 (by decide) ?_
          refine vv_istore (ls2 := [some (.ref (G.1 145)), some (.int (nI f)), some (.int (nI g)), some (.int (nI o)), some (.int (nI w)), some (.int 1), some (.int (V 127)), some (.int ((vS V c1 f g) - (vS V c1 o w)))]) C 7 dX9_isBehind_59 (Nat.le_of_ble_eq_true rfl) rfl ?_
          have hby1 : (vS V c1 f g) - (vS V c1 o w) = byS V 1 f g o w := (by_a (k := 1) hce1 hc1 h_a1).symm
          refine vv_loc (ls2 := [some (.ref (G.1 145)), some (.int (nI f)), some (.int (nI g)), some (.int (nI o)), some (.int (nI w)), some (.int 1), some (.int (V 127)), some (.int (byS V 1 f g o w))]) (by rw [hby1]) ?_
          refine vv_iload C 7 dX9_isBehind_61 rfl ?_
          refine vv_if_eq C 108 dX9_isBehind_63 (by decide) (fun h_z1 => ?_) (fun h_nz1 => ?_)
          · refine vv_iinc (v := 2) (ls2 := [some (.ref (G.1 145)), some (.int (nI f)), some (.int (nI g)), some (.int (nI o)), some (.int (nI w)), some (.int 2), some (.int (V 127)), some (.int (byS V 1 f g o w))]) C 5 dX9_isBehind_108 rfl (by decide) rfl ?_
            refine vv_goto C 3 dX9_isBehind_111 (by decide) ?_
            refine vv_iload C 5 dX9_isBehind_3 rfl ?_
            refine vv_iconst (v := 2) C dX9_isBehind_5 (by decide) ?_
            refine vv_icmp_ge C 114 dX9_isBehind_6 (by decide) (fun h_36 => ?_) (fun h_35 => absurd h_35 (by decide))
            refine vv_iconst (v := 0) C dX9_isBehind_114 (by decide) ?_
            exact vv_zret0 C hR dX9_isBehind_115 (qI_of (by rw [bh_ahd hw hb]; simp [bI, bhS, sgB, h_z0, h_z1]) rfl)
          · refine vv_aload_n C 0 dX9_isBehind_66 rfl rfl ?_
            refine vv_getr C (Cn := RX9) (T := TX9) (N := 13) sh_145 0 rfl rfl (by decide) iX9_isBehind_X9 (List.mem_of_getElem? (i := 1) rfl) rfl dX9_isBehind_67 ?_
            refine vv_bipush (v := 125) C dX9_isBehind_70 (by decide) ?_
            refine vv_iconst (v := 2) C dX9_isBehind_72 (by decide) ?_
            refine vv_iload C 5 dX9_isBehind_73 rfl ?_
            refine vv_imul C dX9_isBehind_75 ?_
            refine vv_iadd C dX9_isBehind_76 ?_
            refine vv_iconst (v := 1) C dX9_isBehind_77 (by decide) ?_
            refine vv_iadd C dX9_isBehind_78 ?_
            refine vv_ald (j := 128) (q := 2128) C sh_146 (by decide) (by decide) rfl dX9_isBehind_79 ?_
            refine vv_top (y := V 128) (hV 128 (by decide)) ?_
            refine vv_iconst (v := 1) C dX9_isBehind_80 (by decide) ?_
            refine vv_icmp_ne C 97 dX9_isBehind_81 (by decide) (fun h_u1 => ?_) (fun h_d1 => ?_)
            · refine vv_iload C 7 dX9_isBehind_97 rfl ?_
              refine vv_if_le C 106 dX9_isBehind_99 (by decide) (fun h_le1 => ?_) (fun h_gt1 => ?_)
              · refine vv_iconst (v := 0) C dX9_isBehind_106 (by decide) ?_
                exact vv_zret0 C hR dX9_isBehind_107 (qI_of (by rw [bh_ahd hw hb]; simp [bI, bhS, sgB, h_z0, h_nz1, h_u1, h_le1]) rfl)
              · refine vv_iconst (v := 1) C dX9_isBehind_102 (by decide) ?_
                refine vv_goto C 107 dX9_isBehind_103 (by decide) ?_
                exact vv_zret1 C hR dX9_isBehind_107 (qI_of (by rw [bh_ahd hw hb]; simp [bI, bhS, sgB, h_z0, h_nz1, h_u1, h_gt1]) rfl)
            · refine vv_iload C 7 dX9_isBehind_84 rfl ?_
              refine vv_if_ge C 93 dX9_isBehind_86 (by decide) (fun h_g1 => ?_) (fun h_l1 => ?_)
              · refine vv_iconst (v := 0) C dX9_isBehind_93 (by decide) ?_
                refine vv_goto C 107 dX9_isBehind_94 (by decide) ?_
                exact vv_zret0 C hR dX9_isBehind_107 (qI_of (by rw [bh_ahd hw hb]; simp [bI, bhS, sgB, h_z0, h_nz1, h_d1, h_g1]) rfl)
              · refine vv_iconst (v := 1) C dX9_isBehind_89 (by decide) ?_
                refine vv_goto C 107 dX9_isBehind_90 (by decide) ?_
                exact vv_zret1 C hR dX9_isBehind_107 (qI_of (by rw [bh_ahd hw hb]; simp [bI, bhS, sgB, h_z0, h_nz1, h_d1, h_l1]) rfl)
    · refine vv_aload_n C 0 dX9_isBehind_66 rfl rfl ?_
      refine vv_getr C (Cn := RX9) (T := TX9) (N := 13) sh_145 0 rfl rfl (by decide) iX9_isBehind_X9 (List.mem_of_getElem? (i := 1) rfl) rfl dX9_isBehind_67 ?_
      refine vv_bipush (v := 125) C dX9_isBehind_70 (by decide) ?_
      refine vv_iconst (v := 2) C dX9_isBehind_72 (by decide) ?_
      refine vv_iload C 5 dX9_isBehind_73 rfl ?_
      refine vv_imul C dX9_isBehind_75 ?_
      refine vv_iadd C dX9_isBehind_76 ?_
      refine vv_iconst (v := 1) C dX9_isBehind_77 (by decide) ?_
      refine vv_iadd C dX9_isBehind_78 ?_
      refine vv_ald (j := 126) (q := 2126) C sh_146 (by decide) (by decide) rfl dX9_isBehind_79 ?_
      refine vv_top (y := V 126) (hV 126 (by decide)) ?_
      refine vv_iconst (v := 1) C dX9_isBehind_80 (by decide) ?_
      refine vv_icmp_ne C 97 dX9_isBehind_81 (by decide) (fun h_u0 => ?_) (fun h_d0 => ?_)
      · refine vv_iload C 7 dX9_isBehind_97 rfl ?_
        refine vv_if_le C 106 dX9_isBehind_99 (by decide) (fun h_le0 => ?_) (fun h_gt0 => ?_)
        · refine vv_iconst (v := 0) C dX9_isBehind_106 (by decide) ?_
          exact vv_zret0 C hR dX9_isBehind_107 (qI_of (by rw [bh_ahd hw hb]; simp [bI, bhS, sgB, h_nz0, h_u0, h_le0]) rfl)
        · refine vv_iconst (v := 1) C dX9_isBehind_102 (by decide) ?_
          refine vv_goto C 107 dX9_isBehind_103 (by decide) ?_
          exact vv_zret1 C hR dX9_isBehind_107 (qI_of (by rw [bh_ahd hw hb]; simp [bI, bhS, sgB, h_nz0, h_u0, h_gt0]) rfl)
      · refine vv_iload C 7 dX9_isBehind_84 rfl ?_
        refine vv_if_ge C 93 dX9_isBehind_86 (by decide) (fun h_g0 => ?_) (fun h_l0 => ?_)
        · refine vv_iconst (v := 0) C dX9_isBehind_93 (by decide) ?_
          refine vv_goto C 107 dX9_isBehind_94 (by decide) ?_
          exact vv_zret0 C hR dX9_isBehind_107 (qI_of (by rw [bh_ahd hw hb]; simp [bI, bhS, sgB, h_nz0, h_d0, h_g0]) rfl)
        · refine vv_iconst (v := 1) C dX9_isBehind_89 (by decide) ?_
          refine vv_goto C 107 dX9_isBehind_90 (by decide) ?_
          exact vv_zret1 C hR dX9_isBehind_107 (qI_of (by rw [bh_ahd hw hb]; simp [bI, bhS, sgB, h_nz0, h_d0, h_l0]) rfl)
  · obtain ⟨c0, hc0, hce0⟩ : ∃ c, c < 8 ∧ V 125 = nI c := (hw.2.2.2.2.2.2 0 (by decide)).1.elim (fun z => absurd (show V 125 < 0 by rw [show V 125 = -1 from z]; decide) h_ge0) id
    refine vv_aload_n C 0 dX9_isBehind_28 rfl rfl ?_
    refine vv_iload C 6 dX9_isBehind_29 rfl ?_
    refine vv_callVI C [.int (V 125)] (c_X9_isAsked M V hV (cc := c0) hc0 (x := (V 125)) hce0) sh_145 rfl (cwV 1 C.1.2.2.2.2 gX9_isBehind_X9_isAsked rfl rfl rfl (by decide +kernel) ⟨Nat.le_of_ble_eq_true rfl, Nat.le_of_ble_eq_true rfl⟩) rfl rfl rfl (Nat.le_of_ble_eq_true rfl) dX9_isBehind_31 ⟨Nat.le_refl _, Nat.le_refl _⟩ ?_
    refine vv_bif_eq C 58 dX9_isBehind_34 (by decide) (fun h_na0 => ?_) (fun h_a0 => ?_)
    · refine vv_iconst (v := 0) C dX9_isBehind_58 (by decide) ?_
      refine vv_istore (ls2 := [some (.ref (G.1 145)), some (.int (nI f)), some (.int (nI g)), some (.int (nI o)), some (.int (nI w)), some (.int 0), some (.int (V 125)), some (.int 0)]) C 7 dX9_isBehind_59 (Nat.le_of_ble_eq_true rfl) rfl ?_
      have hby0 : 0 = byS V 0 f g o w := (by_na (k := 0) (fun z => h_na0 (by rw [← hce0]; exact z))).symm
      refine vv_loc (ls2 := [some (.ref (G.1 145)), some (.int (nI f)), some (.int (nI g)), some (.int (nI o)), some (.int (nI w)), some (.int 0), some (.int (V 125)), some (.int (byS V 0 f g o w))]) (by rw [hby0]) ?_
      refine vv_iload C 7 dX9_isBehind_61 rfl ?_
      refine vv_if_eq C 108 dX9_isBehind_63 (by decide) (fun h_z0 => ?_) (fun h_nz0 => ?_)
      · refine vv_iinc (v := 1) (ls2 := [some (.ref (G.1 145)), some (.int (nI f)), some (.int (nI g)), some (.int (nI o)), some (.int (nI w)), some (.int 1), some (.int (V 125)), some (.int (byS V 0 f g o w))]) C 5 dX9_isBehind_108 rfl (by decide) rfl ?_
        refine vv_goto C 3 dX9_isBehind_111 (by decide) ?_
        refine vv_iload C 5 dX9_isBehind_3 rfl ?_
        refine vv_iconst (v := 2) C dX9_isBehind_5 (by decide) ?_
        refine vv_icmp_ge C 114 dX9_isBehind_6 (by decide) (fun h_53 => absurd h_53 (by decide)) (fun h_54 => ?_)
        refine vv_aload_n C 0 dX9_isBehind_9 rfl rfl ?_
        refine vv_getr C (Cn := RX9) (T := TX9) (N := 13) sh_145 0 rfl rfl (by decide) iX9_isBehind_X9 (List.mem_of_getElem? (i := 1) rfl) rfl dX9_isBehind_10 ?_
        refine vv_bipush (v := 125) C dX9_isBehind_13 (by decide) ?_
        refine vv_iconst (v := 2) C dX9_isBehind_15 (by decide) ?_
        refine vv_iload C 5 dX9_isBehind_16 rfl ?_
        refine vv_imul C dX9_isBehind_18 ?_
        refine vv_iadd C dX9_isBehind_19 ?_
        refine vv_ald (j := 127) (q := 2127) C sh_146 (by decide) (by decide) rfl dX9_isBehind_20 ?_
        refine vv_top (y := V 127) (hV 127 (by decide)) ?_
        refine vv_istore (ls2 := [some (.ref (G.1 145)), some (.int (nI f)), some (.int (nI g)), some (.int (nI o)), some (.int (nI w)), some (.int 1), some (.int (V 127)), some (.int (byS V 0 f g o w))]) C 6 dX9_isBehind_21 (Nat.le_of_ble_eq_true rfl) rfl ?_
        refine vv_iload C 6 dX9_isBehind_23 rfl ?_
        refine vv_if_lt C 58 dX9_isBehind_25 (by decide) (fun h_lt1 => ?_) (fun h_ge1 => ?_)
        · refine vv_iconst (v := 0) C dX9_isBehind_58 (by decide) ?_
          refine vv_istore (ls2 := [some (.ref (G.1 145)), some (.int (nI f)), some (.int (nI g)), some (.int (nI o)), some (.int (nI w)), some (.int 1), some (.int (V 127)), some (.int 0)]) C 7 dX9_isBehind_59 (Nat.le_of_ble_eq_true rfl) rfl ?_
          have hby1 : 0 = byS V 1 f g o w := (by_na (k := 1) (ask_neg h_lt1)).symm
          refine vv_loc (ls2 := [some (.ref (G.1 145)), some (.int (nI f)), some (.int (nI g)), some (.int (nI o)), some (.int (nI w)), some (.int 1), some (.int (V 127)), some (.int (byS V 1 f g o w))]) (by rw [hby1]) ?_
          refine vv_iload C 7 dX9_isBehind_61 rfl ?_
          refine vv_if_eq C 108 dX9_isBehind_63 (by decide) (fun h_z1 => ?_) (fun h_nz1 => ?_)
          · refine vv_iinc (v := 2) (ls2 := [some (.ref (G.1 145)), some (.int (nI f)), some (.int (nI g)), some (.int (nI o)), some (.int (nI w)), some (.int 2), some (.int (V 127)), some (.int (byS V 1 f g o w))]) C 5 dX9_isBehind_108 rfl (by decide) rfl ?_
            refine vv_goto C 3 dX9_isBehind_111 (by decide) ?_
            refine vv_iload C 5 dX9_isBehind_3 rfl ?_
            refine vv_iconst (v := 2) C dX9_isBehind_5 (by decide) ?_
            refine vv_icmp_ge C 114 dX9_isBehind_6 (by decide) (fun h_60 => ?_) (fun h_59 => absurd h_59 (by decide))
            refine vv_iconst (v := 0) C dX9_isBehind_114 (by decide) ?_
            exact vv_zret0 C hR dX9_isBehind_115 (qI_of (by rw [bh_ahd hw hb]; simp [bI, bhS, sgB, h_z0, h_z1]) rfl)
          · refine vv_aload_n C 0 dX9_isBehind_66 rfl rfl ?_
            refine vv_getr C (Cn := RX9) (T := TX9) (N := 13) sh_145 0 rfl rfl (by decide) iX9_isBehind_X9 (List.mem_of_getElem? (i := 1) rfl) rfl dX9_isBehind_67 ?_
            refine vv_bipush (v := 125) C dX9_isBehind_70 (by decide) ?_
            refine vv_iconst (v := 2) C dX9_isBehind_72 (by decide) ?_
            refine vv_iload C 5 dX9_isBehind_73 rfl ?_
            refine vv_imul C dX9_isBehind_75 ?_
            refine vv_iadd C dX9_isBehind_76 ?_
            refine vv_iconst (v := 1) C dX9_isBehind_77 (by decide) ?_
            refine vv_iadd C dX9_isBehind_78 ?_
            refine vv_ald (j := 128) (q := 2128) C sh_146 (by decide) (by decide) rfl dX9_isBehind_79 ?_
            refine vv_top (y := V 128) (hV 128 (by decide)) ?_
            refine vv_iconst (v := 1) C dX9_isBehind_80 (by decide) ?_
            refine vv_icmp_ne C 97 dX9_isBehind_81 (by decide) (fun h_u1 => ?_) (fun h_d1 => ?_)
            · refine vv_iload C 7 dX9_isBehind_97 rfl ?_
              refine vv_if_le C 106 dX9_isBehind_99 (by decide) (fun h_le1 => ?_) (fun h_gt1 => ?_)
              · refine vv_iconst (v := 0) C dX9_isBehind_106 (by decide) ?_
                exact vv_zret0 C hR dX9_isBehind_107 (qI_of (by rw [bh_ahd hw hb]; simp [bI, bhS, sgB, h_z0, h_nz1, h_u1, h_le1]) rfl)
              · refine vv_iconst (v := 1) C dX9_isBehind_102 (by decide) ?_
                refine vv_goto C 107 dX9_isBehind_103 (by decide) ?_
                exact vv_zret1 C hR dX9_isBehind_107 (qI_of (by rw [bh_ahd hw hb]; simp [bI, bhS, sgB, h_z0, h_nz1, h_u1, h_gt1]) rfl)
            · refine vv_iload C 7 dX9_isBehind_84 rfl ?_
              refine vv_if_ge C 93 dX9_isBehind_86 (by decide) (fun h_g1 => ?_) (fun h_l1 => ?_)
              · refine vv_iconst (v := 0) C dX9_isBehind_93 (by decide) ?_
                refine vv_goto C 107 dX9_isBehind_94 (by decide) ?_
                exact vv_zret0 C hR dX9_isBehind_107 (qI_of (by rw [bh_ahd hw hb]; simp [bI, bhS, sgB, h_z0, h_nz1, h_d1, h_g1]) rfl)
              · refine vv_iconst (v := 1) C dX9_isBehind_89 (by decide) ?_
                refine vv_goto C 107 dX9_isBehind_90 (by decide) ?_
                exact vv_zret1 C hR dX9_isBehind_107 (qI_of (by rw [bh_ahd hw hb]; simp [bI, bhS, sgB, h_z0, h_nz1, h_d1, h_l1]) rfl)
        · obtain ⟨c1, hc1, hce1⟩ : ∃ c, c < 8 ∧ V 127 = nI c := (hw.2.2.2.2.2.2 1 (by decide)).1.elim (fun z => absurd (show V 127 < 0 by rw [show V 127 = -1 from z]; decide) h_ge1) id
          refine vv_aload_n C 0 dX9_isBehind_28 rfl rfl ?_
          refine vv_iload C 6 dX9_isBehind_29 rfl ?_
          refine vv_callVI C [.int (V 127)] (c_X9_isAsked M V hV (cc := c1) hc1 (x := (V 127)) hce1) sh_145 rfl (cwV 1 C.1.2.2.2.2 gX9_isBehind_X9_isAsked rfl rfl rfl (by decide +kernel) ⟨Nat.le_of_ble_eq_true rfl, Nat.le_of_ble_eq_true rfl⟩) rfl rfl rfl (Nat.le_of_ble_eq_true rfl) dX9_isBehind_31 ⟨Nat.le_refl _, Nat.le_refl _⟩ ?_
          refine vv_bif_eq C 58 dX9_isBehind_34 (by decide) (fun h_na1 => ?_) (fun h_a1 => ?_)
          · refine vv_iconst (v := 0) C dX9_isBehind_58 (by decide) ?_
            refine vv_istore (ls2 := [some (.ref (G.1 145)), some (.int (nI f)), some (.int (nI g)), some (.int (nI o)), some (.int (nI w)), some (.int 1), some (.int (V 127)), some (.int 0)]) C 7 dX9_isBehind_59 (Nat.le_of_ble_eq_true rfl) rfl ?_
            have hby1 : 0 = byS V 1 f g o w := (by_na (k := 1) (fun z => h_na1 (by rw [← hce1]; exact z))).symm
            refine vv_loc (ls2 := [some (.ref (G.1 145)), some (.int (nI f)), some (.int (nI g)), some (.int (nI o)), some (.int (nI w)), some (.int 1), some (.int (V 127)), some (.int (byS V 1 f g o w))]) (by rw [hby1]) ?_
            refine vv_iload C 7 dX9_isBehind_61 rfl ?_
            refine vv_if_eq C 108 dX9_isBehind_63 (by decide) (fun h_z1 => ?_) (fun h_nz1 => ?_)
            · refine vv_iinc (v := 2) (ls2 := [some (.ref (G.1 145)), some (.int (nI f)), some (.int (nI g)), some (.int (nI o)), some (.int (nI w)), some (.int 2), some (.int (V 127)), some (.int (byS V 1 f g o w))]) C 5 dX9_isBehind_108 rfl (by decide) rfl ?_
              refine vv_goto C 3 dX9_isBehind_111 (by decide) ?_
              refine vv_iload C 5 dX9_isBehind_3 rfl ?_
              refine vv_iconst (v := 2) C dX9_isBehind_5 (by decide) ?_
              refine vv_icmp_ge C 114 dX9_isBehind_6 (by decide) (fun h_72 => ?_) (fun h_71 => absurd h_71 (by decide))
              refine vv_iconst (v := 0) C dX9_isBehind_114 (by decide) ?_
              exact vv_zret0 C hR dX9_isBehind_115 (qI_of (by rw [bh_ahd hw hb]; simp [bI, bhS, sgB, h_z0, h_z1]) rfl)
            · refine vv_aload_n C 0 dX9_isBehind_66 rfl rfl ?_
              refine vv_getr C (Cn := RX9) (T := TX9) (N := 13) sh_145 0 rfl rfl (by decide) iX9_isBehind_X9 (List.mem_of_getElem? (i := 1) rfl) rfl dX9_isBehind_67 ?_
              refine vv_bipush (v := 125) C dX9_isBehind_70 (by decide) ?_
              refine vv_iconst (v := 2) C dX9_isBehind_72 (by decide) ?_
              refine vv_iload C 5 dX9_isBehind_73 rfl ?_
              refine vv_imul C dX9_isBehind_75 ?_
              refine vv_iadd C dX9_isBehind_76 ?_
              refine vv_iconst (v := 1) C dX9_isBehind_77 (by decide) ?_
              refine vv_iadd C dX9_isBehind_78 ?_
              refine vv_ald (j := 128) (q := 2128) C sh_146 (by decide) (by decide) rfl dX9_isBehind_79 ?_
              refine vv_top (y := V 128) (hV 128 (by decide)) ?_
              refine vv_iconst (v := 1) C dX9_isBehind_80 (by decide) ?_
              refine vv_icmp_ne C 97 dX9_isBehind_81 (by decide) (fun h_u1 => ?_) (fun h_d1 => ?_)
              · refine vv_iload C 7 dX9_isBehind_97 rfl ?_
                refine vv_if_le C 106 dX9_isBehind_99 (by decide) (fun h_le1 => ?_) (fun h_gt1 => ?_)
                · refine vv_iconst (v := 0) C dX9_isBehind_106 (by decide) ?_
                  exact vv_zret0 C hR dX9_isBehind_107 (qI_of (by rw [bh_ahd hw hb]; simp [bI, bhS, sgB, h_z0, h_nz1, h_u1, h_le1]) rfl)
                · refine vv_iconst (v := 1) C dX9_isBehind_102 (by decide) ?_
                  refine vv_goto C 107 dX9_isBehind_103 (by decide) ?_
                  exact vv_zret1 C hR dX9_isBehind_107 (qI_of (by rw [bh_ahd hw hb]; simp [bI, bhS, sgB, h_z0, h_nz1, h_u1, h_gt1]) rfl)
              · refine vv_iload C 7 dX9_isBehind_84 rfl ?_
                refine vv_if_ge C 93 dX9_isBehind_86 (by decide) (fun h_g1 => ?_) (fun h_l1 => ?_)
                · refine vv_iconst (v := 0) C dX9_isBehind_93 (by decide) ?_
                  refine vv_goto C 107 dX9_isBehind_94 (by decide) ?_
                  exact vv_zret0 C hR dX9_isBehind_107 (qI_of (by rw [bh_ahd hw hb]; simp [bI, bhS, sgB, h_z0, h_nz1, h_d1, h_g1]) rfl)
                · refine vv_iconst (v := 1) C dX9_isBehind_89 (by decide) ?_
                  refine vv_goto C 107 dX9_isBehind_90 (by decide) ?_
                  exact vv_zret1 C hR dX9_isBehind_107 (qI_of (by rw [bh_ahd hw hb]; simp [bI, bhS, sgB, h_z0, h_nz1, h_d1, h_l1]) rfl)
          · refine vv_aload_n C 0 dX9_isBehind_37 rfl rfl ?_
            refine vv_iload_n C 1 dX9_isBehind_38 rfl rfl ?_
            refine vv_iload_n C 2 dX9_isBehind_39 rfl rfl ?_
            refine vv_iload C 6 dX9_isBehind_40 rfl ?_
            refine vv_callVI C [.int (nI f), .int (nI g), .int (V 127)] (c_X9_at M V hV (f := f) (g := g) (cc := c1) ⟨hb.1, hb.2.1, hc1⟩ (x := (nI f)) (y := (nI g)) (z := (V 127)) rfl rfl hce1) sh_145 rfl (cwV 3 C.1.2.2.2.2 gX9_isBehind_X9_at rfl rfl rfl (by decide +kernel) ⟨Nat.le_of_ble_eq_true rfl, Nat.le_of_ble_eq_true rfl⟩) rfl rfl rfl (Nat.le_of_ble_eq_true rfl) dX9_isBehind_42 ⟨Nat.le_refl _, Nat.le_refl _⟩ ?_
            refine vv_aload_n C 0 dX9_isBehind_45 rfl rfl ?_
            refine vv_iload_n C 3 dX9_isBehind_46 rfl rfl ?_
            refine vv_iload C 4 dX9_isBehind_47 rfl ?_
            refine vv_iload C 6 dX9_isBehind_49 rfl ?_
            refine vv_callVI C [.int (nI o), .int (nI w), .int (V 127)] (c_X9_at M V hV (f := o) (g := w) (cc := c1) ⟨hb.2.2.1, hb.2.2.2, hc1⟩ (x := (nI o)) (y := (nI w)) (z := (V 127)) rfl rfl hce1) sh_145 rfl (cwV 3 C.1.2.2.2.2 gX9_isBehind_X9_at rfl rfl rfl (by decide +kernel) ⟨Nat.le_of_ble_eq_true rfl, Nat.le_of_ble_eq_true rfl⟩) rfl rfl rfl (Nat.le_of_ble_eq_true rfl) dX9_isBehind_51 ⟨Nat.le_refl _, Nat.le_refl _⟩ ?_
            refine vv_isub C dX9_isBehind_54 ?_
            refine vv_goto C 59 dX9_isBehind_55 (by decide) ?_
            refine vv_istore (ls2 := [some (.ref (G.1 145)), some (.int (nI f)), some (.int (nI g)), some (.int (nI o)), some (.int (nI w)), some (.int 1), some (.int (V 127)), some (.int ((vS V c1 f g) - (vS V c1 o w)))]) C 7 dX9_isBehind_59 (Nat.le_of_ble_eq_true rfl) rfl ?_
            have hby1 : (vS V c1 f g) - (vS V c1 o w) = byS V 1 f g o w := (by_a (k := 1) hce1 hc1 h_a1).symm
            refine vv_loc (ls2 := [some (.ref (G.1 145)), some (.int (nI f)), some (.int (nI g)), some (.int (nI o)), some (.int (nI w)), some (.int 1), some (.int (V 127)), some (.int (byS V 1 f g o w))]) (by rw [hby1]) ?_
            refine vv_iload C 7 dX9_isBehind_61 rfl ?_
            refine vv_if_eq C 108 dX9_isBehind_63 (by decide) (fun h_z1 => ?_) (fun h_nz1 => ?_)
            · refine vv_iinc (v := 2) (ls2 := [some (.ref (G.1 145)), some (.int (nI f)), some (.int (nI g)), some (.int (nI o)), some (.int (nI w)), some (.int 2), some (.int (V 127)), some (.int (byS V 1 f g o w))]) C 5 dX9_isBehind_108 rfl (by decide) rfl ?_
              refine vv_goto C 3 dX9_isBehind_111 (by decide) ?_
              refine vv_iload C 5 dX9_isBehind_3 rfl ?_
              refine vv_iconst (v := 2) C dX9_isBehind_5 (by decide) ?_
              refine vv_icmp_ge C 114 dX9_isBehind_6 (by decide) (fun h_82 => ?_) (fun h_81 => absurd h_81 (by decide))
              refine vv_iconst (v := 0) C dX9_isBehind_114 (by decide) ?_
              exact vv_zret0 C hR dX9_isBehind_115 (qI_of (by rw [bh_ahd hw hb]; simp [bI, bhS, sgB, h_z0, h_z1]) rfl)
            · refine vv_aload_n C 0 dX9_isBehind_66 rfl rfl ?_
              refine vv_getr C (Cn := RX9) (T := TX9) (N := 13) sh_145 0 rfl rfl (by decide) iX9_isBehind_X9 (List.mem_of_getElem? (i := 1) rfl) rfl dX9_isBehind_67 ?_
              refine vv_bipush (v := 125) C dX9_isBehind_70 (by decide) ?_
              refine vv_iconst (v := 2) C dX9_isBehind_72 (by decide) ?_
              refine vv_iload C 5 dX9_isBehind_73 rfl ?_
              refine vv_imul C dX9_isBehind_75 ?_
              refine vv_iadd C dX9_isBehind_76 ?_
              refine vv_iconst (v := 1) C dX9_isBehind_77 (by decide) ?_
              refine vv_iadd C dX9_isBehind_78 ?_
              refine vv_ald (j := 128) (q := 2128) C sh_146 (by decide) (by decide) rfl dX9_isBehind_79 ?_
              refine vv_top (y := V 128) (hV 128 (by decide)) ?_
              refine vv_iconst (v := 1) C dX9_isBehind_80 (by decide) ?_
              refine vv_icmp_ne C 97 dX9_isBehind_81 (by decide) (fun h_u1 => ?_) (fun h_d1 => ?_)
              · refine vv_iload C 7 dX9_isBehind_97 rfl ?_
                refine vv_if_le C 106 dX9_isBehind_99 (by decide) (fun h_le1 => ?_) (fun h_gt1 => ?_)
                · refine vv_iconst (v := 0) C dX9_isBehind_106 (by decide) ?_
                  exact vv_zret0 C hR dX9_isBehind_107 (qI_of (by rw [bh_ahd hw hb]; simp [bI, bhS, sgB, h_z0, h_nz1, h_u1, h_le1]) rfl)
                · refine vv_iconst (v := 1) C dX9_isBehind_102 (by decide) ?_
                  refine vv_goto C 107 dX9_isBehind_103 (by decide) ?_
                  exact vv_zret1 C hR dX9_isBehind_107 (qI_of (by rw [bh_ahd hw hb]; simp [bI, bhS, sgB, h_z0, h_nz1, h_u1, h_gt1]) rfl)
              · refine vv_iload C 7 dX9_isBehind_84 rfl ?_
                refine vv_if_ge C 93 dX9_isBehind_86 (by decide) (fun h_g1 => ?_) (fun h_l1 => ?_)
                · refine vv_iconst (v := 0) C dX9_isBehind_93 (by decide) ?_
                  refine vv_goto C 107 dX9_isBehind_94 (by decide) ?_
                  exact vv_zret0 C hR dX9_isBehind_107 (qI_of (by rw [bh_ahd hw hb]; simp [bI, bhS, sgB, h_z0, h_nz1, h_d1, h_g1]) rfl)
                · refine vv_iconst (v := 1) C dX9_isBehind_89 (by decide) ?_
                  refine vv_goto C 107 dX9_isBehind_90 (by decide) ?_
                  exact vv_zret1 C hR dX9_isBehind_107 (qI_of (by rw [bh_ahd hw hb]; simp [bI, bhS, sgB, h_z0, h_nz1, h_d1, h_l1]) rfl)
      · refine vv_aload_n C 0 dX9_isBehind_66 rfl rfl ?_
        refine vv_getr C (Cn := RX9) (T := TX9) (N := 13) sh_145 0 rfl rfl (by decide) iX9_isBehind_X9 (List.mem_of_getElem? (i := 1) rfl) rfl dX9_isBehind_67 ?_
        refine vv_bipush (v := 125) C dX9_isBehind_70 (by decide) ?_
        refine vv_iconst (v := 2) C dX9_isBehind_72 (by decide) ?_
        refine vv_iload C 5 dX9_isBehind_73 rfl ?_
        refine vv_imul C dX9_isBehind_75 ?_
        refine vv_iadd C dX9_isBehind_76 ?_
        refine vv_iconst (v := 1) C dX9_isBehind_77 (by decide) ?_
        refine vv_iadd C dX9_isBehind_78 ?_
        refine vv_ald (j := 126) (q := 2126) C sh_146 (by decide) (by decide) rfl dX9_isBehind_79 ?_
        refine vv_top (y := V 126) (hV 126 (by decide)) ?_
        refine vv_iconst (v := 1) C dX9_isBehind_80 (by decide) ?_
        refine vv_icmp_ne C 97 dX9_isBehind_81 (by decide) (fun h_u0 => ?_) (fun h_d0 => ?_)
        · refine vv_iload C 7 dX9_isBehind_97 rfl ?_
          refine vv_if_le C 106 dX9_isBehind_99 (by decide) (fun h_le0 => ?_) (fun h_gt0 => ?_)
          · refine vv_iconst (v := 0) C dX9_isBehind_106 (by decide) ?_
            exact vv_zret0 C hR dX9_isBehind_107 (qI_of (by rw [bh_ahd hw hb]; simp [bI, bhS, sgB, h_nz0, h_u0, h_le0]) rfl)
          · refine vv_iconst (v := 1) C dX9_isBehind_102 (by decide) ?_
            refine vv_goto C 107 dX9_isBehind_103 (by decide) ?_
            exact vv_zret1 C hR dX9_isBehind_107 (qI_of (by rw [bh_ahd hw hb]; simp [bI, bhS, sgB, h_nz0, h_u0, h_gt0]) rfl)
        · refine vv_iload C 7 dX9_isBehind_84 rfl ?_
          refine vv_if_ge C 93 dX9_isBehind_86 (by decide) (fun h_g0 => ?_) (fun h_l0 => ?_)
          · refine vv_iconst (v := 0) C dX9_isBehind_93 (by decide) ?_
            refine vv_goto C 107 dX9_isBehind_94 (by decide) ?_
            exact vv_zret0 C hR dX9_isBehind_107 (qI_of (by rw [bh_ahd hw hb]; simp [bI, bhS, sgB, h_nz0, h_d0, h_g0]) rfl)
          · refine vv_iconst (v := 1) C dX9_isBehind_89 (by decide) ?_
            refine vv_goto C 107 dX9_isBehind_90 (by decide) ?_
            exact vv_zret1 C hR dX9_isBehind_107 (qI_of (by rw [bh_ahd hw hb]; simp [bI, bhS, sgB, h_nz0, h_d0, h_l0]) rfl)
    · refine vv_aload_n C 0 dX9_isBehind_37 rfl rfl ?_
      refine vv_iload_n C 1 dX9_isBehind_38 rfl rfl ?_
      refine vv_iload_n C 2 dX9_isBehind_39 rfl rfl ?_
      refine vv_iload C 6 dX9_isBehind_40 rfl ?_
      refine vv_callVI C [.int (nI f), .int (nI g), .int (V 125)] (c_X9_at M V hV (f := f) (g := g) (cc := c0) ⟨hb.1, hb.2.1, hc0⟩ (x := (nI f)) (y := (nI g)) (z := (V 125)) rfl rfl hce0) sh_145 rfl (cwV 3 C.1.2.2.2.2 gX9_isBehind_X9_at rfl rfl rfl (by decide +kernel) ⟨Nat.le_of_ble_eq_true rfl, Nat.le_of_ble_eq_true rfl⟩) rfl rfl rfl (Nat.le_of_ble_eq_true rfl) dX9_isBehind_42 ⟨Nat.le_refl _, Nat.le_refl _⟩ ?_
      refine vv_aload_n C 0 dX9_isBehind_45 rfl rfl ?_
      refine vv_iload_n C 3 dX9_isBehind_46 rfl rfl ?_
      refine vv_iload C 4 dX9_isBehind_47 rfl ?_
      refine vv_iload C 6 dX9_isBehind_49 rfl ?_
      refine vv_callVI C [.int (nI o), .int (nI w), .int (V 125)] (c_X9_at M V hV (f := o) (g := w) (cc := c0) ⟨hb.2.2.1, hb.2.2.2, hc0⟩ (x := (nI o)) (y := (nI w)) (z := (V 125)) rfl rfl hce0) sh_145 rfl (cwV 3 C.1.2.2.2.2 gX9_isBehind_X9_at rfl rfl rfl (by decide +kernel) ⟨Nat.le_of_ble_eq_true rfl, Nat.le_of_ble_eq_true rfl⟩) rfl rfl rfl (Nat.le_of_ble_eq_true rfl) dX9_isBehind_51 ⟨Nat.le_refl _, Nat.le_refl _⟩ ?_
      refine vv_isub C dX9_isBehind_54 ?_
      refine vv_goto C 59 dX9_isBehind_55 (by decide) ?_
      refine vv_istore (ls2 := [some (.ref (G.1 145)), some (.int (nI f)), some (.int (nI g)), some (.int (nI o)), some (.int (nI w)), some (.int 0), some (.int (V 125)), some (.int ((vS V c0 f g) - (vS V c0 o w)))]) C 7 dX9_isBehind_59 (Nat.le_of_ble_eq_true rfl) rfl ?_
      have hby0 : (vS V c0 f g) - (vS V c0 o w) = byS V 0 f g o w := (by_a (k := 0) hce0 hc0 h_a0).symm
      refine vv_loc (ls2 := [some (.ref (G.1 145)), some (.int (nI f)), some (.int (nI g)), some (.int (nI o)), some (.int (nI w)), some (.int 0), some (.int (V 125)), some (.int (byS V 0 f g o w))]) (by rw [hby0]) ?_
      refine vv_iload C 7 dX9_isBehind_61 rfl ?_
      refine vv_if_eq C 108 dX9_isBehind_63 (by decide) (fun h_z0 => ?_) (fun h_nz0 => ?_)
      · refine vv_iinc (v := 1) (ls2 := [some (.ref (G.1 145)), some (.int (nI f)), some (.int (nI g)), some (.int (nI o)), some (.int (nI w)), some (.int 1), some (.int (V 125)), some (.int (byS V 0 f g o w))]) C 5 dX9_isBehind_108 rfl (by decide) rfl ?_
        refine vv_goto C 3 dX9_isBehind_111 (by decide) ?_
        refine vv_iload C 5 dX9_isBehind_3 rfl ?_
        refine vv_iconst (v := 2) C dX9_isBehind_5 (by decide) ?_
        refine vv_icmp_ge C 114 dX9_isBehind_6 (by decide) (fun h_97 => absurd h_97 (by decide)) (fun h_98 => ?_)
        refine vv_aload_n C 0 dX9_isBehind_9 rfl rfl ?_
        refine vv_getr C (Cn := RX9) (T := TX9) (N := 13) sh_145 0 rfl rfl (by decide) iX9_isBehind_X9 (List.mem_of_getElem? (i := 1) rfl) rfl dX9_isBehind_10 ?_
        refine vv_bipush (v := 125) C dX9_isBehind_13 (by decide) ?_
        refine vv_iconst (v := 2) C dX9_isBehind_15 (by decide) ?_
        refine vv_iload C 5 dX9_isBehind_16 rfl ?_
        refine vv_imul C dX9_isBehind_18 ?_
        refine vv_iadd C dX9_isBehind_19 ?_
        refine vv_ald (j := 127) (q := 2127) C sh_146 (by decide) (by decide) rfl dX9_isBehind_20 ?_
        refine vv_top (y := V 127) (hV 127 (by decide)) ?_
        refine vv_istore (ls2 := [some (.ref (G.1 145)), some (.int (nI f)), some (.int (nI g)), some (.int (nI o)), some (.int (nI w)), some (.int 1), some (.int (V 127)), some (.int (byS V 0 f g o w))]) C 6 dX9_isBehind_21 (Nat.le_of_ble_eq_true rfl) rfl ?_
        refine vv_iload C 6 dX9_isBehind_23 rfl ?_
        refine vv_if_lt C 58 dX9_isBehind_25 (by decide) (fun h_lt1 => ?_) (fun h_ge1 => ?_)
        · refine vv_iconst (v := 0) C dX9_isBehind_58 (by decide) ?_
          refine vv_istore (ls2 := [some (.ref (G.1 145)), some (.int (nI f)), some (.int (nI g)), some (.int (nI o)), some (.int (nI w)), some (.int 1), some (.int (V 127)), some (.int 0)]) C 7 dX9_isBehind_59 (Nat.le_of_ble_eq_true rfl) rfl ?_
          have hby1 : 0 = byS V 1 f g o w := (by_na (k := 1) (ask_neg h_lt1)).symm
          refine vv_loc (ls2 := [some (.ref (G.1 145)), some (.int (nI f)), some (.int (nI g)), some (.int (nI o)), some (.int (nI w)), some (.int 1), some (.int (V 127)), some (.int (byS V 1 f g o w))]) (by rw [hby1]) ?_
          refine vv_iload C 7 dX9_isBehind_61 rfl ?_
          refine vv_if_eq C 108 dX9_isBehind_63 (by decide) (fun h_z1 => ?_) (fun h_nz1 => ?_)
          · refine vv_iinc (v := 2) (ls2 := [some (.ref (G.1 145)), some (.int (nI f)), some (.int (nI g)), some (.int (nI o)), some (.int (nI w)), some (.int 2), some (.int (V 127)), some (.int (byS V 1 f g o w))]) C 5 dX9_isBehind_108 rfl (by decide) rfl ?_
            refine vv_goto C 3 dX9_isBehind_111 (by decide) ?_
            refine vv_iload C 5 dX9_isBehind_3 rfl ?_
            refine vv_iconst (v := 2) C dX9_isBehind_5 (by decide) ?_
            refine vv_icmp_ge C 114 dX9_isBehind_6 (by decide) (fun h_104 => ?_) (fun h_103 => absurd h_103 (by decide))
            refine vv_iconst (v := 0) C dX9_isBehind_114 (by decide) ?_
            exact vv_zret0 C hR dX9_isBehind_115 (qI_of (by rw [bh_ahd hw hb]; simp [bI, bhS, sgB, h_z0, h_z1]) rfl)
          · refine vv_aload_n C 0 dX9_isBehind_66 rfl rfl ?_
            refine vv_getr C (Cn := RX9) (T := TX9) (N := 13) sh_145 0 rfl rfl (by decide) iX9_isBehind_X9 (List.mem_of_getElem? (i := 1) rfl) rfl dX9_isBehind_67 ?_
            refine vv_bipush (v := 125) C dX9_isBehind_70 (by decide) ?_
            refine vv_iconst (v := 2) C dX9_isBehind_72 (by decide) ?_
            refine vv_iload C 5 dX9_isBehind_73 rfl ?_
            refine vv_imul C dX9_isBehind_75 ?_
            refine vv_iadd C dX9_isBehind_76 ?_
            refine vv_iconst (v := 1) C dX9_isBehind_77 (by decide) ?_
            refine vv_iadd C dX9_isBehind_78 ?_
            refine vv_ald (j := 128) (q := 2128) C sh_146 (by decide) (by decide) rfl dX9_isBehind_79 ?_
            refine vv_top (y := V 128) (hV 128 (by decide)) ?_
            refine vv_iconst (v := 1) C dX9_isBehind_80 (by decide) ?_
            refine vv_icmp_ne C 97 dX9_isBehind_81 (by decide) (fun h_u1 => ?_) (fun h_d1 => ?_)
            · refine vv_iload C 7 dX9_isBehind_97 rfl ?_
              refine vv_if_le C 106 dX9_isBehind_99 (by decide) (fun h_le1 => ?_) (fun h_gt1 => ?_)
              · refine vv_iconst (v := 0) C dX9_isBehind_106 (by decide) ?_
                exact vv_zret0 C hR dX9_isBehind_107 (qI_of (by rw [bh_ahd hw hb]; simp [bI, bhS, sgB, h_z0, h_nz1, h_u1, h_le1]) rfl)
              · refine vv_iconst (v := 1) C dX9_isBehind_102 (by decide) ?_
                refine vv_goto C 107 dX9_isBehind_103 (by decide) ?_
                exact vv_zret1 C hR dX9_isBehind_107 (qI_of (by rw [bh_ahd hw hb]; simp [bI, bhS, sgB, h_z0, h_nz1, h_u1, h_gt1]) rfl)
            · refine vv_iload C 7 dX9_isBehind_84 rfl ?_
              refine vv_if_ge C 93 dX9_isBehind_86 (by decide) (fun h_g1 => ?_) (fun h_l1 => ?_)
              · refine vv_iconst (v := 0) C dX9_isBehind_93 (by decide) ?_
                refine vv_goto C 107 dX9_isBehind_94 (by decide) ?_
                exact vv_zret0 C hR dX9_isBehind_107 (qI_of (by rw [bh_ahd hw hb]; simp [bI, bhS, sgB, h_z0, h_nz1, h_d1, h_g1]) rfl)
              · refine vv_iconst (v := 1) C dX9_isBehind_89 (by decide) ?_
                refine vv_goto C 107 dX9_isBehind_90 (by decide) ?_
                exact vv_zret1 C hR dX9_isBehind_107 (qI_of (by rw [bh_ahd hw hb]; simp [bI, bhS, sgB, h_z0, h_nz1, h_d1, h_l1]) rfl)
        · obtain ⟨c1, hc1, hce1⟩ : ∃ c, c < 8 ∧ V 127 = nI c := (hw.2.2.2.2.2.2 1 (by decide)).1.elim (fun z => absurd (show V 127 < 0 by rw [show V 127 = -1 from z]; decide) h_ge1) id
          refine vv_aload_n C 0 dX9_isBehind_28 rfl rfl ?_
          refine vv_iload C 6 dX9_isBehind_29 rfl ?_
          refine vv_callVI C [.int (V 127)] (c_X9_isAsked M V hV (cc := c1) hc1 (x := (V 127)) hce1) sh_145 rfl (cwV 1 C.1.2.2.2.2 gX9_isBehind_X9_isAsked rfl rfl rfl (by decide +kernel) ⟨Nat.le_of_ble_eq_true rfl, Nat.le_of_ble_eq_true rfl⟩) rfl rfl rfl (Nat.le_of_ble_eq_true rfl) dX9_isBehind_31 ⟨Nat.le_refl _, Nat.le_refl _⟩ ?_
          refine vv_bif_eq C 58 dX9_isBehind_34 (by decide) (fun h_na1 => ?_) (fun h_a1 => ?_)
          · refine vv_iconst (v := 0) C dX9_isBehind_58 (by decide) ?_
            refine vv_istore (ls2 := [some (.ref (G.1 145)), some (.int (nI f)), some (.int (nI g)), some (.int (nI o)), some (.int (nI w)), some (.int 1), some (.int (V 127)), some (.int 0)]) C 7 dX9_isBehind_59 (Nat.le_of_ble_eq_true rfl) rfl ?_
            have hby1 : 0 = byS V 1 f g o w := (by_na (k := 1) (fun z => h_na1 (by rw [← hce1]; exact z))).symm
            refine vv_loc (ls2 := [some (.ref (G.1 145)), some (.int (nI f)), some (.int (nI g)), some (.int (nI o)), some (.int (nI w)), some (.int 1), some (.int (V 127)), some (.int (byS V 1 f g o w))]) (by rw [hby1]) ?_
            refine vv_iload C 7 dX9_isBehind_61 rfl ?_
            refine vv_if_eq C 108 dX9_isBehind_63 (by decide) (fun h_z1 => ?_) (fun h_nz1 => ?_)
            · refine vv_iinc (v := 2) (ls2 := [some (.ref (G.1 145)), some (.int (nI f)), some (.int (nI g)), some (.int (nI o)), some (.int (nI w)), some (.int 2), some (.int (V 127)), some (.int (byS V 1 f g o w))]) C 5 dX9_isBehind_108 rfl (by decide) rfl ?_
              refine vv_goto C 3 dX9_isBehind_111 (by decide) ?_
              refine vv_iload C 5 dX9_isBehind_3 rfl ?_
              refine vv_iconst (v := 2) C dX9_isBehind_5 (by decide) ?_
              refine vv_icmp_ge C 114 dX9_isBehind_6 (by decide) (fun h_116 => ?_) (fun h_115 => absurd h_115 (by decide))
              refine vv_iconst (v := 0) C dX9_isBehind_114 (by decide) ?_
              exact vv_zret0 C hR dX9_isBehind_115 (qI_of (by rw [bh_ahd hw hb]; simp [bI, bhS, sgB, h_z0, h_z1]) rfl)
            · refine vv_aload_n C 0 dX9_isBehind_66 rfl rfl ?_
              refine vv_getr C (Cn := RX9) (T := TX9) (N := 13) sh_145 0 rfl rfl (by decide) iX9_isBehind_X9 (List.mem_of_getElem? (i := 1) rfl) rfl dX9_isBehind_67 ?_
              refine vv_bipush (v := 125) C dX9_isBehind_70 (by decide) ?_
              refine vv_iconst (v := 2) C dX9_isBehind_72 (by decide) ?_
              refine vv_iload C 5 dX9_isBehind_73 rfl ?_
              refine vv_imul C dX9_isBehind_75 ?_
              refine vv_iadd C dX9_isBehind_76 ?_
              refine vv_iconst (v := 1) C dX9_isBehind_77 (by decide) ?_
              refine vv_iadd C dX9_isBehind_78 ?_
              refine vv_ald (j := 128) (q := 2128) C sh_146 (by decide) (by decide) rfl dX9_isBehind_79 ?_
              refine vv_top (y := V 128) (hV 128 (by decide)) ?_
              refine vv_iconst (v := 1) C dX9_isBehind_80 (by decide) ?_
              refine vv_icmp_ne C 97 dX9_isBehind_81 (by decide) (fun h_u1 => ?_) (fun h_d1 => ?_)
              · refine vv_iload C 7 dX9_isBehind_97 rfl ?_
                refine vv_if_le C 106 dX9_isBehind_99 (by decide) (fun h_le1 => ?_) (fun h_gt1 => ?_)
                · refine vv_iconst (v := 0) C dX9_isBehind_106 (by decide) ?_
                  exact vv_zret0 C hR dX9_isBehind_107 (qI_of (by rw [bh_ahd hw hb]; simp [bI, bhS, sgB, h_z0, h_nz1, h_u1, h_le1]) rfl)
                · refine vv_iconst (v := 1) C dX9_isBehind_102 (by decide) ?_
                  refine vv_goto C 107 dX9_isBehind_103 (by decide) ?_
                  exact vv_zret1 C hR dX9_isBehind_107 (qI_of (by rw [bh_ahd hw hb]; simp [bI, bhS, sgB, h_z0, h_nz1, h_u1, h_gt1]) rfl)
              · refine vv_iload C 7 dX9_isBehind_84 rfl ?_
                refine vv_if_ge C 93 dX9_isBehind_86 (by decide) (fun h_g1 => ?_) (fun h_l1 => ?_)
                · refine vv_iconst (v := 0) C dX9_isBehind_93 (by decide) ?_
                  refine vv_goto C 107 dX9_isBehind_94 (by decide) ?_
                  exact vv_zret0 C hR dX9_isBehind_107 (qI_of (by rw [bh_ahd hw hb]; simp [bI, bhS, sgB, h_z0, h_nz1, h_d1, h_g1]) rfl)
                · refine vv_iconst (v := 1) C dX9_isBehind_89 (by decide) ?_
                  refine vv_goto C 107 dX9_isBehind_90 (by decide) ?_
                  exact vv_zret1 C hR dX9_isBehind_107 (qI_of (by rw [bh_ahd hw hb]; simp [bI, bhS, sgB, h_z0, h_nz1, h_d1, h_l1]) rfl)
          · refine vv_aload_n C 0 dX9_isBehind_37 rfl rfl ?_
            refine vv_iload_n C 1 dX9_isBehind_38 rfl rfl ?_
            refine vv_iload_n C 2 dX9_isBehind_39 rfl rfl ?_
            refine vv_iload C 6 dX9_isBehind_40 rfl ?_
            refine vv_callVI C [.int (nI f), .int (nI g), .int (V 127)] (c_X9_at M V hV (f := f) (g := g) (cc := c1) ⟨hb.1, hb.2.1, hc1⟩ (x := (nI f)) (y := (nI g)) (z := (V 127)) rfl rfl hce1) sh_145 rfl (cwV 3 C.1.2.2.2.2 gX9_isBehind_X9_at rfl rfl rfl (by decide +kernel) ⟨Nat.le_of_ble_eq_true rfl, Nat.le_of_ble_eq_true rfl⟩) rfl rfl rfl (Nat.le_of_ble_eq_true rfl) dX9_isBehind_42 ⟨Nat.le_refl _, Nat.le_refl _⟩ ?_
            refine vv_aload_n C 0 dX9_isBehind_45 rfl rfl ?_
            refine vv_iload_n C 3 dX9_isBehind_46 rfl rfl ?_
            refine vv_iload C 4 dX9_isBehind_47 rfl ?_
            refine vv_iload C 6 dX9_isBehind_49 rfl ?_
            refine vv_callVI C [.int (nI o), .int (nI w), .int (V 127)] (c_X9_at M V hV (f := o) (g := w) (cc := c1) ⟨hb.2.2.1, hb.2.2.2, hc1⟩ (x := (nI o)) (y := (nI w)) (z := (V 127)) rfl rfl hce1) sh_145 rfl (cwV 3 C.1.2.2.2.2 gX9_isBehind_X9_at rfl rfl rfl (by decide +kernel) ⟨Nat.le_of_ble_eq_true rfl, Nat.le_of_ble_eq_true rfl⟩) rfl rfl rfl (Nat.le_of_ble_eq_true rfl) dX9_isBehind_51 ⟨Nat.le_refl _, Nat.le_refl _⟩ ?_
            refine vv_isub C dX9_isBehind_54 ?_
            refine vv_goto C 59 dX9_isBehind_55 (by decide) ?_
            refine vv_istore (ls2 := [some (.ref (G.1 145)), some (.int (nI f)), some (.int (nI g)), some (.int (nI o)), some (.int (nI w)), some (.int 1), some (.int (V 127)), some (.int ((vS V c1 f g) - (vS V c1 o w)))]) C 7 dX9_isBehind_59 (Nat.le_of_ble_eq_true rfl) rfl ?_
            have hby1 : (vS V c1 f g) - (vS V c1 o w) = byS V 1 f g o w := (by_a (k := 1) hce1 hc1 h_a1).symm
            refine vv_loc (ls2 := [some (.ref (G.1 145)), some (.int (nI f)), some (.int (nI g)), some (.int (nI o)), some (.int (nI w)), some (.int 1), some (.int (V 127)), some (.int (byS V 1 f g o w))]) (by rw [hby1]) ?_
            refine vv_iload C 7 dX9_isBehind_61 rfl ?_
            refine vv_if_eq C 108 dX9_isBehind_63 (by decide) (fun h_z1 => ?_) (fun h_nz1 => ?_)
            · refine vv_iinc (v := 2) (ls2 := [some (.ref (G.1 145)), some (.int (nI f)), some (.int (nI g)), some (.int (nI o)), some (.int (nI w)), some (.int 2), some (.int (V 127)), some (.int (byS V 1 f g o w))]) C 5 dX9_isBehind_108 rfl (by decide) rfl ?_
              refine vv_goto C 3 dX9_isBehind_111 (by decide) ?_
              refine vv_iload C 5 dX9_isBehind_3 rfl ?_
              refine vv_iconst (v := 2) C dX9_isBehind_5 (by decide) ?_
              refine vv_icmp_ge C 114 dX9_isBehind_6 (by decide) (fun h_126 => ?_) (fun h_125 => absurd h_125 (by decide))
              refine vv_iconst (v := 0) C dX9_isBehind_114 (by decide) ?_
              exact vv_zret0 C hR dX9_isBehind_115 (qI_of (by rw [bh_ahd hw hb]; simp [bI, bhS, sgB, h_z0, h_z1]) rfl)
            · refine vv_aload_n C 0 dX9_isBehind_66 rfl rfl ?_
              refine vv_getr C (Cn := RX9) (T := TX9) (N := 13) sh_145 0 rfl rfl (by decide) iX9_isBehind_X9 (List.mem_of_getElem? (i := 1) rfl) rfl dX9_isBehind_67 ?_
              refine vv_bipush (v := 125) C dX9_isBehind_70 (by decide) ?_
              refine vv_iconst (v := 2) C dX9_isBehind_72 (by decide) ?_
              refine vv_iload C 5 dX9_isBehind_73 rfl ?_
              refine vv_imul C dX9_isBehind_75 ?_
              refine vv_iadd C dX9_isBehind_76 ?_
              refine vv_iconst (v := 1) C dX9_isBehind_77 (by decide) ?_
              refine vv_iadd C dX9_isBehind_78 ?_
              refine vv_ald (j := 128) (q := 2128) C sh_146 (by decide) (by decide) rfl dX9_isBehind_79 ?_
              refine vv_top (y := V 128) (hV 128 (by decide)) ?_
              refine vv_iconst (v := 1) C dX9_isBehind_80 (by decide) ?_
              refine vv_icmp_ne C 97 dX9_isBehind_81 (by decide) (fun h_u1 => ?_) (fun h_d1 => ?_)
              · refine vv_iload C 7 dX9_isBehind_97 rfl ?_
                refine vv_if_le C 106 dX9_isBehind_99 (by decide) (fun h_le1 => ?_) (fun h_gt1 => ?_)
                · refine vv_iconst (v := 0) C dX9_isBehind_106 (by decide) ?_
                  exact vv_zret0 C hR dX9_isBehind_107 (qI_of (by rw [bh_ahd hw hb]; simp [bI, bhS, sgB, h_z0, h_nz1, h_u1, h_le1]) rfl)
                · refine vv_iconst (v := 1) C dX9_isBehind_102 (by decide) ?_
                  refine vv_goto C 107 dX9_isBehind_103 (by decide) ?_
                  exact vv_zret1 C hR dX9_isBehind_107 (qI_of (by rw [bh_ahd hw hb]; simp [bI, bhS, sgB, h_z0, h_nz1, h_u1, h_gt1]) rfl)
              · refine vv_iload C 7 dX9_isBehind_84 rfl ?_
                refine vv_if_ge C 93 dX9_isBehind_86 (by decide) (fun h_g1 => ?_) (fun h_l1 => ?_)
                · refine vv_iconst (v := 0) C dX9_isBehind_93 (by decide) ?_
                  refine vv_goto C 107 dX9_isBehind_94 (by decide) ?_
                  exact vv_zret0 C hR dX9_isBehind_107 (qI_of (by rw [bh_ahd hw hb]; simp [bI, bhS, sgB, h_z0, h_nz1, h_d1, h_g1]) rfl)
                · refine vv_iconst (v := 1) C dX9_isBehind_89 (by decide) ?_
                  refine vv_goto C 107 dX9_isBehind_90 (by decide) ?_
                  exact vv_zret1 C hR dX9_isBehind_107 (qI_of (by rw [bh_ahd hw hb]; simp [bI, bhS, sgB, h_z0, h_nz1, h_d1, h_l1]) rfl)
      · refine vv_aload_n C 0 dX9_isBehind_66 rfl rfl ?_
        refine vv_getr C (Cn := RX9) (T := TX9) (N := 13) sh_145 0 rfl rfl (by decide) iX9_isBehind_X9 (List.mem_of_getElem? (i := 1) rfl) rfl dX9_isBehind_67 ?_
        refine vv_bipush (v := 125) C dX9_isBehind_70 (by decide) ?_
        refine vv_iconst (v := 2) C dX9_isBehind_72 (by decide) ?_
        refine vv_iload C 5 dX9_isBehind_73 rfl ?_
        refine vv_imul C dX9_isBehind_75 ?_
        refine vv_iadd C dX9_isBehind_76 ?_
        refine vv_iconst (v := 1) C dX9_isBehind_77 (by decide) ?_
        refine vv_iadd C dX9_isBehind_78 ?_
        refine vv_ald (j := 126) (q := 2126) C sh_146 (by decide) (by decide) rfl dX9_isBehind_79 ?_
        refine vv_top (y := V 126) (hV 126 (by decide)) ?_
        refine vv_iconst (v := 1) C dX9_isBehind_80 (by decide) ?_
        refine vv_icmp_ne C 97 dX9_isBehind_81 (by decide) (fun h_u0 => ?_) (fun h_d0 => ?_)
        · refine vv_iload C 7 dX9_isBehind_97 rfl ?_
          refine vv_if_le C 106 dX9_isBehind_99 (by decide) (fun h_le0 => ?_) (fun h_gt0 => ?_)
          · refine vv_iconst (v := 0) C dX9_isBehind_106 (by decide) ?_
            exact vv_zret0 C hR dX9_isBehind_107 (qI_of (by rw [bh_ahd hw hb]; simp [bI, bhS, sgB, h_nz0, h_u0, h_le0]) rfl)
          · refine vv_iconst (v := 1) C dX9_isBehind_102 (by decide) ?_
            refine vv_goto C 107 dX9_isBehind_103 (by decide) ?_
            exact vv_zret1 C hR dX9_isBehind_107 (qI_of (by rw [bh_ahd hw hb]; simp [bI, bhS, sgB, h_nz0, h_u0, h_gt0]) rfl)
        · refine vv_iload C 7 dX9_isBehind_84 rfl ?_
          refine vv_if_ge C 93 dX9_isBehind_86 (by decide) (fun h_g0 => ?_) (fun h_l0 => ?_)
          · refine vv_iconst (v := 0) C dX9_isBehind_93 (by decide) ?_
            refine vv_goto C 107 dX9_isBehind_94 (by decide) ?_
            exact vv_zret0 C hR dX9_isBehind_107 (qI_of (by rw [bh_ahd hw hb]; simp [bI, bhS, sgB, h_nz0, h_d0, h_g0]) rfl)
          · refine vv_iconst (v := 1) C dX9_isBehind_89 (by decide) ?_
            refine vv_goto C 107 dX9_isBehind_90 (by decide) ?_
            exact vv_zret1 C hR dX9_isBehind_107 (qI_of (by rw [bh_ahd hw hb]; simp [bI, bhS, sgB, h_nz0, h_d0, h_l0]) rfl)
theorem iX9_lays_X9 : ∀ w ∈ u_ws RX9 TX9 13, w ∈ wsX9_lays := fun w hw => (List.mem_cons_of_mem _ (List.mem_append_right _ hw))
set_option maxRecDepth 100000 in
set_option maxHeartbeats 4000000 in
theorem lp_X9_lays {p : Program} {l : Launch} {e : Env} {s : State} {m : MethodId} {args : Array Value} {below : List Frame} {meth : Method} {c : Code} {G : mw_GG} {Q : State → Prop} (C : vv_C p s m args c G cX9_lays 4 wsX9_lays RX9) (M V : mw_M) (hV : vwO M V) (hw : wfV V) {f g : Nat} (hb : f < 12 ∧ g < 12) {P : List Nat} (hP : arR M P) (hl : P.length < 144) (h144 : ∀ r, r ∈ P → r < 144) (hk : ∀ k M1, kpos V (12 * f + g) P P.length = k → layI M M1 P k → vv p l e ({ frames := 3, cells := 0, slots := 0, locals := 72 } : Room) s m args below meth c G 0 0 Q M1 68 [some (.ref (G.1 145)), some (.int (nI f)), some (.int (nI g)), some (.int (nI k))] []) : ∀ (n k : Nat) (M1 : mw_M), k < n → k ≤ P.length → kpos V (12 * f + g) P k = kpos V (12 * f + g) P P.length → layI M M1 P k → vv p l e ({ frames := 3, cells := 0, slots := 0, locals := 72 } : Room) s m args below meth c G 0 0 Q M1 5 [some (.ref (G.1 145)), some (.int (nI f)), some (.int (nI g)), some (.int (nI k))] [] := by
  intro n
  induction n with
  | zero => intro k M1 h1 _ _ _; omega
  | succ n ih =>
    intro k M1 h1 hkl hkp hI
    refine vv_iload_n C 3 dX9_lays_5 rfl rfl ?_
    refine vv_if_le C 68 dX9_lays_6 (by decide) (fun h_le => ?_) (fun h_gt => ?_)
    · have hk0 : k = 0 := by
        rcases Nat.eq_zero_or_pos k with z | z
        · exact z
        · exact absurd h_le (nI_nle z (by omega))
      refine hk k M1 ?_ hI
      rw [← hkp, hk0]
      simp [kpos]
    · have hk1 : 1 ≤ k := by
        rcases Nat.eq_zero_or_pos k with z | z
        · exact absurd (by rw [z]; decide) h_gt
        · exact z
      have hx1 : M1 (1300 + (k - 1)) = nI (P.getD (k - 1) 0 / 12) := by
        have := (hI.2 (k - 1) (by omega) (by omega)).1
        rw [if_pos (by omega)] at this
        exact this
      have hy1 : M1 (1450 + (k - 1)) = nI (P.getD (k - 1) 0 % 12) := by
        have := (hI.2 (k - 1) (by omega) (by omega)).2
        rw [if_pos (by omega)] at this
        exact this
      have hr144 := h144 (P.getD (k - 1) 0) (getD_mem (by omega))
      have hV1 : vwO M1 V := fun q hq => (hI.1 _ (by omega)).trans (hV q hq)
      refine vv_aload_n C 0 dX9_lays_9 rfl rfl ?_
      refine vv_aload_n C 0 dX9_lays_10 rfl rfl ?_
      refine vv_getr C (Cn := RX9) (T := TX9) (N := 13) sh_145 5 rfl rfl (by decide) iX9_lays_X9 (List.mem_of_getElem? (i := 2) rfl) rfl dX9_lays_11 ?_
      refine vv_iload_n C 3 dX9_lays_14 rfl rfl ?_
      refine vv_iconst (v := 1) C dX9_lays_15 (by decide) ?_
      refine vv_isub C dX9_lays_16 ?_
      refine vv_ald (j := (k - 1)) (q := 1300 + (k - 1)) C sh_149 (nI_subI (b := 1) hk1) (by omega) (by omega) dX9_lays_17 ?_
      refine vv_top (y := nI (P.getD (k - 1) 0 / 12)) hx1 ?_
      refine vv_aload_n C 0 dX9_lays_18 rfl rfl ?_
      refine vv_getr C (Cn := RX9) (T := TX9) (N := 13) sh_145 6 rfl rfl (by decide) iX9_lays_X9 (List.mem_of_getElem? (i := 3) rfl) rfl dX9_lays_19 ?_
      refine vv_iload_n C 3 dX9_lays_22 rfl rfl ?_
      refine vv_iconst (v := 1) C dX9_lays_23 (by decide) ?_
      refine vv_isub C dX9_lays_24 ?_
      refine vv_ald (j := (k - 1)) (q := 1450 + (k - 1)) C sh_150 (nI_subI (b := 1) hk1) (by omega) (by omega) dX9_lays_25 ?_
      refine vv_top (y := nI (P.getD (k - 1) 0 % 12)) hy1 ?_
      refine vv_iload_n C 1 dX9_lays_26 rfl rfl ?_
      refine vv_iload_n C 2 dX9_lays_27 rfl rfl ?_
      refine vv_callVI C [.int (nI (P.getD (k - 1) 0 / 12)), .int (nI (P.getD (k - 1) 0 % 12)), .int (nI f), .int (nI g)] (c_X9_isBehind M1 V hV1 hw (f := (P.getD (k - 1) 0 / 12)) (g := (P.getD (k - 1) 0 % 12)) (o := f) (w := g) ⟨by omega, by omega, hb.1, hb.2⟩ (x := (nI (P.getD (k - 1) 0 / 12))) (y := (nI (P.getD (k - 1) 0 % 12))) (z := (nI f)) (u := (nI g)) rfl rfl rfl rfl) sh_145 rfl (cwV 4 C.1.2.2.2.2 gX9_lays_X9_isBehind rfl rfl rfl (by decide +kernel) ⟨Nat.le_of_ble_eq_true rfl, Nat.le_of_ble_eq_true rfl⟩) rfl rfl rfl (Nat.le_of_ble_eq_true rfl) dX9_lays_28 ⟨Nat.le_refl _, Nat.le_refl _⟩ ?_
      refine vv_bif_eq C 68 dX9_lays_31 (by decide) (fun h_no => ?_) (fun h_yes => ?_)
      · refine hk k M1 ?_ hI
        rw [← hkp]
        obtain ⟨k2, rfl⟩ : ∃ k2, k = k2 + 1 := ⟨k - 1, by omega⟩
        show (if ahR V (12 * f + g) (P.getD k2 0) then kpos V (12 * f + g) P k2 else k2 + 1) = _
        rw [if_neg]
        unfold ahR
        rw [show (12 * f + g) / 12 = f by omega, show (12 * f + g) % 12 = g by omega]
        exact h_no
      · refine vv_aload_n C 0 dX9_lays_34 rfl rfl ?_
        refine vv_getr C (Cn := RX9) (T := TX9) (N := 13) sh_145 5 rfl rfl (by decide) iX9_lays_X9 (List.mem_of_getElem? (i := 2) rfl) rfl dX9_lays_35 ?_
        refine vv_iload_n C 3 dX9_lays_38 rfl rfl ?_
        refine vv_aload_n C 0 dX9_lays_39 rfl rfl ?_
        refine vv_getr C (Cn := RX9) (T := TX9) (N := 13) sh_145 5 rfl rfl (by decide) iX9_lays_X9 (List.mem_of_getElem? (i := 2) rfl) rfl dX9_lays_40 ?_
        refine vv_iload_n C 3 dX9_lays_43 rfl rfl ?_
        refine vv_iconst (v := 1) C dX9_lays_44 (by decide) ?_
        refine vv_isub C dX9_lays_45 ?_
        refine vv_ald (j := (k - 1)) (q := 1300 + (k - 1)) C sh_149 (nI_subI (b := 1) hk1) (by omega) (by omega) dX9_lays_46 ?_
        refine vv_ast (j := k) (q := 1300 + k) C sh_149 rfl (by omega) (by omega) dX9_lays_47 ?_
        refine vv_aload_n C 0 dX9_lays_48 rfl rfl ?_
        refine vv_getr C (Cn := RX9) (T := TX9) (N := 13) sh_145 6 rfl rfl (by decide) iX9_lays_X9 (List.mem_of_getElem? (i := 3) rfl) rfl dX9_lays_49 ?_
        refine vv_iload_n C 3 dX9_lays_52 rfl rfl ?_
        refine vv_aload_n C 0 dX9_lays_53 rfl rfl ?_
        refine vv_getr C (Cn := RX9) (T := TX9) (N := 13) sh_145 6 rfl rfl (by decide) iX9_lays_X9 (List.mem_of_getElem? (i := 3) rfl) rfl dX9_lays_54 ?_
        refine vv_iload_n C 3 dX9_lays_57 rfl rfl ?_
        refine vv_iconst (v := 1) C dX9_lays_58 (by decide) ?_
        refine vv_isub C dX9_lays_59 ?_
        refine vv_ald (j := (k - 1)) (q := 1450 + (k - 1)) C sh_150 (nI_subI (b := 1) hk1) (by omega) (by omega) dX9_lays_60 ?_
        refine vv_ast (j := k) (q := 1450 + k) C sh_150 rfl (by omega) (by omega) dX9_lays_61 ?_
        refine vv_iinc (v := nI (k - 1)) (ls2 := [some (.ref (G.1 145)), some (.int (nI f)), some (.int (nI g)), some (.int (nI (k - 1)))]) C 3 dX9_lays_62 rfl (nI_dec hk1) rfl ?_
        refine vv_goto C 5 dX9_lays_65 (by decide) ?_
        refine ih (k - 1) _ (by omega) (by omega) ?_ (hI.step hk1 hkl hl hx1 ((upd_o (by omega)).trans hy1))
        rw [← hkp]
        obtain ⟨k2, rfl⟩ : ∃ k2, k = k2 + 1 := ⟨k - 1, by omega⟩
        show _ = if ahR V (12 * f + g) (P.getD k2 0) then kpos V (12 * f + g) P k2 else k2 + 1
        rw [if_pos]
        · rfl
        · unfold ahR
          rw [show (12 * f + g) / 12 = f by omega, show (12 * f + g) % 12 = g by omega]
          exact h_yes
set_option maxRecDepth 100000 in
set_option maxHeartbeats 4000000 in
theorem c_X9_lays {l : Launch} {G : mw_GG} (M V : mw_M) (hV : vwO M V) (hw : wfV V) {f g : Nat} (hb : f < 12 ∧ g < 12) {P : List Nat} (hP : arR M P) (hl : P.length < 144) (h144 : ∀ r, r ∈ P → r < 144) (hn : M 1102 = nI P.length) {x y : Int32} (hx : x = nI f) (hy : y = nI g) : mw_Met l yX9_lays wsX9_lays ({ frames := 3, cells := 0, slots := 0, locals := 72 } : Room) G [.ref (G.1 145), .int x, .int y] M (qVP (fun M2 => arR M2 (insS V (12 * f + g) P) ∧ M2 1102 = nI (P.length + 1) ∧ ∀ q, ¬ fnS q → M2 q = M q)) := by
  refine mw_ofV (cc := cX9_lays) 4 (by decide) rfl rfl (Nat.le_of_ble_eq_true rfl) ?_
  intro p e s m args below meth c C hR hN0
  subst hx
  subst hy
  refine vv_loc (ls2 := [some (.ref (G.1 145)), some (.int (nI f)), some (.int (nI g)), none]) rfl ?_
  refine vv_aload_n C 0 dX9_lays_0 rfl rfl ?_
  refine vv_geti C (Cn := RX9) (T := TX9) (N := 13) sh_145 7 rfl rfl (by decide) iX9_lays_X9 (List.mem_of_getElem? (i := 1) rfl) rfl dX9_lays_1 ?_
  refine vv_top (y := nI P.length) hn ?_
  refine vv_istore_n (ls2 := [some (.ref (G.1 145)), some (.int (nI f)), some (.int (nI g)), some (.int (nI P.length))]) C 3 dX9_lays_4 rfl (Nat.le_of_ble_eq_true rfl) rfl ?_
  refine lp_X9_lays C M V hV hw hb hP hl h144 (fun k M1 hkp hI => ?_) (P.length + 1) P.length M (by omega) (by omega) rfl (layI.start hP)
  have hkl : k ≤ P.length := by rw [← hkp]; exact kpos_le V _ P P.length
  refine vv_aload_n C 0 dX9_lays_68 rfl rfl ?_
  refine vv_getr C (Cn := RX9) (T := TX9) (N := 13) sh_145 5 rfl rfl (by decide) iX9_lays_X9 (List.mem_of_getElem? (i := 2) rfl) rfl dX9_lays_69 ?_
  refine vv_iload_n C 3 dX9_lays_72 rfl rfl ?_
  refine vv_iload_n C 1 dX9_lays_73 rfl rfl ?_
  refine vv_ast (j := k) (q := 1300 + k) C sh_149 rfl (by omega) (by omega) dX9_lays_74 ?_
  refine vv_aload_n C 0 dX9_lays_75 rfl rfl ?_
  refine vv_getr C (Cn := RX9) (T := TX9) (N := 13) sh_145 6 rfl rfl (by decide) iX9_lays_X9 (List.mem_of_getElem? (i := 3) rfl) rfl dX9_lays_76 ?_
  refine vv_iload_n C 3 dX9_lays_79 rfl rfl ?_
  refine vv_iload_n C 2 dX9_lays_80 rfl rfl ?_
  refine vv_ast (j := k) (q := 1450 + k) C sh_150 rfl (by omega) (by omega) dX9_lays_81 ?_
  refine vv_aload_n C 0 dX9_lays_82 rfl rfl ?_
  refine vv_dup C dX9_lays_83 rfl ?_
  refine vv_geti C (Cn := RX9) (T := TX9) (N := 13) sh_145 7 rfl rfl (by decide) iX9_lays_X9 (List.mem_of_getElem? (i := 1) rfl) rfl dX9_lays_84 ?_
  refine vv_top (y := nI P.length) (by rw [upd_o (by omega), upd_o (by omega), hI.1 _ (by omega)]; exact hn) ?_
  refine vv_iconst (v := 1) C dX9_lays_87 (by decide) ?_
  refine vv_iadd C dX9_lays_88 ?_
  refine vv_top (y := nI (P.length + 1)) (nI_1 _) ?_
  refine vv_putf C (Cn := RX9) (T := TX9) (N := 13) sh_145 7 rfl rfl (by decide) iX9_lays_X9 (List.mem_of_getElem? (i := 1) rfl) rfl tyX9_ok nmX9 rfl rfl dX9_lays_89 ?_
  have hD := hI.done hkp hl (x := nI f) (y := nI g) (congrArg nI (by omega)) (congrArg nI (by omega)) (n := nI (P.length + 1))
  exact vv_vret C hR dX9_lays_92 (qVP_of ⟨hD.1, upd_s, hD.2⟩)
set_option maxRecDepth 100000 in
set_option maxHeartbeats 4000000 in
theorem lp_X9_finds_in {p : Program} {l : Launch} {e : Env} {s : State} {m : MethodId} {args : Array Value} {below : List Frame} {meth : Method} {c : Code} {G : mw_GG} {Q : State → Prop} (C : vv_C p s m args c G cX9_finds 4 wsX9_finds RX9) (M V : mw_M) (hV : vwO M V) (hw : wfV V) {n mm : Nat} (hn : V 2 = nI n) (hn12 : n ≤ 12) (hm : mm = n1 V) {f : Nat} (hf : f < n) (hk : ∀ M1, fndR V M M1 (lstF V 8 mm (f + 1)) → vv p l e ({ frames := 5, cells := 0, slots := 0, locals := 117 } : Room) s m args below meth c G 0 0 Q M1 69 [some (.ref (G.1 145)), some (.int (nI mm)), some (.int (nI f)), none] []) : ∀ (k g : Nat) (M1 : mw_M), mm + 1 ≤ g + k → g ≤ mm → fndR V M M1 (lstF V 8 mm f ++ lstG V 8 f g) → vv p l e ({ frames := 5, cells := 0, slots := 0, locals := 117 } : Room) s m args below meth c G 0 0 Q M1 41 [some (.ref (G.1 145)), some (.int (nI mm)), some (.int (nI f)), some (.int (nI g))] [] := by
  intro k
  induction k with
  | zero => intro g M1 h1 h2 _; omega
  | succ k ih =>
    intro g M1 h1 h2 hI
    have hm12 : mm ≤ 12 := by rw [hm]; exact n1_le hw.2.1
    refine vv_iload_n C 3 dX9_finds_41 rfl rfl ?_
    refine vv_iload_n C 1 dX9_finds_42 rfl rfl ?_
    refine vv_icmp_ge C 69 dX9_finds_43 (by decide) (fun hge => ?_) (fun hlt => ?_)
    · have hin : g = mm := by
        rcases Nat.lt_or_ge g mm with z | z
        · exact absurd hge (nI_ge (b := mm) z (by omega))
        · omega
      rw [hin, ← lstF_s] at hI
      refine vv_keep (ls2 := [some (.ref (G.1 145)), some (.int (nI mm)), some (.int (nI f)), none]) ⟨rfl, rfl, rfl, trivial⟩ ?_
      exact hk M1 hI
    · have hi4 : g < mm := by
        rcases Nat.lt_or_ge g mm with z | z
        · exact z
        · exact absurd (nI_le (a := mm) z (by omega)) hlt
      have hV1 := hI.vw hV
      have hm8 : misS V 8 f g ≤ 8 := tlD_le _ _
      refine vv_aload_n C 0 dX9_finds_46 rfl rfl ?_
      refine vv_iload_n C 2 dX9_finds_47 rfl rfl ?_
      refine vv_iload_n C 3 dX9_finds_48 rfl rfl ?_
      refine vv_callVI C [.int (nI f), .int (nI g)] (c_X9_unfit M1 V hV1 hw (f := f) (g := g) ⟨by omega, by omega⟩ (x := (nI f)) (y := (nI g)) rfl rfl) sh_145 rfl (cwV 2 C.1.2.2.2.2 gX9_finds_X9_unfit rfl rfl rfl (by decide +kernel) ⟨Nat.le_of_ble_eq_true rfl, Nat.le_of_ble_eq_true rfl⟩) rfl rfl rfl (Nat.le_of_ble_eq_true rfl) dX9_finds_49 ⟨Nat.le_refl _, Nat.le_refl _⟩ ?_
      refine vv_bipush (v := (-14)) C dX9_finds_52 (by decide) ?_
      refine vv_icmp_ne C 63 dX9_finds_54 (by decide) (fun h_ne => ?_) (fun h_eq => ?_)
      · refine vv_iinc (v := nI (g + 1)) (ls2 := [some (.ref (G.1 145)), some (.int (nI mm)), some (.int (nI f)), some (.int (nI (g + 1)))]) C 3 dX9_finds_63 rfl (nI_1 _) rfl ?_
        refine vv_goto C 41 dX9_finds_66 (by decide) ?_
        refine ih (g + 1) M1 (by omega) (by omega) ?_
        rw [lstG_n (fun z => h_ne ((rtI_m hm8).mpr z))]
        exact hI
      · refine vv_aload_n C 0 dX9_finds_57 rfl rfl ?_
        refine vv_iload_n C 2 dX9_finds_58 rfl rfl ?_
        refine vv_iload_n C 3 dX9_finds_59 rfl rfl ?_
        refine vv_callVVP C [.int (nI f), .int (nI g)] (c_X9_lays M1 V hV1 hw (f := f) (g := g) ⟨by omega, by omega⟩ (P := (srtS V (lstF V 8 mm f ++ lstG V 8 f g))) hI.1 (by rw [srt_len]; exact lst_ln hm12 (by omega) (by omega)) (fun r hr => lst_mem hm12 (by omega) (by omega) r (srt_perm.mem_iff.mp hr)) (by rw [srt_len]; exact hI.2.1) (x := (nI f)) (y := (nI g)) rfl rfl) sh_145 rfl (cwV 2 C.1.2.2.2.2 gX9_finds_X9_lays rfl rfl rfl (by decide +kernel) ⟨Nat.le_of_ble_eq_true rfl, Nat.le_of_ble_eq_true rfl⟩) rfl rfl rfl (Nat.le_of_ble_eq_true rfl) dX9_finds_60 ⟨Nat.le_refl _, Nat.le_refl _⟩ (fun M_5 h_6 => ?_)
        refine vv_iinc (v := nI (g + 1)) (ls2 := [some (.ref (G.1 145)), some (.int (nI mm)), some (.int (nI f)), some (.int (nI (g + 1)))]) C 3 dX9_finds_63 rfl (nI_1 _) rfl ?_
        refine vv_goto C 41 dX9_finds_66 (by decide) ?_
        refine ih (g + 1) _ (by omega) (by omega) ?_
        rw [lstG_y ((rtI_m hm8).mp h_eq), ← List.append_assoc]
        exact hI.add h_6.1 h_6.2.1 h_6.2.2
theorem iX9_finds_X9 : ∀ w ∈ u_ws RX9 TX9 13, w ∈ wsX9_finds := fun w hw => (List.mem_cons_of_mem _ (List.mem_append_right _ hw))
set_option maxRecDepth 100000 in
set_option maxHeartbeats 4000000 in
theorem lp_X9_finds_out {p : Program} {l : Launch} {e : Env} {s : State} {m : MethodId} {args : Array Value} {below : List Frame} {meth : Method} {c : Code} {G : mw_GG} {Q : State → Prop} (C : vv_C p s m args c G cX9_finds 4 wsX9_finds RX9) (M V : mw_M) (hV : vwO M V) (hw : wfV V) {n mm : Nat} (hn : V 2 = nI n) (hn12 : n ≤ 12) (hm : mm = n1 V) (hk : ∀ M1, fndR V M M1 (lstF V 8 mm n) → vv p l e ({ frames := 5, cells := 0, slots := 0, locals := 117 } : Room) s m args below meth c G 0 0 Q M1 75 [some (.ref (G.1 145)), some (.int (nI mm)), some (.int (nI n)), none] []) : ∀ (k f : Nat) (M1 : mw_M), n + 1 ≤ f + k → f ≤ n → fndR V M M1 (lstF V 8 mm f) → vv p l e ({ frames := 5, cells := 0, slots := 0, locals := 117 } : Room) s m args below meth c G 0 0 Q M1 29 [some (.ref (G.1 145)), some (.int (nI mm)), some (.int (nI f)), none] [] := by
  intro k
  induction k with
  | zero => intro f M1 h1 h2 _; omega
  | succ k ih =>
    intro f M1 h1 h2 hI
    refine vv_iload_n C 2 dX9_finds_29 rfl rfl ?_
    refine vv_aload_n C 0 dX9_finds_30 rfl rfl ?_
    refine vv_getr C (Cn := RX9) (T := TX9) (N := 13) sh_145 0 rfl rfl (by decide) iX9_finds_X9 (List.mem_of_getElem? (i := 2) rfl) rfl dX9_finds_31 ?_
    refine vv_iconst (v := 2) C dX9_finds_34 (by decide) ?_
    refine vv_ald (j := 2) (q := 2002) C sh_146 (by decide) (by decide) rfl dX9_finds_35 ?_
    refine vv_top (y := nI n) (((hI.vw hV) 2 (by decide)).trans hn) ?_
    refine vv_icmp_ge C 75 dX9_finds_36 (by decide) (fun hge => ?_) (fun hlt => ?_)
    · have hin : f = n := by
        rcases Nat.lt_or_ge f n with z | z
        · exact absurd hge (nI_ge (b := n) z (by omega))
        · omega
      subst hin
      exact hk M1 hI
    · have hi4 : f < n := by
        rcases Nat.lt_or_ge f n with z | z
        · exact z
        · exact absurd (nI_le (a := n) z (by omega)) hlt
      refine vv_iconst (v := 0) C dX9_finds_39 (by decide) ?_
      refine vv_istore_n (ls2 := [some (.ref (G.1 145)), some (.int (nI mm)), some (.int (nI f)), some (.int 0)]) C 3 dX9_finds_40 rfl (Nat.le_of_ble_eq_true rfl) rfl ?_
      refine vv_loc (ls2 := [some (.ref (G.1 145)), some (.int (nI mm)), some (.int (nI f)), some (.int (nI 0))]) rfl ?_
      refine lp_X9_finds_in C M V hV hw hn hn12 hm hi4 (fun M2 hI2 => ?_) (mm + 1) 0 M1 (by omega) (by omega) (by rw [show lstG V 8 f 0 = [] from rfl, List.append_nil]; exact hI)
      refine vv_iinc (v := nI (f + 1)) (ls2 := [some (.ref (G.1 145)), some (.int (nI mm)), some (.int (nI (f + 1))), none]) C 2 dX9_finds_69 rfl (nI_1 _) rfl ?_
      refine vv_goto C 29 dX9_finds_72 (by decide) ?_
      exact ih (f + 1) M2 (by omega) (by omega) hI2
set_option maxRecDepth 100000 in
set_option maxHeartbeats 4000000 in
theorem c_X9_finds {l : Launch} {G : mw_GG} (M V : mw_M) (hV : vwO M V) (hw : wfV V) : mw_Met l yX9_finds wsX9_finds ({ frames := 5, cells := 0, slots := 0, locals := 117 } : Room) G [.ref (G.1 145)] M (qVP (fun M2 => fndR V M M2 (lstS V 8))) := by
  refine mw_ofV (cc := cX9_finds) 4 (by decide) rfl rfl (Nat.le_of_ble_eq_true rfl) ?_
  intro p e s m args below meth c C hR hN0
  refine vv_loc (ls2 := [some (.ref (G.1 145)), none, none, none]) rfl ?_
  refine vv_aload_n C 0 dX9_finds_0 rfl rfl ?_
  refine vv_iconst (v := 0) C dX9_finds_1 (by decide) ?_
  refine vv_putf C (Cn := RX9) (T := TX9) (N := 13) sh_145 7 rfl rfl (by decide) iX9_finds_X9 (List.mem_of_getElem? (i := 1) rfl) rfl tyX9_ok nmX9 rfl rfl dX9_finds_2 ?_
  refine vv_aload_n C 0 dX9_finds_5 rfl rfl ?_
  refine vv_getr C (Cn := RX9) (T := TX9) (N := 13) sh_145 0 rfl rfl (by decide) iX9_finds_X9 (List.mem_of_getElem? (i := 2) rfl) rfl dX9_finds_6 ?_
  refine vv_bipush (v := 124) C dX9_finds_9 (by decide) ?_
  refine vv_ald (j := 124) (q := 2124) C sh_146 (by decide) (by decide) rfl dX9_finds_11 ?_
  refine vv_top (y := V 124) ((upd_o (by omega)).trans (hV 124 (by decide))) ?_
  refine vv_iconst (v := 1) C dX9_finds_12 (by decide) ?_
  refine vv_icmp_ne C 25 dX9_finds_13 (by decide) (fun h_n1 => ?_) (fun h_1 => ?_)
  · refine vv_iconst (v := 1) C dX9_finds_25 (by decide) ?_
    refine vv_istore_n (ls2 := [some (.ref (G.1 145)), some (.int 1), none, none]) C 1 dX9_finds_26 rfl (Nat.le_of_ble_eq_true rfl) rfl ?_
    refine vv_iconst (v := 0) C dX9_finds_27 (by decide) ?_
    refine vv_istore_n (ls2 := [some (.ref (G.1 145)), some (.int 1), some (.int 0), none]) C 2 dX9_finds_28 rfl (Nat.le_of_ble_eq_true rfl) rfl ?_
    have hmm : n1 V = 1 := if_neg h_n1
    refine vv_loc (ls2 := [some (.ref (G.1 145)), some (.int (nI (n1 V))), some (.int (nI 0)), none]) (by rw [hmm]; rfl) ?_
    exact lp_X9_finds_out C M V hV hw hw.1.n.1 hw.1.n.2 rfl (fun M2 hI2 => vv_vret C hR dX9_finds_75 (qVP_of hI2)) (nN V 0 + 1) 0 _ (by omega) (by omega) ⟨fun j hj => absurd hj (by simp [lstF, srtS]), by rw [upd_s]; rfl, fun q hq => upd_o (fun z => hq (Or.inl z))⟩
  · refine vv_aload_n C 0 dX9_finds_16 rfl rfl ?_
    refine vv_getr C (Cn := RX9) (T := TX9) (N := 13) sh_145 0 rfl rfl (by decide) iX9_finds_X9 (List.mem_of_getElem? (i := 2) rfl) rfl dX9_finds_17 ?_
    refine vv_iconst (v := 3) C dX9_finds_20 (by decide) ?_
    refine vv_ald (j := 3) (q := 2003) C sh_146 (by decide) (by decide) rfl dX9_finds_21 ?_
    refine vv_top (y := V 3) ((upd_o (by omega)).trans (hV 3 (by decide))) ?_
    refine vv_goto C 26 dX9_finds_22 (by decide) ?_
    refine vv_istore_n (ls2 := [some (.ref (G.1 145)), some (.int (V 3)), none, none]) C 1 dX9_finds_26 rfl (Nat.le_of_ble_eq_true rfl) rfl ?_
    refine vv_iconst (v := 0) C dX9_finds_27 (by decide) ?_
    refine vv_istore_n (ls2 := [some (.ref (G.1 145)), some (.int (V 3)), some (.int 0), none]) C 2 dX9_finds_28 rfl (Nat.le_of_ble_eq_true rfl) rfl ?_
    have hmm : n1 V = nN V 1 := if_pos h_1
    refine vv_loc (ls2 := [some (.ref (G.1 145)), some (.int (nI (n1 V))), some (.int (nI 0)), none]) (by rw [hmm, show V 3 = nI (nN V 1) from hw.2.1.n.1]; rfl) ?_
    exact lp_X9_finds_out C M V hV hw hw.1.n.1 hw.1.n.2 rfl (fun M2 hI2 => vv_vret C hR dX9_finds_75 (qVP_of hI2)) (nN V 0 + 1) 0 _ (by omega) (by omega) ⟨fun j hj => absurd hj (by simp [lstF, srtS]), by rw [upd_s]; rfl, fun q hq => upd_o (fun z => hq (Or.inl z))⟩
