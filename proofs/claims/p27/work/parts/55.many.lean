theorem n1_both {S : mw_M} (h : S 124 = 1) : n1 S = nN S 1 := if_pos h
theorem n1_one {S : mw_M} (h : ¬ S 124 = 1) : n1 S = 1 := if_neg h
theorem mm_div {m f g : Nat} (h : g < m) : (m * f + g) / m = f := by
  rw [Nat.mul_add_div (by omega), Nat.div_eq_of_lt h, Nat.add_zero]
theorem mm_mod {m f g : Nat} (h : g < m) : (m * f + g) % m = g := by
  rw [Nat.mul_add_mod, Nat.mod_eq_of_lt h]
theorem mm_le {m n f g : Nat} (hm : m ≤ 12) (hn : n ≤ 12) (hf : f < n) (hg : g < m) : m * f + g < n * m ∧ n * m ≤ 144 := by
  have h1 : m * (f + 1) ≤ m * n := Nat.mul_le_mul_left m hf
  have h2 : n * m ≤ 12 * 12 := Nat.mul_le_mul hn hm
  rw [Nat.mul_succ] at h1
  rw [Nat.mul_comm n m] at h2 ⊢
  omega
theorem mm_nm {m n : Nat} (hm : m ≤ 12) (hn : n ≤ 12) : n * m ≤ 144 := Nat.mul_le_mul hn hm
theorem rt_fit {S : mw_M} {f g : Nat} (h : rtI (misS S 8 f g) = -14) : misS S 8 f g = 8 := (rtI_m (tlD_le _ 8)).mp h
theorem rt_no {S : mw_M} {f g : Nat} (h : ¬ rtI (misS S 8 f g) = -14) : ¬ misS S 8 f g = 8 := fun z => h ((rtI_m (tlD_le _ 8)).mpr z)
theorem lst_at {S : mw_M} {n mm : Nat} (hn : nN S 0 = n) (hm : n1 S = mm) : lstF S 8 mm n = lstS S 8 := by
  unfold lstS
  rw [hn, hm]
theorem val_at {S : mw_M} (hw : wfR S) {f g : Nat} (hf : f < nN S 0) (hg : g < n1 S) : valP S f g := by
  obtain ⟨hn, hn12⟩ := hw.1.n
  have hm := n1_le hw.2.1
  refine ⟨by omega, by omega, ?_, fun e1 => ?_⟩
  · rw [show (2 : Nat) = 2 + 0 from rfl, hn]
    exact nI_ge hf (by omega)
  · rw [n1_both e1] at hg
    rw [show (3 : Nat) = 2 + 1 from rfl, (hw.2.1.n).1]
    exact nI_ge hg (by have := hw.2.1.n.2; omega)
/-- the place of the loop over all rows: the next row is (f, g), or there is none -/
def mnI (S : mw_M) (n mm k f g : Nat) (L : List Nat) : Prop := (f < n ∧ g < mm ∧ k = mm * f + g ∧ L = lstF S 8 mm f ++ lstG S 8 f g) ∨ (n * mm ≤ k ∧ k ≤ 144 ∧ L = lstS S 8)
theorem mnI.step {S : mw_M} {n mm k f g : Nat} {L : List Nat} (hn : nN S 0 = n) (hm : n1 S = mm) (hn12 : n ≤ 12) (hm12 : mm ≤ 12) (hf : f < n) (hg : g < mm) (hk : k = mm * f + g) (hL : L = lstF S 8 mm f ++ lstG S 8 f (g + 1)) : ∃ f2 g2, mnI S n mm (k + 1) f2 g2 L := by
  have hb := mm_le hm12 hn12 hf hg
  by_cases z : g + 1 < mm
  · exact ⟨f, g + 1, Or.inl ⟨hf, z, by omega, hL⟩⟩
  · have e : g + 1 = mm := by omega
    rw [e, ← lstF_s] at hL
    by_cases y : f + 1 < n
    · exact ⟨f + 1, 0, Or.inl ⟨y, by omega, by rw [hk, Nat.mul_succ]; omega, by rw [hL, show lstG S 8 (f + 1) 0 = [] from rfl, List.append_nil]⟩⟩
    · have e2 : f + 1 = n := by omega
      refine ⟨f, g, Or.inr ⟨?_, by omega, by rw [hL, e2]; exact lst_at hn hm⟩⟩
      rw [hk, ← e2, Nat.mul_comm (f + 1) mm, Nat.mul_succ]
      omega
theorem mnI.start {S : mw_M} {n mm : Nat} (hn : nN S 0 = n) (hm : n1 S = mm) : ∃ f g, mnI S n mm 0 f g [] := by
  by_cases z : 0 < n ∧ 0 < mm
  · exact ⟨0, 0, Or.inl ⟨z.1, z.2, by simp, rfl⟩⟩
  · refine ⟨0, 0, Or.inr ⟨?_, by omega, ?_⟩⟩
    · rcases Nat.eq_zero_or_pos n with y | y
      · rw [y, Nat.zero_mul]; exact Nat.le_refl 0
      · have : mm = 0 := by omega
        rw [this, Nat.mul_zero]; exact Nat.le_refl 0
    · symm
      apply List.eq_nil_iff_forall_not_mem.mpr
      intro r hr
      obtain ⟨i, j, h1, h2, -, -⟩ := lstF_mem.mp hr
      rw [hn] at h1
      rw [hm] at h2
      exact z ⟨by omega, by omega⟩
theorem lstL_lt {S : mw_M} {mm f g : Nat} (hm : mm ≤ 12) (hf : f < 12) (hg : g < 12) : (lstF S 8 mm f ++ lstG S 8 f g).length < 144 := lst_ln hm hf hg

set_option maxRecDepth 100000 in
set_option maxHeartbeats 4000000 in
theorem lp_many {p : Program} {l : Launch} {e : Env} {s : State} {m : MethodId} {args : Array Value} {below : List Frame} {meth : Method} {c : Code} {G : mw_GG} {A : Nat → Prop} (C : vx_C p s m args c G A cL_many 12 wsL_many RL) (hR : vv_R meth (some .int)) (M S : mw_M) (hr : lrel M S) (hw : wfV S) {n mm : Nat} (hn : nN S 0 = n) (hm : n1 S = mm) {X : va_W} {k0 wq tq : Nat} (hl : k0 < X.length) : ∀ (u kk fI gI : Nat) (W : Nat → Int64) (tf : Nat → Int32) (L : List Nat), 145 ≤ kk + u → mnI S n mm kk fI gI L → wbL W L → L.length ≤ kk → vx p l e ({ frames := 3, cells := 1, slots := 4, locals := 76 } : Room) s m args below meth c G A 1 4 (mx_E below args s G A (xI_P (fun r M2 X2 => r = manyI S ∧ M2 = M ∧ ∃ W, wbL W (lstS S 8) ∧ X2 = X.set k0 (xL G wq 3 W))) 1 4) M (X.set k0 (xL G wq 3 W) ++ [xI G tq 4 tf]) 26 [some (.ref (G.1 145)), some (.ref (G.1 146)), some (.ref (G.1 147)), some (.ref (G.1 148)), some (.ref (G.1 149)), some (.ref wq), some (.ref tq), some (.int (nI L.length)), some (.int (nI kk)), none, none, none] [] := by
  have hn12 : n ≤ 12 := by rw [← hn]; exact hw.1.n.2
  have hm12 : mm ≤ 12 := by rw [← hm]; exact n1_le hw.2.1
  have hnm := mm_nm hm12 hn12
  intro u
  induction u with
  | zero =>
    intro kk fI gI W tf L h1 hI _ _
    exfalso
    rcases hI with ⟨hf, hg, hk, -⟩ | ⟨-, h, -⟩
    · have hb := mm_le hm12 hn12 hf hg
      omega
    · omega
  | succ u ih =>
    intro kk fI gI W tf L h1 hI hW hLk
    have hk144 : kk ≤ 144 := by
      rcases hI with ⟨hf, hg, hk, -⟩ | ⟨-, h, -⟩
      · have hb := mm_le hm12 hn12 hf hg
        omega
      · exact h
    refine vx_iload C 8 dL_many_26 rfl ?_
    refine vx_aload_n C 0 dL_many_28 rfl rfl ?_
    refine vx_iconst (v := 2) C dL_many_29 (by decide) ?_
    refine vx_ald (j := 2) (q := 1102) C sh_145 rfl (by decide) rfl dL_many_30 ?_
    refine vx_top (y := nI n) ((hr.g2).trans ((hw.1.n).1.trans (congrArg nI hn))) ?_
    refine vx_aload_n C 0 dL_many_31 rfl rfl ?_
    refine vx_iconst (v := 4) C dL_many_32 (by decide) ?_
    refine vx_ald (j := 4) (q := 1104) C sh_145 rfl (by decide) rfl dL_many_33 ?_
    refine vx_top (y := S 124) (hr.g4) ?_
    refine vx_iconst (v := 1) C dL_many_34 (by decide) ?_
    refine vx_icmp_ne C 44 dL_many_35 (by decide) (fun h_nb => ?_) (fun h_b => ?_)
    · refine vx_iconst (v := 1) C dL_many_44 (by decide) ?_
      refine vx_top (y := nI mm) ((by rw [← hm, n1_one h_nb]; rfl)) ?_
      refine vx_imul C dL_many_45 ?_
      refine vx_top (y := nI (n * mm)) (pk_mul n mm) ?_
      refine vx_ncmp_ge C kk (n * mm) 145 dL_many_46 (by decide) (by omega) (by omega) (fun h_end => ?_) (fun h_go => ?_)
      · refine vx_iload C 7 dL_many_145 rfl ?_
        have hLS : L = lstS S 8 := by
          rcases hI with ⟨hf, hg, hk, -⟩ | ⟨-, -, h⟩
          · have hb := mm_le hm12 hn12 hf hg
            omega
          · exact h
        subst hLS
        refine vx_drop (X2 := X.set k0 (xL G wq 3 W)) (Y := [xI G tq 4 tf]) rfl ?_
        exact vx_iret C hR (by decide) (by decide) dL_many_147 ⟨_, rfl, rfl, rfl, W, hW, rfl⟩
      · obtain ⟨hf, hg, hk, hL⟩ : fI < n ∧ gI < mm ∧ kk = mm * fI + gI ∧ L = lstF S 8 mm fI ++ lstG S 8 fI gI := by
          rcases hI with h | ⟨h, -, -⟩
          · exact h
          · omega
        have hb := mm_le hm12 hn12 hf hg
        have hv : valP S fI gI := val_at hw.wfR (by omega) (by omega)
        have hv1 := hv.1
        have hv2 := hv.2.1
        refine vx_aload_n C 0 dL_many_49 rfl rfl ?_
        refine vx_iconst (v := 4) C dL_many_50 (by decide) ?_
        refine vx_ald (j := 4) (q := 1104) C sh_145 rfl (by decide) rfl dL_many_51 ?_
        refine vx_top (y := S 124) (hr.g4) ?_
        refine vx_iconst (v := 1) C dL_many_52 (by decide) ?_
        refine vx_icmp_ne C 65 dL_many_53 (by decide) (fun h_6 => ?_) (fun h_5 => absurd h_5 h_nb)
        have hm1 : mm = 1 := by rw [← hm, n1_one h_nb]
        have hg0 : gI = 0 := by omega
        have hf0 : kk = fI := by rw [hk, hm1, hg0]; omega
        refine vx_iload C 8 dL_many_65 rfl ?_
        refine vx_top (y := nI fI) ((congrArg nI hf0)) ?_
        refine vx_istore (ls2 := [some (.ref (G.1 145)), some (.ref (G.1 146)), some (.ref (G.1 147)), some (.ref (G.1 148)), some (.ref (G.1 149)), some (.ref wq), some (.ref tq), some (.int (nI L.length)), some (.int (nI kk)), some (.int (nI fI)), none, none]) C 9 dL_many_67 (Nat.le_of_ble_eq_true rfl) rfl ?_
        refine vx_aload_n C 0 dL_many_69 rfl rfl ?_
        refine vx_iconst (v := 4) C dL_many_70 (by decide) ?_
        refine vx_ald (j := 4) (q := 1104) C sh_145 rfl (by decide) rfl dL_many_71 ?_
        refine vx_top (y := S 124) (hr.g4) ?_
        refine vx_iconst (v := 1) C dL_many_72 (by decide) ?_
        refine vx_icmp_ne C 85 dL_many_73 (by decide) (fun h_8 => ?_) (fun h_7 => absurd h_7 h_nb)
        refine vx_iconst (v := 0) C dL_many_85 (by decide) ?_
        refine vx_top (y := nI gI) ((by rw [hg0]; rfl)) ?_
        refine vx_istore (ls2 := [some (.ref (G.1 145)), some (.ref (G.1 146)), some (.ref (G.1 147)), some (.ref (G.1 148)), some (.ref (G.1 149)), some (.ref wq), some (.ref tq), some (.int (nI L.length)), some (.int (nI kk)), some (.int (nI fI)), some (.int (nI gI)), none]) C 10 dL_many_86 (Nat.le_of_ble_eq_true rfl) rfl ?_
        refine vx_aload_n C 0 dL_many_88 rfl rfl ?_
        refine vx_aload_n C 1 dL_many_89 rfl rfl ?_
        refine vx_aload_n C 2 dL_many_90 rfl rfl ?_
        refine vx_aload_n C 3 dL_many_91 rfl rfl ?_
        refine vx_aload C 4 dL_many_92 rfl ?_
        refine vx_iload C 9 dL_many_94 rfl ?_
        refine vx_iload C 10 dL_many_96 rfl ?_
        refine vx_aload C 6 dL_many_98 rfl ?_
        refine vx_callXIP C [.ref (G.1 145), .ref (G.1 146), .ref (G.1 147), .ref (G.1 148), .ref (G.1 149), .int (nI fI), .int (nI gI), .ref tq] (c_L_unfit M S hr hw (f := fI) (g := gI) hv (X := X.set k0 (xL G wq 3 W) ++ [xI G tq 4 tf]) xa_at) (cwS 8 C.1.2.2.2.2 gL_many_L_unfit rfl rfl rfl (by decide +kernel) ⟨Nat.le_of_ble_eq_true rfl, Nat.le_of_ble_eq_true rfl⟩) rfl rfl rfl (Nat.le_of_ble_eq_true rfl) dL_many_100 ⟨Nat.le_of_ble_eq_true rfl, Nat.le_of_ble_eq_true rfl⟩ (fun x_9 M_10 X_11 h_12 => ?_)
        obtain ⟨e_r, e_M, t1, ht1, e_X⟩ := h_12
        refine vx_top (y := rtI (misS S 8 fI gI)) e_r ?_
        refine vx_mem (M2 := M) e_M ?_
        refine vx_X (X2 := X.set k0 (xL G wq 3 W) ++ [xI G tq 4 t1]) (e_X.trans xa_set) ?_
        refine vx_bipush (v := (-14)) C dL_many_103 (by decide) ?_
        refine vx_icmp_ne C 139 dL_many_105 (by decide) (fun h_no => ?_) (fun h_fit => ?_)
        · refine vx_iinc (v := nI (kk + 1)) (ls2 := [some (.ref (G.1 145)), some (.ref (G.1 146)), some (.ref (G.1 147)), some (.ref (G.1 148)), some (.ref (G.1 149)), some (.ref wq), some (.ref tq), some (.int (nI L.length)), some (.int (nI (kk + 1))), some (.int (nI fI)), some (.int (nI gI)), none]) C 8 dL_many_139 rfl (nI_add kk 1) rfl ?_
          refine vx_goto C 26 dL_many_142 (by decide) ?_
          refine vx_keep (ls2 := [some (.ref (G.1 145)), some (.ref (G.1 146)), some (.ref (G.1 147)), some (.ref (G.1 148)), some (.ref (G.1 149)), some (.ref wq), some (.ref tq), some (.int (nI L.length)), some (.int (nI (kk + 1))), none, none, none]) ⟨rfl, rfl, rfl, rfl, rfl, rfl, rfl, rfl, rfl, trivial⟩ ?_
          obtain ⟨f2, g2, hI2⟩ := mnI.step (L := L) hn hm hn12 hm12 hf hg hk (by rw [hL, lstG_n (rt_no h_no)])
          exact ih (kk + 1) f2 g2 _ _ L (by omega) hI2 hW (by omega)
        · refine vx_bipush (v := 12) C dL_many_108 (by decide) ?_
          refine vx_iload C 9 dL_many_110 rfl ?_
          refine vx_imul C dL_many_112 ?_
          refine vx_top (y := nI (12 * fI)) (pk_mul 12 fI) ?_
          refine vx_iload C 10 dL_many_113 rfl ?_
          refine vx_iadd C dL_many_115 ?_
          refine vx_top (y := nI (12 * fI + gI)) (nI_add (12 * fI) gI) ?_
          refine vx_istore (ls2 := [some (.ref (G.1 145)), some (.ref (G.1 146)), some (.ref (G.1 147)), some (.ref (G.1 148)), some (.ref (G.1 149)), some (.ref wq), some (.ref tq), some (.int (nI L.length)), some (.int (nI kk)), some (.int (nI fI)), some (.int (nI gI)), some (.int (nI (12 * fI + gI)))]) C 11 dL_many_116 (Nat.le_of_ble_eq_true rfl) rfl ?_
          refine vx_aload C 5 dL_many_118 rfl ?_
          refine vx_iload C 11 dL_many_120 rfl ?_
          refine vx_bipush (v := 48) C dL_many_122 (by decide) ?_
          refine vx_idiv C dL_many_124 (by decide) ?_
          refine vx_top (y := nI ((12 * fI + gI) / 48)) (pk_div (a := 12 * fI + gI) (d := 48) (by omega) (by omega) (by omega)) ?_
          refine vx_dup2 C dL_many_125 rfl rfl ?_
          refine vx_xlld (j := (12 * fI + gI) / 48) C (xl_at (xs_at hl)) (by decide) rfl (by omega) dL_many_126 ?_
          refine vx_lconst (v := 1) C dL_many_127 (by decide) ?_
          refine vx_iload C 11 dL_many_128 rfl ?_
          refine vx_bipush (v := 48) C dL_many_130 (by decide) ?_
          refine vx_irem C dL_many_132 (by decide) ?_
          refine vx_top (y := nI ((12 * fI + gI) % 48)) (pk_rem (a := 12 * fI + gI) (d := 48) (by omega) (by omega) (by omega)) ?_
          refine vx_lshl (v := (1 : Int64) <<< ((nI ((12 * fI + gI) % 48)).toInt64 &&& 63)) C dL_many_133 rfl ?_
          refine vx_lor C dL_many_134 ?_
          refine vx_xlst (j := (12 * fI + gI) / 48) C (xl_at (xs_at hl)) (by decide) rfl (by omega) dL_many_135 ?_
          refine vx_X (X2 := X.set k0 (xL G wq 3 (vp_updL W ((12 * fI + gI) / 48) ((W ((12 * fI + gI) / 48)) ||| ((1 : Int64) <<< ((nI ((12 * fI + gI) % 48)).toInt64 &&& 63))))) ++ [xI G tq 4 t1]) (by rw [xl_set (by rw [List.length_set]; exact hl), List.set_set]) ?_
          refine vx_iinc (v := nI (L.length + 1)) (ls2 := [some (.ref (G.1 145)), some (.ref (G.1 146)), some (.ref (G.1 147)), some (.ref (G.1 148)), some (.ref (G.1 149)), some (.ref wq), some (.ref tq), some (.int (nI (L.length + 1))), some (.int (nI kk)), some (.int (nI fI)), some (.int (nI gI)), some (.int (nI (12 * fI + gI)))]) C 7 dL_many_136 rfl (nI_add L.length 1) rfl ?_
          refine vx_iinc (v := nI (kk + 1)) (ls2 := [some (.ref (G.1 145)), some (.ref (G.1 146)), some (.ref (G.1 147)), some (.ref (G.1 148)), some (.ref (G.1 149)), some (.ref wq), some (.ref tq), some (.int (nI (L.length + 1))), some (.int (nI (kk + 1))), some (.int (nI fI)), some (.int (nI gI)), some (.int (nI (12 * fI + gI)))]) C 8 dL_many_139 rfl (nI_add kk 1) rfl ?_
          refine vx_goto C 26 dL_many_142 (by decide) ?_
          refine vx_keep (ls2 := [some (.ref (G.1 145)), some (.ref (G.1 146)), some (.ref (G.1 147)), some (.ref (G.1 148)), some (.ref (G.1 149)), some (.ref wq), some (.ref tq), some (.int (nI (L.length + 1))), some (.int (nI (kk + 1))), none, none, none]) ⟨rfl, rfl, rfl, rfl, rfl, rfl, rfl, rfl, rfl, trivial⟩ ?_
          obtain ⟨f2, g2, hI2⟩ := mnI.step (L := L ++ [12 * fI + gI]) hn hm hn12 hm12 hf hg hk (by rw [hL, lstG_y (rt_fit h_fit), List.append_assoc])
          refine vx_loc (ls2 := [some (.ref (G.1 145)), some (.ref (G.1 146)), some (.ref (G.1 147)), some (.ref (G.1 148)), some (.ref (G.1 149)), some (.ref wq), some (.ref tq), some (.int (nI ((L ++ [12 * fI + gI]).length))), some (.int (nI (kk + 1))), none, none, none]) (by rw [List.length_append]; rfl) ?_
          exact ih (kk + 1) f2 g2 _ _ (L ++ [12 * fI + gI]) (by omega) hI2 (hW.add (by omega)) (by rw [List.length_append, List.length_singleton]; omega)
    · refine vx_aload_n C 0 dL_many_38 rfl rfl ?_
      refine vx_iconst (v := 3) C dL_many_39 (by decide) ?_
      refine vx_ald (j := 3) (q := 1103) C sh_145 rfl (by decide) rfl dL_many_40 ?_
      refine vx_top (y := nI mm) ((hr.g3).trans ((hw.2.1.n).1.trans (congrArg nI ((n1_both h_b).symm.trans hm)))) ?_
      refine vx_goto C 45 dL_many_41 (by decide) ?_
      refine vx_imul C dL_many_45 ?_
      refine vx_top (y := nI (n * mm)) (pk_mul n mm) ?_
      refine vx_ncmp_ge C kk (n * mm) 145 dL_many_46 (by decide) (by omega) (by omega) (fun h_end => ?_) (fun h_go => ?_)
      · refine vx_iload C 7 dL_many_145 rfl ?_
        have hLS : L = lstS S 8 := by
          rcases hI with ⟨hf, hg, hk, -⟩ | ⟨-, -, h⟩
          · have hb := mm_le hm12 hn12 hf hg
            omega
          · exact h
        subst hLS
        refine vx_drop (X2 := X.set k0 (xL G wq 3 W)) (Y := [xI G tq 4 tf]) rfl ?_
        exact vx_iret C hR (by decide) (by decide) dL_many_147 ⟨_, rfl, rfl, rfl, W, hW, rfl⟩
      · obtain ⟨hf, hg, hk, hL⟩ : fI < n ∧ gI < mm ∧ kk = mm * fI + gI ∧ L = lstF S 8 mm fI ++ lstG S 8 fI gI := by
          rcases hI with h | ⟨h, -, -⟩
          · exact h
          · omega
        have hb := mm_le hm12 hn12 hf hg
        have hv : valP S fI gI := val_at hw.wfR (by omega) (by omega)
        have hv1 := hv.1
        have hv2 := hv.2.1
        refine vx_aload_n C 0 dL_many_49 rfl rfl ?_
        refine vx_iconst (v := 4) C dL_many_50 (by decide) ?_
        refine vx_ald (j := 4) (q := 1104) C sh_145 rfl (by decide) rfl dL_many_51 ?_
        refine vx_top (y := S 124) (hr.g4) ?_
        refine vx_iconst (v := 1) C dL_many_52 (by decide) ?_
        refine vx_icmp_ne C 65 dL_many_53 (by decide) (fun h_17 => absurd h_b h_17) (fun h_18 => ?_)
        refine vx_iload C 8 dL_many_56 rfl ?_
        refine vx_aload_n C 0 dL_many_58 rfl rfl ?_
        refine vx_iconst (v := 3) C dL_many_59 (by decide) ?_
        refine vx_ald (j := 3) (q := 1103) C sh_145 rfl (by decide) rfl dL_many_60 ?_
        refine vx_top (y := nI mm) ((hr.g3).trans ((hw.2.1.n).1.trans (congrArg nI ((n1_both h_b).symm.trans hm)))) ?_
        refine vx_idiv C dL_many_61 (nI_ne0 (by omega) (by omega)) ?_
        refine vx_top (y := nI fI) ((pk_div (by omega) (by omega) (by omega)).trans (congrArg nI (by rw [hk]; exact mm_div hg))) ?_
        refine vx_goto C 67 dL_many_62 (by decide) ?_
        refine vx_istore (ls2 := [some (.ref (G.1 145)), some (.ref (G.1 146)), some (.ref (G.1 147)), some (.ref (G.1 148)), some (.ref (G.1 149)), some (.ref wq), some (.ref tq), some (.int (nI L.length)), some (.int (nI kk)), some (.int (nI fI)), none, none]) C 9 dL_many_67 (Nat.le_of_ble_eq_true rfl) rfl ?_
        refine vx_aload_n C 0 dL_many_69 rfl rfl ?_
        refine vx_iconst (v := 4) C dL_many_70 (by decide) ?_
        refine vx_ald (j := 4) (q := 1104) C sh_145 rfl (by decide) rfl dL_many_71 ?_
        refine vx_top (y := S 124) (hr.g4) ?_
        refine vx_iconst (v := 1) C dL_many_72 (by decide) ?_
        refine vx_icmp_ne C 85 dL_many_73 (by decide) (fun h_19 => absurd h_b h_19) (fun h_20 => ?_)
        refine vx_iload C 8 dL_many_76 rfl ?_
        refine vx_aload_n C 0 dL_many_78 rfl rfl ?_
        refine vx_iconst (v := 3) C dL_many_79 (by decide) ?_
        refine vx_ald (j := 3) (q := 1103) C sh_145 rfl (by decide) rfl dL_many_80 ?_
        refine vx_top (y := nI mm) ((hr.g3).trans ((hw.2.1.n).1.trans (congrArg nI ((n1_both h_b).symm.trans hm)))) ?_
        refine vx_irem C dL_many_81 (nI_ne0 (by omega) (by omega)) ?_
        refine vx_top (y := nI gI) ((pk_rem (by omega) (by omega) (by omega)).trans (congrArg nI (by rw [hk]; exact mm_mod hg))) ?_
        refine vx_goto C 86 dL_many_82 (by decide) ?_
        refine vx_istore (ls2 := [some (.ref (G.1 145)), some (.ref (G.1 146)), some (.ref (G.1 147)), some (.ref (G.1 148)), some (.ref (G.1 149)), some (.ref wq), some (.ref tq), some (.int (nI L.length)), some (.int (nI kk)), some (.int (nI fI)), some (.int (nI gI)), none]) C 10 dL_many_86 (Nat.le_of_ble_eq_true rfl) rfl ?_
        refine vx_aload_n C 0 dL_many_88 rfl rfl ?_
        refine vx_aload_n C 1 dL_many_89 rfl rfl ?_
        refine vx_aload_n C 2 dL_many_90 rfl rfl ?_
        refine vx_aload_n C 3 dL_many_91 rfl rfl ?_
        refine vx_aload C 4 dL_many_92 rfl ?_
        refine vx_iload C 9 dL_many_94 rfl ?_
        refine vx_iload C 10 dL_many_96 rfl ?_
        refine vx_aload C 6 dL_many_98 rfl ?_
        refine vx_callXIP C [.ref (G.1 145), .ref (G.1 146), .ref (G.1 147), .ref (G.1 148), .ref (G.1 149), .int (nI fI), .int (nI gI), .ref tq] (c_L_unfit M S hr hw (f := fI) (g := gI) hv (X := X.set k0 (xL G wq 3 W) ++ [xI G tq 4 tf]) xa_at) (cwS 8 C.1.2.2.2.2 gL_many_L_unfit rfl rfl rfl (by decide +kernel) ⟨Nat.le_of_ble_eq_true rfl, Nat.le_of_ble_eq_true rfl⟩) rfl rfl rfl (Nat.le_of_ble_eq_true rfl) dL_many_100 ⟨Nat.le_of_ble_eq_true rfl, Nat.le_of_ble_eq_true rfl⟩ (fun x_21 M_22 X_23 h_24 => ?_)
        obtain ⟨e_r, e_M, t1, ht1, e_X⟩ := h_24
        refine vx_top (y := rtI (misS S 8 fI gI)) e_r ?_
        refine vx_mem (M2 := M) e_M ?_
        refine vx_X (X2 := X.set k0 (xL G wq 3 W) ++ [xI G tq 4 t1]) (e_X.trans xa_set) ?_
        refine vx_bipush (v := (-14)) C dL_many_103 (by decide) ?_
        refine vx_icmp_ne C 139 dL_many_105 (by decide) (fun h_no => ?_) (fun h_fit => ?_)
        · refine vx_iinc (v := nI (kk + 1)) (ls2 := [some (.ref (G.1 145)), some (.ref (G.1 146)), some (.ref (G.1 147)), some (.ref (G.1 148)), some (.ref (G.1 149)), some (.ref wq), some (.ref tq), some (.int (nI L.length)), some (.int (nI (kk + 1))), some (.int (nI fI)), some (.int (nI gI)), none]) C 8 dL_many_139 rfl (nI_add kk 1) rfl ?_
          refine vx_goto C 26 dL_many_142 (by decide) ?_
          refine vx_keep (ls2 := [some (.ref (G.1 145)), some (.ref (G.1 146)), some (.ref (G.1 147)), some (.ref (G.1 148)), some (.ref (G.1 149)), some (.ref wq), some (.ref tq), some (.int (nI L.length)), some (.int (nI (kk + 1))), none, none, none]) ⟨rfl, rfl, rfl, rfl, rfl, rfl, rfl, rfl, rfl, trivial⟩ ?_
          obtain ⟨f2, g2, hI2⟩ := mnI.step (L := L) hn hm hn12 hm12 hf hg hk (by rw [hL, lstG_n (rt_no h_no)])
          exact ih (kk + 1) f2 g2 _ _ L (by omega) hI2 hW (by omega)
        · refine vx_bipush (v := 12) C dL_many_108 (by decide) ?_
          refine vx_iload C 9 dL_many_110 rfl ?_
          refine vx_imul C dL_many_112 ?_
          refine vx_top (y := nI (12 * fI)) (pk_mul 12 fI) ?_
          refine vx_iload C 10 dL_many_113 rfl ?_
          refine vx_iadd C dL_many_115 ?_
          refine vx_top (y := nI (12 * fI + gI)) (nI_add (12 * fI) gI) ?_
          refine vx_istore (ls2 := [some (.ref (G.1 145)), some (.ref (G.1 146)), some (.ref (G.1 147)), some (.ref (G.1 148)), some (.ref (G.1 149)), some (.ref wq), some (.ref tq), some (.int (nI L.length)), some (.int (nI kk)), some (.int (nI fI)), some (.int (nI gI)), some (.int (nI (12 * fI + gI)))]) C 11 dL_many_116 (Nat.le_of_ble_eq_true rfl) rfl ?_
          refine vx_aload C 5 dL_many_118 rfl ?_
          refine vx_iload C 11 dL_many_120 rfl ?_
          refine vx_bipush (v := 48) C dL_many_122 (by decide) ?_
          refine vx_idiv C dL_many_124 (by decide) ?_
          refine vx_top (y := nI ((12 * fI + gI) / 48)) (pk_div (a := 12 * fI + gI) (d := 48) (by omega) (by omega) (by omega)) ?_
          refine vx_dup2 C dL_many_125 rfl rfl ?_
          refine vx_xlld (j := (12 * fI + gI) / 48) C (xl_at (xs_at hl)) (by decide) rfl (by omega) dL_many_126 ?_
          refine vx_lconst (v := 1) C dL_many_127 (by decide) ?_
          refine vx_iload C 11 dL_many_128 rfl ?_
          refine vx_bipush (v := 48) C dL_many_130 (by decide) ?_
          refine vx_irem C dL_many_132 (by decide) ?_
          refine vx_top (y := nI ((12 * fI + gI) % 48)) (pk_rem (a := 12 * fI + gI) (d := 48) (by omega) (by omega) (by omega)) ?_
          refine vx_lshl (v := (1 : Int64) <<< ((nI ((12 * fI + gI) % 48)).toInt64 &&& 63)) C dL_many_133 rfl ?_
          refine vx_lor C dL_many_134 ?_
          refine vx_xlst (j := (12 * fI + gI) / 48) C (xl_at (xs_at hl)) (by decide) rfl (by omega) dL_many_135 ?_
          refine vx_X (X2 := X.set k0 (xL G wq 3 (vp_updL W ((12 * fI + gI) / 48) ((W ((12 * fI + gI) / 48)) ||| ((1 : Int64) <<< ((nI ((12 * fI + gI) % 48)).toInt64 &&& 63))))) ++ [xI G tq 4 t1]) (by rw [xl_set (by rw [List.length_set]; exact hl), List.set_set]) ?_
          refine vx_iinc (v := nI (L.length + 1)) (ls2 := [some (.ref (G.1 145)), some (.ref (G.1 146)), some (.ref (G.1 147)), some (.ref (G.1 148)), some (.ref (G.1 149)), some (.ref wq), some (.ref tq), some (.int (nI (L.length + 1))), some (.int (nI kk)), some (.int (nI fI)), some (.int (nI gI)), some (.int (nI (12 * fI + gI)))]) C 7 dL_many_136 rfl (nI_add L.length 1) rfl ?_
          refine vx_iinc (v := nI (kk + 1)) (ls2 := [some (.ref (G.1 145)), some (.ref (G.1 146)), some (.ref (G.1 147)), some (.ref (G.1 148)), some (.ref (G.1 149)), some (.ref wq), some (.ref tq), some (.int (nI (L.length + 1))), some (.int (nI (kk + 1))), some (.int (nI fI)), some (.int (nI gI)), some (.int (nI (12 * fI + gI)))]) C 8 dL_many_139 rfl (nI_add kk 1) rfl ?_
          refine vx_goto C 26 dL_many_142 (by decide) ?_
          refine vx_keep (ls2 := [some (.ref (G.1 145)), some (.ref (G.1 146)), some (.ref (G.1 147)), some (.ref (G.1 148)), some (.ref (G.1 149)), some (.ref wq), some (.ref tq), some (.int (nI (L.length + 1))), some (.int (nI (kk + 1))), none, none, none]) ⟨rfl, rfl, rfl, rfl, rfl, rfl, rfl, rfl, rfl, trivial⟩ ?_
          obtain ⟨f2, g2, hI2⟩ := mnI.step (L := L ++ [12 * fI + gI]) hn hm hn12 hm12 hf hg hk (by rw [hL, lstG_y (rt_fit h_fit), List.append_assoc])
          refine vx_loc (ls2 := [some (.ref (G.1 145)), some (.ref (G.1 146)), some (.ref (G.1 147)), some (.ref (G.1 148)), some (.ref (G.1 149)), some (.ref wq), some (.ref tq), some (.int (nI ((L ++ [12 * fI + gI]).length))), some (.int (nI (kk + 1))), none, none, none]) (by rw [List.length_append]; rfl) ?_
          exact ih (kk + 1) f2 g2 _ _ (L ++ [12 * fI + gI]) (by omega) hI2 (hW.add (by omega)) (by rw [List.length_append, List.length_singleton]; omega)
set_option maxRecDepth 100000 in
set_option maxHeartbeats 4000000 in
theorem c_L_many {l : Launch} {G : mw_GG} (M S : mw_M) (hr : lrel M S) (hw : wfV S) {X : va_W} {k0 wq : Nat} {w0 : Nat → Int64} (hk0 : X[k0]? = some (xL G wq 3 w0)) : mx_Met l yL_many wsL_many ({ frames := 3, cells := 1, slots := 4, locals := 76 } : Room) G [.ref (G.1 145), .ref (G.1 146), .ref (G.1 147), .ref (G.1 148), .ref (G.1 149), .ref wq] M X (xI_P (fun r M2 X2 => r = manyI S ∧ M2 = M ∧ ∃ W, wbL W (lstS S 8) ∧ X2 = X.set k0 (xL G wq 3 W))) 1 4 := by
  refine mx_ofV (cc := cL_many) 12 (by decide) rfl rfl (Nat.le_of_ble_eq_true rfl) ?_
  intro p e s m args below meth c A C hR
  refine vx_loc (ls2 := [some (.ref (G.1 145)), some (.ref (G.1 146)), some (.ref (G.1 147)), some (.ref (G.1 148)), some (.ref (G.1 149)), some (.ref wq), none, none, none, none, none, none]) rfl ?_
  have hl := (List.getElem?_eq_some_iff.mp hk0).1
  refine vx_X (X2 := X.set k0 (xL G wq 3 w0)) (xs_same hk0).symm ?_
  refine vx_iconst (v := 4) C dL_many_0 (by decide) ?_
  refine vx_newI (N := 4) C (List.mem_of_getElem? (i := 1) rfl) rfl (by decide) (Nat.le_of_ble_eq_true rfl) (Nat.le_of_ble_eq_true rfl) dL_many_1 (fun tq => ?_)
  refine vx_astore (ls2 := [some (.ref (G.1 145)), some (.ref (G.1 146)), some (.ref (G.1 147)), some (.ref (G.1 148)), some (.ref (G.1 149)), some (.ref wq), some (.ref tq), none, none, none, none, none]) C 6 dL_many_3 (Nat.le_of_ble_eq_true rfl) rfl ?_
  refine vx_iconst (v := 0) C dL_many_5 (by decide) ?_
  refine vx_istore (ls2 := [some (.ref (G.1 145)), some (.ref (G.1 146)), some (.ref (G.1 147)), some (.ref (G.1 148)), some (.ref (G.1 149)), some (.ref wq), some (.ref tq), some (.int 0), none, none, none, none]) C 7 dL_many_6 (Nat.le_of_ble_eq_true rfl) rfl ?_
  refine vx_aload C 5 dL_many_8 rfl ?_
  refine vx_iconst (v := 0) C dL_many_10 (by decide) ?_
  refine vx_lconst (v := 0) C dL_many_11 (by decide) ?_
  refine vx_xlst (j := 0) C (xl_at (xs_at hl)) (by decide) rfl (by decide) dL_many_12 ?_
  refine vx_X (X2 := X.set k0 (xL G wq 3 (vp_updL w0 0 0)) ++ [xI G tq 4 (fun _ => 0)]) (by rw [xl_set (by rw [List.length_set]; exact hl), List.set_set]) ?_
  refine vx_aload C 5 dL_many_13 rfl ?_
  refine vx_iconst (v := 1) C dL_many_15 (by decide) ?_
  refine vx_lconst (v := 0) C dL_many_16 (by decide) ?_
  refine vx_xlst (j := 1) C (xl_at (xs_at hl)) (by decide) rfl (by decide) dL_many_17 ?_
  refine vx_X (X2 := X.set k0 (xL G wq 3 (vp_updL (vp_updL w0 0 0) 1 0)) ++ [xI G tq 4 (fun _ => 0)]) (by rw [xl_set (by rw [List.length_set]; exact hl), List.set_set]) ?_
  refine vx_aload C 5 dL_many_18 rfl ?_
  refine vx_iconst (v := 2) C dL_many_20 (by decide) ?_
  refine vx_lconst (v := 0) C dL_many_21 (by decide) ?_
  refine vx_xlst (j := 2) C (xl_at (xs_at hl)) (by decide) rfl (by decide) dL_many_22 ?_
  refine vx_X (X2 := X.set k0 (xL G wq 3 (vp_updL (vp_updL (vp_updL w0 0 0) 1 0) 2 0)) ++ [xI G tq 4 (fun _ => 0)]) (by rw [xl_set (by rw [List.length_set]; exact hl), List.set_set]) ?_
  refine vx_iconst (v := 0) C dL_many_23 (by decide) ?_
  refine vx_istore (ls2 := [some (.ref (G.1 145)), some (.ref (G.1 146)), some (.ref (G.1 147)), some (.ref (G.1 148)), some (.ref (G.1 149)), some (.ref wq), some (.ref tq), some (.int 0), some (.int 0), none, none, none]) C 8 dL_many_24 (Nat.le_of_ble_eq_true rfl) rfl ?_
  obtain ⟨f0, g0, hI0⟩ := mnI.start (S := S) rfl rfl
  refine vx_loc (ls2 := [some (.ref (G.1 145)), some (.ref (G.1 146)), some (.ref (G.1 147)), some (.ref (G.1 148)), some (.ref (G.1 149)), some (.ref wq), some (.ref tq), some (.int (nI (([] : List Nat).length))), some (.int 0), none, none, none]) rfl ?_
  exact lp_many C hR M S hr hw rfl rfl hl 145 0 f0 g0 _ _ [] (by omega) hI0 (wbP.zero rfl rfl rfl (fun q _ => rfl)) (Nat.le_refl 0)
set_option maxRecDepth 100000 in
set_option maxHeartbeats 4000000 in
theorem lp_unlike_in {p : Program} {l : Launch} {e : Env} {s : State} {m : MethodId} {args : Array Value} {below : List Frame} {meth : Method} {c : Code} {G : mw_GG} {A : Nat → Prop} {Q : State → Prop} (C : vx_C p s m args c G A cL_unlike 7 wsL_unlike RL) (M S : mw_M) (hr : lrel M S) (hw : wfV S) {X : va_W} {k0 wq : Nat} (hl : k0 < X.length) {W : Nat → Int64} (hW : wbL W (lstS S 8)) {r0 q0 : Nat} (hq0 : q0 < 144) (hqm : q0 ∈ lstS S 8) (hk1 : (∀ q, q < q0 → q ∈ lstS S 8 → ¬ alqB S q0 q 8 = true) → vx p l e ({ frames := 3, cells := 0, slots := 0, locals := 70 } : Room) s m args below meth c G A 0 0 Q M (X.set k0 (xL G wq 3 W)) 100 [some (.ref (G.1 145)), some (.ref (G.1 146)), some (.ref wq), some (.int (nI r0)), some (.int (nI q0)), some (.int 1), none] []) (hk0 : (∃ q, q < q0 ∧ q ∈ lstS S 8 ∧ alqB S q0 q 8 = true) → vx p l e ({ frames := 3, cells := 0, slots := 0, locals := 70 } : Room) s m args below meth c G A 0 0 Q M (X.set k0 (xL G wq 3 W)) 100 [some (.ref (G.1 145)), some (.ref (G.1 146)), some (.ref wq), some (.int (nI r0)), some (.int (nI q0)), some (.int 0), none] []) : ∀ (n i : Nat), q0 + 1 ≤ i + n → i ≤ q0 → (∀ j, j < i → j ∈ lstS S 8 → ¬ alqB S q0 j 8 = true) → vx p l e ({ frames := 3, cells := 0, slots := 0, locals := 70 } : Room) s m args below meth c G A 0 0 Q M (X.set k0 (xL G wq 3 W)) 43 [some (.ref (G.1 145)), some (.ref (G.1 146)), some (.ref wq), some (.int (nI r0)), some (.int (nI q0)), some (.int 1), some (.int (nI i))] [] := by
  intro n
  induction n with
  | zero => intro i h1 h2 _; omega
  | succ n ih =>
    intro i h1 h2 hI
    refine vx_iload C 6 dL_unlike_43 rfl ?_
    refine vx_iload C 4 dL_unlike_45 rfl ?_
    refine vx_ncmp_ge C i q0 100 dL_unlike_47 (by decide) (by omega) (by omega) (fun h_ge => ?_) (fun h_lt => ?_)
    · have e : i = q0 := by omega
      subst e
      refine vx_keep (ls2 := [some (.ref (G.1 145)), some (.ref (G.1 146)), some (.ref wq), some (.int (nI r0)), some (.int (nI i)), some (.int 1), none]) ⟨rfl, rfl, rfl, rfl, rfl, rfl, trivial⟩ ?_
      exact hk1 hI
    · refine vx_iload C 5 dL_unlike_50 rfl ?_
      refine vx_nif_eq C 1 100 dL_unlike_52 (by decide) (by decide) (fun h_3 => absurd h_3 (by decide)) (fun h_4 => ?_)
      refine vx_aload_n C 2 dL_unlike_55 rfl rfl ?_
      refine vx_iload C 6 dL_unlike_56 rfl ?_
      refine vx_bipush (v := 48) C dL_unlike_58 (by decide) ?_
      refine vx_idiv C dL_unlike_60 (by decide) ?_
      refine vx_top (y := nI (i / 48)) (pk_div (a := i) (d := 48) (by omega) (by omega) (by omega)) ?_
      refine vx_xlld (j := i / 48) C (xs_at hl) (by decide) rfl (by omega) dL_unlike_61 ?_
      refine vx_iload C 6 dL_unlike_62 rfl ?_
      refine vx_bipush (v := 48) C dL_unlike_64 (by decide) ?_
      refine vx_irem C dL_unlike_66 (by decide) ?_
      refine vx_top (y := nI (i % 48)) (pk_rem (a := i) (d := 48) (by omega) (by omega) (by omega)) ?_
      refine vx_lshr (v := (W (i / 48)) >>> ((nI (i % 48)).toInt64 &&& 63)) C dL_unlike_67 rfl ?_
      refine vx_lconst (v := 1) C dL_unlike_68 (by decide) ?_
      refine vx_land C dL_unlike_69 ?_
      refine vx_topl (y := if decide (i ∈ lstS S 8) = true then 1 else 0) (wbP.bit hW (q := i) (by omega)) ?_
      refine vx_lconst (v := 0) C dL_unlike_70 (by decide) ?_
      refine vx_lcmp C (if decide (i ∈ lstS S 8) = true then 1 else 0) dL_unlike_71 lcm0 ?_
      refine vx_if_eq C 87 dL_unlike_72 (by decide) (fun h_out => ?_) (fun h_in => ?_)
      · have hq : ¬ i ∈ lstS S 8 := of_decide_eq_false (lc0_eq h_out)
        refine vx_iconst (v := 1) C dL_unlike_87 (by decide) ?_
        refine vx_goto C 92 dL_unlike_88 (by decide) ?_
        refine vx_istore (ls2 := [some (.ref (G.1 145)), some (.ref (G.1 146)), some (.ref wq), some (.int (nI r0)), some (.int (nI q0)), some (.int 1), some (.int (nI i))]) C 5 dL_unlike_92 (Nat.le_of_ble_eq_true rfl) rfl ?_
        refine vx_iinc (v := nI (i + 1)) (ls2 := [some (.ref (G.1 145)), some (.ref (G.1 146)), some (.ref wq), some (.int (nI r0)), some (.int (nI q0)), some (.int 1), some (.int (nI (i + 1)))]) C 6 dL_unlike_94 rfl (nI_add i 1) rfl ?_
        refine vx_goto C 43 dL_unlike_97 (by decide) ?_
        refine ih (i + 1) (by omega) (by omega) (fun j hj => ?_)
        rcases Nat.lt_or_ge j i with z | z
        · exact hI j z
        · rw [show j = i by omega]
          exact fun hm => absurd hm hq
      · have hq : i ∈ lstS S 8 := of_decide_eq_true (lc0_ne h_in)
        refine vx_aload_n C 0 dL_unlike_75 rfl rfl ?_
        refine vx_aload_n C 1 dL_unlike_76 rfl rfl ?_
        refine vx_iload C 4 dL_unlike_77 rfl ?_
        refine vx_iload C 6 dL_unlike_79 rfl ?_
        refine vx_callSI C [.ref (G.1 145), .ref (G.1 146), .int (nI q0), .int (nI i)] (c_L_alike M S hr hw (p0 := q0) (q0 := i) hq0 (by omega) (valP_row hw.wfR hqm).2 (valP_row hw.wfR hq).2) (cwS 4 C.1.2.2.2.2 gL_unlike_L_alike rfl rfl rfl (by decide +kernel) ⟨Nat.le_of_ble_eq_true rfl, Nat.le_of_ble_eq_true rfl⟩) rfl rfl rfl (Nat.le_of_ble_eq_true rfl) dL_unlike_81 ⟨Nat.le_of_ble_eq_true rfl, Nat.le_of_ble_eq_true rfl⟩ ?_
        refine vx_bif_ne C 91 dL_unlike_84 (by decide) (fun h_al => ?_) (fun h_nal => ?_)
        · refine vx_iconst (v := 0) C dL_unlike_91 (by decide) ?_
          refine vx_istore (ls2 := [some (.ref (G.1 145)), some (.ref (G.1 146)), some (.ref wq), some (.int (nI r0)), some (.int (nI q0)), some (.int 0), some (.int (nI i))]) C 5 dL_unlike_92 (Nat.le_of_ble_eq_true rfl) rfl ?_
          refine vx_iinc (v := nI (i + 1)) (ls2 := [some (.ref (G.1 145)), some (.ref (G.1 146)), some (.ref wq), some (.int (nI r0)), some (.int (nI q0)), some (.int 0), some (.int (nI (i + 1)))]) C 6 dL_unlike_94 rfl (nI_add i 1) rfl ?_
          refine vx_goto C 43 dL_unlike_97 (by decide) ?_
          refine vx_iload C 6 dL_unlike_43 rfl ?_
          refine vx_iload C 4 dL_unlike_45 rfl ?_
          refine vx_ncmp_ge C (i + 1) q0 100 dL_unlike_47 (by decide) (by omega) (by omega) (fun _ => ?_) (fun _ => ?_)
          · refine vx_keep (ls2 := [some (.ref (G.1 145)), some (.ref (G.1 146)), some (.ref wq), some (.int (nI r0)), some (.int (nI q0)), some (.int 0), none]) ⟨rfl, rfl, rfl, rfl, rfl, rfl, trivial⟩ ?_
            exact hk0 ⟨i, h_lt, hq, h_al⟩
          · refine vx_iload C 5 dL_unlike_50 rfl ?_
            refine vx_if_eq C 100 dL_unlike_52 (by decide) (fun _ => ?_) (fun h => absurd rfl h)
            refine vx_keep (ls2 := [some (.ref (G.1 145)), some (.ref (G.1 146)), some (.ref wq), some (.int (nI r0)), some (.int (nI q0)), some (.int 0), none]) ⟨rfl, rfl, rfl, rfl, rfl, rfl, trivial⟩ ?_
            exact hk0 ⟨i, h_lt, hq, h_al⟩
        · refine vx_iconst (v := 1) C dL_unlike_87 (by decide) ?_
          refine vx_goto C 92 dL_unlike_88 (by decide) ?_
          refine vx_istore (ls2 := [some (.ref (G.1 145)), some (.ref (G.1 146)), some (.ref wq), some (.int (nI r0)), some (.int (nI q0)), some (.int 1), some (.int (nI i))]) C 5 dL_unlike_92 (Nat.le_of_ble_eq_true rfl) rfl ?_
          refine vx_iinc (v := nI (i + 1)) (ls2 := [some (.ref (G.1 145)), some (.ref (G.1 146)), some (.ref wq), some (.int (nI r0)), some (.int (nI q0)), some (.int 1), some (.int (nI (i + 1)))]) C 6 dL_unlike_94 rfl (nI_add i 1) rfl ?_
          refine vx_goto C 43 dL_unlike_97 (by decide) ?_
          refine ih (i + 1) (by omega) (by omega) (fun j hj => ?_)
          rcases Nat.lt_or_ge j i with z | z
          · exact hI j z
          · rw [show j = i by omega]
            exact fun _ => h_nal
set_option maxRecDepth 100000 in
set_option maxHeartbeats 4000000 in
theorem lp_unlike {p : Program} {l : Launch} {e : Env} {s : State} {m : MethodId} {args : Array Value} {below : List Frame} {meth : Method} {c : Code} {G : mw_GG} {A : Nat → Prop} (C : vx_C p s m args c G A cL_unlike 7 wsL_unlike RL) (hR : vv_R meth (some .int)) (M S : mw_M) (hr : lrel M S) (hw : wfV S) {X : va_W} {k0 wq : Nat} (hl : k0 < X.length) {W : Nat → Int64} (hW : wbL W (lstS S 8)) (hXs : X.set k0 (xL G wq 3 W) = X)  : ∀ (n q0 : Nat), 145 ≤ q0 + n → q0 ≤ 144 → vx p l e ({ frames := 3, cells := 0, slots := 0, locals := 70 } : Room) s m args below meth c G A 0 0 (mx_E below args s G A (xI_P (fun r M2 X2 => r = unlI S ∧ M2 = M ∧ X2 = X)) 0 0) M (X.set k0 (xL G wq 3 W)) 5 [some (.ref (G.1 145)), some (.ref (G.1 146)), some (.ref wq), some (.int (nI (unN S (lstS S 8) q0))), some (.int (nI q0)), none, none] [] := by
  have hun : ∀ q, unN S (lstS S 8) q ≤ 144 := fun q => Nat.le_trans (dcF_le _ _) (Nat.le_trans (List.length_filter_le _ _) (lstS_len hw.wfR))
  intro n
  induction n with
  | zero => intro q0 h1 h2; omega
  | succ n ih =>
    intro q0 h1 h2
    refine vx_iload C 4 dL_unlike_5 rfl ?_
    refine vx_sipush (v := 144) C dL_unlike_7 (by decide) ?_
    refine vx_ncmp_ge C q0 144 119 dL_unlike_10 (by decide) (by omega) (by decide) (fun h_ge => ?_) (fun h_lt => ?_)
    · refine vx_iload_n C 3 dL_unlike_119 rfl rfl ?_
      refine vx_top (y := unlI S) ((by rw [show q0 = 144 by omega]; exact unN_all hw.wfR)) ?_
      exact vx_iret C hR (Nat.le_refl _) (Nat.le_refl _) dL_unlike_120 ⟨_, rfl, rfl, rfl, hXs⟩
    · refine vx_aload_n C 2 dL_unlike_13 rfl rfl ?_
      refine vx_iload C 4 dL_unlike_14 rfl ?_
      refine vx_bipush (v := 48) C dL_unlike_16 (by decide) ?_
      refine vx_idiv C dL_unlike_18 (by decide) ?_
      refine vx_top (y := nI (q0 / 48)) (pk_div (a := q0) (d := 48) (by omega) (by omega) (by omega)) ?_
      refine vx_xlld (j := q0 / 48) C (xs_at hl) (by decide) rfl (by omega) dL_unlike_19 ?_
      refine vx_iload C 4 dL_unlike_20 rfl ?_
      refine vx_bipush (v := 48) C dL_unlike_22 (by decide) ?_
      refine vx_irem C dL_unlike_24 (by decide) ?_
      refine vx_top (y := nI (q0 % 48)) (pk_rem (a := q0) (d := 48) (by omega) (by omega) (by omega)) ?_
      refine vx_lshr (v := (W (q0 / 48)) >>> ((nI (q0 % 48)).toInt64 &&& 63)) C dL_unlike_25 rfl ?_
      refine vx_lconst (v := 1) C dL_unlike_26 (by decide) ?_
      refine vx_land C dL_unlike_27 ?_
      refine vx_topl (y := if decide (q0 ∈ lstS S 8) = true then 1 else 0) (wbP.bit hW (q := q0) (by omega)) ?_
      refine vx_lconst (v := 1) C dL_unlike_28 (by decide) ?_
      refine vx_lcmp C (if decide (q0 ∈ lstS S 8) = true then 0 else (-1)) dL_unlike_29 lcm1 ?_
      refine vx_if_ne C 37 dL_unlike_30 (by decide) (fun h_nbit => ?_) (fun h_bit => ?_)
      · refine vx_iconst (v := 0) C dL_unlike_37 (by decide) ?_
        refine vx_istore (ls2 := [some (.ref (G.1 145)), some (.ref (G.1 146)), some (.ref wq), some (.int (nI (unN S (lstS S 8) q0))), some (.int (nI q0)), some (.int 0), none]) C 5 dL_unlike_38 (Nat.le_of_ble_eq_true rfl) rfl ?_
        refine vx_iconst (v := 0) C dL_unlike_40 (by decide) ?_
        refine vx_istore (ls2 := [some (.ref (G.1 145)), some (.ref (G.1 146)), some (.ref wq), some (.int (nI (unN S (lstS S 8) q0))), some (.int (nI q0)), some (.int 0), some (.int 0)]) C 6 dL_unlike_41 (Nat.le_of_ble_eq_true rfl) rfl ?_
        have hqn : ¬ q0 ∈ lstS S 8 := of_decide_eq_false (lc1_ne h_nbit)
        refine vx_iload C 6 dL_unlike_43 rfl ?_
        refine vx_iload C 4 dL_unlike_45 rfl ?_
        refine vx_ncmp_ge C 0 q0 100 dL_unlike_47 (by decide) (by decide) (by omega) (fun _ => ?_) (fun _ => ?_)
        · refine vx_iload_n C 3 dL_unlike_100 rfl rfl ?_
          refine vx_iload C 5 dL_unlike_101 rfl ?_
          refine vx_nif_eq C 0 110 dL_unlike_103 (by decide) (by decide) (fun h_6 => ?_) (fun h_5 => absurd h_5 (by decide))
          refine vx_iconst (v := 0) C dL_unlike_110 (by decide) ?_
          refine vx_iadd C dL_unlike_111 ?_
          refine vx_top (y := nI (unN S (lstS S 8) q0 + 0)) (nI_add (unN S (lstS S 8) q0) 0) ?_
          refine vx_istore_n (ls2 := [some (.ref (G.1 145)), some (.ref (G.1 146)), some (.ref wq), some (.int (nI (unN S (lstS S 8) q0 + 0))), some (.int (nI q0)), some (.int 0), some (.int 0)]) C 3 dL_unlike_112 rfl (Nat.le_of_ble_eq_true rfl) rfl ?_
          refine vx_iinc (v := nI (q0 + 1)) (ls2 := [some (.ref (G.1 145)), some (.ref (G.1 146)), some (.ref wq), some (.int (nI (unN S (lstS S 8) q0 + 0))), some (.int (nI (q0 + 1))), some (.int 0), some (.int 0)]) C 4 dL_unlike_113 rfl (nI_add q0 1) rfl ?_
          refine vx_goto C 5 dL_unlike_116 (by decide) ?_
          have e := unN_n (S := S) (lst_asc hw.wfR) hqn
          refine vx_keep (ls2 := [some (.ref (G.1 145)), some (.ref (G.1 146)), some (.ref wq), some (.int (nI (unN S (lstS S 8) q0 + 0))), some (.int (nI (q0 + 1))), none, none]) ⟨rfl, rfl, rfl, rfl, rfl, trivial⟩ ?_
          refine vx_loc (ls2 := [some (.ref (G.1 145)), some (.ref (G.1 146)), some (.ref wq), some (.int (nI (unN S (lstS S 8) (q0 + 1)))), some (.int (nI (q0 + 1))), none, none]) (by rw [e]; rfl) ?_
          exact ih (q0 + 1) (by omega) (by omega)
        · refine vx_iload C 5 dL_unlike_50 rfl ?_
          refine vx_if_eq C 100 dL_unlike_52 (by decide) (fun _ => ?_) (fun h => absurd rfl h)
          refine vx_iload_n C 3 dL_unlike_100 rfl rfl ?_
          refine vx_iload C 5 dL_unlike_101 rfl ?_
          refine vx_nif_eq C 0 110 dL_unlike_103 (by decide) (by decide) (fun h_8 => ?_) (fun h_7 => absurd h_7 (by decide))
          refine vx_iconst (v := 0) C dL_unlike_110 (by decide) ?_
          refine vx_iadd C dL_unlike_111 ?_
          refine vx_top (y := nI (unN S (lstS S 8) q0 + 0)) (nI_add (unN S (lstS S 8) q0) 0) ?_
          refine vx_istore_n (ls2 := [some (.ref (G.1 145)), some (.ref (G.1 146)), some (.ref wq), some (.int (nI (unN S (lstS S 8) q0 + 0))), some (.int (nI q0)), some (.int 0), some (.int 0)]) C 3 dL_unlike_112 rfl (Nat.le_of_ble_eq_true rfl) rfl ?_
          refine vx_iinc (v := nI (q0 + 1)) (ls2 := [some (.ref (G.1 145)), some (.ref (G.1 146)), some (.ref wq), some (.int (nI (unN S (lstS S 8) q0 + 0))), some (.int (nI (q0 + 1))), some (.int 0), some (.int 0)]) C 4 dL_unlike_113 rfl (nI_add q0 1) rfl ?_
          refine vx_goto C 5 dL_unlike_116 (by decide) ?_
          have e := unN_n (S := S) (lst_asc hw.wfR) hqn
          refine vx_keep (ls2 := [some (.ref (G.1 145)), some (.ref (G.1 146)), some (.ref wq), some (.int (nI (unN S (lstS S 8) q0 + 0))), some (.int (nI (q0 + 1))), none, none]) ⟨rfl, rfl, rfl, rfl, rfl, trivial⟩ ?_
          refine vx_loc (ls2 := [some (.ref (G.1 145)), some (.ref (G.1 146)), some (.ref wq), some (.int (nI (unN S (lstS S 8) (q0 + 1)))), some (.int (nI (q0 + 1))), none, none]) (by rw [e]; rfl) ?_
          exact ih (q0 + 1) (by omega) (by omega)
      · refine vx_iconst (v := 1) C dL_unlike_33 (by decide) ?_
        refine vx_goto C 38 dL_unlike_34 (by decide) ?_
        refine vx_istore (ls2 := [some (.ref (G.1 145)), some (.ref (G.1 146)), some (.ref wq), some (.int (nI (unN S (lstS S 8) q0))), some (.int (nI q0)), some (.int 1), none]) C 5 dL_unlike_38 (Nat.le_of_ble_eq_true rfl) rfl ?_
        refine vx_iconst (v := 0) C dL_unlike_40 (by decide) ?_
        refine vx_istore (ls2 := [some (.ref (G.1 145)), some (.ref (G.1 146)), some (.ref wq), some (.int (nI (unN S (lstS S 8) q0))), some (.int (nI q0)), some (.int 1), some (.int 0)]) C 6 dL_unlike_41 (Nat.le_of_ble_eq_true rfl) rfl ?_
        have hqm : q0 ∈ lstS S 8 := of_decide_eq_true (lc1_eq h_bit)
        refine lp_unlike_in C M S hr hw hl hW (r0 := unN S (lstS S 8) q0) (by omega) hqm (fun hall => ?_) (fun hex => ?_) (q0 + 1) 0 (by omega) (by omega) (fun j hj => absurd hj (Nat.not_lt_zero j))
        · refine vx_iload_n C 3 dL_unlike_100 rfl rfl ?_
          refine vx_iload C 5 dL_unlike_101 rfl ?_
          refine vx_nif_eq C 1 110 dL_unlike_103 (by decide) (by decide) (fun h_9 => absurd h_9 (by decide)) (fun h_10 => ?_)
          refine vx_iconst (v := 1) C dL_unlike_106 (by decide) ?_
          refine vx_goto C 111 dL_unlike_107 (by decide) ?_
          refine vx_iadd C dL_unlike_111 ?_
          refine vx_top (y := nI (unN S (lstS S 8) q0 + 1)) (nI_add (unN S (lstS S 8) q0) 1) ?_
          refine vx_istore_n (ls2 := [some (.ref (G.1 145)), some (.ref (G.1 146)), some (.ref wq), some (.int (nI (unN S (lstS S 8) q0 + 1))), some (.int (nI q0)), some (.int 1), none]) C 3 dL_unlike_112 rfl (Nat.le_of_ble_eq_true rfl) rfl ?_
          refine vx_iinc (v := nI (q0 + 1)) (ls2 := [some (.ref (G.1 145)), some (.ref (G.1 146)), some (.ref wq), some (.int (nI (unN S (lstS S 8) q0 + 1))), some (.int (nI (q0 + 1))), some (.int 1), none]) C 4 dL_unlike_113 rfl (nI_add q0 1) rfl ?_
          refine vx_goto C 5 dL_unlike_116 (by decide) ?_
          have e := unN_y (lst_asc hw.wfR) (fun r hr => lst_144 hw.wfR r hr) (fun r hr => (valP_row hw.wfR hr).2) hqm (b := true) ⟨fun _ => hall, fun _ => rfl⟩
          refine vx_keep (ls2 := [some (.ref (G.1 145)), some (.ref (G.1 146)), some (.ref wq), some (.int (nI (unN S (lstS S 8) q0 + 1))), some (.int (nI (q0 + 1))), none, none]) ⟨rfl, rfl, rfl, rfl, rfl, trivial⟩ ?_
          refine vx_loc (ls2 := [some (.ref (G.1 145)), some (.ref (G.1 146)), some (.ref wq), some (.int (nI (unN S (lstS S 8) (q0 + 1)))), some (.int (nI (q0 + 1))), none, none]) (by rw [e]; rfl) ?_
          exact ih (q0 + 1) (by omega) (by omega)
        · refine vx_iload_n C 3 dL_unlike_100 rfl rfl ?_
          refine vx_iload C 5 dL_unlike_101 rfl ?_
          refine vx_nif_eq C 0 110 dL_unlike_103 (by decide) (by decide) (fun h_12 => ?_) (fun h_11 => absurd h_11 (by decide))
          refine vx_iconst (v := 0) C dL_unlike_110 (by decide) ?_
          refine vx_iadd C dL_unlike_111 ?_
          refine vx_top (y := nI (unN S (lstS S 8) q0 + 0)) (nI_add (unN S (lstS S 8) q0) 0) ?_
          refine vx_istore_n (ls2 := [some (.ref (G.1 145)), some (.ref (G.1 146)), some (.ref wq), some (.int (nI (unN S (lstS S 8) q0 + 0))), some (.int (nI q0)), some (.int 0), none]) C 3 dL_unlike_112 rfl (Nat.le_of_ble_eq_true rfl) rfl ?_
          refine vx_iinc (v := nI (q0 + 1)) (ls2 := [some (.ref (G.1 145)), some (.ref (G.1 146)), some (.ref wq), some (.int (nI (unN S (lstS S 8) q0 + 0))), some (.int (nI (q0 + 1))), some (.int 0), none]) C 4 dL_unlike_113 rfl (nI_add q0 1) rfl ?_
          refine vx_goto C 5 dL_unlike_116 (by decide) ?_
          have e := unN_y (lst_asc hw.wfR) (fun r hr => lst_144 hw.wfR r hr) (fun r hr => (valP_row hw.wfR hr).2) hqm (b := false) ⟨fun z => absurd z (by decide), fun z => by obtain ⟨q, y1, y2, y3⟩ := hex; exact absurd y3 (z q y1 y2)⟩
          refine vx_keep (ls2 := [some (.ref (G.1 145)), some (.ref (G.1 146)), some (.ref wq), some (.int (nI (unN S (lstS S 8) q0 + 0))), some (.int (nI (q0 + 1))), none, none]) ⟨rfl, rfl, rfl, rfl, rfl, trivial⟩ ?_
          refine vx_loc (ls2 := [some (.ref (G.1 145)), some (.ref (G.1 146)), some (.ref wq), some (.int (nI (unN S (lstS S 8) (q0 + 1)))), some (.int (nI (q0 + 1))), none, none]) (by rw [e]; rfl) ?_
          exact ih (q0 + 1) (by omega) (by omega)
set_option maxRecDepth 100000 in
set_option maxHeartbeats 4000000 in
theorem c_L_unlike {l : Launch} {G : mw_GG} (M S : mw_M) (hr : lrel M S) (hw : wfV S) {X : va_W} {k0 wq : Nat} {W : Nat → Int64} (hk0 : X[k0]? = some (xL G wq 3 W)) (hW : wbL W (lstS S 8)) : mx_Met l yL_unlike wsL_unlike ({ frames := 3, cells := 0, slots := 0, locals := 70 } : Room) G [.ref (G.1 145), .ref (G.1 146), .ref wq] M X (xI_P (fun r M2 X2 => r = unlI S ∧ M2 = M ∧ X2 = X)) 0 0 := by
  refine mx_ofV (cc := cL_unlike) 7 (by decide) rfl rfl (Nat.le_of_ble_eq_true rfl) ?_
  intro p e s m args below meth c A C hR
  refine vx_loc (ls2 := [some (.ref (G.1 145)), some (.ref (G.1 146)), some (.ref wq), none, none, none, none]) rfl ?_
  have hl := (List.getElem?_eq_some_iff.mp hk0).1
  refine vx_X (X2 := X.set k0 (xL G wq 3 W)) (xs_same hk0).symm ?_
  refine vx_iconst (v := 0) C dL_unlike_0 (by decide) ?_
  refine vx_istore_n (ls2 := [some (.ref (G.1 145)), some (.ref (G.1 146)), some (.ref wq), some (.int 0), none, none, none]) C 3 dL_unlike_1 rfl (Nat.le_of_ble_eq_true rfl) rfl ?_
  refine vx_iconst (v := 0) C dL_unlike_2 (by decide) ?_
  refine vx_istore (ls2 := [some (.ref (G.1 145)), some (.ref (G.1 146)), some (.ref wq), some (.int 0), some (.int 0), none, none]) C 4 dL_unlike_3 (Nat.le_of_ble_eq_true rfl) rfl ?_
  refine vx_keep (ls2 := [some (.ref (G.1 145)), some (.ref (G.1 146)), some (.ref wq), some (.int 0), some (.int 0), none, none]) ⟨rfl, rfl, rfl, rfl, rfl, trivial⟩ ?_
  refine vx_loc (ls2 := [some (.ref (G.1 145)), some (.ref (G.1 146)), some (.ref wq), some (.int (nI (unN S (lstS S 8) 0))), some (.int 0), none, none]) (by rw [unN_0]; rfl) ?_
  exact lp_unlike C hR M S hr hw hl hW (xs_same hk0) 145 0 (by omega) (by omega)
