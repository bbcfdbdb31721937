set_option maxRecDepth 100000 in
set_option maxHeartbeats 4000000 in
theorem lp_unfit1 {p : Program} {l : Launch} {e : Env} {s : State} {m : MethodId} {args : Array Value} {below : List Frame} {meth : Method} {c : Code} {G : mw_GG} {A : Nat → Prop} {Q : State → Prop} (C : vx_C p s m args c G A cL_unfit 11 wsL_unfit RL) {f g : Nat} {X : va_W} {k0 tq : Nat} (hl : k0 < X.length) (M : mw_M) (hk : ∀ tf, (∀ j, j < 4 → tf j = -14) → vx p l e ({ frames := 2, cells := 0, slots := 0, locals := 46 } : Room) s m args below meth c G A 0 0 Q M (X.set k0 (xI G tq 4 tf)) 22 [some (.ref (G.1 145)), some (.ref (G.1 146)), some (.ref (G.1 147)), some (.ref (G.1 148)), some (.ref (G.1 149)), some (.int (nI f)), some (.int (nI g)), some (.ref tq), none, none, none] []) : ∀ (n i : Nat) (tf : Nat → Int32), 5 ≤ i + n → i ≤ 4 → (∀ j, j < i → tf j = -14) → vx p l e ({ frames := 2, cells := 0, slots := 0, locals := 46 } : Room) s m args below meth c G A 0 0 Q M (X.set k0 (xI G tq 4 tf)) 3 [some (.ref (G.1 145)), some (.ref (G.1 146)), some (.ref (G.1 147)), some (.ref (G.1 148)), some (.ref (G.1 149)), some (.int (nI f)), some (.int (nI g)), some (.ref tq), some (.int (nI i)), none, none] [] := by
  intro n
  induction n with
  | zero => intro i tf h1 h2 _; omega
  | succ n ih =>
    intro i tf h1 h2 hI
    refine vx_iload C 8 dL_unfit_3 rfl ?_
    refine vx_iconst (v := 4) C dL_unfit_5 (by decide) ?_
    refine vx_ncmp_ge C i 4 22 dL_unfit_6 (by decide) (by omega) (by decide) (fun h_ge => ?_) (fun h_lt => ?_)
    · refine vx_keep (ls2 := [some (.ref (G.1 145)), some (.ref (G.1 146)), some (.ref (G.1 147)), some (.ref (G.1 148)), some (.ref (G.1 149)), some (.int (nI f)), some (.int (nI g)), some (.ref tq), none, none, none]) ⟨rfl, rfl, rfl, rfl, rfl, rfl, rfl, rfl, trivial⟩ ?_
      exact hk tf (fun j hj => hI j (by omega))
    · refine vx_aload C 7 dL_unfit_9 rfl ?_
      refine vx_iload C 8 dL_unfit_11 rfl ?_
      refine vx_bipush (v := (-14)) C dL_unfit_13 (by decide) ?_
      refine vx_xast (j := i) C (xs_at hl) (by decide) rfl (by omega) dL_unfit_15 ?_
      refine vx_X (X2 := X.set k0 (xI G tq 4 (upd tf i (-14)))) (by rw [List.set_set]) ?_
      refine vx_iinc (v := nI (i + 1)) (ls2 := [some (.ref (G.1 145)), some (.ref (G.1 146)), some (.ref (G.1 147)), some (.ref (G.1 148)), some (.ref (G.1 149)), some (.int (nI f)), some (.int (nI g)), some (.ref tq), some (.int (nI (i + 1))), none, none]) C 8 dL_unfit_16 rfl (nI_add i 1) rfl ?_
      refine vx_goto C 3 dL_unfit_19 (by decide) ?_
      refine ih (i + 1) _ (by omega) (by omega) (fun j hj => ?_)
      unfold upd
      split
      · rfl
      · exact hI j (by omega)
theorem upd_self {f : Nat → Int32} {k : Nat} {x : Int32} : upd f k x k = x := by unfold upd; rw [if_pos rfl]
theorem upd_other {f : Nat → Int32} {k j : Nat} {x : Int32} (h : ¬ j = k) : upd f k x j = f j := by unfold upd; rw [if_neg h]
set_option maxRecDepth 100000 in
set_option maxHeartbeats 4000000 in
theorem lp_unfit2 {p : Program} {l : Launch} {e : Env} {s : State} {m : MethodId} {args : Array Value} {below : List Frame} {meth : Method} {c : Code} {G : mw_GG} {A : Nat → Prop} {Q : State → Prop} (C : vx_C p s m args c G A cL_unfit 11 wsL_unfit RL) {f g : Nat} {X : va_W} {k0 tq : Nat} (hl : k0 < X.length) (M S : mw_M) (hr : lrel M S) (hw : wfV S) (hv : valP S f g) (hk : ∀ tf, (∀ x, x < 4 → tf x = tlV S x f g) → vx p l e ({ frames := 2, cells := 0, slots := 0, locals := 46 } : Room) s m args below meth c G A 0 0 Q M (X.set k0 (xI G tq 4 tf)) 72 [some (.ref (G.1 145)), some (.ref (G.1 146)), some (.ref (G.1 147)), some (.ref (G.1 148)), some (.ref (G.1 149)), some (.int (nI f)), some (.int (nI g)), some (.ref tq), none, none, none] []) : ∀ (i : Nat) (tf : Nat → Int32), i ≤ 8 → (∀ x, x < 4 → tf x = tlC S x f g (8 - i)) → vx p l e ({ frames := 2, cells := 0, slots := 0, locals := 46 } : Room) s m args below meth c G A 0 0 Q M (X.set k0 (xI G tq 4 tf)) 26 [some (.ref (G.1 145)), some (.ref (G.1 146)), some (.ref (G.1 147)), some (.ref (G.1 148)), some (.ref (G.1 149)), some (.int (nI f)), some (.int (nI g)), some (.ref tq), some (.int (dcI i)), none, none] [] := by
  intro i
  induction i with
  | zero =>
    intro tf _ hT
    refine vx_loc (ls2 := [some (.ref (G.1 145)), some (.ref (G.1 146)), some (.ref (G.1 147)), some (.ref (G.1 148)), some (.ref (G.1 149)), some (.int (nI f)), some (.int (nI g)), some (.ref tq), some (.int (-1)), none, none]) rfl ?_
    refine vx_iload C 8 dL_unfit_26 rfl ?_
    refine vx_if_lt C 72 dL_unfit_28 (by decide) (fun h_2 => ?_) (fun h_1 => absurd h_1 (by decide))
    refine vx_keep (ls2 := [some (.ref (G.1 145)), some (.ref (G.1 146)), some (.ref (G.1 147)), some (.ref (G.1 148)), some (.ref (G.1 149)), some (.int (nI f)), some (.int (nI g)), some (.ref tq), none, none, none]) ⟨rfl, rfl, rfl, rfl, rfl, rfl, rfl, rfl, trivial⟩ ?_
    exact hk tf hT
  | succ i ih =>
    intro tf hi hT
    refine vx_loc (ls2 := [some (.ref (G.1 145)), some (.ref (G.1 146)), some (.ref (G.1 147)), some (.ref (G.1 148)), some (.ref (G.1 149)), some (.int (nI f)), some (.int (nI g)), some (.ref tq), some (.int (nI i)), none, none]) rfl ?_
    refine vx_iload C 8 dL_unfit_26 rfl ?_
    refine vx_nif_lt C i 72 dL_unfit_28 (by decide) (by omega) (fun h_3 => h_3.elim) (fun h_4 => ?_)
    refine vx_aload_n C 0 dL_unfit_31 rfl rfl ?_
    refine vx_iload C 8 dL_unfit_32 rfl ?_
    refine vx_callSI C [.ref (G.1 145), .int (nI i)] (c_L_asked M S hr (i := i) (by omega)) (cwS 2 C.1.2.2.2.2 gL_unfit_L_asked rfl rfl rfl (by decide +kernel) ⟨Nat.le_of_ble_eq_true rfl, Nat.le_of_ble_eq_true rfl⟩) rfl rfl rfl (Nat.le_of_ble_eq_true rfl) dL_unfit_34 ⟨Nat.le_of_ble_eq_true rfl, Nat.le_of_ble_eq_true rfl⟩ ?_
    refine vx_bif_eq C 66 dL_unfit_37 (by decide) (fun h_na => ?_) (fun h_a => ?_)
    · refine vx_iinc (v := dcI i) (ls2 := [some (.ref (G.1 145)), some (.ref (G.1 146)), some (.ref (G.1 147)), some (.ref (G.1 148)), some (.ref (G.1 149)), some (.int (nI f)), some (.int (nI g)), some (.ref tq), some (.int (dcI i)), none, none]) C 8 dL_unfit_66 rfl (dcI_dec i) rfl ?_
      refine vx_goto C 26 dL_unfit_69 (by decide) ?_
      refine ih tf (by omega) (fun x hx => (hT x hx).trans ?_)
      rw [tlC_skip (by omega) (telP_f (fun z => h_na z.1))]
      exact congrArg (tlC S x f g) (by omega)
    · refine vx_aload_n C 2 dL_unfit_40 rfl rfl ?_
      refine vx_iload C 8 dL_unfit_41 rfl ?_
      refine vx_ald (j := i) (q := 1300 + i) C sh_147 rfl (by omega) (by omega) dL_unfit_43 ?_
      refine vx_top (y := S (100 + 3 * i)) (hr.e (by omega)) ?_
      refine vx_bipush (v := 8) C dL_unfit_44 (by decide) ?_
      refine vx_icmp_ne C 66 dL_unfit_46 (by decide) (fun h_n8 => ?_) (fun h_8 => ?_)
      · refine vx_iinc (v := dcI i) (ls2 := [some (.ref (G.1 145)), some (.ref (G.1 146)), some (.ref (G.1 147)), some (.ref (G.1 148)), some (.ref (G.1 149)), some (.int (nI f)), some (.int (nI g)), some (.ref tq), some (.int (dcI i)), none, none]) C 8 dL_unfit_66 rfl (dcI_dec i) rfl ?_
        refine vx_goto C 26 dL_unfit_69 (by decide) ?_
        refine ih tf (by omega) (fun x hx => (hT x hx).trans ?_)
        rw [tlC_skip (by omega) (telP_f (fun z => h_n8 z.2.1))]
        exact congrArg (tlC S x f g) (by omega)
      · obtain ⟨a0, ha0, ea0⟩ := letter hw (i := i) (by omega) (by rw [h_8]; decide)
        refine vx_aload C 7 dL_unfit_49 rfl ?_
        refine vx_aload_n C 3 dL_unfit_51 rfl rfl ?_
        refine vx_iload C 8 dL_unfit_52 rfl ?_
        refine vx_ald (j := i) (q := 1310 + i) C sh_148 rfl (by omega) (by omega) dL_unfit_54 ?_
        refine vx_top (y := nI a0) ((hr.a (by omega)).trans ea0) ?_
        refine vx_aload_n C 1 dL_unfit_55 rfl rfl ?_
        refine vx_iload C 5 dL_unfit_56 rfl ?_
        refine vx_iload C 6 dL_unfit_58 rfl ?_
        refine vx_iload C 8 dL_unfit_60 rfl ?_
        refine vx_callSI C [.ref (G.1 146), .int (nI f), .int (nI g), .int (nI i)] (c_L_of M S hr (i := i) (f := f) (g := g) (by omega) (hv.cd h_a (by omega))) (cwS 4 C.1.2.2.2.2 gL_unfit_L_of rfl rfl rfl (by decide +kernel) ⟨Nat.le_of_ble_eq_true rfl, Nat.le_of_ble_eq_true rfl⟩) rfl rfl rfl (Nat.le_of_ble_eq_true rfl) dL_unfit_62 ⟨Nat.le_of_ble_eq_true rfl, Nat.le_of_ble_eq_true rfl⟩ ?_
        refine vx_xast (j := a0) C (xs_at hl) (by decide) rfl (by omega) dL_unfit_65 ?_
        refine vx_X (X2 := X.set k0 (xI G tq 4 (upd tf a0 (vS S i f g)))) (by rw [List.set_set]) ?_
        refine vx_iinc (v := dcI i) (ls2 := [some (.ref (G.1 145)), some (.ref (G.1 146)), some (.ref (G.1 147)), some (.ref (G.1 148)), some (.ref (G.1 149)), some (.int (nI f)), some (.int (nI g)), some (.ref tq), some (.int (dcI i)), none, none]) C 8 dL_unfit_66 rfl (dcI_dec i) rfl ?_
        refine vx_goto C 26 dL_unfit_69 (by decide) ?_
        refine ih _ (by omega) (fun x hx => ?_)
        by_cases ex : x = a0
        · subst ex
          rw [upd_self, tlC_hit (by omega) (telP_t (by omega) h_a h_8 ea0)]
        · rw [upd_other ex, hT x hx, tlC_skip (by omega) (telP_f (fun z => ex ((nI_eq (by omega) (by omega)).mp (z.2.2.symm.trans ea0))))]
          exact congrArg (tlC S x f g) (by omega)
set_option maxRecDepth 100000 in
set_option maxHeartbeats 4000000 in
theorem lp_unfit3 {p : Program} {l : Launch} {e : Env} {s : State} {m : MethodId} {args : Array Value} {below : List Frame} {meth : Method} {c : Code} {G : mw_GG} {A : Nat → Prop} (C : vx_C p s m args c G A cL_unfit 11 wsL_unfit RL) {f g : Nat} {X : va_W} {k0 tq : Nat} (hl : k0 < X.length) (hR : vv_R meth (some .int)) (M S : mw_M) (hr : lrel M S) (hw : wfV S) (hv : valP S f g) {tf : Nat → Int32} (hT : ∀ x, x < 4 → tf x = tlV S x f g) : ∀ (n i : Nat), 9 ≤ i + n → i ≤ 8 → (∀ j, j < i → misP S 8 f g j = false) → vx p l e ({ frames := 2, cells := 0, slots := 0, locals := 46 } : Room) s m args below meth c G A 0 0 (mx_E below args s G A (xI_P (fun r M2 X2 => r = rtI (misS S 8 f g) ∧ M2 = M ∧ ∃ t1, (∀ x, x < 4 → t1 x = tlV S x f g) ∧ X2 = X.set k0 (xI G tq 4 t1))) 0 0) M (X.set k0 (xI G tq 4 tf)) 75 [some (.ref (G.1 145)), some (.ref (G.1 146)), some (.ref (G.1 147)), some (.ref (G.1 148)), some (.ref (G.1 149)), some (.int (nI f)), some (.int (nI g)), some (.ref tq), some (.int (nI i)), none, none] [] := by
  intro n
  induction n with
  | zero => intro i h1 h2 _; omega
  | succ n ih =>
    intro i h1 h2 hI
    refine vx_iload C 8 dL_unfit_75 rfl ?_
    refine vx_bipush (v := 8) C dL_unfit_77 (by decide) ?_
    refine vx_ncmp_ge C i 8 245 dL_unfit_79 (by decide) (by omega) (by decide) (fun h_end => ?_) (fun h_go => ?_)
    · refine vx_bipush (v := (-14)) C dL_unfit_245 (by decide) ?_
      exact vx_iret C hR (Nat.le_refl _) (Nat.le_refl _) dL_unfit_247 ⟨_, rfl, by unfold misS; rw [tlD_none (fun j hj => hI j (by omega))]; rfl, rfl, tf, hT, rfl⟩
    · refine vx_aload_n C 0 dL_unfit_82 rfl rfl ?_
      refine vx_iload C 8 dL_unfit_83 rfl ?_
      refine vx_callSI C [.ref (G.1 145), .int (nI i)] (c_L_asked M S hr (i := i) (by omega)) (cwS 2 C.1.2.2.2.2 gL_unfit_L_asked rfl rfl rfl (by decide +kernel) ⟨Nat.le_of_ble_eq_true rfl, Nat.le_of_ble_eq_true rfl⟩) rfl rfl rfl (Nat.le_of_ble_eq_true rfl) dL_unfit_85 ⟨Nat.le_of_ble_eq_true rfl, Nat.le_of_ble_eq_true rfl⟩ ?_
      refine vx_bif_eq C 104 dL_unfit_88 (by decide) (fun h_na => ?_) (fun h_a => ?_)
      · refine vx_iconst (v := 0) C dL_unfit_104 (by decide) ?_
        refine vx_istore (ls2 := [some (.ref (G.1 145)), some (.ref (G.1 146)), some (.ref (G.1 147)), some (.ref (G.1 148)), some (.ref (G.1 149)), some (.int (nI f)), some (.int (nI g)), some (.ref tq), some (.int (nI i)), some (.int 0), none]) C 9 dL_unfit_105 (Nat.le_of_ble_eq_true rfl) rfl ?_
        refine vx_aload_n C 0 dL_unfit_107 rfl rfl ?_
        refine vx_iload C 8 dL_unfit_108 rfl ?_
        refine vx_callSI C [.ref (G.1 145), .int (nI i)] (c_L_asked M S hr (i := i) (by omega)) (cwS 2 C.1.2.2.2.2 gL_unfit_L_asked rfl rfl rfl (by decide +kernel) ⟨Nat.le_of_ble_eq_true rfl, Nat.le_of_ble_eq_true rfl⟩) rfl rfl rfl (Nat.le_of_ble_eq_true rfl) dL_unfit_110 ⟨Nat.le_of_ble_eq_true rfl, Nat.le_of_ble_eq_true rfl⟩ ?_
        refine vx_bif_eq C 224 dL_unfit_113 (by decide) (fun h_6 => ?_) (fun h_5 => absurd h_5 h_na)
        refine vx_iconst (v := 1) C dL_unfit_224 (by decide) ?_
        refine vx_goto C 229 dL_unfit_225 (by decide) ?_
        refine vx_istore (ls2 := [some (.ref (G.1 145)), some (.ref (G.1 146)), some (.ref (G.1 147)), some (.ref (G.1 148)), some (.ref (G.1 149)), some (.int (nI f)), some (.int (nI g)), some (.ref tq), some (.int (nI i)), some (.int 0), some (.int 1)]) C 10 dL_unfit_229 (Nat.le_of_ble_eq_true rfl) rfl ?_
        refine vx_iload C 10 dL_unfit_231 rfl ?_
        refine vx_nif_ne C 1 239 dL_unfit_233 (by decide) (by decide) (fun h_8 => ?_) (fun h_7 => absurd h_7 (by decide))
        refine vx_iinc (v := nI (i + 1)) (ls2 := [some (.ref (G.1 145)), some (.ref (G.1 146)), some (.ref (G.1 147)), some (.ref (G.1 148)), some (.ref (G.1 149)), some (.int (nI f)), some (.int (nI g)), some (.ref tq), some (.int (nI (i + 1))), some (.int 0), some (.int 1)]) C 8 dL_unfit_239 rfl (nI_add i 1) rfl ?_
        refine vx_goto C 75 dL_unfit_242 (by decide) ?_
        refine vx_keep (ls2 := [some (.ref (G.1 145)), some (.ref (G.1 146)), some (.ref (G.1 147)), some (.ref (G.1 148)), some (.ref (G.1 149)), some (.int (nI f)), some (.int (nI g)), some (.ref tq), some (.int (nI (i + 1))), none, none]) ⟨rfl, rfl, rfl, rfl, rfl, rfl, rfl, rfl, rfl, trivial⟩ ?_
        refine ih (i + 1) (by omega) (by omega) (fun j hj => ?_)
        rcases Nat.lt_or_ge j i with z | z
        · exact hI j z
        · rw [show j = i by omega]
          exact misP_f (fun z => h_na z.1)
      · refine vx_aload_n C 1 dL_unfit_91 rfl rfl ?_
        refine vx_iload C 5 dL_unfit_92 rfl ?_
        refine vx_iload C 6 dL_unfit_94 rfl ?_
        refine vx_iload C 8 dL_unfit_96 rfl ?_
        refine vx_callSI C [.ref (G.1 146), .int (nI f), .int (nI g), .int (nI i)] (c_L_of M S hr (i := i) (f := f) (g := g) (by omega) (hv.cd h_a (by omega))) (cwS 4 C.1.2.2.2.2 gL_unfit_L_of rfl rfl rfl (by decide +kernel) ⟨Nat.le_of_ble_eq_true rfl, Nat.le_of_ble_eq_true rfl⟩) rfl rfl rfl (Nat.le_of_ble_eq_true rfl) dL_unfit_98 ⟨Nat.le_of_ble_eq_true rfl, Nat.le_of_ble_eq_true rfl⟩ ?_
        refine vx_goto C 105 dL_unfit_101 (by decide) ?_
        refine vx_istore (ls2 := [some (.ref (G.1 145)), some (.ref (G.1 146)), some (.ref (G.1 147)), some (.ref (G.1 148)), some (.ref (G.1 149)), some (.int (nI f)), some (.int (nI g)), some (.ref tq), some (.int (nI i)), some (.int (vS S i f g)), none]) C 9 dL_unfit_105 (Nat.le_of_ble_eq_true rfl) rfl ?_
        refine vx_aload_n C 0 dL_unfit_107 rfl rfl ?_
        refine vx_iload C 8 dL_unfit_108 rfl ?_
        refine vx_callSI C [.ref (G.1 145), .int (nI i)] (c_L_asked M S hr (i := i) (by omega)) (cwS 2 C.1.2.2.2.2 gL_unfit_L_asked rfl rfl rfl (by decide +kernel) ⟨Nat.le_of_ble_eq_true rfl, Nat.le_of_ble_eq_true rfl⟩) rfl rfl rfl (Nat.le_of_ble_eq_true rfl) dL_unfit_110 ⟨Nat.le_of_ble_eq_true rfl, Nat.le_of_ble_eq_true rfl⟩ ?_
        refine vx_bif_eq C 224 dL_unfit_113 (by decide) (fun h_9 => absurd h_a h_9) (fun h_10 => ?_)
        refine vx_aload_n C 2 dL_unfit_116 rfl rfl ?_
        refine vx_iload C 8 dL_unfit_117 rfl ?_
        refine vx_ald (j := i) (q := 1300 + i) C sh_147 rfl (by omega) (by omega) dL_unfit_119 ?_
        refine vx_top (y := S (100 + 3 * i)) (hr.e (by omega)) ?_
        refine vx_bipush (v := 8) C dL_unfit_120 (by decide) ?_
        refine vx_icmp_ge C 149 dL_unfit_122 (by decide) (fun h_k8 => ?_) (fun h_kl => ?_)
        · obtain ⟨a0, ha0, ea0⟩ := letter hw (i := i) (by omega) (Int32.not_lt.mpr h_k8)
          refine vx_iload C 9 dL_unfit_149 rfl ?_
          refine vx_if_lt C 228 dL_unfit_151 (by decide) (fun h_xn => ?_) (fun h_xp => ?_)
          · refine vx_iconst (v := 0) C dL_unfit_228 (by decide) ?_
            refine vx_istore (ls2 := [some (.ref (G.1 145)), some (.ref (G.1 146)), some (.ref (G.1 147)), some (.ref (G.1 148)), some (.ref (G.1 149)), some (.int (nI f)), some (.int (nI g)), some (.ref tq), some (.int (nI i)), some (.int (vS S i f g)), some (.int 0)]) C 10 dL_unfit_229 (Nat.le_of_ble_eq_true rfl) rfl ?_
            refine vx_iload C 10 dL_unfit_231 rfl ?_
            refine vx_nif_ne C 0 239 dL_unfit_233 (by decide) (by decide) (fun h_15 => absurd h_15 (by decide)) (fun h_16 => ?_)
            refine vx_iload C 8 dL_unfit_236 rfl ?_
            exact vx_iret C hR (Nat.le_refl _) (Nat.le_refl _) dL_unfit_238 ⟨_, rfl, by unfold misS; rw [tlD_first (k := i) (by omega) hI (misP_t (by omega) h_a (fun z => ((fit_ge hw (by omega) (Int32.not_lt.mpr h_k8) ea0 ha0 hv.1 hv.2.1).mp z).1 h_xn)), rtI_lt (by omega)], rfl, tf, hT, rfl⟩
          · refine vx_aload C 7 dL_unfit_154 rfl ?_
            refine vx_aload_n C 3 dL_unfit_156 rfl rfl ?_
            refine vx_iload C 8 dL_unfit_157 rfl ?_
            refine vx_ald (j := i) (q := 1310 + i) C sh_148 rfl (by omega) (by omega) dL_unfit_159 ?_
            refine vx_top (y := nI a0) ((hr.a (by omega)).trans ea0) ?_
            refine vx_xald (j := a0) C (xs_at hl) (by decide) rfl (by omega) dL_unfit_160 ?_
            refine vx_top (y := tlV S a0 f g) (hT a0 ha0) ?_
            refine vx_if_lt C 228 dL_unfit_161 (by decide) (fun h_tn => ?_) (fun h_tp => ?_)
            · refine vx_iconst (v := 0) C dL_unfit_228 (by decide) ?_
              refine vx_istore (ls2 := [some (.ref (G.1 145)), some (.ref (G.1 146)), some (.ref (G.1 147)), some (.ref (G.1 148)), some (.ref (G.1 149)), some (.int (nI f)), some (.int (nI g)), some (.ref tq), some (.int (nI i)), some (.int (vS S i f g)), some (.int 0)]) C 10 dL_unfit_229 (Nat.le_of_ble_eq_true rfl) rfl ?_
              refine vx_iload C 10 dL_unfit_231 rfl ?_
              refine vx_nif_ne C 0 239 dL_unfit_233 (by decide) (by decide) (fun h_19 => absurd h_19 (by decide)) (fun h_20 => ?_)
              refine vx_iload C 8 dL_unfit_236 rfl ?_
              exact vx_iret C hR (Nat.le_refl _) (Nat.le_refl _) dL_unfit_238 ⟨_, rfl, by unfold misS; rw [tlD_first (k := i) (by omega) hI (misP_t (by omega) h_a (fun z => ((fit_ge hw (by omega) (Int32.not_lt.mpr h_k8) ea0 ha0 hv.1 hv.2.1).mp z).2.1 h_tn)), rtI_lt (by omega)], rfl, tf, hT, rfl⟩
            · refine vx_aload_n C 2 dL_unfit_164 rfl rfl ?_
              refine vx_iload C 8 dL_unfit_165 rfl ?_
              refine vx_ald (j := i) (q := 1300 + i) C sh_147 rfl (by omega) (by omega) dL_unfit_167 ?_
              refine vx_top (y := S (100 + 3 * i)) (hr.e (by omega)) ?_
              refine vx_bipush (v := 8) C dL_unfit_168 (by decide) ?_
              refine vx_icmp_ne C 188 dL_unfit_170 (by decide) (fun h_n8 => ?_) (fun h_8 => ?_)
              · refine vx_aload_n C 2 dL_unfit_188 rfl rfl ?_
                refine vx_iload C 8 dL_unfit_189 rfl ?_
                refine vx_ald (j := i) (q := 1300 + i) C sh_147 rfl (by omega) (by omega) dL_unfit_191 ?_
                refine vx_top (y := S (100 + 3 * i)) (hr.e (by omega)) ?_
                refine vx_bipush (v := 9) C dL_unfit_192 (by decide) ?_
                refine vx_icmp_ne C 212 dL_unfit_194 (by decide) (fun h_n9 => ?_) (fun h_9 => ?_)
                · refine vx_iload C 9 dL_unfit_212 rfl ?_
                  refine vx_aload C 7 dL_unfit_214 rfl ?_
                  refine vx_aload_n C 3 dL_unfit_216 rfl rfl ?_
                  refine vx_iload C 8 dL_unfit_217 rfl ?_
                  refine vx_ald (j := i) (q := 1310 + i) C sh_148 rfl (by omega) (by omega) dL_unfit_219 ?_
                  refine vx_top (y := nI a0) ((hr.a (by omega)).trans ea0) ?_
                  refine vx_xald (j := a0) C (xs_at hl) (by decide) rfl (by omega) dL_unfit_220 ?_
                  refine vx_top (y := tlV S a0 f g) (hT a0 ha0) ?_
                  refine vx_icmp_le C 228 dL_unfit_221 (by decide) (fun h_le => ?_) (fun h_gt => ?_)
                  · refine vx_iconst (v := 0) C dL_unfit_228 (by decide) ?_
                    refine vx_istore (ls2 := [some (.ref (G.1 145)), some (.ref (G.1 146)), some (.ref (G.1 147)), some (.ref (G.1 148)), some (.ref (G.1 149)), some (.int (nI f)), some (.int (nI g)), some (.ref tq), some (.int (nI i)), some (.int (vS S i f g)), some (.int 0)]) C 10 dL_unfit_229 (Nat.le_of_ble_eq_true rfl) rfl ?_
                    refine vx_iload C 10 dL_unfit_231 rfl ?_
                    refine vx_nif_ne C 0 239 dL_unfit_233 (by decide) (by decide) (fun h_27 => absurd h_27 (by decide)) (fun h_28 => ?_)
                    refine vx_iload C 8 dL_unfit_236 rfl ?_
                    exact vx_iret C hR (Nat.le_refl _) (Nat.le_refl _) dL_unfit_238 ⟨_, rfl, by unfold misS; rw [tlD_first (k := i) (by omega) hI (misP_t (by omega) h_a (fun z => Int32.not_lt.mpr h_le (((fit_ge hw (by omega) (Int32.not_lt.mpr h_k8) ea0 ha0 hv.1 hv.2.1).mp z).2.2.2.2 h_n8 h_n9))), rtI_lt (by omega)], rfl, tf, hT, rfl⟩
                  · refine vx_iconst (v := 1) C dL_unfit_224 (by decide) ?_
                    refine vx_goto C 229 dL_unfit_225 (by decide) ?_
                    refine vx_istore (ls2 := [some (.ref (G.1 145)), some (.ref (G.1 146)), some (.ref (G.1 147)), some (.ref (G.1 148)), some (.ref (G.1 149)), some (.int (nI f)), some (.int (nI g)), some (.ref tq), some (.int (nI i)), some (.int (vS S i f g)), some (.int 1)]) C 10 dL_unfit_229 (Nat.le_of_ble_eq_true rfl) rfl ?_
                    refine vx_iload C 10 dL_unfit_231 rfl ?_
                    refine vx_nif_ne C 1 239 dL_unfit_233 (by decide) (by decide) (fun h_30 => ?_) (fun h_29 => absurd h_29 (by decide))
                    refine vx_iinc (v := nI (i + 1)) (ls2 := [some (.ref (G.1 145)), some (.ref (G.1 146)), some (.ref (G.1 147)), some (.ref (G.1 148)), some (.ref (G.1 149)), some (.int (nI f)), some (.int (nI g)), some (.ref tq), some (.int (nI (i + 1))), some (.int (vS S i f g)), some (.int 1)]) C 8 dL_unfit_239 rfl (nI_add i 1) rfl ?_
                    refine vx_goto C 75 dL_unfit_242 (by decide) ?_
                    refine vx_keep (ls2 := [some (.ref (G.1 145)), some (.ref (G.1 146)), some (.ref (G.1 147)), some (.ref (G.1 148)), some (.ref (G.1 149)), some (.int (nI f)), some (.int (nI g)), some (.ref tq), some (.int (nI (i + 1))), none, none]) ⟨rfl, rfl, rfl, rfl, rfl, rfl, rfl, rfl, rfl, trivial⟩ ?_
                    refine ih (i + 1) (by omega) (by omega) (fun j hj => ?_)
                    rcases Nat.lt_or_ge j i with z | z
                    · exact hI j z
                    · rw [show j = i by omega]
                      exact misP_f (fun z => z.2 ((fit_ge hw (by omega) (Int32.not_lt.mpr h_k8) ea0 ha0 hv.1 hv.2.1).mpr ⟨h_xp, h_tp, fun z => absurd z h_n8, fun z => absurd z h_n9, fun _ _ => Int32.not_le.mp h_gt⟩))
                · refine vx_iload C 9 dL_unfit_197 rfl ?_
                  refine vx_aload C 7 dL_unfit_199 rfl ?_
                  refine vx_aload_n C 3 dL_unfit_201 rfl rfl ?_
                  refine vx_iload C 8 dL_unfit_202 rfl ?_
                  refine vx_ald (j := i) (q := 1310 + i) C sh_148 rfl (by omega) (by omega) dL_unfit_204 ?_
                  refine vx_top (y := nI a0) ((hr.a (by omega)).trans ea0) ?_
                  refine vx_xald (j := a0) C (xs_at hl) (by decide) rfl (by omega) dL_unfit_205 ?_
                  refine vx_top (y := tlV S a0 f g) (hT a0 ha0) ?_
                  refine vx_icmp_ge C 228 dL_unfit_206 (by decide) (fun h_ge => ?_) (fun h_lt => ?_)
                  · refine vx_iconst (v := 0) C dL_unfit_228 (by decide) ?_
                    refine vx_istore (ls2 := [some (.ref (G.1 145)), some (.ref (G.1 146)), some (.ref (G.1 147)), some (.ref (G.1 148)), some (.ref (G.1 149)), some (.int (nI f)), some (.int (nI g)), some (.ref tq), some (.int (nI i)), some (.int (vS S i f g)), some (.int 0)]) C 10 dL_unfit_229 (Nat.le_of_ble_eq_true rfl) rfl ?_
                    refine vx_iload C 10 dL_unfit_231 rfl ?_
                    refine vx_nif_ne C 0 239 dL_unfit_233 (by decide) (by decide) (fun h_33 => absurd h_33 (by decide)) (fun h_34 => ?_)
                    refine vx_iload C 8 dL_unfit_236 rfl ?_
                    exact vx_iret C hR (Nat.le_refl _) (Nat.le_refl _) dL_unfit_238 ⟨_, rfl, by unfold misS; rw [tlD_first (k := i) (by omega) hI (misP_t (by omega) h_a (fun z => Int32.not_lt.mpr h_ge (((fit_ge hw (by omega) (Int32.not_lt.mpr h_k8) ea0 ha0 hv.1 hv.2.1).mp z).2.2.2.1 h_9))), rtI_lt (by omega)], rfl, tf, hT, rfl⟩
                  · refine vx_goto C 224 dL_unfit_209 (by decide) ?_
                    refine vx_iconst (v := 1) C dL_unfit_224 (by decide) ?_
                    refine vx_goto C 229 dL_unfit_225 (by decide) ?_
                    refine vx_istore (ls2 := [some (.ref (G.1 145)), some (.ref (G.1 146)), some (.ref (G.1 147)), some (.ref (G.1 148)), some (.ref (G.1 149)), some (.int (nI f)), some (.int (nI g)), some (.ref tq), some (.int (nI i)), some (.int (vS S i f g)), some (.int 1)]) C 10 dL_unfit_229 (Nat.le_of_ble_eq_true rfl) rfl ?_
                    refine vx_iload C 10 dL_unfit_231 rfl ?_
                    refine vx_nif_ne C 1 239 dL_unfit_233 (by decide) (by decide) (fun h_36 => ?_) (fun h_35 => absurd h_35 (by decide))
                    refine vx_iinc (v := nI (i + 1)) (ls2 := [some (.ref (G.1 145)), some (.ref (G.1 146)), some (.ref (G.1 147)), some (.ref (G.1 148)), some (.ref (G.1 149)), some (.int (nI f)), some (.int (nI g)), some (.ref tq), some (.int (nI (i + 1))), some (.int (vS S i f g)), some (.int 1)]) C 8 dL_unfit_239 rfl (nI_add i 1) rfl ?_
                    refine vx_goto C 75 dL_unfit_242 (by decide) ?_
                    refine vx_keep (ls2 := [some (.ref (G.1 145)), some (.ref (G.1 146)), some (.ref (G.1 147)), some (.ref (G.1 148)), some (.ref (G.1 149)), some (.int (nI f)), some (.int (nI g)), some (.ref tq), some (.int (nI (i + 1))), none, none]) ⟨rfl, rfl, rfl, rfl, rfl, rfl, rfl, rfl, rfl, trivial⟩ ?_
                    refine ih (i + 1) (by omega) (by omega) (fun j hj => ?_)
                    rcases Nat.lt_or_ge j i with z | z
                    · exact hI j z
                    · rw [show j = i by omega]
                      exact misP_f (fun z => z.2 ((fit_ge hw (by omega) (Int32.not_lt.mpr h_k8) ea0 ha0 hv.1 hv.2.1).mpr ⟨h_xp, h_tp, fun z => absurd z h_n8, fun _ => Int32.not_le.mp h_lt, fun _ z => absurd h_9 z⟩))
              · refine vx_iload C 9 dL_unfit_173 rfl ?_
                refine vx_aload C 7 dL_unfit_175 rfl ?_
                refine vx_aload_n C 3 dL_unfit_177 rfl rfl ?_
                refine vx_iload C 8 dL_unfit_178 rfl ?_
                refine vx_ald (j := i) (q := 1310 + i) C sh_148 rfl (by omega) (by omega) dL_unfit_180 ?_
                refine vx_top (y := nI a0) ((hr.a (by omega)).trans ea0) ?_
                refine vx_xald (j := a0) C (xs_at hl) (by decide) rfl (by omega) dL_unfit_181 ?_
                refine vx_top (y := tlV S a0 f g) (hT a0 ha0) ?_
                refine vx_icmp_ne C 228 dL_unfit_182 (by decide) (fun h_ne => ?_) (fun h_e => ?_)
                · refine vx_iconst (v := 0) C dL_unfit_228 (by decide) ?_
                  refine vx_istore (ls2 := [some (.ref (G.1 145)), some (.ref (G.1 146)), some (.ref (G.1 147)), some (.ref (G.1 148)), some (.ref (G.1 149)), some (.int (nI f)), some (.int (nI g)), some (.ref tq), some (.int (nI i)), some (.int (vS S i f g)), some (.int 0)]) C 10 dL_unfit_229 (Nat.le_of_ble_eq_true rfl) rfl ?_
                  refine vx_iload C 10 dL_unfit_231 rfl ?_
                  refine vx_nif_ne C 0 239 dL_unfit_233 (by decide) (by decide) (fun h_39 => absurd h_39 (by decide)) (fun h_40 => ?_)
                  refine vx_iload C 8 dL_unfit_236 rfl ?_
                  exact vx_iret C hR (Nat.le_refl _) (Nat.le_refl _) dL_unfit_238 ⟨_, rfl, by unfold misS; rw [tlD_first (k := i) (by omega) hI (misP_t (by omega) h_a (fun z => h_ne (((fit_ge hw (by omega) (Int32.not_lt.mpr h_k8) ea0 ha0 hv.1 hv.2.1).mp z).2.2.1 h_8))), rtI_lt (by omega)], rfl, tf, hT, rfl⟩
                · refine vx_goto C 224 dL_unfit_185 (by decide) ?_
                  refine vx_iconst (v := 1) C dL_unfit_224 (by decide) ?_
                  refine vx_goto C 229 dL_unfit_225 (by decide) ?_
                  refine vx_istore (ls2 := [some (.ref (G.1 145)), some (.ref (G.1 146)), some (.ref (G.1 147)), some (.ref (G.1 148)), some (.ref (G.1 149)), some (.int (nI f)), some (.int (nI g)), some (.ref tq), some (.int (nI i)), some (.int (vS S i f g)), some (.int 1)]) C 10 dL_unfit_229 (Nat.le_of_ble_eq_true rfl) rfl ?_
                  refine vx_iload C 10 dL_unfit_231 rfl ?_
                  refine vx_nif_ne C 1 239 dL_unfit_233 (by decide) (by decide) (fun h_42 => ?_) (fun h_41 => absurd h_41 (by decide))
                  refine vx_iinc (v := nI (i + 1)) (ls2 := [some (.ref (G.1 145)), some (.ref (G.1 146)), some (.ref (G.1 147)), some (.ref (G.1 148)), some (.ref (G.1 149)), some (.int (nI f)), some (.int (nI g)), some (.ref tq), some (.int (nI (i + 1))), some (.int (vS S i f g)), some (.int 1)]) C 8 dL_unfit_239 rfl (nI_add i 1) rfl ?_
                  refine vx_goto C 75 dL_unfit_242 (by decide) ?_
                  refine vx_keep (ls2 := [some (.ref (G.1 145)), some (.ref (G.1 146)), some (.ref (G.1 147)), some (.ref (G.1 148)), some (.ref (G.1 149)), some (.int (nI f)), some (.int (nI g)), some (.ref tq), some (.int (nI (i + 1))), none, none]) ⟨rfl, rfl, rfl, rfl, rfl, rfl, rfl, rfl, rfl, trivial⟩ ?_
                  refine ih (i + 1) (by omega) (by omega) (fun j hj => ?_)
                  rcases Nat.lt_or_ge j i with z | z
                  · exact hI j z
                  · rw [show j = i by omega]
                    exact misP_f (fun z => z.2 ((fit_ge hw (by omega) (Int32.not_lt.mpr h_k8) ea0 ha0 hv.1 hv.2.1).mpr ⟨h_xp, h_tp, fun _ => h_e, fun z => absurd (h_8.symm.trans z) (by decide), fun z => absurd h_8 z⟩))
        · refine vx_aload_n C 2 dL_unfit_125 rfl rfl ?_
          refine vx_iload C 8 dL_unfit_126 rfl ?_
          refine vx_ald (j := i) (q := 1300 + i) C sh_147 rfl (by omega) (by omega) dL_unfit_128 ?_
          refine vx_top (y := S (100 + 3 * i)) (hr.e (by omega)) ?_
          refine vx_aload_n C 3 dL_unfit_129 rfl rfl ?_
          refine vx_iload C 8 dL_unfit_130 rfl ?_
          refine vx_ald (j := i) (q := 1310 + i) C sh_148 rfl (by omega) (by omega) dL_unfit_132 ?_
          refine vx_top (y := S (101 + 3 * i)) (hr.a (by omega)) ?_
          refine vx_aload C 4 dL_unfit_133 rfl ?_
          refine vx_iload C 8 dL_unfit_135 rfl ?_
          refine vx_ald (j := i) (q := 1320 + i) C sh_149 rfl (by omega) (by omega) dL_unfit_137 ?_
          refine vx_top (y := S (102 + 3 * i)) (hr.b (by omega)) ?_
          refine vx_iload C 9 dL_unfit_138 rfl ?_
          refine vx_callSI C [.int (S (100 + 3 * i)), .int (S (101 + 3 * i)), .int (S (102 + 3 * i)), .int (vS S i f g)] (c_L_plain M (S (100 + 3 * i)) (S (101 + 3 * i)) (S (102 + 3 * i)) (vS S i f g) (vlP_vS hw (by omega) hv.1 hv.2.1)) (cwS 4 C.1.2.2.2.2 gL_unfit_L_plain rfl rfl rfl (by decide +kernel) ⟨Nat.le_of_ble_eq_true rfl, Nat.le_of_ble_eq_true rfl⟩) rfl rfl rfl (Nat.le_of_ble_eq_true rfl) dL_unfit_140 ⟨Nat.le_of_ble_eq_true rfl, Nat.le_of_ble_eq_true rfl⟩ ?_
          refine vx_bif_eq C 228 dL_unfit_143 (by decide) (fun h_nt => ?_) (fun h_t => ?_)
          · refine vx_iconst (v := 0) C dL_unfit_228 (by decide) ?_
            refine vx_istore (ls2 := [some (.ref (G.1 145)), some (.ref (G.1 146)), some (.ref (G.1 147)), some (.ref (G.1 148)), some (.ref (G.1 149)), some (.int (nI f)), some (.int (nI g)), some (.ref tq), some (.int (nI i)), some (.int (vS S i f g)), some (.int 0)]) C 10 dL_unfit_229 (Nat.le_of_ble_eq_true rfl) rfl ?_
            refine vx_iload C 10 dL_unfit_231 rfl ?_
            refine vx_nif_ne C 0 239 dL_unfit_233 (by decide) (by decide) (fun h_45 => absurd h_45 (by decide)) (fun h_46 => ?_)
            refine vx_iload C 8 dL_unfit_236 rfl ?_
            exact vx_iret C hR (Nat.le_refl _) (Nat.le_refl _) dL_unfit_238 ⟨_, rfl, by unfold misS; rw [tlD_first (k := i) (by omega) hI (misP_t (by omega) h_a (fun z => h_nt ((fit_lt (Int32.not_le.mp h_kl)).symm.trans z))), rtI_lt (by omega)], rfl, tf, hT, rfl⟩
          · refine vx_goto C 224 dL_unfit_146 (by decide) ?_
            refine vx_iconst (v := 1) C dL_unfit_224 (by decide) ?_
            refine vx_goto C 229 dL_unfit_225 (by decide) ?_
            refine vx_istore (ls2 := [some (.ref (G.1 145)), some (.ref (G.1 146)), some (.ref (G.1 147)), some (.ref (G.1 148)), some (.ref (G.1 149)), some (.int (nI f)), some (.int (nI g)), some (.ref tq), some (.int (nI i)), some (.int (vS S i f g)), some (.int 1)]) C 10 dL_unfit_229 (Nat.le_of_ble_eq_true rfl) rfl ?_
            refine vx_iload C 10 dL_unfit_231 rfl ?_
            refine vx_nif_ne C 1 239 dL_unfit_233 (by decide) (by decide) (fun h_48 => ?_) (fun h_47 => absurd h_47 (by decide))
            refine vx_iinc (v := nI (i + 1)) (ls2 := [some (.ref (G.1 145)), some (.ref (G.1 146)), some (.ref (G.1 147)), some (.ref (G.1 148)), some (.ref (G.1 149)), some (.int (nI f)), some (.int (nI g)), some (.ref tq), some (.int (nI (i + 1))), some (.int (vS S i f g)), some (.int 1)]) C 8 dL_unfit_239 rfl (nI_add i 1) rfl ?_
            refine vx_goto C 75 dL_unfit_242 (by decide) ?_
            refine vx_keep (ls2 := [some (.ref (G.1 145)), some (.ref (G.1 146)), some (.ref (G.1 147)), some (.ref (G.1 148)), some (.ref (G.1 149)), some (.int (nI f)), some (.int (nI g)), some (.ref tq), some (.int (nI (i + 1))), none, none]) ⟨rfl, rfl, rfl, rfl, rfl, rfl, rfl, rfl, rfl, trivial⟩ ?_
            refine ih (i + 1) (by omega) (by omega) (fun j hj => ?_)
            rcases Nat.lt_or_ge j i with z | z
            · exact hI j z
            · rw [show j = i by omega]
              exact misP_f (fun z => z.2 ((fit_lt (Int32.not_le.mp h_kl)).trans h_t))
set_option maxRecDepth 100000 in
set_option maxHeartbeats 4000000 in
theorem c_L_unfit {l : Launch} {G : mw_GG} (M S : mw_M) (hr : lrel M S) (hw : wfV S) {f g : Nat} (hv : valP S f g) {X : va_W} {k0 tq : Nat} {t0 : Nat → Int32} (hk0 : X[k0]? = some (xI G tq 4 t0)) : mx_Met l yL_unfit wsL_unfit ({ frames := 2, cells := 0, slots := 0, locals := 46 } : Room) G [.ref (G.1 145), .ref (G.1 146), .ref (G.1 147), .ref (G.1 148), .ref (G.1 149), .int (nI f), .int (nI g), .ref tq] M X (xI_P (fun r M2 X2 => r = rtI (misS S 8 f g) ∧ M2 = M ∧ ∃ t1, (∀ x, x < 4 → t1 x = tlV S x f g) ∧ X2 = X.set k0 (xI G tq 4 t1))) 0 0 := by
  refine mx_ofV (cc := cL_unfit) 11 (by decide) rfl rfl (Nat.le_of_ble_eq_true rfl) ?_
  intro p e s m args below meth c A C hR
  refine vx_loc (ls2 := [some (.ref (G.1 145)), some (.ref (G.1 146)), some (.ref (G.1 147)), some (.ref (G.1 148)), some (.ref (G.1 149)), some (.int (nI f)), some (.int (nI g)), some (.ref tq), none, none, none]) rfl ?_
  have hl := (List.getElem?_eq_some_iff.mp hk0).1
  refine vx_X (X2 := X.set k0 (xI G tq 4 t0)) (xs_same hk0).symm ?_
  refine vx_iconst (v := 0) C dL_unfit_0 (by decide) ?_
  refine vx_istore (ls2 := [some (.ref (G.1 145)), some (.ref (G.1 146)), some (.ref (G.1 147)), some (.ref (G.1 148)), some (.ref (G.1 149)), some (.int (nI f)), some (.int (nI g)), some (.ref tq), some (.int 0), none, none]) C 8 dL_unfit_1 (Nat.le_of_ble_eq_true rfl) rfl ?_
  refine lp_unfit1 C hl M (fun tf1 h14 => ?_) 5 0 t0 (by omega) (by omega) (fun j hj => absurd hj (Nat.not_lt_zero j))
  refine vx_bipush (v := 7) C dL_unfit_22 (by decide) ?_
  refine vx_istore (ls2 := [some (.ref (G.1 145)), some (.ref (G.1 146)), some (.ref (G.1 147)), some (.ref (G.1 148)), some (.ref (G.1 149)), some (.int (nI f)), some (.int (nI g)), some (.ref tq), some (.int 7), none, none]) C 8 dL_unfit_24 (Nat.le_of_ble_eq_true rfl) rfl ?_
  refine vx_loc (ls2 := [some (.ref (G.1 145)), some (.ref (G.1 146)), some (.ref (G.1 147)), some (.ref (G.1 148)), some (.ref (G.1 149)), some (.int (nI f)), some (.int (nI g)), some (.ref tq), some (.int (dcI 8)), none, none]) rfl ?_
  refine lp_unfit2 C hl M S hr hw hv (fun tf2 hT => ?_) 8 tf1 (by omega) (fun x hx => by rw [h14 x hx]; rfl)
  refine vx_iconst (v := 0) C dL_unfit_72 (by decide) ?_
  refine vx_istore (ls2 := [some (.ref (G.1 145)), some (.ref (G.1 146)), some (.ref (G.1 147)), some (.ref (G.1 148)), some (.ref (G.1 149)), some (.int (nI f)), some (.int (nI g)), some (.ref tq), some (.int 0), none, none]) C 8 dL_unfit_73 (Nat.le_of_ble_eq_true rfl) rfl ?_
  exact lp_unfit3 C hl hR M S hr hw hv hT 9 0 (by omega) (by omega) (fun j hj => absurd hj (Nat.not_lt_zero j))
