/-! what the law does, step by step -/
theorem con_ok {kd one two : Nat} (hA : okA kd one) (hB : okB kd one two) : conB (nI kd) (nI one) (nI two) = true := by
  obtain ⟨h0, h1, h2, h3⟩ := hA
  obtain ⟨h4, h5⟩ := hB
  have hn : ∀ {a b : Nat}, a ≤ b → b < 1000 → inP (nI a) 0 (nI b) := fun {a b} h hb => ⟨nI_nlt (b := 0) (Nat.zero_le _) (by omega), nI_nlt h (by omega)⟩
  have e1 : inP (nI kd) 0 10 := hn (b := 10) h0 (by decide)
  have e2 : inP (nI one) 0 (gfI (nI kd)) := by
    rcases kd11 h0 with rfl | rfl | rfl | rfl | rfl | rfl | rfl | rfl | rfl | rfl | rfl
    · rw [show gfI (nI 0) = nI 0 by decide, h1 (by decide)]; exact hn (Nat.le_refl 0) (by decide)
    · rw [show gfI (nI 1) = nI 0 by decide, h1 (by decide)]; exact hn (Nat.le_refl 0) (by decide)
    · rw [show gfI (nI 2) = nI 0 by decide, h1 (by decide)]; exact hn (Nat.le_refl 0) (by decide)
    · rw [show gfI (nI 3) = nI 99 by decide]; exact hn (by omega) (by decide)
    · rw [show gfI (nI 4) = nI 99 by decide]; exact hn (by omega) (by decide)
    · rw [show gfI (nI 5) = nI 99 by decide]; exact hn (by omega) (by decide)
    · rw [show gfI (nI 6) = nI 99 by decide]; exact hn (by omega) (by decide)
    · rw [show gfI (nI 7) = nI 99 by decide]; exact hn (by omega) (by decide)
    · rw [show gfI (nI 8) = nI 3 by decide]; exact hn (Nat.le_of_lt_succ (h2 (by decide))) (by decide)
    · rw [show gfI (nI 9) = nI 3 by decide]; exact hn (Nat.le_of_lt_succ (h2 (by decide))) (by decide)
    · rw [show gfI (nI 10) = nI 3 by decide]; exact hn (Nat.le_of_lt_succ (h2 (by decide))) (by decide)
  have e3 : (if nI kd = 7 then decide (inP (nI two) (nI one) 99) else decide (nI two = 0)) = true := by
    by_cases z : kd = 7
    · obtain ⟨a1, a2⟩ := h4 z
      rw [if_pos (show nI kd = 7 by rw [z]; rfl)]
      exact decide_eq_true ⟨nI_nlt a1 (by omega), nI_nlt (a := 99) (by omega) (by omega)⟩
    · rw [if_neg (show ¬ nI kd = 7 from fun y => z ((nI_eq (b := 7) (by omega) (by omega)).mp y)), h5 z]
      rfl
  unfold conB
  rw [decide_eq_true e1, decide_eq_true e2, e3]
  rfl
theorem ord_in {n : Nat} (h : n ≤ 8) : inP ((nI n) - 1) (-1) 7 := by
  have e : (nI n - 1).toInt = (n : Int) - 1 := pk_sub_toInt (b := 1) (by omega) (by omega)
  have e1 : ((-1 : Int32)).toInt = -1 := by decide
  have e9 : ((7 : Int32)).toInt = 7 := by decide
  exact ⟨by rw [Int32.lt_iff_toInt_lt, e, e1]; omega, by rw [Int32.lt_iff_toInt_lt, e, e9]; omega⟩
def othF (M : mw_M) (d : Nat) : Nat → Bool := fun i => decide (¬ M (100 + 12 * d + 3 * i) = 0)
theorem oth_at {M Mi : mw_M} {d i : Nat} {f : Nat → celT} (h : lrel Mi (setC M d f i)) (hd : d < 2) (hi : i < 4) : Mi (1300 + (4 * d + i)) = M (100 + 12 * d + 3 * i) := by
  rw [h.e (c := 4 * d + i) (by omega), setC_o (by omega)]
  exact congrArg M (by omega)
theorem show_rel {M1 M3 : mw_M} {x : Nat} {S : mw_M} (hS : S = upd (kpS M1) 129 (nI x)) (hr : lrel M1 S) (e : (op_show M1 (nI x)).2 = S) (cl : clO M3 (op_show M1 (nI x)).2) : lrel M3 S :=
  hr.cong (fun q hq => (cl q (by unfold clS; omega)).trans (by rw [e, hS, upd_o (by omega), kpS_hi (by omega)])) (fun _ _ => rfl)

set_option maxRecDepth 100000 in
set_option maxHeartbeats 4000000 in
theorem lp_acts_d {p : Program} {l : Launch} {e : Env} {s : State} {m : MethodId} {args : Array Value} {below : List Frame} {meth : Method} {c : Code} {G : mw_GG} {A : Nat → Prop} (C : vx_C p s m args c G A cL_acts 16 wsL_acts RL) {X : va_W} (hR : vv_R meth (some .boolean)) {M : mw_M} (h : linv M) {y way wq : Nat} (hy : y < 10000000) (hw : way < 13)  : vx p l e ({ frames := 8, cells := 3, slots := 10, locals := 195 } : Room) s m args below meth c G A 1 3 (mx_E below args s G A (xI_P (fun r M2 X2 => r = 1 ∧ linv M2 ∧ X2 = X)) 3 10) M (X ++ [xL G wq 3 (fun _ => 0)]) 32 [some (.ref (G.1 144)), some (.ref (G.1 145)), some (.ref (G.1 146)), some (.ref (G.1 147)), some (.ref (G.1 148)), some (.ref (G.1 149)), none, some (.int (nI y)), some (.int (nI way)), some (.ref wq), none, none, none, none, none, none] [] := by
  refine vx_aload_n C 0 dL_acts_32 rfl rfl ?_
  refine vx_aload_n C 1 dL_acts_33 rfl rfl ?_
  refine vx_aload_n C 2 dL_acts_34 rfl rfl ?_
  refine vx_aload_n C 3 dL_acts_35 rfl rfl ?_
  refine vx_aload C 4 dL_acts_36 rfl ?_
  refine vx_aload C 5 dL_acts_38 rfl ?_
  refine vx_iload C 8 dL_acts_40 rfl ?_
  refine vx_bipush (v := 9) C dL_acts_42 (by decide) ?_
  refine vx_ncmp_ge C way 9 51 dL_acts_44 (by decide) (by omega) (by decide) (fun h_1 => ?_) (fun h_2 => ?_)
  · refine vx_iload C 8 dL_acts_51 rfl ?_
    refine vx_bipush (v := 11) C dL_acts_53 (by decide) ?_
    refine vx_ncmp_ge C way 11 62 dL_acts_55 (by decide) (by omega) (by decide) (fun h_3 => ?_) (fun h_4 => ?_)
    · refine vx_iload C 8 dL_acts_62 rfl ?_
      refine vx_bipush (v := 11) C dL_acts_64 (by decide) ?_
      refine vx_ncmp_ne C way 11 73 dL_acts_66 (by decide) (by omega) (by decide) (fun h_5 => ?_) (fun h_6 => ?_)
      · refine vx_iload C 7 dL_acts_73 rfl ?_
        refine vx_iconst (v := 3) C dL_acts_75 (by decide) ?_
        refine vx_irem C dL_acts_76 (by decide) ?_
        refine vx_top (y := nI (y % 3)) (pk_rem (a := y) (d := 3) (by omega) (by omega) (by omega)) ?_
        refine vx_nif_ne C (y % 3) 84 dL_acts_77 (by decide) (by omega) (fun h_7 => ?_) (fun h_8 => ?_)
        · refine vx_iconst (v := 0) C dL_acts_84 (by decide) ?_
          refine vx_iload C 7 dL_acts_85 rfl ?_
          refine vx_callSIP C [.ref (G.1 144), .ref (G.1 145), .ref (G.1 146), .ref (G.1 147), .ref (G.1 148), .ref (G.1 149), .int 0, .int (nI y)] (c_L_drawers h (way := 0) (y := y) (by omega) (by omega)) (cwS 8 C.1.2.2.2.2 gL_acts_L_drawers rfl rfl rfl (by decide +kernel) ⟨Nat.le_of_ble_eq_true rfl, Nat.le_of_ble_eq_true rfl⟩) rfl rfl rfl (Nat.le_of_ble_eq_true rfl) dL_acts_87 ⟨Nat.le_of_ble_eq_true rfl, Nat.le_of_ble_eq_true rfl⟩ (fun x_9 M_10 h_11 => ?_)
          obtain ⟨e_r, h_l⟩ := h_11
          refine vx_top (y := 1) e_r ?_
          refine vx_drop (X2 := X) (Y := [xL G wq 3 (fun _ => 0)]) rfl ?_
          exact vx_zret C hR (by decide) (by decide) (by decide) dL_acts_90 ⟨_, rfl, rfl, h_l, rfl⟩
        · refine vx_iconst (v := 1) C dL_acts_80 (by decide) ?_
          refine vx_goto C 85 dL_acts_81 (by decide) ?_
          refine vx_iload C 7 dL_acts_85 rfl ?_
          refine vx_callSIP C [.ref (G.1 144), .ref (G.1 145), .ref (G.1 146), .ref (G.1 147), .ref (G.1 148), .ref (G.1 149), .int 1, .int (nI y)] (c_L_drawers h (way := 1) (y := y) (by omega) (by omega)) (cwS 8 C.1.2.2.2.2 gL_acts_L_drawers rfl rfl rfl (by decide +kernel) ⟨Nat.le_of_ble_eq_true rfl, Nat.le_of_ble_eq_true rfl⟩) rfl rfl rfl (Nat.le_of_ble_eq_true rfl) dL_acts_87 ⟨Nat.le_of_ble_eq_true rfl, Nat.le_of_ble_eq_true rfl⟩ (fun x_12 M_13 h_14 => ?_)
          obtain ⟨e_r, h_l⟩ := h_14
          refine vx_top (y := 1) e_r ?_
          refine vx_drop (X2 := X) (Y := [xL G wq 3 (fun _ => 0)]) rfl ?_
          exact vx_zret C hR (by decide) (by decide) (by decide) dL_acts_90 ⟨_, rfl, rfl, h_l, rfl⟩
      · refine vx_iconst (v := 2) C dL_acts_69 (by decide) ?_
        refine vx_goto C 85 dL_acts_70 (by decide) ?_
        refine vx_iload C 7 dL_acts_85 rfl ?_
        refine vx_callSIP C [.ref (G.1 144), .ref (G.1 145), .ref (G.1 146), .ref (G.1 147), .ref (G.1 148), .ref (G.1 149), .int 2, .int (nI y)] (c_L_drawers h (way := 2) (y := y) (by omega) (by omega)) (cwS 8 C.1.2.2.2.2 gL_acts_L_drawers rfl rfl rfl (by decide +kernel) ⟨Nat.le_of_ble_eq_true rfl, Nat.le_of_ble_eq_true rfl⟩) rfl rfl rfl (Nat.le_of_ble_eq_true rfl) dL_acts_87 ⟨Nat.le_of_ble_eq_true rfl, Nat.le_of_ble_eq_true rfl⟩ (fun x_15 M_16 h_17 => ?_)
        obtain ⟨e_r, h_l⟩ := h_17
        refine vx_top (y := 1) e_r ?_
        refine vx_drop (X2 := X) (Y := [xL G wq 3 (fun _ => 0)]) rfl ?_
        exact vx_zret C hR (by decide) (by decide) (by decide) dL_acts_90 ⟨_, rfl, rfl, h_l, rfl⟩
    · refine vx_iconst (v := 3) C dL_acts_58 (by decide) ?_
      refine vx_goto C 85 dL_acts_59 (by decide) ?_
      refine vx_iload C 7 dL_acts_85 rfl ?_
      refine vx_callSIP C [.ref (G.1 144), .ref (G.1 145), .ref (G.1 146), .ref (G.1 147), .ref (G.1 148), .ref (G.1 149), .int 3, .int (nI y)] (c_L_drawers h (way := 3) (y := y) (by omega) (by omega)) (cwS 8 C.1.2.2.2.2 gL_acts_L_drawers rfl rfl rfl (by decide +kernel) ⟨Nat.le_of_ble_eq_true rfl, Nat.le_of_ble_eq_true rfl⟩) rfl rfl rfl (Nat.le_of_ble_eq_true rfl) dL_acts_87 ⟨Nat.le_of_ble_eq_true rfl, Nat.le_of_ble_eq_true rfl⟩ (fun x_18 M_19 h_20 => ?_)
      obtain ⟨e_r, h_l⟩ := h_20
      refine vx_top (y := 1) e_r ?_
      refine vx_drop (X2 := X) (Y := [xL G wq 3 (fun _ => 0)]) rfl ?_
      exact vx_zret C hR (by decide) (by decide) (by decide) dL_acts_90 ⟨_, rfl, rfl, h_l, rfl⟩
  · refine vx_iconst (v := 0) C dL_acts_47 (by decide) ?_
    refine vx_goto C 85 dL_acts_48 (by decide) ?_
    refine vx_iload C 7 dL_acts_85 rfl ?_
    refine vx_callSIP C [.ref (G.1 144), .ref (G.1 145), .ref (G.1 146), .ref (G.1 147), .ref (G.1 148), .ref (G.1 149), .int 0, .int (nI y)] (c_L_drawers h (way := 0) (y := y) (by omega) (by omega)) (cwS 8 C.1.2.2.2.2 gL_acts_L_drawers rfl rfl rfl (by decide +kernel) ⟨Nat.le_of_ble_eq_true rfl, Nat.le_of_ble_eq_true rfl⟩) rfl rfl rfl (Nat.le_of_ble_eq_true rfl) dL_acts_87 ⟨Nat.le_of_ble_eq_true rfl, Nat.le_of_ble_eq_true rfl⟩ (fun x_21 M_22 h_23 => ?_)
    obtain ⟨e_r, h_l⟩ := h_23
    refine vx_top (y := 1) e_r ?_
    refine vx_drop (X2 := X) (Y := [xL G wq 3 (fun _ => 0)]) rfl ?_
    exact vx_zret C hR (by decide) (by decide) (by decide) dL_acts_90 ⟨_, rfl, rfl, h_l, rfl⟩
set_option maxRecDepth 100000 in
set_option maxHeartbeats 4000000 in
theorem lp_acts_r {p : Program} {l : Launch} {e : Env} {s : State} {m : MethodId} {args : Array Value} {below : List Frame} {meth : Method} {c : Code} {G : mw_GG} {A : Nat → Prop} (C : vx_C p s m args c G A cL_acts 16 wsL_acts RL) {X : va_W} (hR : vv_R meth (some .boolean)) {M : mw_M} (h : linv M) {y way wq : Nat} (hy : y < 10000000)  : vx p l e ({ frames := 8, cells := 3, slots := 10, locals := 195 } : Room) s m args below meth c G A 1 3 (mx_E below args s G A (xI_P (fun r M2 X2 => r = 1 ∧ linv M2 ∧ X2 = X)) 3 10) M (X ++ [xL G wq 3 (fun _ => 0)]) 98 [some (.ref (G.1 144)), some (.ref (G.1 145)), some (.ref (G.1 146)), some (.ref (G.1 147)), some (.ref (G.1 148)), some (.ref (G.1 149)), none, some (.int (nI y)), some (.int (nI way)), some (.ref wq), none, none, none, none, none, none] [] := by
  refine vx_aload_n C 0 dL_acts_98 rfl rfl ?_
  refine vx_aload_n C 1 dL_acts_99 rfl rfl ?_
  refine vx_aload_n C 2 dL_acts_100 rfl rfl ?_
  refine vx_aload_n C 3 dL_acts_101 rfl rfl ?_
  refine vx_aload C 4 dL_acts_102 rfl ?_
  refine vx_aload C 5 dL_acts_104 rfl ?_
  refine vx_iload C 7 dL_acts_106 rfl ?_
  refine vx_callXIP C [.ref (G.1 144), .ref (G.1 145), .ref (G.1 146), .ref (G.1 147), .ref (G.1 148), .ref (G.1 149), .int (nI y)] (c_L_reads h (X ++ [xL G wq 3 (fun _ => 0)]) (y := y) (by omega)) (cwS 7 C.1.2.2.2.2 gL_acts_L_reads rfl rfl rfl (by decide +kernel) ⟨Nat.le_of_ble_eq_true rfl, Nat.le_of_ble_eq_true rfl⟩) rfl rfl rfl (Nat.le_of_ble_eq_true rfl) dL_acts_108 ⟨Nat.le_of_ble_eq_true rfl, Nat.le_of_ble_eq_true rfl⟩ (fun x_1 M_2 X_3 h_4 => ?_)
  obtain ⟨e_r, h_l, e_X⟩ := h_4
  refine vx_top (y := 1) e_r ?_
  refine vx_X (X2 := X ++ [xL G wq 3 (fun _ => 0)]) e_X ?_
  refine vx_drop (X2 := X) (Y := [xL G wq 3 (fun _ => 0)]) rfl ?_
  exact vx_zret C hR (by decide) (by decide) (by decide) dL_acts_111 ⟨_, rfl, rfl, h_l, rfl⟩
set_option maxRecDepth 100000 in
set_option maxHeartbeats 4000000 in
theorem lp_acts_c3 {p : Program} {l : Launch} {e : Env} {s : State} {m : MethodId} {args : Array Value} {below : List Frame} {meth : Method} {c : Code} {G : mw_GG} {A : Nat → Prop} (C : vx_C p s m args c G A cL_acts 16 wsL_acts RL) {X : va_W} (hR : vv_R meth (some .boolean)) {M : mw_M} (h : linv M) {y way wq : Nat} (hy : y < 10000000) {d : Nat} (hd : d < 2) (ed : y % 2 = d) {cc : Nat} (hcc : cc < 4) (hi : ¬ M d ≤ nI cc) {kd one two : Nat} (hA : okA kd one) (hB : okB kd one two)  : vx p l e ({ frames := 8, cells := 3, slots := 10, locals := 195 } : Room) s m args below meth c G A 1 3 (mx_E below args s G A (xI_P (fun r M2 X2 => r = 1 ∧ linv M2 ∧ X2 = X)) 3 10) M (X ++ [xL G wq 3 (fun _ => 0)]) 207 [some (.ref (G.1 144)), some (.ref (G.1 145)), some (.ref (G.1 146)), some (.ref (G.1 147)), some (.ref (G.1 148)), some (.ref (G.1 149)), none, some (.int (nI y)), some (.int (nI way)), some (.ref wq), some (.int (nI d)), some (.int (nI cc)), some (.int (nI kd)), some (.int (nI one)), some (.int (nI two)), none] [] := by
  refine vx_aload_n C 3 dL_acts_207 rfl rfl ?_
  refine vx_iconst (v := 4) C dL_acts_208 (by decide) ?_
  refine vx_iload C 10 dL_acts_209 rfl ?_
  refine vx_imul C dL_acts_211 ?_
  refine vx_top (y := nI (4 * d)) (pk_mul 4 d) ?_
  refine vx_iload C 11 dL_acts_212 rfl ?_
  refine vx_iadd C dL_acts_214 ?_
  refine vx_top (y := nI (4 * d + cc)) (nI_add (4 * d) cc) ?_
  refine vx_ald (j := 4 * d + cc) (q := 1300 + (4 * d + cc)) C sh_147 rfl (by omega) (by omega) dL_acts_215 ?_
  refine vx_istore (ls2 := [some (.ref (G.1 144)), some (.ref (G.1 145)), some (.ref (G.1 146)), some (.ref (G.1 147)), some (.ref (G.1 148)), some (.ref (G.1 149)), none, some (.int (nI y)), some (.int (nI way)), some (.ref wq), some (.int (nI d)), some (.int (nI cc)), some (.int (nI kd)), some (.int (nI one)), some (.int (nI two)), some (.int (M (1300 + (4 * d + cc))))]) C 15 dL_acts_216 (Nat.le_of_ble_eq_true rfl) rfl ?_
  refine vx_aload_n C 3 dL_acts_218 rfl rfl ?_
  refine vx_iconst (v := 4) C dL_acts_219 (by decide) ?_
  refine vx_iload C 10 dL_acts_220 rfl ?_
  refine vx_imul C dL_acts_222 ?_
  refine vx_top (y := nI (4 * d)) (pk_mul 4 d) ?_
  refine vx_iload C 11 dL_acts_223 rfl ?_
  refine vx_iadd C dL_acts_225 ?_
  refine vx_top (y := nI (4 * d + cc)) (nI_add (4 * d) cc) ?_
  refine vx_iload C 12 dL_acts_226 rfl ?_
  refine vx_ast (j := 4 * d + cc) (q := 1300 + (4 * d + cc)) C sh_147 rfl (by omega) (by omega) dL_acts_228 ?_
  refine vx_aload C 4 dL_acts_229 rfl ?_
  refine vx_iconst (v := 4) C dL_acts_231 (by decide) ?_
  refine vx_iload C 10 dL_acts_232 rfl ?_
  refine vx_imul C dL_acts_234 ?_
  refine vx_top (y := nI (4 * d)) (pk_mul 4 d) ?_
  refine vx_iload C 11 dL_acts_235 rfl ?_
  refine vx_iadd C dL_acts_237 ?_
  refine vx_top (y := nI (4 * d + cc)) (nI_add (4 * d) cc) ?_
  refine vx_iload C 13 dL_acts_238 rfl ?_
  refine vx_ast (j := 4 * d + cc) (q := 1310 + (4 * d + cc)) C sh_148 rfl (by omega) (by omega) dL_acts_240 ?_
  refine vx_aload C 5 dL_acts_241 rfl ?_
  refine vx_iconst (v := 4) C dL_acts_243 (by decide) ?_
  refine vx_iload C 10 dL_acts_244 rfl ?_
  refine vx_imul C dL_acts_246 ?_
  refine vx_top (y := nI (4 * d)) (pk_mul 4 d) ?_
  refine vx_iload C 11 dL_acts_247 rfl ?_
  refine vx_iadd C dL_acts_249 ?_
  refine vx_top (y := nI (4 * d + cc)) (nI_add (4 * d) cc) ?_
  refine vx_iload C 14 dL_acts_250 rfl ?_
  refine vx_ast (j := 4 * d + cc) (q := 1320 + (4 * d + cc)) C sh_149 rfl (by omega) (by omega) dL_acts_252 ?_
  refine vx_aload_n C 0 dL_acts_253 rfl rfl ?_
  refine vx_iload C 10 dL_acts_254 rfl ?_
  refine vx_iload C 11 dL_acts_256 rfl ?_
  refine vx_iload C 12 dL_acts_258 rfl ?_
  refine vx_iload C 13 dL_acts_260 rfl ?_
  refine vx_iload C 14 dL_acts_262 rfl ?_
  have hc := L_cell h hd hcc hi (con_ok hA hB) (M1 := upd (upd (upd M (1300 + (4 * d + cc)) (nI kd)) (1310 + (4 * d + cc)) (nI one)) (1320 + (4 * d + cc)) (nI two)) rfl
  refine vx_callVIP C [.int (nI d), .int (nI cc), .int (nI kd), .int (nI one), .int (nI two)] (c_X8_cell (upd (upd (upd M (1300 + (4 * d + cc)) (nI kd)) (1310 + (4 * d + cc)) (nI one)) (1320 + (4 * d + cc)) (nI two)) (hc.1.inv h.1.1).1 (hc.1.inv h.1.1).2.1 (hc.1.inv h.1.1).2.2.1 (nI d) (nI cc) (nI kd) (nI one) (nI two)) sh_144 rfl (cwV 5 C.1.2.2.2.2 gL_acts_X8_cell rfl rfl rfl (by decide +kernel) ⟨Nat.le_of_ble_eq_true rfl, Nat.le_of_ble_eq_true rfl⟩) rfl rfl rfl (Nat.le_of_ble_eq_true rfl) dL_acts_264 ⟨Nat.le_of_ble_eq_true rfl, Nat.le_of_ble_eq_true rfl⟩ (fun x_1 M_2 h_3 => ?_)
  obtain ⟨h_x, h_cl⟩ := h_3
  refine vx_iload C 15 dL_acts_267 rfl ?_
  refine vx_icmp_ne C 276 dL_acts_269 (by decide) (fun h_4 => absurd (h_x.trans hc.2.1) h_4) (fun h_5 => ?_)
  refine vx_iconst (v := 1) C dL_acts_272 (by decide) ?_
  refine vx_goto C 277 dL_acts_273 (by decide) ?_
  refine vx_drop (X2 := X) (Y := [xL G wq 3 (fun _ => 0)]) rfl ?_
  exact vx_zret C hR (by decide) (by decide) (by decide) dL_acts_277 ⟨_, rfl, rfl, hc.2.2 _ h_cl, rfl⟩
set_option maxRecDepth 100000 in
set_option maxHeartbeats 4000000 in
theorem lp_acts_c2 {p : Program} {l : Launch} {e : Env} {s : State} {m : MethodId} {args : Array Value} {below : List Frame} {meth : Method} {c : Code} {G : mw_GG} {A : Nat → Prop} (C : vx_C p s m args c G A cL_acts 16 wsL_acts RL) {X : va_W} (hR : vv_R meth (some .boolean)) {M : mw_M} (h : linv M) {y way wq : Nat} (hy : y < 10000000) {d : Nat} (hd : d < 2) (ed : y % 2 = d) {cc : Nat} (hcc : cc < 4) (hi : ¬ M d ≤ nI cc) {kd one : Nat} (hA : okA kd one) (hs : kd = 7 → one < 7)  : vx p l e ({ frames := 8, cells := 3, slots := 10, locals := 195 } : Room) s m args below meth c G A 1 3 (mx_E below args s G A (xI_P (fun r M2 X2 => r = 1 ∧ linv M2 ∧ X2 = X)) 3 10) M (X ++ [xL G wq 3 (fun _ => 0)]) 183 [some (.ref (G.1 144)), some (.ref (G.1 145)), some (.ref (G.1 146)), some (.ref (G.1 147)), some (.ref (G.1 148)), some (.ref (G.1 149)), none, some (.int (nI y)), some (.int (nI way)), some (.ref wq), some (.int (nI d)), some (.int (nI cc)), some (.int (nI kd)), some (.int (nI one)), none, none] [] := by
  obtain ⟨hA0, hA1, hA2, hA3⟩ := id hA
  refine vx_iload C 12 dL_acts_183 rfl ?_
  refine vx_bipush (v := 7) C dL_acts_185 (by decide) ?_
  refine vx_ncmp_ne C kd 7 204 dL_acts_187 (by decide) (by omega) (by decide) (fun h_1 => ?_) (fun h_2 => ?_)
  · refine vx_iconst (v := 0) C dL_acts_204 (by decide) ?_
    refine vx_istore (ls2 := [some (.ref (G.1 144)), some (.ref (G.1 145)), some (.ref (G.1 146)), some (.ref (G.1 147)), some (.ref (G.1 148)), some (.ref (G.1 149)), none, some (.int (nI y)), some (.int (nI way)), some (.ref wq), some (.int (nI d)), some (.int (nI cc)), some (.int (nI kd)), some (.int (nI one)), some (.int 0), none]) C 14 dL_acts_205 (Nat.le_of_ble_eq_true rfl) rfl ?_
    refine vx_keep (ls2 := [some (.ref (G.1 144)), some (.ref (G.1 145)), some (.ref (G.1 146)), some (.ref (G.1 147)), some (.ref (G.1 148)), some (.ref (G.1 149)), none, some (.int (nI y)), some (.int (nI way)), some (.ref wq), some (.int (nI d)), some (.int (nI cc)), some (.int (nI kd)), some (.int (nI one)), some (.int 0), none]) ⟨rfl, rfl, rfl, rfl, rfl, rfl, rfl, rfl, rfl, rfl, rfl, rfl, rfl, rfl, trivial⟩ ?_
    exact lp_acts_c3 C hR h hy hd ed hcc hi (two := 0) hA ⟨fun _ => ⟨by omega, by omega⟩, fun z => by omega⟩
  · refine vx_iload C 13 dL_acts_190 rfl ?_
    refine vx_iload C 7 dL_acts_192 rfl ?_
    refine vx_sipush (v := 616) C dL_acts_194 (by decide) ?_
    refine vx_idiv C dL_acts_197 (by decide) ?_
    refine vx_top (y := nI (y / 616)) (pk_div (a := y) (d := 616) (by omega) (by omega) (by omega)) ?_
    refine vx_iconst (v := 5) C dL_acts_198 (by decide) ?_
    refine vx_irem C dL_acts_199 (by decide) ?_
    refine vx_top (y := nI ((y / 616) % 5)) (pk_rem (a := y / 616) (d := 5) (by omega) (by omega) (by omega)) ?_
    refine vx_iadd C dL_acts_200 ?_
    refine vx_top (y := nI (one + ((y / 616) % 5))) (nI_add one ((y / 616) % 5)) ?_
    refine vx_goto C 205 dL_acts_201 (by decide) ?_
    refine vx_istore (ls2 := [some (.ref (G.1 144)), some (.ref (G.1 145)), some (.ref (G.1 146)), some (.ref (G.1 147)), some (.ref (G.1 148)), some (.ref (G.1 149)), none, some (.int (nI y)), some (.int (nI way)), some (.ref wq), some (.int (nI d)), some (.int (nI cc)), some (.int (nI kd)), some (.int (nI one)), some (.int (nI (one + ((y / 616) % 5)))), none]) C 14 dL_acts_205 (Nat.le_of_ble_eq_true rfl) rfl ?_
    refine vx_keep (ls2 := [some (.ref (G.1 144)), some (.ref (G.1 145)), some (.ref (G.1 146)), some (.ref (G.1 147)), some (.ref (G.1 148)), some (.ref (G.1 149)), none, some (.int (nI y)), some (.int (nI way)), some (.ref wq), some (.int (nI d)), some (.int (nI cc)), some (.int (nI kd)), some (.int (nI one)), some (.int (nI (one + ((y / 616) % 5)))), none]) ⟨rfl, rfl, rfl, rfl, rfl, rfl, rfl, rfl, rfl, rfl, rfl, rfl, rfl, rfl, trivial⟩ ?_
    exact lp_acts_c3 C hR h hy hd ed hcc hi (two := one + ((y / 616) % 5)) hA ⟨fun _ => ⟨by omega, by omega⟩, fun z => by omega⟩
set_option maxRecDepth 100000 in
set_option maxHeartbeats 4000000 in
theorem lp_acts_c {p : Program} {l : Launch} {e : Env} {s : State} {m : MethodId} {args : Array Value} {below : List Frame} {meth : Method} {c : Code} {G : mw_GG} {A : Nat → Prop} (C : vx_C p s m args c G A cL_acts 16 wsL_acts RL) {X : va_W} (hR : vv_R meth (some .boolean)) {M : mw_M} (h : linv M) {y way wq : Nat} (hy : y < 10000000) {d : Nat} (hd : d < 2) (ed : y % 2 = d)  : vx p l e ({ frames := 8, cells := 3, slots := 10, locals := 195 } : Room) s m args below meth c G A 1 3 (mx_E below args s G A (xI_P (fun r M2 X2 => r = 1 ∧ linv M2 ∧ X2 = X)) 3 10) M (X ++ [xL G wq 3 (fun _ => 0)]) 125 [some (.ref (G.1 144)), some (.ref (G.1 145)), some (.ref (G.1 146)), some (.ref (G.1 147)), some (.ref (G.1 148)), some (.ref (G.1 149)), none, some (.int (nI y)), some (.int (nI way)), some (.ref wq), some (.int (nI d)), none, none, none, none, none] [] := by
  obtain ⟨wd, hwd1, hw4, hwd, hgw⟩ := h.wd hd
  obtain ⟨cc, hcw, ecc⟩ : ∃ cc, cc < wd ∧ y / 2 % wd = cc := ⟨_, Nat.mod_lt _ (by omega), rfl⟩
  have hcc : cc < 4 := by omega
  have hi : ¬ M d ≤ nI cc := by rw [hwd]; exact nI_ge hcw (by omega)
  obtain ⟨kd, hkd, ekd⟩ : ∃ kd, kd < 11 ∧ y / 8 % 11 = kd := ⟨_, Nat.mod_lt _ (by decide), rfl⟩
  refine vx_iload C 7 dL_acts_125 rfl ?_
  refine vx_iconst (v := 2) C dL_acts_127 (by decide) ?_
  refine vx_idiv C dL_acts_128 (by decide) ?_
  refine vx_top (y := nI (y / 2)) (pk_div (a := y) (d := 2) (by omega) (by omega) (by omega)) ?_
  refine vx_aload_n C 1 dL_acts_129 rfl rfl ?_
  refine vx_iload C 10 dL_acts_130 rfl ?_
  refine vx_ald (j := d) (q := 1100 + d) C sh_145 rfl (by omega) (by omega) dL_acts_132 ?_
  refine vx_top (y := nI wd) (hgw) ?_
  refine vx_irem C dL_acts_133 (nI_ne0 (by omega) (by omega)) ?_
  refine vx_top (y := nI cc) ((pk_rem (by omega) (by omega) (by omega)).trans (congrArg nI ecc)) ?_
  refine vx_istore (ls2 := [some (.ref (G.1 144)), some (.ref (G.1 145)), some (.ref (G.1 146)), some (.ref (G.1 147)), some (.ref (G.1 148)), some (.ref (G.1 149)), none, some (.int (nI y)), some (.int (nI way)), some (.ref wq), some (.int (nI d)), some (.int (nI cc)), none, none, none, none]) C 11 dL_acts_134 (Nat.le_of_ble_eq_true rfl) rfl ?_
  refine vx_iload C 7 dL_acts_136 rfl ?_
  refine vx_bipush (v := 8) C dL_acts_138 (by decide) ?_
  refine vx_idiv C dL_acts_140 (by decide) ?_
  refine vx_top (y := nI (y / 8)) (pk_div (a := y) (d := 8) (by omega) (by omega) (by omega)) ?_
  refine vx_bipush (v := 11) C dL_acts_141 (by decide) ?_
  refine vx_irem C dL_acts_143 (by decide) ?_
  refine vx_top (y := nI kd) ((pk_rem (d := 11) (by omega) (by omega) (by omega)).trans (congrArg nI ekd)) ?_
  refine vx_istore (ls2 := [some (.ref (G.1 144)), some (.ref (G.1 145)), some (.ref (G.1 146)), some (.ref (G.1 147)), some (.ref (G.1 148)), some (.ref (G.1 149)), none, some (.int (nI y)), some (.int (nI way)), some (.ref wq), some (.int (nI d)), some (.int (nI cc)), some (.int (nI kd)), none, none, none]) C 12 dL_acts_144 (Nat.le_of_ble_eq_true rfl) rfl ?_
  refine vx_iload C 12 dL_acts_146 rfl ?_
  refine vx_iconst (v := 3) C dL_acts_148 (by decide) ?_
  refine vx_ncmp_ge C kd 3 156 dL_acts_149 (by decide) (by omega) (by decide) (fun h_1 => ?_) (fun h_2 => ?_)
  · refine vx_iload C 12 dL_acts_156 rfl ?_
    refine vx_bipush (v := 7) C dL_acts_158 (by decide) ?_
    refine vx_ncmp_le C kd 7 173 dL_acts_160 (by decide) (by omega) (by decide) (fun h_3 => ?_) (fun h_4 => ?_)
    · refine vx_iload C 7 dL_acts_173 rfl ?_
      refine vx_bipush (v := 88) C dL_acts_175 (by decide) ?_
      refine vx_idiv C dL_acts_177 (by decide) ?_
      refine vx_top (y := nI (y / 88)) (pk_div (a := y) (d := 88) (by omega) (by omega) (by omega)) ?_
      refine vx_bipush (v := 7) C dL_acts_178 (by decide) ?_
      refine vx_irem C dL_acts_180 (by decide) ?_
      refine vx_top (y := nI ((y / 88) % 7)) (pk_rem (a := y / 88) (d := 7) (by omega) (by omega) (by omega)) ?_
      refine vx_istore (ls2 := [some (.ref (G.1 144)), some (.ref (G.1 145)), some (.ref (G.1 146)), some (.ref (G.1 147)), some (.ref (G.1 148)), some (.ref (G.1 149)), none, some (.int (nI y)), some (.int (nI way)), some (.ref wq), some (.int (nI d)), some (.int (nI cc)), some (.int (nI kd)), some (.int (nI ((y / 88) % 7))), none, none]) C 13 dL_acts_181 (Nat.le_of_ble_eq_true rfl) rfl ?_
      refine vx_keep (ls2 := [some (.ref (G.1 144)), some (.ref (G.1 145)), some (.ref (G.1 146)), some (.ref (G.1 147)), some (.ref (G.1 148)), some (.ref (G.1 149)), none, some (.int (nI y)), some (.int (nI way)), some (.ref wq), some (.int (nI d)), some (.int (nI cc)), some (.int (nI kd)), some (.int (nI ((y / 88) % 7))), none, none]) ⟨rfl, rfl, rfl, rfl, rfl, rfl, rfl, rfl, rfl, rfl, rfl, rfl, rfl, trivial⟩ ?_
      exact lp_acts_c2 C hR h hy hd ed hcc hi (one := (y / 88) % 7) ⟨by omega, by omega, by omega, by omega⟩ (by omega)
    · refine vx_iload C 7 dL_acts_163 rfl ?_
      refine vx_bipush (v := 88) C dL_acts_165 (by decide) ?_
      refine vx_idiv C dL_acts_167 (by decide) ?_
      refine vx_top (y := nI (y / 88)) (pk_div (a := y) (d := 88) (by omega) (by omega) (by omega)) ?_
      refine vx_iconst (v := 4) C dL_acts_168 (by decide) ?_
      refine vx_irem C dL_acts_169 (by decide) ?_
      refine vx_top (y := nI ((y / 88) % 4)) (pk_rem (a := y / 88) (d := 4) (by omega) (by omega) (by omega)) ?_
      refine vx_goto C 181 dL_acts_170 (by decide) ?_
      refine vx_istore (ls2 := [some (.ref (G.1 144)), some (.ref (G.1 145)), some (.ref (G.1 146)), some (.ref (G.1 147)), some (.ref (G.1 148)), some (.ref (G.1 149)), none, some (.int (nI y)), some (.int (nI way)), some (.ref wq), some (.int (nI d)), some (.int (nI cc)), some (.int (nI kd)), some (.int (nI ((y / 88) % 4))), none, none]) C 13 dL_acts_181 (Nat.le_of_ble_eq_true rfl) rfl ?_
      refine vx_keep (ls2 := [some (.ref (G.1 144)), some (.ref (G.1 145)), some (.ref (G.1 146)), some (.ref (G.1 147)), some (.ref (G.1 148)), some (.ref (G.1 149)), none, some (.int (nI y)), some (.int (nI way)), some (.ref wq), some (.int (nI d)), some (.int (nI cc)), some (.int (nI kd)), some (.int (nI ((y / 88) % 4))), none, none]) ⟨rfl, rfl, rfl, rfl, rfl, rfl, rfl, rfl, rfl, rfl, rfl, rfl, rfl, trivial⟩ ?_
      exact lp_acts_c2 C hR h hy hd ed hcc hi (one := (y / 88) % 4) ⟨by omega, by omega, by omega, by omega⟩ (by omega)
  · refine vx_iconst (v := 0) C dL_acts_152 (by decide) ?_
    refine vx_goto C 181 dL_acts_153 (by decide) ?_
    refine vx_istore (ls2 := [some (.ref (G.1 144)), some (.ref (G.1 145)), some (.ref (G.1 146)), some (.ref (G.1 147)), some (.ref (G.1 148)), some (.ref (G.1 149)), none, some (.int (nI y)), some (.int (nI way)), some (.ref wq), some (.int (nI d)), some (.int (nI cc)), some (.int (nI kd)), some (.int 0), none, none]) C 13 dL_acts_181 (Nat.le_of_ble_eq_true rfl) rfl ?_
    refine vx_keep (ls2 := [some (.ref (G.1 144)), some (.ref (G.1 145)), some (.ref (G.1 146)), some (.ref (G.1 147)), some (.ref (G.1 148)), some (.ref (G.1 149)), none, some (.int (nI y)), some (.int (nI way)), some (.ref wq), some (.int (nI d)), some (.int (nI cc)), some (.int (nI kd)), some (.int 0), none, none]) ⟨rfl, rfl, rfl, rfl, rfl, rfl, rfl, rfl, rfl, rfl, rfl, rfl, rfl, trivial⟩ ?_
    exact lp_acts_c2 C hR h hy hd ed hcc hi (one := 0) ⟨by omega, by omega, by omega, by omega⟩ (by omega)
set_option maxRecDepth 100000 in
set_option maxHeartbeats 4000000 in
theorem lp_acts_el {p : Program} {l : Launch} {e : Env} {s : State} {m : MethodId} {args : Array Value} {below : List Frame} {meth : Method} {c : Code} {G : mw_GG} {A : Nat → Prop} {Q : State → Prop} (C : vx_C p s m args c G A cL_acts 16 wsL_acts RL) {X : va_W} {M : mw_M} {y way d wq : Nat} (hd : d < 2) (hk : ∀ Mi, loM M Mi → lrel Mi (setC M d (fun _ => (0, 0, 0)) 4) → vx p l e ({ frames := 8, cells := 3, slots := 10, locals := 195 } : Room) s m args below meth c G A 1 3 Q Mi (X ++ [xL G wq 3 (fun _ => 0)]) 345 [some (.ref (G.1 144)), some (.ref (G.1 145)), some (.ref (G.1 146)), some (.ref (G.1 147)), some (.ref (G.1 148)), some (.ref (G.1 149)), none, some (.int (nI y)), some (.int (nI way)), some (.ref wq), some (.int (nI d)), some (.int (nI (cntB (othF M d) 4))), none, none, none, none] []) : ∀ (n i : Nat) (Mi : mw_M), 5 ≤ i + n → i ≤ 4 → loM M Mi → lrel Mi (setC M d (fun _ => (0, 0, 0)) i) → vx p l e ({ frames := 8, cells := 3, slots := 10, locals := 195 } : Room) s m args below meth c G A 1 3 Q Mi (X ++ [xL G wq 3 (fun _ => 0)]) 294 [some (.ref (G.1 144)), some (.ref (G.1 145)), some (.ref (G.1 146)), some (.ref (G.1 147)), some (.ref (G.1 148)), some (.ref (G.1 149)), none, some (.int (nI y)), some (.int (nI way)), some (.ref wq), some (.int (nI d)), some (.int (nI (cntB (othF M d) i))), some (.int (nI (4 * d + i))), none, none, none] [] := by
  intro n
  induction n with
  | zero => intro i Mi h1 h2 _ _; omega
  | succ n ih =>
    intro i Mi h1 h2 hlo hrl
    have hcb := cntB_le (othF M d) i
    refine vx_iload C 12 dL_acts_294 rfl ?_
    refine vx_iconst (v := 4) C dL_acts_296 (by decide) ?_
    refine vx_iload C 10 dL_acts_297 rfl ?_
    refine vx_imul C dL_acts_299 ?_
    refine vx_top (y := nI (4 * d)) (pk_mul 4 d) ?_
    refine vx_iconst (v := 4) C dL_acts_300 (by decide) ?_
    refine vx_iadd C dL_acts_301 ?_
    refine vx_top (y := nI (4 * d + 4)) (nI_add (4 * d) 4) ?_
    refine vx_ncmp_ge C (4 * d + i) (4 * d + 4) 345 dL_acts_302 (by decide) (by omega) (by omega) (fun h_ge => ?_) (fun h_lt => ?_)
    · refine vx_keep (ls2 := [some (.ref (G.1 144)), some (.ref (G.1 145)), some (.ref (G.1 146)), some (.ref (G.1 147)), some (.ref (G.1 148)), some (.ref (G.1 149)), none, some (.int (nI y)), some (.int (nI way)), some (.ref wq), some (.int (nI d)), some (.int (nI (cntB (othF M d) i))), none, none, none, none]) ⟨rfl, rfl, rfl, rfl, rfl, rfl, rfl, rfl, rfl, rfl, rfl, trivial⟩ ?_
      have e : i = 4 := by omega
      subst e
      exact hk Mi hlo hrl
    · refine vx_iload C 11 dL_acts_305 rfl ?_
      refine vx_aload_n C 3 dL_acts_307 rfl rfl ?_
      refine vx_iload C 12 dL_acts_308 rfl ?_
      refine vx_ald (j := 4 * d + i) (q := 1300 + (4 * d + i)) C sh_147 rfl (by omega) (by omega) dL_acts_310 ?_
      refine vx_top (y := M (100 + 12 * d + 3 * i)) ((oth_at hrl hd (by omega))) ?_
      refine vx_if_eq C 318 dL_acts_311 (by decide) (fun h_z => ?_) (fun h_nz => ?_)
      · refine vx_iconst (v := 0) C dL_acts_318 (by decide) ?_
        refine vx_iadd C dL_acts_319 ?_
        refine vx_top (y := nI (cntB (othF M d) (i + 1))) ((nI_add _ _).trans (congrArg nI (cntB_f (decide_eq_false (fun z => z h_z))).symm)) ?_
        refine vx_istore (ls2 := [some (.ref (G.1 144)), some (.ref (G.1 145)), some (.ref (G.1 146)), some (.ref (G.1 147)), some (.ref (G.1 148)), some (.ref (G.1 149)), none, some (.int (nI y)), some (.int (nI way)), some (.ref wq), some (.int (nI d)), some (.int (nI (cntB (othF M d) (i + 1)))), some (.int (nI (4 * d + i))), none, none, none]) C 11 dL_acts_320 (Nat.le_of_ble_eq_true rfl) rfl ?_
        refine vx_aload_n C 3 dL_acts_322 rfl rfl ?_
        refine vx_iload C 12 dL_acts_323 rfl ?_
        refine vx_iconst (v := 0) C dL_acts_325 (by decide) ?_
        refine vx_ast (j := 4 * d + i) (q := 1300 + (4 * d + i)) C sh_147 rfl (by omega) (by omega) dL_acts_326 ?_
        refine vx_aload C 4 dL_acts_327 rfl ?_
        refine vx_iload C 12 dL_acts_329 rfl ?_
        refine vx_iconst (v := 0) C dL_acts_331 (by decide) ?_
        refine vx_ast (j := 4 * d + i) (q := 1310 + (4 * d + i)) C sh_148 rfl (by omega) (by omega) dL_acts_332 ?_
        refine vx_aload C 5 dL_acts_333 rfl ?_
        refine vx_iload C 12 dL_acts_335 rfl ?_
        refine vx_iconst (v := 0) C dL_acts_337 (by decide) ?_
        refine vx_ast (j := 4 * d + i) (q := 1320 + (4 * d + i)) C sh_149 rfl (by omega) (by omega) dL_acts_338 ?_
        refine vx_iinc (v := nI (4 * d + i + 1)) (ls2 := [some (.ref (G.1 144)), some (.ref (G.1 145)), some (.ref (G.1 146)), some (.ref (G.1 147)), some (.ref (G.1 148)), some (.ref (G.1 149)), none, some (.int (nI y)), some (.int (nI way)), some (.ref wq), some (.int (nI d)), some (.int (nI (cntB (othF M d) (i + 1)))), some (.int (nI (4 * d + i + 1))), none, none, none]) C 12 dL_acts_339 rfl (nI_add (4 * d + i) 1) rfl ?_
        refine vx_goto C 294 dL_acts_342 (by decide) ?_
        refine vx_loc (ls2 := [some (.ref (G.1 144)), some (.ref (G.1 145)), some (.ref (G.1 146)), some (.ref (G.1 147)), some (.ref (G.1 148)), some (.ref (G.1 149)), none, some (.int (nI y)), some (.int (nI way)), some (.ref wq), some (.int (nI d)), some (.int (nI (cntB (othF M d) (i + 1)))), some (.int (nI (4 * d + (i + 1)))), none, none, none]) rfl ?_
        exact ih (i + 1) _ (by omega) (by omega) (((hlo.u (by omega)).u (by omega)).u (by omega)) (lc_step hd (by omega) hrl rfl)
      · refine vx_iconst (v := 1) C dL_acts_314 (by decide) ?_
        refine vx_goto C 319 dL_acts_315 (by decide) ?_
        refine vx_iadd C dL_acts_319 ?_
        refine vx_top (y := nI (cntB (othF M d) (i + 1))) ((nI_add _ _).trans (congrArg nI (cntB_t (decide_eq_true h_nz)).symm)) ?_
        refine vx_istore (ls2 := [some (.ref (G.1 144)), some (.ref (G.1 145)), some (.ref (G.1 146)), some (.ref (G.1 147)), some (.ref (G.1 148)), some (.ref (G.1 149)), none, some (.int (nI y)), some (.int (nI way)), some (.ref wq), some (.int (nI d)), some (.int (nI (cntB (othF M d) (i + 1)))), some (.int (nI (4 * d + i))), none, none, none]) C 11 dL_acts_320 (Nat.le_of_ble_eq_true rfl) rfl ?_
        refine vx_aload_n C 3 dL_acts_322 rfl rfl ?_
        refine vx_iload C 12 dL_acts_323 rfl ?_
        refine vx_iconst (v := 0) C dL_acts_325 (by decide) ?_
        refine vx_ast (j := 4 * d + i) (q := 1300 + (4 * d + i)) C sh_147 rfl (by omega) (by omega) dL_acts_326 ?_
        refine vx_aload C 4 dL_acts_327 rfl ?_
        refine vx_iload C 12 dL_acts_329 rfl ?_
        refine vx_iconst (v := 0) C dL_acts_331 (by decide) ?_
        refine vx_ast (j := 4 * d + i) (q := 1310 + (4 * d + i)) C sh_148 rfl (by omega) (by omega) dL_acts_332 ?_
        refine vx_aload C 5 dL_acts_333 rfl ?_
        refine vx_iload C 12 dL_acts_335 rfl ?_
        refine vx_iconst (v := 0) C dL_acts_337 (by decide) ?_
        refine vx_ast (j := 4 * d + i) (q := 1320 + (4 * d + i)) C sh_149 rfl (by omega) (by omega) dL_acts_338 ?_
        refine vx_iinc (v := nI (4 * d + i + 1)) (ls2 := [some (.ref (G.1 144)), some (.ref (G.1 145)), some (.ref (G.1 146)), some (.ref (G.1 147)), some (.ref (G.1 148)), some (.ref (G.1 149)), none, some (.int (nI y)), some (.int (nI way)), some (.ref wq), some (.int (nI d)), some (.int (nI (cntB (othF M d) (i + 1)))), some (.int (nI (4 * d + i + 1))), none, none, none]) C 12 dL_acts_339 rfl (nI_add (4 * d + i) 1) rfl ?_
        refine vx_goto C 294 dL_acts_342 (by decide) ?_
        refine vx_loc (ls2 := [some (.ref (G.1 144)), some (.ref (G.1 145)), some (.ref (G.1 146)), some (.ref (G.1 147)), some (.ref (G.1 148)), some (.ref (G.1 149)), none, some (.int (nI y)), some (.int (nI way)), some (.ref wq), some (.int (nI d)), some (.int (nI (cntB (othF M d) (i + 1)))), some (.int (nI (4 * d + (i + 1)))), none, none, none]) rfl ?_
        exact ih (i + 1) _ (by omega) (by omega) (((hlo.u (by omega)).u (by omega)).u (by omega)) (lc_step hd (by omega) hrl rfl)
set_option maxRecDepth 100000 in
set_option maxHeartbeats 4000000 in
theorem lp_acts_e1 {p : Program} {l : Launch} {e : Env} {s : State} {m : MethodId} {args : Array Value} {below : List Frame} {meth : Method} {c : Code} {G : mw_GG} {A : Nat → Prop} (C : vx_C p s m args c G A cL_acts 16 wsL_acts RL) {X : va_W} (hR : vv_R meth (some .boolean)) {M : mw_M} (h : linv M) {y way wq : Nat} (hy : y < 10000000) {d : Nat} (hd : d < 2) (ed : y % 2 = d) {Mi : mw_M} (hlo : loM M Mi) (hrl : lrel Mi (setC M d (fun _ => (0, 0, 0)) 4))  : vx p l e ({ frames := 8, cells := 3, slots := 10, locals := 195 } : Room) s m args below meth c G A 1 3 (mx_E below args s G A (xI_P (fun r M2 X2 => r = 1 ∧ linv M2 ∧ X2 = X)) 3 10) Mi (X ++ [xL G wq 3 (fun _ => 0)]) 345 [some (.ref (G.1 144)), some (.ref (G.1 145)), some (.ref (G.1 146)), some (.ref (G.1 147)), some (.ref (G.1 148)), some (.ref (G.1 149)), none, some (.int (nI y)), some (.int (nI way)), some (.ref wq), some (.int (nI d)), some (.int (nI (cntB (othF M d) 4))), none, none, none, none] [] := by
  refine vx_aload_n C 0 dL_acts_345 rfl rfl ?_
  refine vx_iload C 10 dL_acts_346 rfl ?_
  have hc := L_clear h hd hlo hrl
  refine vx_callVIP C [.int (nI d)] (c_X8_clear Mi (hlo.inv h.1.1).1 (hlo.inv h.1.1).2.1 (hlo.inv h.1.1).2.2.1 (nI d)) sh_144 rfl (cwV 1 C.1.2.2.2.2 gL_acts_X8_clear rfl rfl rfl (by decide +kernel) ⟨Nat.le_of_ble_eq_true rfl, Nat.le_of_ble_eq_true rfl⟩) rfl rfl rfl (Nat.le_of_ble_eq_true rfl) dL_acts_348 ⟨Nat.le_of_ble_eq_true rfl, Nat.le_of_ble_eq_true rfl⟩ (fun x_1 M_2 h_3 => ?_)
  obtain ⟨h_x, h_cl⟩ := h_3
  refine vx_iload C 11 dL_acts_351 rfl ?_
  refine vx_icmp_ne C 360 dL_acts_353 (by decide) (fun h_4 => absurd (h_x.trans hc.1) h_4) (fun h_5 => ?_)
  refine vx_iconst (v := 1) C dL_acts_356 (by decide) ?_
  refine vx_goto C 361 dL_acts_357 (by decide) ?_
  refine vx_drop (X2 := X) (Y := [xL G wq 3 (fun _ => 0)]) rfl ?_
  exact vx_zret C hR (by decide) (by decide) (by decide) dL_acts_361 ⟨_, rfl, rfl, hc.2 _ h_cl, rfl⟩
set_option maxRecDepth 100000 in
set_option maxHeartbeats 4000000 in
theorem lp_acts_e {p : Program} {l : Launch} {e : Env} {s : State} {m : MethodId} {args : Array Value} {below : List Frame} {meth : Method} {c : Code} {G : mw_GG} {A : Nat → Prop} (C : vx_C p s m args c G A cL_acts 16 wsL_acts RL) {X : va_W} (hR : vv_R meth (some .boolean)) {M : mw_M} (h : linv M) {y way wq : Nat} (hy : y < 10000000) {d : Nat} (hd : d < 2) (ed : y % 2 = d)  : vx p l e ({ frames := 8, cells := 3, slots := 10, locals := 195 } : Room) s m args below meth c G A 1 3 (mx_E below args s G A (xI_P (fun r M2 X2 => r = 1 ∧ linv M2 ∧ X2 = X)) 3 10) M (X ++ [xL G wq 3 (fun _ => 0)]) 285 [some (.ref (G.1 144)), some (.ref (G.1 145)), some (.ref (G.1 146)), some (.ref (G.1 147)), some (.ref (G.1 148)), some (.ref (G.1 149)), none, some (.int (nI y)), some (.int (nI way)), some (.ref wq), some (.int (nI d)), none, none, none, none, none] [] := by
  refine vx_iconst (v := 0) C dL_acts_285 (by decide) ?_
  refine vx_istore (ls2 := [some (.ref (G.1 144)), some (.ref (G.1 145)), some (.ref (G.1 146)), some (.ref (G.1 147)), some (.ref (G.1 148)), some (.ref (G.1 149)), none, some (.int (nI y)), some (.int (nI way)), some (.ref wq), some (.int (nI d)), some (.int 0), none, none, none, none]) C 11 dL_acts_286 (Nat.le_of_ble_eq_true rfl) rfl ?_
  refine vx_iconst (v := 4) C dL_acts_288 (by decide) ?_
  refine vx_iload C 10 dL_acts_289 rfl ?_
  refine vx_imul C dL_acts_291 ?_
  refine vx_top (y := nI (4 * d)) (pk_mul 4 d) ?_
  refine vx_istore (ls2 := [some (.ref (G.1 144)), some (.ref (G.1 145)), some (.ref (G.1 146)), some (.ref (G.1 147)), some (.ref (G.1 148)), some (.ref (G.1 149)), none, some (.int (nI y)), some (.int (nI way)), some (.ref wq), some (.int (nI d)), some (.int 0), some (.int (nI (4 * d))), none, none, none]) C 12 dL_acts_292 (Nat.le_of_ble_eq_true rfl) rfl ?_
  refine vx_loc (ls2 := [some (.ref (G.1 144)), some (.ref (G.1 145)), some (.ref (G.1 146)), some (.ref (G.1 147)), some (.ref (G.1 148)), some (.ref (G.1 149)), none, some (.int (nI y)), some (.int (nI way)), some (.ref wq), some (.int (nI d)), some (.int (nI (cntB (othF M d) 0))), some (.int (nI (4 * d + 0))), none, none, none]) rfl ?_
  exact lp_acts_el C hd (fun Mi hlo hrl => lp_acts_e1 C hR h hy hd ed hlo hrl) 5 0 M (by omega) (by omega) loM.rf (by rw [setC_0]; exact h.1.2.1)
set_option maxRecDepth 100000 in
set_option maxHeartbeats 4000000 in
theorem lp_acts_b {p : Program} {l : Launch} {e : Env} {s : State} {m : MethodId} {args : Array Value} {below : List Frame} {meth : Method} {c : Code} {G : mw_GG} {A : Nat → Prop} (C : vx_C p s m args c G A cL_acts 16 wsL_acts RL) {X : va_W} (hR : vv_R meth (some .boolean)) {M : mw_M} (h : linv M) {y way wq : Nat} (hy : y < 10000000) {d : Nat} (hd : d < 2) (ed : y % 2 = d)  : vx p l e ({ frames := 8, cells := 3, slots := 10, locals := 195 } : Room) s m args below meth c G A 1 3 (mx_E below args s G A (xI_P (fun r M2 X2 => r = 1 ∧ linv M2 ∧ X2 = X)) 3 10) M (X ++ [xL G wq 3 (fun _ => 0)]) 369 [some (.ref (G.1 144)), some (.ref (G.1 145)), some (.ref (G.1 146)), some (.ref (G.1 147)), some (.ref (G.1 148)), some (.ref (G.1 149)), none, some (.int (nI y)), some (.int (nI way)), some (.ref wq), some (.int (nI d)), none, none, none, none, none] [] := by
  refine vx_aload_n C 1 dL_acts_369 rfl rfl ?_
  refine vx_iconst (v := 4) C dL_acts_370 (by decide) ?_
  refine vx_ald (j := 4) (q := 1104) C sh_145 rfl (by decide) rfl dL_acts_371 ?_
  refine vx_top (y := M 124) (h.1.2.1.g4) ?_
  refine vx_istore (ls2 := [some (.ref (G.1 144)), some (.ref (G.1 145)), some (.ref (G.1 146)), some (.ref (G.1 147)), some (.ref (G.1 148)), some (.ref (G.1 149)), none, some (.int (nI y)), some (.int (nI way)), some (.ref wq), some (.int (nI d)), some (.int (M 124)), none, none, none, none]) C 11 dL_acts_372 (Nat.le_of_ble_eq_true rfl) rfl ?_
  refine vx_aload_n C 1 dL_acts_374 rfl rfl ?_
  refine vx_iconst (v := 4) C dL_acts_375 (by decide) ?_
  refine vx_iload C 7 dL_acts_376 rfl ?_
  refine vx_iconst (v := 3) C dL_acts_378 (by decide) ?_
  refine vx_irem C dL_acts_379 (by decide) ?_
  refine vx_top (y := nI (y % 3)) (pk_rem (a := y) (d := 3) (by omega) (by omega) (by omega)) ?_
  refine vx_nif_le C (y % 3) 387 dL_acts_380 (by decide) (by omega) (fun h_le => ?_) (fun h_gt => ?_)
  · refine vx_iconst (v := 0) C dL_acts_387 (by decide) ?_
    refine vx_ast (j := 4) (q := 1104) C sh_145 rfl (by decide) rfl dL_acts_388 ?_
    refine vx_aload_n C 0 dL_acts_389 rfl rfl ?_
    refine vx_aload_n C 1 dL_acts_390 rfl rfl ?_
    refine vx_iconst (v := 4) C dL_acts_391 (by decide) ?_
    refine vx_ald (j := 4) (q := 1104) C sh_145 rfl (by decide) rfl dL_acts_392 ?_
    refine vx_top (y := 0) (upd_s) ?_
    have hc := L_both h (x := 0) (by decide) (M1 := upd M 1104 0) rfl
    refine vx_callVIP C [.int 0] (c_X8_both (upd M 1104 0) (hc.1.inv h.1.1).1 (hc.1.inv h.1.1).2.1 (hc.1.inv h.1.1).2.2.1 0) sh_144 rfl (cwV 1 C.1.2.2.2.2 gL_acts_X8_both rfl rfl rfl (by decide +kernel) ⟨Nat.le_of_ble_eq_true rfl, Nat.le_of_ble_eq_true rfl⟩) rfl rfl rfl (Nat.le_of_ble_eq_true rfl) dL_acts_393 ⟨Nat.le_of_ble_eq_true rfl, Nat.le_of_ble_eq_true rfl⟩ (fun x_3 M_4 h_5 => ?_)
    obtain ⟨h_x, h_cl⟩ := h_5
    refine vx_iload C 11 dL_acts_396 rfl ?_
    refine vx_icmp_ne C 405 dL_acts_398 (by decide) (fun h_6 => absurd (h_x.trans hc.2.1) h_6) (fun h_7 => ?_)
    refine vx_iconst (v := 1) C dL_acts_401 (by decide) ?_
    refine vx_goto C 406 dL_acts_402 (by decide) ?_
    refine vx_drop (X2 := X) (Y := [xL G wq 3 (fun _ => 0)]) rfl ?_
    exact vx_zret C hR (by decide) (by decide) (by decide) dL_acts_406 ⟨_, rfl, rfl, hc.2.2 _ h_cl, rfl⟩
  · refine vx_iconst (v := 1) C dL_acts_383 (by decide) ?_
    refine vx_goto C 388 dL_acts_384 (by decide) ?_
    refine vx_ast (j := 4) (q := 1104) C sh_145 rfl (by decide) rfl dL_acts_388 ?_
    refine vx_aload_n C 0 dL_acts_389 rfl rfl ?_
    refine vx_aload_n C 1 dL_acts_390 rfl rfl ?_
    refine vx_iconst (v := 4) C dL_acts_391 (by decide) ?_
    refine vx_ald (j := 4) (q := 1104) C sh_145 rfl (by decide) rfl dL_acts_392 ?_
    refine vx_top (y := 1) (upd_s) ?_
    have hc := L_both h (x := 1) (by decide) (M1 := upd M 1104 1) rfl
    refine vx_callVIP C [.int 1] (c_X8_both (upd M 1104 1) (hc.1.inv h.1.1).1 (hc.1.inv h.1.1).2.1 (hc.1.inv h.1.1).2.2.1 1) sh_144 rfl (cwV 1 C.1.2.2.2.2 gL_acts_X8_both rfl rfl rfl (by decide +kernel) ⟨Nat.le_of_ble_eq_true rfl, Nat.le_of_ble_eq_true rfl⟩) rfl rfl rfl (Nat.le_of_ble_eq_true rfl) dL_acts_393 ⟨Nat.le_of_ble_eq_true rfl, Nat.le_of_ble_eq_true rfl⟩ (fun x_8 M_9 h_10 => ?_)
    obtain ⟨h_x, h_cl⟩ := h_10
    refine vx_iload C 11 dL_acts_396 rfl ?_
    refine vx_icmp_ne C 405 dL_acts_398 (by decide) (fun h_11 => absurd (h_x.trans hc.2.1) h_11) (fun h_12 => ?_)
    refine vx_iconst (v := 1) C dL_acts_401 (by decide) ?_
    refine vx_goto C 406 dL_acts_402 (by decide) ?_
    refine vx_drop (X2 := X) (Y := [xL G wq 3 (fun _ => 0)]) rfl ?_
    exact vx_zret C hR (by decide) (by decide) (by decide) dL_acts_406 ⟨_, rfl, rfl, hc.2.2 _ h_cl, rfl⟩
set_option maxRecDepth 100000 in
set_option maxHeartbeats 4000000 in
theorem lp_acts_o {p : Program} {l : Launch} {e : Env} {s : State} {m : MethodId} {args : Array Value} {below : List Frame} {meth : Method} {c : Code} {G : mw_GG} {A : Nat → Prop} (C : vx_C p s m args c G A cL_acts 16 wsL_acts RL) {X : va_W} (hR : vv_R meth (some .boolean)) {M : mw_M} (h : linv M) {y way wq : Nat} (hy : y < 10000000) {d : Nat} (hd : d < 2) (ed : y % 2 = d)  : vx p l e ({ frames := 8, cells := 3, slots := 10, locals := 195 } : Room) s m args below meth c G A 1 3 (mx_E below args s G A (xI_P (fun r M2 X2 => r = 1 ∧ linv M2 ∧ X2 = X)) 3 10) M (X ++ [xL G wq 3 (fun _ => 0)]) 414 [some (.ref (G.1 144)), some (.ref (G.1 145)), some (.ref (G.1 146)), some (.ref (G.1 147)), some (.ref (G.1 148)), some (.ref (G.1 149)), none, some (.int (nI y)), some (.int (nI way)), some (.ref wq), some (.int (nI d)), none, none, none, none, none] [] := by
  refine vx_iload C 7 dL_acts_414 rfl ?_
  refine vx_iconst (v := 2) C dL_acts_416 (by decide) ?_
  refine vx_irem C dL_acts_417 (by decide) ?_
  refine vx_top (y := nI d) ((pk_rem (d := 2) (by omega) (by omega) (by omega)).trans (congrArg nI ed)) ?_
  refine vx_istore (ls2 := [some (.ref (G.1 144)), some (.ref (G.1 145)), some (.ref (G.1 146)), some (.ref (G.1 147)), some (.ref (G.1 148)), some (.ref (G.1 149)), none, some (.int (nI y)), some (.int (nI way)), some (.ref wq), some (.int (nI d)), some (.int (nI d)), none, none, none, none]) C 11 dL_acts_418 (Nat.le_of_ble_eq_true rfl) rfl ?_
  refine vx_aload_n C 1 dL_acts_420 rfl rfl ?_
  refine vx_iconst (v := 5) C dL_acts_421 (by decide) ?_
  refine vx_iconst (v := 2) C dL_acts_422 (by decide) ?_
  refine vx_iload C 11 dL_acts_423 rfl ?_
  refine vx_imul C dL_acts_425 ?_
  refine vx_top (y := nI (2 * d)) (pk_mul 2 d) ?_
  refine vx_iadd C dL_acts_426 ?_
  refine vx_top (y := nI (5 + (2 * d))) (nI_add 5 (2 * d)) ?_
  refine vx_iload C 7 dL_acts_427 rfl ?_
  refine vx_iconst (v := 2) C dL_acts_429 (by decide) ?_
  refine vx_idiv C dL_acts_430 (by decide) ?_
  refine vx_top (y := nI (y / 2)) (pk_div (a := y) (d := 2) (by omega) (by omega) (by omega)) ?_
  refine vx_bipush (v := 9) C dL_acts_431 (by decide) ?_
  refine vx_irem C dL_acts_433 (by decide) ?_
  refine vx_top (y := nI ((y / 2) % 9)) (pk_rem (a := y / 2) (d := 9) (by omega) (by omega) (by omega)) ?_
  refine vx_iconst (v := 1) C dL_acts_434 (by decide) ?_
  refine vx_isub C dL_acts_435 ?_
  refine vx_ast (j := 5 + (2 * d)) (q := 1100 + (5 + (2 * d))) C sh_145 rfl (by omega) (by omega) dL_acts_436 ?_
  refine vx_aload_n C 1 dL_acts_437 rfl rfl ?_
  refine vx_bipush (v := 6) C dL_acts_438 (by decide) ?_
  refine vx_iconst (v := 2) C dL_acts_440 (by decide) ?_
  refine vx_iload C 11 dL_acts_441 rfl ?_
  refine vx_imul C dL_acts_443 ?_
  refine vx_top (y := nI (2 * d)) (pk_mul 2 d) ?_
  refine vx_iadd C dL_acts_444 ?_
  refine vx_top (y := nI (6 + (2 * d))) (nI_add 6 (2 * d)) ?_
  refine vx_iload C 7 dL_acts_445 rfl ?_
  refine vx_bipush (v := 18) C dL_acts_447 (by decide) ?_
  refine vx_idiv C dL_acts_449 (by decide) ?_
  refine vx_top (y := nI (y / 18)) (pk_div (a := y) (d := 18) (by omega) (by omega) (by omega)) ?_
  refine vx_iconst (v := 2) C dL_acts_450 (by decide) ?_
  refine vx_irem C dL_acts_451 (by decide) ?_
  refine vx_top (y := nI ((y / 18) % 2)) (pk_rem (a := y / 18) (d := 2) (by omega) (by omega) (by omega)) ?_
  refine vx_ast (j := 6 + (2 * d)) (q := 1100 + (6 + (2 * d))) C sh_145 rfl (by omega) (by omega) dL_acts_452 ?_
  refine vx_aload_n C 0 dL_acts_453 rfl rfl ?_
  refine vx_iload C 11 dL_acts_454 rfl ?_
  refine vx_aload_n C 1 dL_acts_456 rfl rfl ?_
  refine vx_iconst (v := 5) C dL_acts_457 (by decide) ?_
  refine vx_iconst (v := 2) C dL_acts_458 (by decide) ?_
  refine vx_iload C 11 dL_acts_459 rfl ?_
  refine vx_imul C dL_acts_461 ?_
  refine vx_top (y := nI (2 * d)) (pk_mul 2 d) ?_
  refine vx_iadd C dL_acts_462 ?_
  refine vx_top (y := nI (5 + (2 * d))) (nI_add 5 (2 * d)) ?_
  refine vx_ald (j := 5 + (2 * d)) (q := 1100 + (5 + (2 * d))) C sh_145 rfl (by omega) (by omega) dL_acts_463 ?_
  refine vx_top (y := (nI (y / 2 % 9)) - 1) ((upd_o (by omega)).trans upd_s) ?_
  refine vx_aload_n C 1 dL_acts_464 rfl rfl ?_
  refine vx_bipush (v := 6) C dL_acts_465 (by decide) ?_
  refine vx_iconst (v := 2) C dL_acts_467 (by decide) ?_
  refine vx_iload C 11 dL_acts_468 rfl ?_
  refine vx_imul C dL_acts_470 ?_
  refine vx_top (y := nI (2 * d)) (pk_mul 2 d) ?_
  refine vx_iadd C dL_acts_471 ?_
  refine vx_top (y := nI (6 + (2 * d))) (nI_add 6 (2 * d)) ?_
  refine vx_ald (j := 6 + (2 * d)) (q := 1100 + (6 + (2 * d))) C sh_145 rfl (by omega) (by omega) dL_acts_472 ?_
  refine vx_top (y := nI (y / 18 % 2)) (upd_s) ?_
  have hc := L_order h hd (b := y / 18 % 2) (by omega) (ord_in (n := y / 2 % 9) (by omega)) (M1 := upd (upd M (1100 + (5 + (2 * d))) ((nI ((y / 2) % 9)) - 1)) (1100 + (6 + (2 * d))) (nI ((y / 18) % 2))) (by rw [show 1100 + (5 + 2 * d) = 1105 + 2 * d by omega, show 1100 + (6 + 2 * d) = 1106 + 2 * d by omega])
  refine vx_callVIP C [.int (nI d), .int ((nI (y / 2 % 9)) - 1), .int (nI (y / 18 % 2))] (c_X8_order (upd (upd M (1100 + (5 + (2 * d))) ((nI ((y / 2) % 9)) - 1)) (1100 + (6 + (2 * d))) (nI ((y / 18) % 2))) (hc.1.inv h.1.1).1 (hc.1.inv h.1.1).2.1 (hc.1.inv h.1.1).2.2.1 (nI d) ((nI (y / 2 % 9)) - 1) (nI (y / 18 % 2))) sh_144 rfl (cwV 3 C.1.2.2.2.2 gL_acts_X8_order rfl rfl rfl (by decide +kernel) ⟨Nat.le_of_ble_eq_true rfl, Nat.le_of_ble_eq_true rfl⟩) rfl rfl rfl (Nat.le_of_ble_eq_true rfl) dL_acts_473 ⟨Nat.le_of_ble_eq_true rfl, Nat.le_of_ble_eq_true rfl⟩ (fun x_1 M_2 h_3 => ?_)
  obtain ⟨h_x, h_cl⟩ := h_3
  obtain ⟨hl2, em⟩ := hc.2 _ h_cl
  refine vx_top (y := manyI M_2) (h_x.trans em) ?_
  refine vx_aload_n C 1 dL_acts_476 rfl rfl ?_
  refine vx_aload_n C 2 dL_acts_477 rfl rfl ?_
  refine vx_aload_n C 3 dL_acts_478 rfl rfl ?_
  refine vx_aload C 4 dL_acts_479 rfl ?_
  refine vx_aload C 5 dL_acts_481 rfl ?_
  refine vx_aload C 9 dL_acts_483 rfl ?_
  refine vx_callXIP C [.ref (G.1 145), .ref (G.1 146), .ref (G.1 147), .ref (G.1 148), .ref (G.1 149), .ref wq] (c_L_many M_2 M_2 hl2.1.2.1 hl2.1.1.1 (X := X ++ [xL G wq 3 (fun _ => 0)]) xa_at) (cwS 6 C.1.2.2.2.2 gL_acts_L_many rfl rfl rfl (by decide +kernel) ⟨Nat.le_of_ble_eq_true rfl, Nat.le_of_ble_eq_true rfl⟩) rfl rfl rfl (Nat.le_of_ble_eq_true rfl) dL_acts_485 ⟨Nat.le_of_ble_eq_true rfl, Nat.le_of_ble_eq_true rfl⟩ (fun x_4 M_5 X_6 h_7 => ?_)
  obtain ⟨e_m, e_M, W, hW, e_X⟩ := h_7
  refine vx_top (y := manyI M_2) e_m ?_
  refine vx_mem (M2 := M_2) e_M ?_
  refine vx_X (X2 := X ++ [xL G wq 3 W]) (e_X.trans xa_set) ?_
  refine vx_icmp_ne C 495 dL_acts_488 (by decide) (fun h_8 => absurd rfl h_8) (fun h_9 => ?_)
  refine vx_iconst (v := 1) C dL_acts_491 (by decide) ?_
  refine vx_goto C 496 dL_acts_492 (by decide) ?_
  refine vx_drop (X2 := X) (Y := [xL G wq 3 W]) rfl ?_
  exact vx_zret C hR (by decide) (by decide) (by decide) dL_acts_496 ⟨_, rfl, rfl, hl2, rfl⟩
set_option maxRecDepth 100000 in
set_option maxHeartbeats 4000000 in
theorem lp_acts_s {p : Program} {l : Launch} {e : Env} {s : State} {m : MethodId} {args : Array Value} {below : List Frame} {meth : Method} {c : Code} {G : mw_GG} {A : Nat → Prop} (C : vx_C p s m args c G A cL_acts 16 wsL_acts RL) {X : va_W} (hR : vv_R meth (some .boolean)) {M : mw_M} (h : linv M) {y way wq : Nat} (hy : y < 10000000) {d : Nat} (hd : d < 2) (ed : y % 2 = d)  : vx p l e ({ frames := 8, cells := 3, slots := 10, locals := 195 } : Room) s m args below meth c G A 1 3 (mx_E below args s G A (xI_P (fun r M2 X2 => r = 1 ∧ linv M2 ∧ X2 = X)) 3 10) M (X ++ [xL G wq 3 (fun _ => 0)]) 497 [some (.ref (G.1 144)), some (.ref (G.1 145)), some (.ref (G.1 146)), some (.ref (G.1 147)), some (.ref (G.1 148)), some (.ref (G.1 149)), none, some (.int (nI y)), some (.int (nI way)), some (.ref wq), some (.int (nI d)), none, none, none, none, none] [] := by
  refine vx_aload_n C 1 dL_acts_497 rfl rfl ?_
  refine vx_bipush (v := 9) C dL_acts_498 (by decide) ?_
  refine vx_iload C 7 dL_acts_500 rfl ?_
  refine vx_sipush (v := 256) C dL_acts_502 (by decide) ?_
  refine vx_irem C dL_acts_505 (by decide) ?_
  refine vx_top (y := nI (y % 256)) (pk_rem (a := y) (d := 256) (by omega) (by omega) (by omega)) ?_
  refine vx_ast (j := 9) (q := 1109) C sh_145 rfl (by decide) rfl dL_acts_506 ?_
  refine vx_aload_n C 1 dL_acts_507 rfl rfl ?_
  refine vx_aload_n C 2 dL_acts_508 rfl rfl ?_
  refine vx_aload_n C 3 dL_acts_509 rfl rfl ?_
  refine vx_aload C 4 dL_acts_510 rfl ?_
  refine vx_aload C 5 dL_acts_512 rfl ?_
  refine vx_aload C 9 dL_acts_514 rfl ?_
  have hc := L_show h (x := y % 256) (by omega) (M1 := upd M 1109 (nI (y % 256))) rfl
  refine vx_callXIP C [.ref (G.1 145), .ref (G.1 146), .ref (G.1 147), .ref (G.1 148), .ref (G.1 149), .ref wq] (c_L_many (upd M 1109 (nI (y % 256))) (upd (kpS (upd M 1109 (nI (y % 256)))) 129 (nI (y % 256))) hc.2.2.1 hc.2.1.1 (X := X ++ [xL G wq 3 (fun _ => 0)]) xa_at) (cwS 6 C.1.2.2.2.2 gL_acts_L_many rfl rfl rfl (by decide +kernel) ⟨Nat.le_of_ble_eq_true rfl, Nat.le_of_ble_eq_true rfl⟩) rfl rfl rfl (Nat.le_of_ble_eq_true rfl) dL_acts_516 ⟨Nat.le_of_ble_eq_true rfl, Nat.le_of_ble_eq_true rfl⟩ (fun x_1 M_2 X_3 h_4 => ?_)
  obtain ⟨e_m, e_M, W, hW, e_X⟩ := h_4
  obtain ⟨nn, hnn⟩ : ∃ nn, (lstS (upd (kpS (upd M 1109 (nI (y % 256)))) 129 (nI (y % 256))) 8).length = nn := ⟨_, rfl⟩
  have h144 : nn ≤ 144 := by rw [← hnn]; exact lstS_len hc.2.1.1.wfR
  refine vx_top (y := nI nn) (e_m.trans (congrArg nI hnn)) ?_
  refine vx_mem (M2 := upd M 1109 (nI (y % 256))) e_M ?_
  refine vx_X (X2 := X ++ [xL G wq 3 W]) (e_X.trans xa_set) ?_
  refine vx_istore (ls2 := [some (.ref (G.1 144)), some (.ref (G.1 145)), some (.ref (G.1 146)), some (.ref (G.1 147)), some (.ref (G.1 148)), some (.ref (G.1 149)), none, some (.int (nI y)), some (.int (nI way)), some (.ref wq), some (.int (nI d)), some (.int (nI nn)), none, none, none, none]) C 11 dL_acts_519 (Nat.le_of_ble_eq_true rfl) rfl ?_
  refine vx_iload C 11 dL_acts_521 rfl ?_
  refine vx_nif_lt C nn 548 dL_acts_523 (by decide) (by omega) (fun h_5 => h_5.elim) (fun h_6 => ?_)
  refine vx_aload_n C 0 dL_acts_526 rfl rfl ?_
  refine vx_aload_n C 1 dL_acts_527 rfl rfl ?_
  refine vx_bipush (v := 9) C dL_acts_528 (by decide) ?_
  refine vx_ald (j := 9) (q := 1109) C sh_145 rfl (by decide) rfl dL_acts_530 ?_
  refine vx_top (y := nI (y % 256)) (upd_s) ?_
  refine vx_callVIP C [.int (nI (y % 256))] (c_X8_show (upd M 1109 (nI (y % 256))) (hc.1.inv h.1.1).1 (hc.1.inv h.1.1).2.1 (hc.1.inv h.1.1).2.2.1 (nI (y % 256))) sh_144 rfl (cwV 1 C.1.2.2.2.2 gL_acts_X8_show rfl rfl rfl (by decide +kernel) ⟨Nat.le_of_ble_eq_true rfl, Nat.le_of_ble_eq_true rfl⟩) rfl rfl rfl (Nat.le_of_ble_eq_true rfl) dL_acts_531 ⟨Nat.le_of_ble_eq_true rfl, Nat.le_of_ble_eq_true rfl⟩ (fun x_7 M_8 h_9 => ?_)
  obtain ⟨h_x, h_cl⟩ := h_9
  have hr3 := show_rel rfl hc.2.2.1 hc.2.2.2.2.1 h_cl
  refine vx_top (y := unlI (upd (kpS (upd M 1109 (nI (y % 256)))) 129 (nI (y % 256)))) (h_x.trans hc.2.2.2.1) ?_
  refine vx_aload_n C 1 dL_acts_534 rfl rfl ?_
  refine vx_aload_n C 2 dL_acts_535 rfl rfl ?_
  refine vx_aload C 9 dL_acts_536 rfl ?_
  refine vx_callXIP C [.ref (G.1 145), .ref (G.1 146), .ref wq] (c_L_unlike M_8 (upd (kpS (upd M 1109 (nI (y % 256)))) 129 (nI (y % 256))) hr3 hc.2.1.1 (X := X ++ [xL G wq 3 W]) xa_at hW) (cwS 3 C.1.2.2.2.2 gL_acts_L_unlike rfl rfl rfl (by decide +kernel) ⟨Nat.le_of_ble_eq_true rfl, Nat.le_of_ble_eq_true rfl⟩) rfl rfl rfl (Nat.le_of_ble_eq_true rfl) dL_acts_538 ⟨Nat.le_of_ble_eq_true rfl, Nat.le_of_ble_eq_true rfl⟩ (fun x_10 M_11 X_12 h_13 => ?_)
  obtain ⟨e_u, e_M2, e_X2⟩ := h_13
  refine vx_top (y := unlI (upd (kpS (upd M 1109 (nI (y % 256)))) 129 (nI (y % 256)))) e_u ?_
  refine vx_mem (M2 := M_8) e_M2 ?_
  refine vx_X (X2 := X ++ [xL G wq 3 W]) e_X2 ?_
  refine vx_icmp_ne C 548 dL_acts_541 (by decide) (fun h_14 => absurd rfl h_14) (fun h_15 => ?_)
  refine vx_iconst (v := 1) C dL_acts_544 (by decide) ?_
  refine vx_goto C 549 dL_acts_545 (by decide) ?_
  refine vx_drop (X2 := X) (Y := [xL G wq 3 W]) rfl ?_
  exact vx_zret C hR (by decide) (by decide) (by decide) dL_acts_549 ⟨_, rfl, rfl, hc.2.2.2.2.2 _ h_cl, rfl⟩
set_option maxRecDepth 100000 in
set_option maxHeartbeats 4000000 in
theorem c_L_acts {l : Launch} {G : mw_GG} {M : mw_M} (h : linv M) (X : va_W) (z : Int32) : mx_Met l yL_acts wsL_acts ({ frames := 8, cells := 3, slots := 10, locals := 195 } : Room) G [.ref (G.1 144), .ref (G.1 145), .ref (G.1 146), .ref (G.1 147), .ref (G.1 148), .ref (G.1 149), .int z] M X (xI_P (fun r M2 X2 => r = 1 ∧ linv M2 ∧ X2 = X)) 3 10 := by
  refine mx_ofV (cc := cL_acts) 16 (by decide) rfl rfl (Nat.le_of_ble_eq_true rfl) ?_
  intro p e s m args below meth c A C hR
  refine vx_loc (ls2 := [some (.ref (G.1 144)), some (.ref (G.1 145)), some (.ref (G.1 146)), some (.ref (G.1 147)), some (.ref (G.1 148)), some (.ref (G.1 149)), some (.int z), none, none, none, none, none, none, none, none, none]) rfl ?_
  refine vx_iload C 6 dL_acts_0 rfl ?_
  refine vx_iconst (v := 5) C dL_acts_2 (by decide) ?_
  refine vx_ishr C dL_acts_3 ?_
  refine vx_ldc (v := 10000000) C (List.mem_of_getElem? (i := 1) rfl) dL_acts_4 ?_
  refine vx_callSIP C [.int (z >>> (5 &&& 31)), .int 10000000] (c_L_low M (z >>> (5 &&& 31)) (n := 10000000) (by omega) (by omega)) (cwS 2 C.1.2.2.2.2 gL_acts_L_low rfl rfl rfl (by decide +kernel) ⟨Nat.le_of_ble_eq_true rfl, Nat.le_of_ble_eq_true rfl⟩) rfl rfl rfl (Nat.le_of_ble_eq_true rfl) dL_acts_6 ⟨Nat.le_of_ble_eq_true rfl, Nat.le_of_ble_eq_true rfl⟩ (fun x_1 M_2 h_3 => ?_)
  obtain ⟨e_y, y, h_y, r_y⟩ := h_3
  refine vx_mem (M2 := M) e_y ?_
  refine vx_top (y := nI y) r_y ?_
  refine vx_istore (ls2 := [some (.ref (G.1 144)), some (.ref (G.1 145)), some (.ref (G.1 146)), some (.ref (G.1 147)), some (.ref (G.1 148)), some (.ref (G.1 149)), some (.int z), some (.int (nI y)), none, none, none, none, none, none, none, none]) C 7 dL_acts_9 (Nat.le_of_ble_eq_true rfl) rfl ?_
  refine vx_iload C 6 dL_acts_11 rfl ?_
  refine vx_bipush (v := 32) C dL_acts_13 (by decide) ?_
  refine vx_callSIP C [.int z, .int 32] (c_L_low M z (n := 32) (by omega) (by omega)) (cwS 2 C.1.2.2.2.2 gL_acts_L_low rfl rfl rfl (by decide +kernel) ⟨Nat.le_of_ble_eq_true rfl, Nat.le_of_ble_eq_true rfl⟩) rfl rfl rfl (Nat.le_of_ble_eq_true rfl) dL_acts_15 ⟨Nat.le_of_ble_eq_true rfl, Nat.le_of_ble_eq_true rfl⟩ (fun x_5 M_6 h_7 => ?_)
  obtain ⟨e_way, way, h_way, r_way⟩ := h_7
  refine vx_mem (M2 := M) e_way ?_
  refine vx_top (y := nI way) r_way ?_
  refine vx_istore (ls2 := [some (.ref (G.1 144)), some (.ref (G.1 145)), some (.ref (G.1 146)), some (.ref (G.1 147)), some (.ref (G.1 148)), some (.ref (G.1 149)), some (.int z), some (.int (nI y)), some (.int (nI way)), none, none, none, none, none, none, none]) C 8 dL_acts_18 (Nat.le_of_ble_eq_true rfl) rfl ?_
  refine vx_iconst (v := 3) C dL_acts_20 (by decide) ?_
  refine vx_newL (N := 3) C (List.mem_of_getElem? (i := 2) rfl) rfl (by decide) (Nat.le_of_ble_eq_true rfl) (Nat.le_of_ble_eq_true rfl) dL_acts_21 (fun wq => ?_)
  refine vx_astore (ls2 := [some (.ref (G.1 144)), some (.ref (G.1 145)), some (.ref (G.1 146)), some (.ref (G.1 147)), some (.ref (G.1 148)), some (.ref (G.1 149)), some (.int z), some (.int (nI y)), some (.int (nI way)), some (.ref wq), none, none, none, none, none, none]) C 9 dL_acts_23 (Nat.le_of_ble_eq_true rfl) rfl ?_
  refine vx_iload C 8 dL_acts_25 rfl ?_
  refine vx_bipush (v := 13) C dL_acts_27 (by decide) ?_
  refine vx_ncmp_ge C way 13 91 dL_acts_29 (by decide) (by omega) (by decide) (fun h_ge13 => ?_) (fun h_13 => ?_)
  · refine vx_iload C 8 dL_acts_91 rfl ?_
    refine vx_bipush (v := 16) C dL_acts_93 (by decide) ?_
    refine vx_ncmp_ge C way 16 112 dL_acts_95 (by decide) (by omega) (by decide) (fun h_11 => ?_) (fun h_12 => ?_)
    · refine vx_iload C 7 dL_acts_112 rfl ?_
      refine vx_iconst (v := 2) C dL_acts_114 (by decide) ?_
      obtain ⟨d, hd, ed⟩ : ∃ d, d < 2 ∧ y % 2 = d := ⟨_, Nat.mod_lt _ (by decide), rfl⟩
      refine vx_irem C dL_acts_115 (by decide) ?_
      refine vx_top (y := nI d) ((pk_rem (d := 2) (by omega) (by omega) (by omega)).trans (congrArg nI ed)) ?_
      refine vx_istore (ls2 := [some (.ref (G.1 144)), some (.ref (G.1 145)), some (.ref (G.1 146)), some (.ref (G.1 147)), some (.ref (G.1 148)), some (.ref (G.1 149)), some (.int z), some (.int (nI y)), some (.int (nI way)), some (.ref wq), some (.int (nI d)), none, none, none, none, none]) C 10 dL_acts_116 (Nat.le_of_ble_eq_true rfl) rfl ?_
      refine vx_iload C 8 dL_acts_118 rfl ?_
      refine vx_bipush (v := 25) C dL_acts_120 (by decide) ?_
      refine vx_ncmp_ge C way 25 278 dL_acts_122 (by decide) (by omega) (by decide) (fun h_13 => ?_) (fun h_14 => ?_)
      · refine vx_iload C 8 dL_acts_278 rfl ?_
        refine vx_bipush (v := 25) C dL_acts_280 (by decide) ?_
        refine vx_ncmp_ne C way 25 362 dL_acts_282 (by decide) (by omega) (by decide) (fun h_15 => ?_) (fun h_16 => ?_)
        · refine vx_iload C 8 dL_acts_362 rfl ?_
          refine vx_bipush (v := 28) C dL_acts_364 (by decide) ?_
          refine vx_ncmp_ge C way 28 407 dL_acts_366 (by decide) (by omega) (by decide) (fun h_17 => ?_) (fun h_18 => ?_)
          · refine vx_iload C 8 dL_acts_407 rfl ?_
            refine vx_bipush (v := 31) C dL_acts_409 (by decide) ?_
            refine vx_ncmp_ge C way 31 497 dL_acts_411 (by decide) (by omega) (by decide) (fun h_19 => ?_) (fun h_20 => ?_)
            · refine vx_keep (ls2 := [some (.ref (G.1 144)), some (.ref (G.1 145)), some (.ref (G.1 146)), some (.ref (G.1 147)), some (.ref (G.1 148)), some (.ref (G.1 149)), none, some (.int (nI y)), some (.int (nI way)), some (.ref wq), some (.int (nI d)), none, none, none, none, none]) ⟨rfl, rfl, rfl, rfl, rfl, rfl, rfl, rfl, rfl, rfl, trivial⟩ ?_
              exact lp_acts_s C hR h h_y hd ed
            · refine vx_keep (ls2 := [some (.ref (G.1 144)), some (.ref (G.1 145)), some (.ref (G.1 146)), some (.ref (G.1 147)), some (.ref (G.1 148)), some (.ref (G.1 149)), none, some (.int (nI y)), some (.int (nI way)), some (.ref wq), some (.int (nI d)), none, none, none, none, none]) ⟨rfl, rfl, rfl, rfl, rfl, rfl, rfl, rfl, rfl, rfl, trivial⟩ ?_
              exact lp_acts_o C hR h h_y hd ed
          · refine vx_keep (ls2 := [some (.ref (G.1 144)), some (.ref (G.1 145)), some (.ref (G.1 146)), some (.ref (G.1 147)), some (.ref (G.1 148)), some (.ref (G.1 149)), none, some (.int (nI y)), some (.int (nI way)), some (.ref wq), some (.int (nI d)), none, none, none, none, none]) ⟨rfl, rfl, rfl, rfl, rfl, rfl, rfl, rfl, rfl, rfl, trivial⟩ ?_
            exact lp_acts_b C hR h h_y hd ed
        · refine vx_keep (ls2 := [some (.ref (G.1 144)), some (.ref (G.1 145)), some (.ref (G.1 146)), some (.ref (G.1 147)), some (.ref (G.1 148)), some (.ref (G.1 149)), none, some (.int (nI y)), some (.int (nI way)), some (.ref wq), some (.int (nI d)), none, none, none, none, none]) ⟨rfl, rfl, rfl, rfl, rfl, rfl, rfl, rfl, rfl, rfl, trivial⟩ ?_
          exact lp_acts_e C hR h h_y hd ed
      · refine vx_keep (ls2 := [some (.ref (G.1 144)), some (.ref (G.1 145)), some (.ref (G.1 146)), some (.ref (G.1 147)), some (.ref (G.1 148)), some (.ref (G.1 149)), none, some (.int (nI y)), some (.int (nI way)), some (.ref wq), some (.int (nI d)), none, none, none, none, none]) ⟨rfl, rfl, rfl, rfl, rfl, rfl, rfl, rfl, rfl, rfl, trivial⟩ ?_
        exact lp_acts_c C hR h h_y hd ed
    · refine vx_keep (ls2 := [some (.ref (G.1 144)), some (.ref (G.1 145)), some (.ref (G.1 146)), some (.ref (G.1 147)), some (.ref (G.1 148)), some (.ref (G.1 149)), none, some (.int (nI y)), some (.int (nI way)), some (.ref wq), none, none, none, none, none, none]) ⟨rfl, rfl, rfl, rfl, rfl, rfl, rfl, rfl, rfl, trivial⟩ ?_
      exact lp_acts_r C hR h h_y
  · refine vx_keep (ls2 := [some (.ref (G.1 144)), some (.ref (G.1 145)), some (.ref (G.1 146)), some (.ref (G.1 147)), some (.ref (G.1 148)), some (.ref (G.1 149)), none, some (.int (nI y)), some (.int (nI way)), some (.ref wq), none, none, none, none, none, none]) ⟨rfl, rfl, rfl, rfl, rfl, rfl, rfl, rfl, rfl, trivial⟩ ?_
    exact lp_acts_d C hR h h_y h_13
