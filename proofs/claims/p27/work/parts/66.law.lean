set_option maxRecDepth 100000 in
set_option maxHeartbeats 4000000 in
theorem lp_law0 {p : Program} {l : Launch} {e : Env} {s : State} {m : MethodId} {args : Array Value} {below : List Frame} {meth : Method} {c : Code} {G : mw_GG} {A : Nat → Prop} {Q : State → Prop} (C : vx_C p s m args c G A cL_law 10 wsL_law RL) {b : Nat} (hk : ∀ M, linv M → vx p l e room_1 s m args below meth c G A 150 1226 Q M ([] : va_W) 77 [some (.ref b), some (.ref (G.1 144)), some (.ref (G.1 145)), some (.ref (G.1 146)), some (.ref (G.1 147)), some (.ref (G.1 148)), some (.ref (G.1 149)), some (.int 1), some (.int 0), none] []) : vx p l e room_1 s m args below meth c G A 150 1226 Q MS0 ([] : va_W) 36 [some (.ref b), some (.ref (G.1 144)), some (.ref (G.1 145)), some (.ref (G.1 146)), some (.ref (G.1 147)), some (.ref (G.1 148)), some (.ref (G.1 149)), none, none, none] [] := by
  refine vx_aload_n C 2 dL_law_36 rfl rfl ?_
  refine vx_iconst (v := 0) C dL_law_37 (by decide) ?_
  refine vx_iconst (v := 3) C dL_law_38 (by decide) ?_
  refine vx_ast (j := 0) (q := 1100) C sh_145 rfl (by decide) rfl dL_law_39 ?_
  refine vx_aload_n C 2 dL_law_40 rfl rfl ?_
  refine vx_iconst (v := 1) C dL_law_41 (by decide) ?_
  refine vx_iconst (v := 3) C dL_law_42 (by decide) ?_
  refine vx_ast (j := 1) (q := 1101) C sh_145 rfl (by decide) rfl dL_law_43 ?_
  refine vx_aload_n C 2 dL_law_44 rfl rfl ?_
  refine vx_iconst (v := 5) C dL_law_45 (by decide) ?_
  refine vx_iconst (v := (-1)) C dL_law_46 (by decide) ?_
  refine vx_ast (j := 5) (q := 1105) C sh_145 rfl (by decide) rfl dL_law_47 ?_
  refine vx_aload_n C 2 dL_law_48 rfl rfl ?_
  refine vx_bipush (v := 7) C dL_law_49 (by decide) ?_
  refine vx_iconst (v := (-1)) C dL_law_51 (by decide) ?_
  refine vx_ast (j := 7) (q := 1107) C sh_145 rfl (by decide) rfl dL_law_52 ?_
  refine vx_aload_n C 2 dL_law_53 rfl rfl ?_
  refine vx_bipush (v := 9) C dL_law_54 (by decide) ?_
  refine vx_sipush (v := 255) C dL_law_56 (by decide) ?_
  refine vx_ast (j := 9) (q := 1109) C sh_145 rfl (by decide) rfl dL_law_59 ?_
  refine vx_aload_n C 1 dL_law_60 rfl rfl ?_
  refine vx_mem (M2 := MS1) rfl ?_
  refine vx_callVIP C [] (c_X8_many MS1 lin_S1.1.1.1 lin_S1.1.1.2.1 lin_S1.1.1.2.2.1 ) sh_144 rfl (cwV 0 C.1.2.2.2.2 gL_law_X8_many rfl rfl rfl (by decide +kernel) ⟨Nat.le_of_ble_eq_true rfl, Nat.le_of_ble_eq_true rfl⟩) rfl rfl rfl (Nat.le_of_ble_eq_true rfl) dL_law_61 ⟨(Nat.le_trans (m := 4000) (by omega) (Nat.le_of_ble_eq_true rfl)), (Nat.le_trans (m := 4000) (by omega) (Nat.le_of_ble_eq_true rfl))⟩ (fun x_1 M_2 h_3 => ?_)
  have cl := cl_rd clO.rf rfl h_3.2
  refine vx_top (y := 0) (h_3.1.trans many_S1) ?_
  refine vx_nif_ne C 0 71 dL_law_64 (by decide) (by decide) (fun h_4 => absurd h_4 (by decide)) (fun h_5 => ?_)
  refine vx_iconst (v := 1) C dL_law_67 (by decide) ?_
  refine vx_goto C 72 dL_law_68 (by decide) ?_
  refine vx_istore (ls2 := [some (.ref b), some (.ref (G.1 144)), some (.ref (G.1 145)), some (.ref (G.1 146)), some (.ref (G.1 147)), some (.ref (G.1 148)), some (.ref (G.1 149)), some (.int 1), none, none]) C 7 dL_law_72 (Nat.le_of_ble_eq_true rfl) rfl ?_
  refine vx_iconst (v := 0) C dL_law_74 (by decide) ?_
  refine vx_istore (ls2 := [some (.ref b), some (.ref (G.1 144)), some (.ref (G.1 145)), some (.ref (G.1 146)), some (.ref (G.1 147)), some (.ref (G.1 148)), some (.ref (G.1 149)), some (.int 1), some (.int 0), none]) C 8 dL_law_75 (Nat.le_of_ble_eq_true rfl) rfl ?_
  refine vx_loc (ls2 := [some (.ref b), some (.ref (G.1 144)), some (.ref (G.1 145)), some (.ref (G.1 146)), some (.ref (G.1 147)), some (.ref (G.1 148)), some (.ref (G.1 149)), some (.int 1), some (.int 0), none]) rfl ?_
  exact hk _ (lsame1 lin_S1 cl)
set_option maxRecDepth 100000 in
set_option maxHeartbeats 4000000 in
theorem lp_law1 {p : Program} {l : Launch} {e : Env} {s : State} {m : MethodId} {args : Array Value} {below : List Frame} {meth : Method} {c : Code} {G : mw_GG} {A : Nat → Prop} {Q : State → Prop} (C : vx_C p s m args c G A cL_law 10 wsL_law RL) {b L : Nat} {xs : Nat → Int32} (hX : va_X b L xs s s.heap) (hbl : b < s.heap.size) (hbA : ¬ A b) (hL : L ≤ 260) (hk : ∀ M, linv M → vx p l e room_1 s m args below meth c G A 174 1306 Q M ([] : va_W) 154 [some (.ref b), some (.ref (G.1 144)), some (.ref (G.1 145)), some (.ref (G.1 146)), some (.ref (G.1 147)), some (.ref (G.1 148)), some (.ref (G.1 149)), some (.int 1), none, none] []) : ∀ (n i : Nat) (M : mw_M), 9 ≤ i + n → i ≤ 8 → linv M → vx p l e room_1 s m args below meth c G A (150 + 3 * i) (1226 + 10 * i) Q M ([] : va_W) 77 [some (.ref b), some (.ref (G.1 144)), some (.ref (G.1 145)), some (.ref (G.1 146)), some (.ref (G.1 147)), some (.ref (G.1 148)), some (.ref (G.1 149)), some (.int 1), some (.int (nI i)), none] [] := by
  intro n
  induction n with
  | zero => intro i M h1 h2 _; omega
  | succ n ih =>
    intro i M h1 h2 h
    refine vx_iload C 8 dL_law_77 rfl ?_
    refine vx_bipush (v := 8) C dL_law_79 (by decide) ?_
    refine vx_ncmp_ge C i 8 154 dL_law_81 (by decide) (by omega) (by decide) (fun h_ge => ?_) (fun h_lt => ?_)
    · refine vx_keep (ls2 := [some (.ref b), some (.ref (G.1 144)), some (.ref (G.1 145)), some (.ref (G.1 146)), some (.ref (G.1 147)), some (.ref (G.1 148)), some (.ref (G.1 149)), some (.int 1), none, none]) ⟨rfl, rfl, rfl, rfl, rfl, rfl, rfl, rfl, trivial⟩ ?_
      exact vx_widen (by omega) (by omega) (hk _ h)
    · refine vx_iload C 7 dL_law_84 rfl ?_
      refine vx_nif_eq C 1 154 dL_law_86 (by decide) (by decide) (fun h_3 => absurd h_3 (by decide)) (fun h_4 => ?_)
      refine vx_aload_n C 1 dL_law_89 rfl rfl ?_
      refine vx_aload_n C 2 dL_law_90 rfl rfl ?_
      refine vx_aload_n C 3 dL_law_91 rfl rfl ?_
      refine vx_aload C 4 dL_law_92 rfl ?_
      refine vx_aload C 5 dL_law_94 rfl ?_
      refine vx_aload C 6 dL_law_96 rfl ?_
      refine vx_aload_n C 0 dL_law_98 rfl rfl ?_
      refine vx_iconst (v := 1) C dL_law_99 (by decide) ?_
      refine vx_iload C 8 dL_law_100 rfl ?_
      refine vx_iadd C dL_law_102 ?_
      refine vx_top (y := nI (1 + i)) (nI_add 1 i) ?_
      refine vx_cell C hX hbl hbA (k := 1 + i) (by omega) (Nat.le_trans hL (Nat.le_of_ble_eq_true rfl)) (cwS 2 C.1.2.2.2.2 gL_law_L_cell rfl rfl rfl (by decide +kernel) ⟨Nat.le_of_ble_eq_true rfl, Nat.le_of_ble_eq_true rfl⟩) rfl rfl (Nat.le_of_ble_eq_true rfl) dL_law_103 ⟨(Nat.le_trans (m := 4000) (by omega) (Nat.le_of_ble_eq_true rfl)), (Nat.le_trans (m := 4000) (by omega) (Nat.le_of_ble_eq_true rfl))⟩ (fun x_5 => ?_)
      refine vx_ldc (v := 2147483647) C (List.mem_of_getElem? (i := 4) rfl) dL_law_106 ?_
      refine vx_iand C dL_law_108 ?_
      refine vx_sipush (v := 1024) C dL_law_109 (by decide) ?_
      refine vx_idiv C dL_law_112 (by decide) ?_
      refine vx_sipush (v := 1024) C dL_law_113 (by decide) ?_
      refine vx_imul C dL_law_116 ?_
      refine vx_iload C 8 dL_law_117 rfl ?_
      refine vx_bipush (v := 6) C dL_law_119 (by decide) ?_
      refine vx_ncmp_ge C i 6 128 dL_law_121 (by decide) (by omega) (by decide) (fun h_6 => ?_) (fun h_n6 => ?_)
      · refine vx_iload C 8 dL_law_128 rfl ?_
        refine vx_bipush (v := 6) C dL_law_130 (by decide) ?_
        refine vx_ncmp_ne C i 6 140 dL_law_132 (by decide) (by omega) (by decide) (fun h_7 => ?_) (fun h_n7 => ?_)
        · refine vx_bipush (v := 20) C dL_law_140 (by decide) ?_
          refine vx_iadd C dL_law_142 ?_
          refine vx_callXIP C [.ref (G.1 144), .ref (G.1 145), .ref (G.1 146), .ref (G.1 147), .ref (G.1 148), .ref (G.1 149), .int ((((x_5 &&& 2147483647) / 1024) * 1024) + 20)] (c_L_acts h ([] : va_W) ((((x_5 &&& 2147483647) / 1024) * 1024) + 20)) (cwS 7 C.1.2.2.2.2 gL_law_L_acts rfl rfl rfl (by decide +kernel) ⟨Nat.le_of_ble_eq_true rfl, Nat.le_of_ble_eq_true rfl⟩) rfl rfl rfl (Nat.le_of_ble_eq_true rfl) dL_law_143 ⟨(Nat.le_trans (m := 4000) (by omega) (Nat.le_of_ble_eq_true rfl)), (Nat.le_trans (m := 4000) (by omega) (Nat.le_of_ble_eq_true rfl))⟩ (fun x_10 M_11 X_12 h_13 => ?_)
          obtain ⟨er_1, hl_1, eX_1⟩ := h_13
          refine vx_top (y := 1) er_1 ?_
          refine vx_X (X2 := ([] : va_W)) eX_1 ?_
          refine vx_istore (ls2 := [some (.ref b), some (.ref (G.1 144)), some (.ref (G.1 145)), some (.ref (G.1 146)), some (.ref (G.1 147)), some (.ref (G.1 148)), some (.ref (G.1 149)), some (.int 1), some (.int (nI i)), none]) C 7 dL_law_146 (Nat.le_of_ble_eq_true rfl) rfl ?_
          refine vx_iinc (v := nI (i + 1)) (ls2 := [some (.ref b), some (.ref (G.1 144)), some (.ref (G.1 145)), some (.ref (G.1 146)), some (.ref (G.1 147)), some (.ref (G.1 148)), some (.ref (G.1 149)), some (.int 1), some (.int (nI (i + 1))), none]) C 8 dL_law_148 rfl (nI_add i 1) rfl ?_
          refine vx_goto C 77 dL_law_151 (by decide) ?_
          exact vx_widen (by omega) (by omega) (ih (i + 1) _ (by omega) (by omega) hl_1)
        · refine vx_bipush (v := 26) C dL_law_135 (by decide) ?_
          refine vx_goto C 142 dL_law_137 (by decide) ?_
          refine vx_iadd C dL_law_142 ?_
          refine vx_callXIP C [.ref (G.1 144), .ref (G.1 145), .ref (G.1 146), .ref (G.1 147), .ref (G.1 148), .ref (G.1 149), .int ((((x_5 &&& 2147483647) / 1024) * 1024) + 26)] (c_L_acts h ([] : va_W) ((((x_5 &&& 2147483647) / 1024) * 1024) + 26)) (cwS 7 C.1.2.2.2.2 gL_law_L_acts rfl rfl rfl (by decide +kernel) ⟨Nat.le_of_ble_eq_true rfl, Nat.le_of_ble_eq_true rfl⟩) rfl rfl rfl (Nat.le_of_ble_eq_true rfl) dL_law_143 ⟨(Nat.le_trans (m := 4000) (by omega) (Nat.le_of_ble_eq_true rfl)), (Nat.le_trans (m := 4000) (by omega) (Nat.le_of_ble_eq_true rfl))⟩ (fun x_14 M_15 X_16 h_17 => ?_)
          obtain ⟨er_2, hl_2, eX_2⟩ := h_17
          refine vx_top (y := 1) er_2 ?_
          refine vx_X (X2 := ([] : va_W)) eX_2 ?_
          refine vx_istore (ls2 := [some (.ref b), some (.ref (G.1 144)), some (.ref (G.1 145)), some (.ref (G.1 146)), some (.ref (G.1 147)), some (.ref (G.1 148)), some (.ref (G.1 149)), some (.int 1), some (.int (nI i)), none]) C 7 dL_law_146 (Nat.le_of_ble_eq_true rfl) rfl ?_
          refine vx_iinc (v := nI (i + 1)) (ls2 := [some (.ref b), some (.ref (G.1 144)), some (.ref (G.1 145)), some (.ref (G.1 146)), some (.ref (G.1 147)), some (.ref (G.1 148)), some (.ref (G.1 149)), some (.int 1), some (.int (nI (i + 1))), none]) C 8 dL_law_148 rfl (nI_add i 1) rfl ?_
          refine vx_goto C 77 dL_law_151 (by decide) ?_
          exact vx_widen (by omega) (by omega) (ih (i + 1) _ (by omega) (by omega) hl_2)
      · refine vx_iconst (v := 0) C dL_law_124 (by decide) ?_
        refine vx_goto C 142 dL_law_125 (by decide) ?_
        refine vx_iadd C dL_law_142 ?_
        refine vx_callXIP C [.ref (G.1 144), .ref (G.1 145), .ref (G.1 146), .ref (G.1 147), .ref (G.1 148), .ref (G.1 149), .int ((((x_5 &&& 2147483647) / 1024) * 1024) + 0)] (c_L_acts h ([] : va_W) ((((x_5 &&& 2147483647) / 1024) * 1024) + 0)) (cwS 7 C.1.2.2.2.2 gL_law_L_acts rfl rfl rfl (by decide +kernel) ⟨Nat.le_of_ble_eq_true rfl, Nat.le_of_ble_eq_true rfl⟩) rfl rfl rfl (Nat.le_of_ble_eq_true rfl) dL_law_143 ⟨(Nat.le_trans (m := 4000) (by omega) (Nat.le_of_ble_eq_true rfl)), (Nat.le_trans (m := 4000) (by omega) (Nat.le_of_ble_eq_true rfl))⟩ (fun x_18 M_19 X_20 h_21 => ?_)
        obtain ⟨er_3, hl_3, eX_3⟩ := h_21
        refine vx_top (y := 1) er_3 ?_
        refine vx_X (X2 := ([] : va_W)) eX_3 ?_
        refine vx_istore (ls2 := [some (.ref b), some (.ref (G.1 144)), some (.ref (G.1 145)), some (.ref (G.1 146)), some (.ref (G.1 147)), some (.ref (G.1 148)), some (.ref (G.1 149)), some (.int 1), some (.int (nI i)), none]) C 7 dL_law_146 (Nat.le_of_ble_eq_true rfl) rfl ?_
        refine vx_iinc (v := nI (i + 1)) (ls2 := [some (.ref b), some (.ref (G.1 144)), some (.ref (G.1 145)), some (.ref (G.1 146)), some (.ref (G.1 147)), some (.ref (G.1 148)), some (.ref (G.1 149)), some (.int 1), some (.int (nI (i + 1))), none]) C 8 dL_law_148 rfl (nI_add i 1) rfl ?_
        refine vx_goto C 77 dL_law_151 (by decide) ?_
        exact vx_widen (by omega) (by omega) (ih (i + 1) _ (by omega) (by omega) hl_3)
set_option maxRecDepth 100000 in
set_option maxHeartbeats 4000000 in
theorem lp_law2 {p : Program} {l : Launch} {e : Env} {s : State} {m : MethodId} {args : Array Value} {below : List Frame} {meth : Method} {c : Code} {G : mw_GG} {A : Nat → Prop} {Q : State → Prop} (C : vx_C p s m args c G A cL_law 10 wsL_law RL) {b L : Nat} {xs : Nat → Int32} (hX : va_X b L xs s s.heap) (hbl : b < s.heap.size) (hbA : ¬ A b) (hL : L ≤ 260) (hk : ∀ M j, j < 46 → linv M → vx p l e room_1 s m args below meth c G A 177 1317 Q M ([] : va_W) 214 [some (.ref b), some (.ref (G.1 144)), some (.ref (G.1 145)), some (.ref (G.1 146)), some (.ref (G.1 147)), some (.ref (G.1 148)), some (.ref (G.1 149)), some (.int 1), some (.int (nI (12 + j))), some (.int 0)] []) {M : mw_M} (h : linv M)  : vx p l e room_1 s m args below meth c G A 174 1306 Q M ([] : va_W) 154 [some (.ref b), some (.ref (G.1 144)), some (.ref (G.1 145)), some (.ref (G.1 146)), some (.ref (G.1 147)), some (.ref (G.1 148)), some (.ref (G.1 149)), some (.int 1), none, none] [] := by
  refine vx_iload C 7 dL_law_154 rfl ?_
  refine vx_nif_eq C 1 193 dL_law_156 (by decide) (by decide) (fun h_1 => absurd h_1 (by decide)) (fun h_2 => ?_)
  refine vx_aload_n C 1 dL_law_159 rfl rfl ?_
  refine vx_aload_n C 2 dL_law_160 rfl rfl ?_
  refine vx_aload_n C 3 dL_law_161 rfl rfl ?_
  refine vx_aload C 4 dL_law_162 rfl ?_
  refine vx_aload C 5 dL_law_164 rfl ?_
  refine vx_aload C 6 dL_law_166 rfl ?_
  refine vx_callSIP C [.ref (G.1 144), .ref (G.1 145), .ref (G.1 146), .ref (G.1 147), .ref (G.1 148), .ref (G.1 149)] (c_L_isSo h) (cwS 6 C.1.2.2.2.2 gL_law_L_isSo rfl rfl rfl (by decide +kernel) ⟨Nat.le_of_ble_eq_true rfl, Nat.le_of_ble_eq_true rfl⟩) rfl rfl rfl (Nat.le_of_ble_eq_true rfl) dL_law_168 ⟨(Nat.le_trans (m := 4000) (by omega) (Nat.le_of_ble_eq_true rfl)), (Nat.le_trans (m := 4000) (by omega) (Nat.le_of_ble_eq_true rfl))⟩ (fun x_3 M_4 h_5 => ?_)
  obtain ⟨er_4, hl_4⟩ := h_5
  refine vx_top (y := 1) er_4 ?_
  refine vx_nif_eq C 1 193 dL_law_171 (by decide) (by decide) (fun h_6 => absurd h_6 (by decide)) (fun h_7 => ?_)
  refine vx_aload_n C 1 dL_law_174 rfl rfl ?_
  refine vx_aload_n C 2 dL_law_175 rfl rfl ?_
  refine vx_aload_n C 3 dL_law_176 rfl rfl ?_
  refine vx_aload C 4 dL_law_177 rfl ?_
  refine vx_aload C 5 dL_law_179 rfl ?_
  refine vx_aload C 6 dL_law_181 rfl ?_
  refine vx_callXIP C [.ref (G.1 144), .ref (G.1 145), .ref (G.1 146), .ref (G.1 147), .ref (G.1 148), .ref (G.1 149)] (c_L_areRows hl_4 ([] : va_W)) (cwS 6 C.1.2.2.2.2 gL_law_L_areRows rfl rfl rfl (by decide +kernel) ⟨Nat.le_of_ble_eq_true rfl, Nat.le_of_ble_eq_true rfl⟩) rfl rfl rfl (Nat.le_of_ble_eq_true rfl) dL_law_183 ⟨(Nat.le_trans (m := 4000) (by omega) (Nat.le_of_ble_eq_true rfl)), (Nat.le_trans (m := 4000) (by omega) (Nat.le_of_ble_eq_true rfl))⟩ (fun x_8 M_9 X_10 h_11 => ?_)
  obtain ⟨er_5, hl_5, eX_5⟩ := h_11
  refine vx_top (y := 1) er_5 ?_
  refine vx_X (X2 := ([] : va_W)) eX_5 ?_
  refine vx_nif_eq C 1 193 dL_law_186 (by decide) (by decide) (fun h_12 => absurd h_12 (by decide)) (fun h_13 => ?_)
  refine vx_iconst (v := 1) C dL_law_189 (by decide) ?_
  refine vx_goto C 194 dL_law_190 (by decide) ?_
  refine vx_istore (ls2 := [some (.ref b), some (.ref (G.1 144)), some (.ref (G.1 145)), some (.ref (G.1 146)), some (.ref (G.1 147)), some (.ref (G.1 148)), some (.ref (G.1 149)), some (.int 1), none, none]) C 7 dL_law_194 (Nat.le_of_ble_eq_true rfl) rfl ?_
  refine vx_bipush (v := 12) C dL_law_196 (by decide) ?_
  refine vx_aload_n C 0 dL_law_198 rfl rfl ?_
  refine vx_iconst (v := 0) C dL_law_199 (by decide) ?_
  refine vx_cell C hX hbl hbA (k := 0) (by omega) (Nat.le_trans hL (Nat.le_of_ble_eq_true rfl)) (cwS 2 C.1.2.2.2.2 gL_law_L_cell rfl rfl rfl (by decide +kernel) ⟨Nat.le_of_ble_eq_true rfl, Nat.le_of_ble_eq_true rfl⟩) rfl rfl (Nat.le_of_ble_eq_true rfl) dL_law_200 ⟨(Nat.le_trans (m := 4000) (by omega) (Nat.le_of_ble_eq_true rfl)), (Nat.le_trans (m := 4000) (by omega) (Nat.le_of_ble_eq_true rfl))⟩ (fun x_14 => ?_)
  refine vx_bipush (v := 46) C dL_law_203 (by decide) ?_
  refine vx_callSIP C [.int x_14, .int 46] (c_L_low M_9 x_14 (n := 46) (by omega) (by omega)) (cwS 2 C.1.2.2.2.2 gL_law_L_low rfl rfl rfl (by decide +kernel) ⟨Nat.le_of_ble_eq_true rfl, Nat.le_of_ble_eq_true rfl⟩) rfl rfl rfl (Nat.le_of_ble_eq_true rfl) dL_law_205 ⟨(Nat.le_trans (m := 4000) (by omega) (Nat.le_of_ble_eq_true rfl)), (Nat.le_trans (m := 4000) (by omega) (Nat.le_of_ble_eq_true rfl))⟩ (fun x_15 M_16 h_17 => ?_)
  obtain ⟨e_j, j, h_j, r_j⟩ := h_17
  refine vx_mem (M2 := M_9) e_j ?_
  refine vx_top (y := nI j) r_j ?_
  refine vx_iadd C dL_law_208 ?_
  refine vx_top (y := nI (12 + j)) (nI_add 12 j) ?_
  refine vx_istore (ls2 := [some (.ref b), some (.ref (G.1 144)), some (.ref (G.1 145)), some (.ref (G.1 146)), some (.ref (G.1 147)), some (.ref (G.1 148)), some (.ref (G.1 149)), some (.int 1), some (.int (nI (12 + j))), none]) C 8 dL_law_209 (Nat.le_of_ble_eq_true rfl) rfl ?_
  refine vx_iconst (v := 0) C dL_law_211 (by decide) ?_
  refine vx_istore (ls2 := [some (.ref b), some (.ref (G.1 144)), some (.ref (G.1 145)), some (.ref (G.1 146)), some (.ref (G.1 147)), some (.ref (G.1 148)), some (.ref (G.1 149)), some (.int 1), some (.int (nI (12 + j))), some (.int 0)]) C 9 dL_law_212 (Nat.le_of_ble_eq_true rfl) rfl ?_
  refine vx_loc (ls2 := [some (.ref b), some (.ref (G.1 144)), some (.ref (G.1 145)), some (.ref (G.1 146)), some (.ref (G.1 147)), some (.ref (G.1 148)), some (.ref (G.1 149)), some (.int 1), some (.int (nI (12 + j))), some (.int 0)]) rfl ?_
  exact hk _ j h_j hl_5
set_option maxRecDepth 100000 in
set_option maxHeartbeats 4000000 in
theorem lp_law3 {p : Program} {l : Launch} {e : Env} {s : State} {m : MethodId} {args : Array Value} {below : List Frame} {meth : Method} {c : Code} {G : mw_GG} {A : Nat → Prop} {Q : State → Prop} (C : vx_C p s m args c G A cL_law 10 wsL_law RL) {b L : Nat} {xs : Nat → Int32} (hX : va_X b L xs s s.heap) (hbl : b < s.heap.size) (hbA : ¬ A b) (hL : L ≤ 260) {tn : Nat} (htn : tn ≤ 57) (hk : ∀ M, linv M → vx p l e room_1 s m args below meth c G A 600 3000 Q M ([] : va_W) 300 [some (.ref b), some (.ref (G.1 144)), some (.ref (G.1 145)), some (.ref (G.1 146)), some (.ref (G.1 147)), some (.ref (G.1 148)), some (.ref (G.1 149)), some (.int 1), none, none] []) : ∀ (n i : Nat) (M : mw_M), tn + 1 ≤ i + n → i ≤ tn → linv M → vx p l e room_1 s m args below meth c G A (177 + 6 * i) (1317 + 21 * i) Q M ([] : va_W) 214 [some (.ref b), some (.ref (G.1 144)), some (.ref (G.1 145)), some (.ref (G.1 146)), some (.ref (G.1 147)), some (.ref (G.1 148)), some (.ref (G.1 149)), some (.int 1), some (.int (nI tn)), some (.int (nI i))] [] := by
  intro n
  induction n with
  | zero => intro i M h1 h2 _; omega
  | succ n ih =>
    intro i M h1 h2 h
    refine vx_iload C 9 dL_law_214 rfl ?_
    refine vx_iload C 8 dL_law_216 rfl ?_
    refine vx_ncmp_ge C i tn 300 dL_law_218 (by decide) (by omega) (by omega) (fun h_ge => ?_) (fun h_lt => ?_)
    · refine vx_keep (ls2 := [some (.ref b), some (.ref (G.1 144)), some (.ref (G.1 145)), some (.ref (G.1 146)), some (.ref (G.1 147)), some (.ref (G.1 148)), some (.ref (G.1 149)), some (.int 1), none, none]) ⟨rfl, rfl, rfl, rfl, rfl, rfl, rfl, rfl, trivial⟩ ?_
      exact vx_widen (by omega) (by omega) (hk _ h)
    · refine vx_iload C 7 dL_law_221 rfl ?_
      refine vx_nif_eq C 1 300 dL_law_223 (by decide) (by decide) (fun h_3 => absurd h_3 (by decide)) (fun h_4 => ?_)
      refine vx_aload_n C 1 dL_law_226 rfl rfl ?_
      refine vx_aload_n C 2 dL_law_227 rfl rfl ?_
      refine vx_aload_n C 3 dL_law_228 rfl rfl ?_
      refine vx_aload C 4 dL_law_229 rfl ?_
      refine vx_aload C 5 dL_law_231 rfl ?_
      refine vx_aload C 6 dL_law_233 rfl ?_
      refine vx_aload_n C 0 dL_law_235 rfl rfl ?_
      refine vx_bipush (v := 9) C dL_law_236 (by decide) ?_
      refine vx_iload C 9 dL_law_238 rfl ?_
      refine vx_iadd C dL_law_240 ?_
      refine vx_top (y := nI (9 + i)) (nI_add 9 i) ?_
      refine vx_cell C hX hbl hbA (k := 9 + i) (by omega) (Nat.le_trans hL (Nat.le_of_ble_eq_true rfl)) (cwS 2 C.1.2.2.2.2 gL_law_L_cell rfl rfl rfl (by decide +kernel) ⟨Nat.le_of_ble_eq_true rfl, Nat.le_of_ble_eq_true rfl⟩) rfl rfl (Nat.le_of_ble_eq_true rfl) dL_law_241 ⟨(Nat.le_trans (m := 4000) (by omega) (Nat.le_of_ble_eq_true rfl)), (Nat.le_trans (m := 4000) (by omega) (Nat.le_of_ble_eq_true rfl))⟩ (fun x_5 => ?_)
      refine vx_sipush (v := 7919) C dL_law_244 (by decide) ?_
      refine vx_iload C 9 dL_law_247 rfl ?_
      refine vx_imul C dL_law_249 ?_
      refine vx_top (y := nI (7919 * i)) (pk_mul 7919 i) ?_
      refine vx_ixor C dL_law_250 ?_
      refine vx_callXIP C [.ref (G.1 144), .ref (G.1 145), .ref (G.1 146), .ref (G.1 147), .ref (G.1 148), .ref (G.1 149), .int (x_5 ^^^ (nI (7919 * i)))] (c_L_acts h ([] : va_W) (x_5 ^^^ (nI (7919 * i)))) (cwS 7 C.1.2.2.2.2 gL_law_L_acts rfl rfl rfl (by decide +kernel) ⟨Nat.le_of_ble_eq_true rfl, Nat.le_of_ble_eq_true rfl⟩) rfl rfl rfl (Nat.le_of_ble_eq_true rfl) dL_law_251 ⟨(Nat.le_trans (m := 4000) (by omega) (Nat.le_of_ble_eq_true rfl)), (Nat.le_trans (m := 4000) (by omega) (Nat.le_of_ble_eq_true rfl))⟩ (fun x_6 M_7 X_8 h_9 => ?_)
      obtain ⟨er_6, hl_6, eX_6⟩ := h_9
      refine vx_top (y := 1) er_6 ?_
      refine vx_X (X2 := ([] : va_W)) eX_6 ?_
      refine vx_nif_eq C 1 291 dL_law_254 (by decide) (by decide) (fun h_10 => absurd h_10 (by decide)) (fun h_11 => ?_)
      refine vx_aload_n C 1 dL_law_257 rfl rfl ?_
      refine vx_aload_n C 2 dL_law_258 rfl rfl ?_
      refine vx_aload_n C 3 dL_law_259 rfl rfl ?_
      refine vx_aload C 4 dL_law_260 rfl ?_
      refine vx_aload C 5 dL_law_262 rfl ?_
      refine vx_aload C 6 dL_law_264 rfl ?_
      refine vx_callSIP C [.ref (G.1 144), .ref (G.1 145), .ref (G.1 146), .ref (G.1 147), .ref (G.1 148), .ref (G.1 149)] (c_L_isSo hl_6) (cwS 6 C.1.2.2.2.2 gL_law_L_isSo rfl rfl rfl (by decide +kernel) ⟨Nat.le_of_ble_eq_true rfl, Nat.le_of_ble_eq_true rfl⟩) rfl rfl rfl (Nat.le_of_ble_eq_true rfl) dL_law_266 ⟨(Nat.le_trans (m := 4000) (by omega) (Nat.le_of_ble_eq_true rfl)), (Nat.le_trans (m := 4000) (by omega) (Nat.le_of_ble_eq_true rfl))⟩ (fun x_12 M_13 h_14 => ?_)
      obtain ⟨er_7, hl_7⟩ := h_14
      refine vx_top (y := 1) er_7 ?_
      refine vx_nif_eq C 1 291 dL_law_269 (by decide) (by decide) (fun h_15 => absurd h_15 (by decide)) (fun h_16 => ?_)
      refine vx_aload_n C 1 dL_law_272 rfl rfl ?_
      refine vx_aload_n C 2 dL_law_273 rfl rfl ?_
      refine vx_aload_n C 3 dL_law_274 rfl rfl ?_
      refine vx_aload C 4 dL_law_275 rfl ?_
      refine vx_aload C 5 dL_law_277 rfl ?_
      refine vx_aload C 6 dL_law_279 rfl ?_
      refine vx_callXIP C [.ref (G.1 144), .ref (G.1 145), .ref (G.1 146), .ref (G.1 147), .ref (G.1 148), .ref (G.1 149)] (c_L_areRows hl_7 ([] : va_W)) (cwS 6 C.1.2.2.2.2 gL_law_L_areRows rfl rfl rfl (by decide +kernel) ⟨Nat.le_of_ble_eq_true rfl, Nat.le_of_ble_eq_true rfl⟩) rfl rfl rfl (Nat.le_of_ble_eq_true rfl) dL_law_281 ⟨(Nat.le_trans (m := 4000) (by omega) (Nat.le_of_ble_eq_true rfl)), (Nat.le_trans (m := 4000) (by omega) (Nat.le_of_ble_eq_true rfl))⟩ (fun x_17 M_18 X_19 h_20 => ?_)
      obtain ⟨er_8, hl_8, eX_8⟩ := h_20
      refine vx_top (y := 1) er_8 ?_
      refine vx_X (X2 := ([] : va_W)) eX_8 ?_
      refine vx_nif_eq C 1 291 dL_law_284 (by decide) (by decide) (fun h_21 => absurd h_21 (by decide)) (fun h_22 => ?_)
      refine vx_iconst (v := 1) C dL_law_287 (by decide) ?_
      refine vx_goto C 292 dL_law_288 (by decide) ?_
      refine vx_istore (ls2 := [some (.ref b), some (.ref (G.1 144)), some (.ref (G.1 145)), some (.ref (G.1 146)), some (.ref (G.1 147)), some (.ref (G.1 148)), some (.ref (G.1 149)), some (.int 1), some (.int (nI tn)), some (.int (nI i))]) C 7 dL_law_292 (Nat.le_of_ble_eq_true rfl) rfl ?_
      refine vx_iinc (v := nI (i + 1)) (ls2 := [some (.ref b), some (.ref (G.1 144)), some (.ref (G.1 145)), some (.ref (G.1 146)), some (.ref (G.1 147)), some (.ref (G.1 148)), some (.ref (G.1 149)), some (.int 1), some (.int (nI tn)), some (.int (nI (i + 1)))]) C 9 dL_law_294 rfl (nI_add i 1) rfl ?_
      refine vx_goto C 214 dL_law_297 (by decide) ?_
      exact vx_widen (by omega) (by omega) (ih (i + 1) _ (by omega) (by omega) hl_8)
set_option maxRecDepth 100000 in
set_option maxHeartbeats 4000000 in
theorem lp_law4 {p : Program} {l : Launch} {e : Env} {s : State} {m : MethodId} {args : Array Value} {below : List Frame} {meth : Method} {c : Code} {G : mw_GG} {A : Nat → Prop} {Q : State → Prop} (C : vx_C p s m args c G A cL_law 10 wsL_law RL) {b : Nat} (hk : ∀ M, vx p l e room_1 s m args below meth c G A 600 3000 Q M ([] : va_W) 332 [some (.ref b), some (.ref (G.1 144)), some (.ref (G.1 145)), some (.ref (G.1 146)), some (.ref (G.1 147)), some (.ref (G.1 148)), some (.ref (G.1 149)), none, none, none] [.int 1]) {M : mw_M} (h : linv M)  : vx p l e room_1 s m args below meth c G A 600 3000 Q M ([] : va_W) 300 [some (.ref b), some (.ref (G.1 144)), some (.ref (G.1 145)), some (.ref (G.1 146)), some (.ref (G.1 147)), some (.ref (G.1 148)), some (.ref (G.1 149)), some (.int 1), none, none] [] := by
  refine vx_iload C 7 dL_law_300 rfl ?_
  refine vx_nif_eq C 1 331 dL_law_302 (by decide) (by decide) (fun h_1 => absurd h_1 (by decide)) (fun h_2 => ?_)
  refine vx_aload_n C 1 dL_law_305 rfl rfl ?_
  refine vx_bipush (v := 9) C dL_law_306 (by decide) ?_
  refine vx_callVIP C [.int 9] (c_X8_count M h.1.1.1 h.1.1.2.1 h.1.1.2.2.1 9) sh_144 rfl (cwV 1 C.1.2.2.2.2 gL_law_X8_count rfl rfl rfl (by decide +kernel) ⟨Nat.le_of_ble_eq_true rfl, Nat.le_of_ble_eq_true rfl⟩) rfl rfl rfl (Nat.le_of_ble_eq_true rfl) dL_law_308 ⟨(Nat.le_trans (m := 4000) (by omega) (Nat.le_of_ble_eq_true rfl)), (Nat.le_trans (m := 4000) (by omega) (Nat.le_of_ble_eq_true rfl))⟩ (fun x_3 M_4 h_5 => ?_)
  have hl_9 := lsame1 h (cl_rd clO.rf rfl h_5.2)
  refine vx_top (y := (-11)) (h_5.1.trans cn_9) ?_
  refine vx_bipush (v := (-11)) C dL_law_311 (by decide) ?_
  refine vx_icmp_ne C 331 dL_law_313 (by decide) (fun h_6 => absurd rfl h_6) (fun h_7 => ?_)
  refine vx_aload_n C 1 dL_law_316 rfl rfl ?_
  refine vx_bipush (v := 14) C dL_law_317 (by decide) ?_
  refine vx_callVIP C [.int 14] (c_X8_count M_4 hl_9.1.1.1 hl_9.1.1.2.1 hl_9.1.1.2.2.1 14) sh_144 rfl (cwV 1 C.1.2.2.2.2 gL_law_X8_count rfl rfl rfl (by decide +kernel) ⟨Nat.le_of_ble_eq_true rfl, Nat.le_of_ble_eq_true rfl⟩) rfl rfl rfl (Nat.le_of_ble_eq_true rfl) dL_law_319 ⟨(Nat.le_trans (m := 4000) (by omega) (Nat.le_of_ble_eq_true rfl)), (Nat.le_trans (m := 4000) (by omega) (Nat.le_of_ble_eq_true rfl))⟩ (fun x_8 M_9 h_10 => ?_)
  have hl_10 := lsame1 hl_9 (cl_rd clO.rf rfl h_10.2)
  refine vx_top (y := (-11)) (h_10.1.trans cn_14) ?_
  refine vx_bipush (v := (-11)) C dL_law_322 (by decide) ?_
  refine vx_icmp_ne C 331 dL_law_324 (by decide) (fun h_11 => absurd rfl h_11) (fun h_12 => ?_)
  refine vx_iconst (v := 1) C dL_law_327 (by decide) ?_
  refine vx_goto C 332 dL_law_328 (by decide) ?_
  refine vx_keep (ls2 := [some (.ref b), some (.ref (G.1 144)), some (.ref (G.1 145)), some (.ref (G.1 146)), some (.ref (G.1 147)), some (.ref (G.1 148)), some (.ref (G.1 149)), none, none, none]) ⟨rfl, rfl, rfl, rfl, rfl, rfl, rfl, trivial⟩ ?_
  exact hk _
