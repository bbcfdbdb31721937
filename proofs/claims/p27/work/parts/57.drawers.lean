set_option maxRecDepth 100000 in
set_option maxHeartbeats 4000000 in
theorem lp_drawers0 {p : Program} {l : Launch} {e : Env} {s : State} {m : MethodId} {args : Array Value} {below : List Frame} {meth : Method} {c : Code} {G : mw_GG} (C : vv_C p s m args c G cL_drawers 14 wsL_drawers RL) (hR : vv_R meth (some .boolean)) {M : mw_M} (h : linv M) {way y d : Nat} (hy : y < 2 ^ 31) (hd : d < 2)  : vv p l e ({ frames := 7, cells := 0, slots := 0, locals := 153 } : Room) s m args below meth c G 0 0 (mw_E below args s G (qIP (fun r M2 => r = 1 ∧ linv M2))) M 11 [some (.ref (G.1 144)), some (.ref (G.1 145)), some (.ref (G.1 146)), some (.ref (G.1 147)), some (.ref (G.1 148)), some (.ref (G.1 149)), some (.int (nI way)), some (.int (nI y)), some (.int (nI d)), none, none, none, none, none] [] := by
  obtain ⟨kn, hkn12, hkn, hgn⟩ := h.sz hd
  refine vv_aload_n C 1 dL_drawers_11 rfl rfl ?_
  refine vv_iconst (v := 2) C dL_drawers_12 (by decide) ?_
  refine vv_iload C 8 dL_drawers_13 rfl ?_
  refine vv_iadd C dL_drawers_15 ?_
  refine vv_top (y := nI (2 + d)) (nI_add 2 d) ?_
  refine vv_ald (j := 2 + d) (q := 1100 + (2 + d)) C sh_145 rfl (by omega) (by omega) dL_drawers_16 ?_
  refine vv_top (y := nI kn) (hgn) ?_
  refine vv_istore (ls2 := [some (.ref (G.1 144)), some (.ref (G.1 145)), some (.ref (G.1 146)), some (.ref (G.1 147)), some (.ref (G.1 148)), some (.ref (G.1 149)), some (.int (nI way)), some (.int (nI y)), some (.int (nI d)), some (.int (nI kn)), none, none, none, none]) C 9 dL_drawers_17 (Nat.le_of_ble_eq_true rfl) rfl ?_
  refine vv_iload C 7 dL_drawers_19 rfl ?_
  refine vv_iconst (v := 2) C dL_drawers_21 (by decide) ?_
  refine vv_idiv C dL_drawers_22 (by decide) ?_
  refine vv_top (y := nI (y / 2)) (pk_div (a := y) (d := 2) (by omega) (by omega) (by omega)) ?_
  refine vv_bipush (v := 7) C dL_drawers_23 (by decide) ?_
  refine vv_irem C dL_drawers_25 (by decide) ?_
  refine vv_top (y := nI ((y / 2) % 7)) (pk_rem (a := y / 2) (d := 7) (by omega) (by omega) (by omega)) ?_
  refine vv_iconst (v := 1) C dL_drawers_26 (by decide) ?_
  refine vv_isub C dL_drawers_27 ?_
  refine vv_istore (ls2 := [some (.ref (G.1 144)), some (.ref (G.1 145)), some (.ref (G.1 146)), some (.ref (G.1 147)), some (.ref (G.1 148)), some (.ref (G.1 149)), some (.int (nI way)), some (.int (nI y)), some (.int (nI d)), some (.int (nI kn)), some (.int ((nI ((y / 2) % 7)) - 1)), none, none, none]) C 10 dL_drawers_28 (Nat.le_of_ble_eq_true rfl) rfl ?_
  refine vv_iload C 7 dL_drawers_30 rfl ?_
  refine vv_bipush (v := 14) C dL_drawers_32 (by decide) ?_
  refine vv_idiv C dL_drawers_34 (by decide) ?_
  refine vv_top (y := nI (y / 14)) (pk_div (a := y) (d := 14) (by omega) (by omega) (by omega)) ?_
  refine vv_bipush (v := 7) C dL_drawers_35 (by decide) ?_
  refine vv_irem C dL_drawers_37 (by decide) ?_
  refine vv_top (y := nI ((y / 14) % 7)) (pk_rem (a := y / 14) (d := 7) (by omega) (by omega) (by omega)) ?_
  refine vv_iconst (v := 1) C dL_drawers_38 (by decide) ?_
  refine vv_isub C dL_drawers_39 ?_
  refine vv_istore (ls2 := [some (.ref (G.1 144)), some (.ref (G.1 145)), some (.ref (G.1 146)), some (.ref (G.1 147)), some (.ref (G.1 148)), some (.ref (G.1 149)), some (.int (nI way)), some (.int (nI y)), some (.int (nI d)), some (.int (nI kn)), some (.int ((nI ((y / 2) % 7)) - 1)), some (.int ((nI ((y / 14) % 7)) - 1)), none, none]) C 11 dL_drawers_40 (Nat.le_of_ble_eq_true rfl) rfl ?_
  refine vv_iload C 7 dL_drawers_42 rfl ?_
  refine vv_iconst (v := 3) C dL_drawers_44 (by decide) ?_
  refine vv_irem C dL_drawers_45 (by decide) ?_
  refine vv_top (y := nI (y % 3)) (pk_rem (a := y) (d := 3) (by omega) (by omega) (by omega)) ?_
  refine vv_nif_ne C (y % 3) 62 dL_drawers_46 (by decide) (by omega) (fun h_1 => ?_) (fun h_2 => ?_)
  · refine vv_iload C 7 dL_drawers_62 rfl ?_
    refine vv_bipush (v := 98) C dL_drawers_64 (by decide) ?_
    refine vv_idiv C dL_drawers_66 (by decide) ?_
    refine vv_top (y := nI (y / 98)) (pk_div (a := y) (d := 98) (by omega) (by omega) (by omega)) ?_
    refine vv_iconst (v := 4) C dL_drawers_67 (by decide) ?_
    refine vv_irem C dL_drawers_68 (by decide) ?_
    refine vv_top (y := nI (y / 98 % 4 + 1) - 1) ((pk_rem (d := 4) (by omega) (by omega) (by omega)).trans (nI_pred _).symm) ?_
    refine vv_istore (ls2 := [some (.ref (G.1 144)), some (.ref (G.1 145)), some (.ref (G.1 146)), some (.ref (G.1 147)), some (.ref (G.1 148)), some (.ref (G.1 149)), some (.int (nI way)), some (.int (nI y)), some (.int (nI d)), some (.int (nI kn)), some (.int ((nI ((y / 2) % 7)) - 1)), some (.int ((nI ((y / 14) % 7)) - 1)), some (.int (nI (y / 98 % 4 + 1) - 1)), none]) C 12 dL_drawers_69 (Nat.le_of_ble_eq_true rfl) rfl ?_
    refine vv_iload C 7 dL_drawers_71 rfl ?_
    refine vv_bipush (v := 31) C dL_drawers_73 (by decide) ?_
    refine vv_idiv C dL_drawers_75 (by decide) ?_
    refine vv_top (y := nI (y / 31)) (pk_div (a := y) (d := 31) (by omega) (by omega) (by omega)) ?_
    refine vv_iconst (v := 5) C dL_drawers_76 (by decide) ?_
    refine vv_irem C dL_drawers_77 (by decide) ?_
    refine vv_top (y := nI ((y / 31) % 5)) (pk_rem (a := y / 31) (d := 5) (by omega) (by omega) (by omega)) ?_
    refine vv_iconst (v := 1) C dL_drawers_78 (by decide) ?_
    refine vv_isub C dL_drawers_79 ?_
    refine vv_istore (ls2 := [some (.ref (G.1 144)), some (.ref (G.1 145)), some (.ref (G.1 146)), some (.ref (G.1 147)), some (.ref (G.1 148)), some (.ref (G.1 149)), some (.int (nI way)), some (.int (nI y)), some (.int (nI d)), some (.int (nI kn)), some (.int ((nI ((y / 2) % 7)) - 1)), some (.int ((nI ((y / 14) % 7)) - 1)), some (.int (nI (y / 98 % 4 + 1) - 1)), some (.int ((nI ((y / 31) % 5)) - 1))]) C 13 dL_drawers_80 (Nat.le_of_ble_eq_true rfl) rfl ?_
    refine vv_iload C 9 dL_drawers_82 rfl ?_
    refine vv_bipush (v := 12) C dL_drawers_84 (by decide) ?_
    refine vv_ncmp_ne C kn 12 114 dL_drawers_86 (by decide) (by omega) (by decide) (fun h_n12 => ?_) (fun h_12 => ?_)
    · refine vv_aload_n C 2 dL_drawers_114 rfl rfl ?_
      refine vv_bipush (v := 12) C dL_drawers_115 (by decide) ?_
      refine vv_iload C 8 dL_drawers_117 rfl ?_
      refine vv_imul C dL_drawers_119 ?_
      refine vv_top (y := nI (12 * d)) (pk_mul 12 d) ?_
      refine vv_iload C 9 dL_drawers_120 rfl ?_
      refine vv_iadd C dL_drawers_122 ?_
      refine vv_top (y := nI (12 * d + kn)) (nI_add (12 * d) kn) ?_
      refine vv_iload C 10 dL_drawers_123 rfl ?_
      refine vv_iconst (v := 1) C dL_drawers_125 (by decide) ?_
      refine vv_iadd C dL_drawers_126 ?_
      refine vv_top (y := nI (y / 2 % 7)) ((Int32.sub_add_cancel _ _)) ?_
      refine vv_iload C 11 dL_drawers_127 rfl ?_
      refine vv_iconst (v := 1) C dL_drawers_129 (by decide) ?_
      refine vv_iadd C dL_drawers_130 ?_
      refine vv_top (y := nI (y / 14 % 7)) ((Int32.sub_add_cancel _ _)) ?_
      refine vv_bipush (v := 7) C dL_drawers_131 (by decide) ?_
      refine vv_ishl C dL_drawers_133 ?_
      refine vv_top (y := nI ((y / 14 % 7) * 2 ^ 7)) (pk_shlN _ 7 (by decide) (by omega)) ?_
      refine vv_iadd C dL_drawers_134 ?_
      refine vv_top (y := nI (y / 2 % 7 + ((y / 14 % 7) * 2 ^ 7))) (nI_add (y / 2 % 7) ((y / 14 % 7) * 2 ^ 7)) ?_
      refine vv_iload C 12 dL_drawers_135 rfl ?_
      refine vv_iconst (v := 1) C dL_drawers_137 (by decide) ?_
      refine vv_iadd C dL_drawers_138 ?_
      refine vv_top (y := nI (y / 98 % 4 + 1)) ((Int32.sub_add_cancel _ _)) ?_
      refine vv_bipush (v := 14) C dL_drawers_139 (by decide) ?_
      refine vv_ishl C dL_drawers_141 ?_
      refine vv_top (y := nI ((y / 98 % 4 + 1) * 2 ^ 14)) (pk_shlN _ 14 (by decide) (by omega)) ?_
      refine vv_iadd C dL_drawers_142 ?_
      refine vv_top (y := nI (y / 2 % 7 + ((y / 14 % 7) * 2 ^ 7) + ((y / 98 % 4 + 1) * 2 ^ 14))) (nI_add (y / 2 % 7 + ((y / 14 % 7) * 2 ^ 7)) ((y / 98 % 4 + 1) * 2 ^ 14)) ?_
      refine vv_iload C 13 dL_drawers_143 rfl ?_
      refine vv_iconst (v := 1) C dL_drawers_145 (by decide) ?_
      refine vv_iadd C dL_drawers_146 ?_
      refine vv_top (y := nI (y / 31 % 5)) ((Int32.sub_add_cancel _ _)) ?_
      refine vv_bipush (v := 21) C dL_drawers_147 (by decide) ?_
      refine vv_ishl C dL_drawers_149 ?_
      refine vv_top (y := nI ((y / 31 % 5) * 2 ^ 21)) (pk_shlN _ 21 (by decide) (by omega)) ?_
      refine vv_iadd C dL_drawers_150 ?_
      refine vv_top (y := nI (pkN (uF (y / 2 % 7) (y / 14 % 7) (y / 98 % 4 + 1) (y / 31 % 5)))) ((nI_add _ _).trans (congrArg nI (uF_pk (y / 2 % 7) (y / 14 % 7) (y / 98 % 4 + 1) (y / 31 % 5)))) ?_
      refine vv_ast (j := 12 * d + kn) (q := 1200 + (12 * d + kn)) C sh_146 rfl (by omega) (by omega) dL_drawers_151 ?_
      refine vv_aload_n C 1 dL_drawers_152 rfl rfl ?_
      refine vv_iconst (v := 2) C dL_drawers_153 (by decide) ?_
      refine vv_iload C 8 dL_drawers_154 rfl ?_
      refine vv_iadd C dL_drawers_156 ?_
      refine vv_top (y := nI (2 + d)) (nI_add 2 d) ?_
      refine vv_dup2 C dL_drawers_157 rfl rfl ?_
      refine vv_ald (j := 2 + d) (q := 1100 + (2 + d)) C sh_145 rfl (by omega) (by omega) dL_drawers_158 ?_
      refine vv_top (y := nI kn) (((upd_o (by omega)).trans hgn)) ?_
      refine vv_iconst (v := 1) C dL_drawers_159 (by decide) ?_
      refine vv_iadd C dL_drawers_160 ?_
      refine vv_top (y := nI (kn + 1)) (nI_add kn 1) ?_
      refine vv_ast (j := 2 + d) (q := 1100 + (2 + d)) C sh_145 rfl (by omega) (by omega) dL_drawers_161 ?_
      refine vv_aload_n C 0 dL_drawers_162 rfl rfl ?_
      refine vv_iload C 8 dL_drawers_163 rfl ?_
      refine vv_iload C 10 dL_drawers_165 rfl ?_
      refine vv_iload C 11 dL_drawers_167 rfl ?_
      refine vv_iload C 12 dL_drawers_169 rfl ?_
      refine vv_iload C 13 dL_drawers_171 rfl ?_
      have hc := L_card h hd hkn (by omega) (u := uF (y / 2 % 7) (y / 14 % 7) (y / 98 % 4 + 1) (y / 31 % 5)) (uF_le (by omega) (by omega) (by omega) (by omega)) (x := (nI ((y / 2) % 7)) - 1) (y := (nI ((y / 14) % 7)) - 1) (z := nI (y / 98 % 4 + 1) - 1) (w := (nI ((y / 31) % 5)) - 1) rfl rfl rfl rfl (M1 := upd (upd M (1200 + (12 * d + kn)) (nI (pkN (uF (y / 2 % 7) (y / 14 % 7) (y / 98 % 4 + 1) (y / 31 % 5))))) (1100 + (2 + d)) (nI (kn + 1))) (by rw [show 1100 + (2 + d) = 1102 + d by omega])
      refine vv_callVIP C [.int (nI d), .int ((nI ((y / 2) % 7)) - 1), .int ((nI ((y / 14) % 7)) - 1), .int (nI (y / 98 % 4 + 1) - 1), .int ((nI ((y / 31) % 5)) - 1)] (c_X8_card (upd (upd M (1200 + (12 * d + kn)) (nI (pkN (uF (y / 2 % 7) (y / 14 % 7) (y / 98 % 4 + 1) (y / 31 % 5))))) (1100 + (2 + d)) (nI (kn + 1))) (hc.1.inv h.1.1).1 (hc.1.inv h.1.1).2.1 (hc.1.inv h.1.1).2.2.1 (nI d) ((nI ((y / 2) % 7)) - 1) ((nI ((y / 14) % 7)) - 1) (nI (y / 98 % 4 + 1) - 1) ((nI ((y / 31) % 5)) - 1)) sh_144 rfl (cwV 5 C.1.2.2.2.2 gL_drawers_X8_card rfl rfl rfl (by decide +kernel) ⟨Nat.le_of_ble_eq_true rfl, Nat.le_of_ble_eq_true rfl⟩) rfl rfl rfl (Nat.le_of_ble_eq_true rfl) dL_drawers_173 ⟨Nat.le_refl _, Nat.le_refl _⟩ (fun x_5 M_6 h_7 => ?_)
      obtain ⟨h_x, h_cl⟩ := h_7
      refine vv_iload C 9 dL_drawers_176 rfl ?_
      refine vv_icmp_ne C 185 dL_drawers_178 (by decide) (fun h_8 => absurd (h_x.trans hc.2.1) h_8) (fun h_9 => ?_)
      refine vv_iconst (v := 1) C dL_drawers_181 (by decide) ?_
      refine vv_goto C 186 dL_drawers_182 (by decide) ?_
      exact vv_zret1 C hR dL_drawers_186 (qIP_of ⟨rfl, hc.2.2 _ h_cl⟩)
    · refine vv_aload_n C 0 dL_drawers_89 rfl rfl ?_
      refine vv_iload C 8 dL_drawers_90 rfl ?_
      refine vv_iload C 10 dL_drawers_92 rfl ?_
      refine vv_iload C 11 dL_drawers_94 rfl ?_
      refine vv_iload C 12 dL_drawers_96 rfl ?_
      refine vv_iload C 13 dL_drawers_98 rfl ?_
      have hc := L_cardF hd (hkn.trans (congrArg nI h_12)) (x := (nI ((y / 2) % 7)) - 1) (y := (nI ((y / 14) % 7)) - 1) (z := nI (y / 98 % 4 + 1) - 1) (w := (nI ((y / 31) % 5)) - 1) (ent_in (n := y / 2 % 7) (by omega) rfl) (ent_in (n := y / 14 % 7) (by omega) rfl) (ent_in (n := y / 98 % 4 + 1) (by omega) rfl) (ent_in (n := y / 31 % 5) (by omega) rfl)
      refine vv_callVIP C [.int (nI d), .int ((nI ((y / 2) % 7)) - 1), .int ((nI ((y / 14) % 7)) - 1), .int (nI (y / 98 % 4 + 1) - 1), .int ((nI ((y / 31) % 5)) - 1)] (c_X8_card M h.1.1.1 h.1.1.2.1 h.1.1.2.2.1 (nI d) ((nI ((y / 2) % 7)) - 1) ((nI ((y / 14) % 7)) - 1) (nI (y / 98 % 4 + 1) - 1) ((nI ((y / 31) % 5)) - 1)) sh_144 rfl (cwV 5 C.1.2.2.2.2 gL_drawers_X8_card rfl rfl rfl (by decide +kernel) ⟨Nat.le_of_ble_eq_true rfl, Nat.le_of_ble_eq_true rfl⟩) rfl rfl rfl (Nat.le_of_ble_eq_true rfl) dL_drawers_100 ⟨Nat.le_refl _, Nat.le_refl _⟩ (fun x_10 M_11 h_12 => ?_)
      obtain ⟨h_x, h_cl⟩ := h_12
      rw [hc] at h_x h_cl
      refine vv_bipush (v := (-13)) C dL_drawers_103 (by decide) ?_
      refine vv_icmp_ne C 112 dL_drawers_105 (by decide) (fun h_13 => absurd h_x h_13) (fun h_14 => ?_)
      refine vv_iconst (v := 1) C dL_drawers_108 (by decide) ?_
      refine vv_goto C 113 dL_drawers_109 (by decide) ?_
      exact vv_zret1 C hR dL_drawers_113 (qIP_of ⟨rfl, lsame1 h h_cl⟩)
  · refine vv_iload C 7 dL_drawers_49 rfl ?_
    refine vv_bipush (v := 98) C dL_drawers_51 (by decide) ?_
    refine vv_idiv C dL_drawers_53 (by decide) ?_
    refine vv_top (y := nI (y / 98)) (pk_div (a := y) (d := 98) (by omega) (by omega) (by omega)) ?_
    refine vv_bipush (v := 101) C dL_drawers_54 (by decide) ?_
    refine vv_irem C dL_drawers_56 (by decide) ?_
    refine vv_top (y := nI ((y / 98) % 101)) (pk_rem (a := y / 98) (d := 101) (by omega) (by omega) (by omega)) ?_
    refine vv_iconst (v := 1) C dL_drawers_57 (by decide) ?_
    refine vv_isub C dL_drawers_58 ?_
    refine vv_goto C 69 dL_drawers_59 (by decide) ?_
    refine vv_istore (ls2 := [some (.ref (G.1 144)), some (.ref (G.1 145)), some (.ref (G.1 146)), some (.ref (G.1 147)), some (.ref (G.1 148)), some (.ref (G.1 149)), some (.int (nI way)), some (.int (nI y)), some (.int (nI d)), some (.int (nI kn)), some (.int ((nI ((y / 2) % 7)) - 1)), some (.int ((nI ((y / 14) % 7)) - 1)), some (.int ((nI ((y / 98) % 101)) - 1)), none]) C 12 dL_drawers_69 (Nat.le_of_ble_eq_true rfl) rfl ?_
    refine vv_iload C 7 dL_drawers_71 rfl ?_
    refine vv_bipush (v := 31) C dL_drawers_73 (by decide) ?_
    refine vv_idiv C dL_drawers_75 (by decide) ?_
    refine vv_top (y := nI (y / 31)) (pk_div (a := y) (d := 31) (by omega) (by omega) (by omega)) ?_
    refine vv_iconst (v := 5) C dL_drawers_76 (by decide) ?_
    refine vv_irem C dL_drawers_77 (by decide) ?_
    refine vv_top (y := nI ((y / 31) % 5)) (pk_rem (a := y / 31) (d := 5) (by omega) (by omega) (by omega)) ?_
    refine vv_iconst (v := 1) C dL_drawers_78 (by decide) ?_
    refine vv_isub C dL_drawers_79 ?_
    refine vv_istore (ls2 := [some (.ref (G.1 144)), some (.ref (G.1 145)), some (.ref (G.1 146)), some (.ref (G.1 147)), some (.ref (G.1 148)), some (.ref (G.1 149)), some (.int (nI way)), some (.int (nI y)), some (.int (nI d)), some (.int (nI kn)), some (.int ((nI ((y / 2) % 7)) - 1)), some (.int ((nI ((y / 14) % 7)) - 1)), some (.int ((nI ((y / 98) % 101)) - 1)), some (.int ((nI ((y / 31) % 5)) - 1))]) C 13 dL_drawers_80 (Nat.le_of_ble_eq_true rfl) rfl ?_
    refine vv_iload C 9 dL_drawers_82 rfl ?_
    refine vv_bipush (v := 12) C dL_drawers_84 (by decide) ?_
    refine vv_ncmp_ne C kn 12 114 dL_drawers_86 (by decide) (by omega) (by decide) (fun h_n12 => ?_) (fun h_12 => ?_)
    · refine vv_aload_n C 2 dL_drawers_114 rfl rfl ?_
      refine vv_bipush (v := 12) C dL_drawers_115 (by decide) ?_
      refine vv_iload C 8 dL_drawers_117 rfl ?_
      refine vv_imul C dL_drawers_119 ?_
      refine vv_top (y := nI (12 * d)) (pk_mul 12 d) ?_
      refine vv_iload C 9 dL_drawers_120 rfl ?_
      refine vv_iadd C dL_drawers_122 ?_
      refine vv_top (y := nI (12 * d + kn)) (nI_add (12 * d) kn) ?_
      refine vv_iload C 10 dL_drawers_123 rfl ?_
      refine vv_iconst (v := 1) C dL_drawers_125 (by decide) ?_
      refine vv_iadd C dL_drawers_126 ?_
      refine vv_top (y := nI (y / 2 % 7)) ((Int32.sub_add_cancel _ _)) ?_
      refine vv_iload C 11 dL_drawers_127 rfl ?_
      refine vv_iconst (v := 1) C dL_drawers_129 (by decide) ?_
      refine vv_iadd C dL_drawers_130 ?_
      refine vv_top (y := nI (y / 14 % 7)) ((Int32.sub_add_cancel _ _)) ?_
      refine vv_bipush (v := 7) C dL_drawers_131 (by decide) ?_
      refine vv_ishl C dL_drawers_133 ?_
      refine vv_top (y := nI ((y / 14 % 7) * 2 ^ 7)) (pk_shlN _ 7 (by decide) (by omega)) ?_
      refine vv_iadd C dL_drawers_134 ?_
      refine vv_top (y := nI (y / 2 % 7 + ((y / 14 % 7) * 2 ^ 7))) (nI_add (y / 2 % 7) ((y / 14 % 7) * 2 ^ 7)) ?_
      refine vv_iload C 12 dL_drawers_135 rfl ?_
      refine vv_iconst (v := 1) C dL_drawers_137 (by decide) ?_
      refine vv_iadd C dL_drawers_138 ?_
      refine vv_top (y := nI ((y / 98) % 101)) ((Int32.sub_add_cancel _ _)) ?_
      refine vv_bipush (v := 14) C dL_drawers_139 (by decide) ?_
      refine vv_ishl C dL_drawers_141 ?_
      refine vv_top (y := nI (((y / 98) % 101) * 2 ^ 14)) (pk_shlN _ 14 (by decide) (by omega)) ?_
      refine vv_iadd C dL_drawers_142 ?_
      refine vv_top (y := nI (y / 2 % 7 + ((y / 14 % 7) * 2 ^ 7) + (((y / 98) % 101) * 2 ^ 14))) (nI_add (y / 2 % 7 + ((y / 14 % 7) * 2 ^ 7)) (((y / 98) % 101) * 2 ^ 14)) ?_
      refine vv_iload C 13 dL_drawers_143 rfl ?_
      refine vv_iconst (v := 1) C dL_drawers_145 (by decide) ?_
      refine vv_iadd C dL_drawers_146 ?_
      refine vv_top (y := nI (y / 31 % 5)) ((Int32.sub_add_cancel _ _)) ?_
      refine vv_bipush (v := 21) C dL_drawers_147 (by decide) ?_
      refine vv_ishl C dL_drawers_149 ?_
      refine vv_top (y := nI ((y / 31 % 5) * 2 ^ 21)) (pk_shlN _ 21 (by decide) (by omega)) ?_
      refine vv_iadd C dL_drawers_150 ?_
      refine vv_top (y := nI (pkN (uF (y / 2 % 7) (y / 14 % 7) ((y / 98) % 101) (y / 31 % 5)))) ((nI_add _ _).trans (congrArg nI (uF_pk (y / 2 % 7) (y / 14 % 7) ((y / 98) % 101) (y / 31 % 5)))) ?_
      refine vv_ast (j := 12 * d + kn) (q := 1200 + (12 * d + kn)) C sh_146 rfl (by omega) (by omega) dL_drawers_151 ?_
      refine vv_aload_n C 1 dL_drawers_152 rfl rfl ?_
      refine vv_iconst (v := 2) C dL_drawers_153 (by decide) ?_
      refine vv_iload C 8 dL_drawers_154 rfl ?_
      refine vv_iadd C dL_drawers_156 ?_
      refine vv_top (y := nI (2 + d)) (nI_add 2 d) ?_
      refine vv_dup2 C dL_drawers_157 rfl rfl ?_
      refine vv_ald (j := 2 + d) (q := 1100 + (2 + d)) C sh_145 rfl (by omega) (by omega) dL_drawers_158 ?_
      refine vv_top (y := nI kn) (((upd_o (by omega)).trans hgn)) ?_
      refine vv_iconst (v := 1) C dL_drawers_159 (by decide) ?_
      refine vv_iadd C dL_drawers_160 ?_
      refine vv_top (y := nI (kn + 1)) (nI_add kn 1) ?_
      refine vv_ast (j := 2 + d) (q := 1100 + (2 + d)) C sh_145 rfl (by omega) (by omega) dL_drawers_161 ?_
      refine vv_aload_n C 0 dL_drawers_162 rfl rfl ?_
      refine vv_iload C 8 dL_drawers_163 rfl ?_
      refine vv_iload C 10 dL_drawers_165 rfl ?_
      refine vv_iload C 11 dL_drawers_167 rfl ?_
      refine vv_iload C 12 dL_drawers_169 rfl ?_
      refine vv_iload C 13 dL_drawers_171 rfl ?_
      have hc := L_card h hd hkn (by omega) (u := uF (y / 2 % 7) (y / 14 % 7) ((y / 98) % 101) (y / 31 % 5)) (uF_le (by omega) (by omega) (by omega) (by omega)) (x := (nI ((y / 2) % 7)) - 1) (y := (nI ((y / 14) % 7)) - 1) (z := (nI ((y / 98) % 101)) - 1) (w := (nI ((y / 31) % 5)) - 1) rfl rfl rfl rfl (M1 := upd (upd M (1200 + (12 * d + kn)) (nI (pkN (uF (y / 2 % 7) (y / 14 % 7) ((y / 98) % 101) (y / 31 % 5))))) (1100 + (2 + d)) (nI (kn + 1))) (by rw [show 1100 + (2 + d) = 1102 + d by omega])
      refine vv_callVIP C [.int (nI d), .int ((nI ((y / 2) % 7)) - 1), .int ((nI ((y / 14) % 7)) - 1), .int ((nI ((y / 98) % 101)) - 1), .int ((nI ((y / 31) % 5)) - 1)] (c_X8_card (upd (upd M (1200 + (12 * d + kn)) (nI (pkN (uF (y / 2 % 7) (y / 14 % 7) ((y / 98) % 101) (y / 31 % 5))))) (1100 + (2 + d)) (nI (kn + 1))) (hc.1.inv h.1.1).1 (hc.1.inv h.1.1).2.1 (hc.1.inv h.1.1).2.2.1 (nI d) ((nI ((y / 2) % 7)) - 1) ((nI ((y / 14) % 7)) - 1) ((nI ((y / 98) % 101)) - 1) ((nI ((y / 31) % 5)) - 1)) sh_144 rfl (cwV 5 C.1.2.2.2.2 gL_drawers_X8_card rfl rfl rfl (by decide +kernel) ⟨Nat.le_of_ble_eq_true rfl, Nat.le_of_ble_eq_true rfl⟩) rfl rfl rfl (Nat.le_of_ble_eq_true rfl) dL_drawers_173 ⟨Nat.le_refl _, Nat.le_refl _⟩ (fun x_17 M_18 h_19 => ?_)
      obtain ⟨h_x, h_cl⟩ := h_19
      refine vv_iload C 9 dL_drawers_176 rfl ?_
      refine vv_icmp_ne C 185 dL_drawers_178 (by decide) (fun h_20 => absurd (h_x.trans hc.2.1) h_20) (fun h_21 => ?_)
      refine vv_iconst (v := 1) C dL_drawers_181 (by decide) ?_
      refine vv_goto C 186 dL_drawers_182 (by decide) ?_
      exact vv_zret1 C hR dL_drawers_186 (qIP_of ⟨rfl, hc.2.2 _ h_cl⟩)
    · refine vv_aload_n C 0 dL_drawers_89 rfl rfl ?_
      refine vv_iload C 8 dL_drawers_90 rfl ?_
      refine vv_iload C 10 dL_drawers_92 rfl ?_
      refine vv_iload C 11 dL_drawers_94 rfl ?_
      refine vv_iload C 12 dL_drawers_96 rfl ?_
      refine vv_iload C 13 dL_drawers_98 rfl ?_
      have hc := L_cardF hd (hkn.trans (congrArg nI h_12)) (x := (nI ((y / 2) % 7)) - 1) (y := (nI ((y / 14) % 7)) - 1) (z := (nI ((y / 98) % 101)) - 1) (w := (nI ((y / 31) % 5)) - 1) (ent_in (n := y / 2 % 7) (by omega) rfl) (ent_in (n := y / 14 % 7) (by omega) rfl) (ent_in (n := (y / 98) % 101) (by omega) rfl) (ent_in (n := y / 31 % 5) (by omega) rfl)
      refine vv_callVIP C [.int (nI d), .int ((nI ((y / 2) % 7)) - 1), .int ((nI ((y / 14) % 7)) - 1), .int ((nI ((y / 98) % 101)) - 1), .int ((nI ((y / 31) % 5)) - 1)] (c_X8_card M h.1.1.1 h.1.1.2.1 h.1.1.2.2.1 (nI d) ((nI ((y / 2) % 7)) - 1) ((nI ((y / 14) % 7)) - 1) ((nI ((y / 98) % 101)) - 1) ((nI ((y / 31) % 5)) - 1)) sh_144 rfl (cwV 5 C.1.2.2.2.2 gL_drawers_X8_card rfl rfl rfl (by decide +kernel) ⟨Nat.le_of_ble_eq_true rfl, Nat.le_of_ble_eq_true rfl⟩) rfl rfl rfl (Nat.le_of_ble_eq_true rfl) dL_drawers_100 ⟨Nat.le_refl _, Nat.le_refl _⟩ (fun x_22 M_23 h_24 => ?_)
      obtain ⟨h_x, h_cl⟩ := h_24
      rw [hc] at h_x h_cl
      refine vv_bipush (v := (-13)) C dL_drawers_103 (by decide) ?_
      refine vv_icmp_ne C 112 dL_drawers_105 (by decide) (fun h_25 => absurd h_x h_25) (fun h_26 => ?_)
      refine vv_iconst (v := 1) C dL_drawers_108 (by decide) ?_
      refine vv_goto C 113 dL_drawers_109 (by decide) ?_
      exact vv_zret1 C hR dL_drawers_113 (qIP_of ⟨rfl, lsame1 h h_cl⟩)
set_option maxRecDepth 100000 in
set_option maxHeartbeats 4000000 in
theorem lp_drawers1z {p : Program} {l : Launch} {e : Env} {s : State} {m : MethodId} {args : Array Value} {below : List Frame} {meth : Method} {c : Code} {G : mw_GG} {Q : State → Prop} (C : vv_C p s m args c G cL_drawers 14 wsL_drawers RL) {way y d : Nat} (hd : d < 2) {M0 S : mw_M} {kn : Nat} (hk : ∀ Mi, loM M0 Mi → lrel Mi (setC S d (fun _ => (0, 0, 0)) 4) → vv p l e ({ frames := 7, cells := 0, slots := 0, locals := 153 } : Room) s m args below meth c G 0 0 Q Mi 260 [some (.ref (G.1 144)), some (.ref (G.1 145)), some (.ref (G.1 146)), some (.ref (G.1 147)), some (.ref (G.1 148)), some (.ref (G.1 149)), some (.int (nI way)), some (.int (nI y)), some (.int (nI d)), some (.int (nI kn)), none, none, none, none] []) : ∀ (n i : Nat) (Mi : mw_M), 5 ≤ i + n → i ≤ 4 → loM M0 Mi → lrel Mi (setC S d (fun _ => (0, 0, 0)) i) → vv p l e ({ frames := 7, cells := 0, slots := 0, locals := 153 } : Room) s m args below meth c G 0 0 Q Mi 226 [some (.ref (G.1 144)), some (.ref (G.1 145)), some (.ref (G.1 146)), some (.ref (G.1 147)), some (.ref (G.1 148)), some (.ref (G.1 149)), some (.int (nI way)), some (.int (nI y)), some (.int (nI d)), some (.int (nI kn)), some (.int (nI (4 * d + i))), none, none, none] [] := by
  intro n
  induction n with
  | zero => intro i Mi h1 h2 _ _; omega
  | succ n ih =>
    intro i Mi h1 h2 hlo hrl
    refine vv_iload C 10 dL_drawers_226 rfl ?_
    refine vv_iconst (v := 4) C dL_drawers_228 (by decide) ?_
    refine vv_iload C 8 dL_drawers_229 rfl ?_
    refine vv_imul C dL_drawers_231 ?_
    refine vv_top (y := nI (4 * d)) (pk_mul 4 d) ?_
    refine vv_iconst (v := 4) C dL_drawers_232 (by decide) ?_
    refine vv_iadd C dL_drawers_233 ?_
    refine vv_top (y := nI (4 * d + 4)) (nI_add (4 * d) 4) ?_
    refine vv_ncmp_ge C (4 * d + i) (4 * d + 4) 260 dL_drawers_234 (by decide) (by omega) (by omega) (fun h_ge => ?_) (fun h_lt => ?_)
    · refine vv_keep (ls2 := [some (.ref (G.1 144)), some (.ref (G.1 145)), some (.ref (G.1 146)), some (.ref (G.1 147)), some (.ref (G.1 148)), some (.ref (G.1 149)), some (.int (nI way)), some (.int (nI y)), some (.int (nI d)), some (.int (nI kn)), none, none, none, none]) ⟨rfl, rfl, rfl, rfl, rfl, rfl, rfl, rfl, rfl, rfl, trivial⟩ ?_
      have e : i = 4 := by omega
      subst e
      exact hk Mi hlo hrl
    · refine vv_aload_n C 3 dL_drawers_237 rfl rfl ?_
      refine vv_iload C 10 dL_drawers_238 rfl ?_
      refine vv_iconst (v := 0) C dL_drawers_240 (by decide) ?_
      refine vv_ast (j := 4 * d + i) (q := 1300 + (4 * d + i)) C sh_147 rfl (by omega) (by omega) dL_drawers_241 ?_
      refine vv_aload C 4 dL_drawers_242 rfl ?_
      refine vv_iload C 10 dL_drawers_244 rfl ?_
      refine vv_iconst (v := 0) C dL_drawers_246 (by decide) ?_
      refine vv_ast (j := 4 * d + i) (q := 1310 + (4 * d + i)) C sh_148 rfl (by omega) (by omega) dL_drawers_247 ?_
      refine vv_aload C 5 dL_drawers_248 rfl ?_
      refine vv_iload C 10 dL_drawers_250 rfl ?_
      refine vv_iconst (v := 0) C dL_drawers_252 (by decide) ?_
      refine vv_ast (j := 4 * d + i) (q := 1320 + (4 * d + i)) C sh_149 rfl (by omega) (by omega) dL_drawers_253 ?_
      refine vv_iinc (v := nI (4 * d + i + 1)) (ls2 := [some (.ref (G.1 144)), some (.ref (G.1 145)), some (.ref (G.1 146)), some (.ref (G.1 147)), some (.ref (G.1 148)), some (.ref (G.1 149)), some (.int (nI way)), some (.int (nI y)), some (.int (nI d)), some (.int (nI kn)), some (.int (nI (4 * d + i + 1))), none, none, none]) C 10 dL_drawers_254 rfl (nI_add (4 * d + i) 1) rfl ?_
      refine vv_goto C 226 dL_drawers_257 (by decide) ?_
      refine vv_loc (ls2 := [some (.ref (G.1 144)), some (.ref (G.1 145)), some (.ref (G.1 146)), some (.ref (G.1 147)), some (.ref (G.1 148)), some (.ref (G.1 149)), some (.int (nI way)), some (.int (nI y)), some (.int (nI d)), some (.int (nI kn)), some (.int (nI (4 * d + (i + 1)))), none, none, none]) rfl ?_
      exact ih (i + 1) _ (by omega) (by omega) (((hlo.u (by omega)).u (by omega)).u (by omega)) (lc_step hd (by omega) hrl rfl)
set_option maxRecDepth 100000 in
set_option maxHeartbeats 4000000 in
theorem lp_drawers1 {p : Program} {l : Launch} {e : Env} {s : State} {m : MethodId} {args : Array Value} {below : List Frame} {meth : Method} {c : Code} {G : mw_GG} (C : vv_C p s m args c G cL_drawers 14 wsL_drawers RL) (hR : vv_R meth (some .boolean)) {M : mw_M} (h : linv M) {way y d : Nat} (hy : y < 2 ^ 31) (hd : d < 2)  : vv p l e ({ frames := 7, cells := 0, slots := 0, locals := 153 } : Room) s m args below meth c G 0 0 (mw_E below args s G (qIP (fun r M2 => r = 1 ∧ linv M2))) M 193 [some (.ref (G.1 144)), some (.ref (G.1 145)), some (.ref (G.1 146)), some (.ref (G.1 147)), some (.ref (G.1 148)), some (.ref (G.1 149)), some (.int (nI way)), some (.int (nI y)), some (.int (nI d)), none, none, none, none, none] [] := by
  obtain ⟨kn, hkn12, hkn, hgn⟩ := h.sz hd
  refine vv_aload_n C 1 dL_drawers_193 rfl rfl ?_
  refine vv_iconst (v := 2) C dL_drawers_194 (by decide) ?_
  refine vv_iload C 8 dL_drawers_195 rfl ?_
  refine vv_iadd C dL_drawers_197 ?_
  refine vv_top (y := nI (2 + d)) (nI_add 2 d) ?_
  refine vv_ald (j := 2 + d) (q := 1100 + (2 + d)) C sh_145 rfl (by omega) (by omega) dL_drawers_198 ?_
  refine vv_top (y := nI kn) (hgn) ?_
  refine vv_istore (ls2 := [some (.ref (G.1 144)), some (.ref (G.1 145)), some (.ref (G.1 146)), some (.ref (G.1 147)), some (.ref (G.1 148)), some (.ref (G.1 149)), some (.int (nI way)), some (.int (nI y)), some (.int (nI d)), some (.int (nI kn)), none, none, none, none]) C 9 dL_drawers_199 (Nat.le_of_ble_eq_true rfl) rfl ?_
  refine vv_aload_n C 1 dL_drawers_201 rfl rfl ?_
  refine vv_iload C 8 dL_drawers_202 rfl ?_
  refine vv_iconst (v := 1) C dL_drawers_204 (by decide) ?_
  refine vv_iload C 7 dL_drawers_205 rfl ?_
  refine vv_iconst (v := 2) C dL_drawers_207 (by decide) ?_
  refine vv_idiv C dL_drawers_208 (by decide) ?_
  refine vv_top (y := nI (y / 2)) (pk_div (a := y) (d := 2) (by omega) (by omega) (by omega)) ?_
  refine vv_iconst (v := 4) C dL_drawers_209 (by decide) ?_
  refine vv_irem C dL_drawers_210 (by decide) ?_
  refine vv_top (y := nI ((y / 2) % 4)) (pk_rem (a := y / 2) (d := 4) (by omega) (by omega) (by omega)) ?_
  refine vv_iadd C dL_drawers_211 ?_
  refine vv_top (y := nI (1 + ((y / 2) % 4))) (nI_add 1 ((y / 2) % 4)) ?_
  refine vv_ast (j := d) (q := 1100 + d) C sh_145 rfl (by omega) (by omega) dL_drawers_212 ?_
  refine vv_aload_n C 1 dL_drawers_213 rfl rfl ?_
  refine vv_iconst (v := 2) C dL_drawers_214 (by decide) ?_
  refine vv_iload C 8 dL_drawers_215 rfl ?_
  refine vv_iadd C dL_drawers_217 ?_
  refine vv_top (y := nI (2 + d)) (nI_add 2 d) ?_
  refine vv_iconst (v := 0) C dL_drawers_218 (by decide) ?_
  refine vv_ast (j := 2 + d) (q := 1100 + (2 + d)) C sh_145 rfl (by omega) (by omega) dL_drawers_219 ?_
  refine vv_iconst (v := 4) C dL_drawers_220 (by decide) ?_
  refine vv_iload C 8 dL_drawers_221 rfl ?_
  refine vv_imul C dL_drawers_223 ?_
  refine vv_top (y := nI (4 * d)) (pk_mul 4 d) ?_
  refine vv_istore (ls2 := [some (.ref (G.1 144)), some (.ref (G.1 145)), some (.ref (G.1 146)), some (.ref (G.1 147)), some (.ref (G.1 148)), some (.ref (G.1 149)), some (.int (nI way)), some (.int (nI y)), some (.int (nI d)), some (.int (nI kn)), some (.int (nI (4 * d))), none, none, none]) C 10 dL_drawers_224 (Nat.le_of_ble_eq_true rfl) rfl ?_
  refine vv_loc (ls2 := [some (.ref (G.1 144)), some (.ref (G.1 145)), some (.ref (G.1 146)), some (.ref (G.1 147)), some (.ref (G.1 148)), some (.ref (G.1 149)), some (.int (nI way)), some (.int (nI y)), some (.int (nI d)), some (.int (nI kn)), some (.int (nI (4 * d + 0))), none, none, none]) rfl ?_
  refine lp_drawers1z C (M0 := M) (S := clmS M d (1 + y / 2 % 4)) hd (fun Mi hlo hrl => ?_) 5 0 _ (by omega) (by omega) ((loM.rf.u (by omega)).u (by omega)) ?_
  · have hc := L_columns h hd (w := 1 + y / 2 % 4) (by omega) (by omega) hlo hrl
    refine vv_aload_n C 0 dL_drawers_260 rfl rfl ?_
    refine vv_iload C 8 dL_drawers_261 rfl ?_
    refine vv_aload_n C 1 dL_drawers_263 rfl rfl ?_
    refine vv_iload C 8 dL_drawers_264 rfl ?_
    refine vv_ald (j := d) (q := 1100 + d) C sh_145 rfl (by omega) (by omega) dL_drawers_266 ?_
    refine vv_top (y := nI (1 + y / 2 % 4)) (((hrl.1.1 d (by omega)).trans ((setC_o (by omega)).trans ((upd_o (by omega)).trans upd_s)))) ?_
    refine vv_callVIP C [.int (nI d), .int (nI (1 + y / 2 % 4))] (c_X8_columns Mi (hlo.inv h.1.1).1 (hlo.inv h.1.1).2.1 (hlo.inv h.1.1).2.2.1 (nI d) (nI (1 + y / 2 % 4))) sh_144 rfl (cwV 2 C.1.2.2.2.2 gL_drawers_X8_columns rfl rfl rfl (by decide +kernel) ⟨Nat.le_of_ble_eq_true rfl, Nat.le_of_ble_eq_true rfl⟩) rfl rfl rfl (Nat.le_of_ble_eq_true rfl) dL_drawers_267 ⟨Nat.le_refl _, Nat.le_refl _⟩ (fun x_1 M_2 h_3 => ?_)
    obtain ⟨h_x, h_cl⟩ := h_3
    refine vv_iload C 9 dL_drawers_270 rfl ?_
    refine vv_icmp_ne C 279 dL_drawers_272 (by decide) (fun h_4 => absurd ((h_x.trans hc.1).trans hkn) h_4) (fun h_5 => ?_)
    refine vv_iconst (v := 1) C dL_drawers_275 (by decide) ?_
    refine vv_goto C 280 dL_drawers_276 (by decide) ?_
    exact vv_zret1 C hR dL_drawers_280 (qIP_of ⟨rfl, hc.2 _ h_cl⟩)
  · rw [setC_0, show 1100 + (2 + d) = 1102 + d by omega]
    exact L_clm0 h.1.2.1 hd
set_option maxRecDepth 100000 in
set_option maxHeartbeats 4000000 in
theorem lp_drawers2l {p : Program} {l : Launch} {e : Env} {s : State} {m : MethodId} {args : Array Value} {below : List Frame} {meth : Method} {c : Code} {G : mw_GG} {Q : State → Prop} (C : vv_C p s m args c G cL_drawers 14 wsL_drawers RL) {way y d : Nat} (hd : d < 2) {M : mw_M} {kn kk : Nat} (hn : kn ≤ 12) (hkk : kk < kn) (hk : vv p l e ({ frames := 7, cells := 0, slots := 0, locals := 153 } : Room) s m args below meth c G 0 0 Q (shV (upd M (1100 + (2 + d)) (nI (kn - 1))) d kk (kn - 1)) 394 [some (.ref (G.1 144)), some (.ref (G.1 145)), some (.ref (G.1 146)), some (.ref (G.1 147)), some (.ref (G.1 148)), some (.ref (G.1 149)), some (.int (nI way)), some (.int (nI y)), some (.int (nI d)), some (.int (nI kk)), none, none, none, none] []) : ∀ (n i : Nat), kn + 1 ≤ i + n → kk ≤ i → i ≤ kn - 1 → vv p l e ({ frames := 7, cells := 0, slots := 0, locals := 153 } : Room) s m args below meth c G 0 0 Q (shV (upd M (1100 + (2 + d)) (nI (kn - 1))) d kk i) 361 [some (.ref (G.1 144)), some (.ref (G.1 145)), some (.ref (G.1 146)), some (.ref (G.1 147)), some (.ref (G.1 148)), some (.ref (G.1 149)), some (.int (nI way)), some (.int (nI y)), some (.int (nI d)), some (.int (nI kk)), some (.int (nI (12 * d + i))), none, none, none] [] := by
  intro n
  induction n with
  | zero => intro i h1 h2 _; omega
  | succ n ih =>
    intro i h1 h2 h3
    have hgs : shV (upd M (1100 + (2 + d)) (nI (kn - 1))) d kk i (1100 + (2 + d)) = nI (kn - 1) := by
      unfold shV
      rw [if_neg (by omega), upd_s]
    refine vv_iload C 10 dL_drawers_361 rfl ?_
    refine vv_bipush (v := 12) C dL_drawers_363 (by decide) ?_
    refine vv_iload C 8 dL_drawers_365 rfl ?_
    refine vv_imul C dL_drawers_367 ?_
    refine vv_top (y := nI (12 * d)) (pk_mul 12 d) ?_
    refine vv_aload_n C 1 dL_drawers_368 rfl rfl ?_
    refine vv_iconst (v := 2) C dL_drawers_369 (by decide) ?_
    refine vv_iload C 8 dL_drawers_370 rfl ?_
    refine vv_iadd C dL_drawers_372 ?_
    refine vv_top (y := nI (2 + d)) (nI_add 2 d) ?_
    refine vv_ald (j := 2 + d) (q := 1100 + (2 + d)) C sh_145 rfl (by omega) (by omega) dL_drawers_373 ?_
    refine vv_top (y := nI (kn - 1)) (hgs) ?_
    refine vv_iadd C dL_drawers_374 ?_
    refine vv_top (y := nI (12 * d + (kn - 1))) (nI_add (12 * d) (kn - 1)) ?_
    refine vv_ncmp_ge C (12 * d + i) (12 * d + (kn - 1)) 394 dL_drawers_375 (by decide) (by omega) (by omega) (fun h_ge => ?_) (fun h_lt => ?_)
    · refine vv_keep (ls2 := [some (.ref (G.1 144)), some (.ref (G.1 145)), some (.ref (G.1 146)), some (.ref (G.1 147)), some (.ref (G.1 148)), some (.ref (G.1 149)), some (.int (nI way)), some (.int (nI y)), some (.int (nI d)), some (.int (nI kk)), none, none, none, none]) ⟨rfl, rfl, rfl, rfl, rfl, rfl, rfl, rfl, rfl, rfl, trivial⟩ ?_
      have e : i = kn - 1 := by omega
      rw [e]
      exact hk
    · refine vv_aload_n C 2 dL_drawers_378 rfl rfl ?_
      refine vv_iload C 10 dL_drawers_379 rfl ?_
      refine vv_aload_n C 2 dL_drawers_381 rfl rfl ?_
      refine vv_iload C 10 dL_drawers_382 rfl ?_
      refine vv_iconst (v := 1) C dL_drawers_384 (by decide) ?_
      refine vv_iadd C dL_drawers_385 ?_
      refine vv_top (y := nI (12 * d + i + 1)) (nI_add (12 * d + i) 1) ?_
      refine vv_ald (j := 12 * d + i + 1) (q := 1200 + (12 * d + i + 1)) C sh_146 rfl (by omega) (by omega) dL_drawers_386 ?_
      refine vv_ast (j := 12 * d + i) (q := 1200 + (12 * d + i)) C sh_146 rfl (by omega) (by omega) dL_drawers_387 ?_
      refine vv_iinc (v := nI (12 * d + i + 1)) (ls2 := [some (.ref (G.1 144)), some (.ref (G.1 145)), some (.ref (G.1 146)), some (.ref (G.1 147)), some (.ref (G.1 148)), some (.ref (G.1 149)), some (.int (nI way)), some (.int (nI y)), some (.int (nI d)), some (.int (nI kk)), some (.int (nI (12 * d + i + 1))), none, none, none]) C 10 dL_drawers_388 rfl (nI_add (12 * d + i) 1) rfl ?_
      refine vv_goto C 361 dL_drawers_391 (by decide) ?_
      refine vv_loc (ls2 := [some (.ref (G.1 144)), some (.ref (G.1 145)), some (.ref (G.1 146)), some (.ref (G.1 147)), some (.ref (G.1 148)), some (.ref (G.1 149)), some (.int (nI way)), some (.int (nI y)), some (.int (nI d)), some (.int (nI kk)), some (.int (nI (12 * d + (i + 1)))), none, none, none]) rfl ?_
      refine vv_mem (shV_s h2) ?_
      exact ih (i + 1) (by omega) (by omega) (by omega)
set_option maxRecDepth 100000 in
set_option maxHeartbeats 4000000 in
theorem lp_drawers2 {p : Program} {l : Launch} {e : Env} {s : State} {m : MethodId} {args : Array Value} {below : List Frame} {meth : Method} {c : Code} {G : mw_GG} (C : vv_C p s m args c G cL_drawers 14 wsL_drawers RL) (hR : vv_R meth (some .boolean)) {M : mw_M} (h : linv M) {way y d : Nat} (hy : y < 2 ^ 31) (hd : d < 2) (hw : way < 4)  : vv p l e ({ frames := 7, cells := 0, slots := 0, locals := 153 } : Room) s m args below meth c G 0 0 (mw_E below args s G (qIP (fun r M2 => r = 1 ∧ linv M2))) M 281 [some (.ref (G.1 144)), some (.ref (G.1 145)), some (.ref (G.1 146)), some (.ref (G.1 147)), some (.ref (G.1 148)), some (.ref (G.1 149)), some (.int (nI way)), some (.int (nI y)), some (.int (nI d)), none, none, none, none, none] [] := by
  obtain ⟨kn, hkn12, hkn, hgn⟩ := h.sz hd
  obtain ⟨wd, hwd1, hwd4, hwd, hgw⟩ := h.wd hd
  refine vv_aload_n C 1 dL_drawers_281 rfl rfl ?_
  refine vv_iconst (v := 2) C dL_drawers_282 (by decide) ?_
  refine vv_iload C 8 dL_drawers_283 rfl ?_
  refine vv_iadd C dL_drawers_285 ?_
  refine vv_top (y := nI (2 + d)) (nI_add 2 d) ?_
  refine vv_ald (j := 2 + d) (q := 1100 + (2 + d)) C sh_145 rfl (by omega) (by omega) dL_drawers_286 ?_
  refine vv_top (y := nI kn) (hgn) ?_
  refine vv_nif_ne C kn 322 dL_drawers_287 (by decide) (by omega) (fun h_kn => ?_) (fun h_k0 => ?_)
  · refine vv_iload C 7 dL_drawers_322 rfl ?_
    refine vv_iconst (v := 2) C dL_drawers_324 (by decide) ?_
    refine vv_idiv C dL_drawers_325 (by decide) ?_
    refine vv_top (y := nI (y / 2)) (pk_div (a := y) (d := 2) (by omega) (by omega) (by omega)) ?_
    refine vv_aload_n C 1 dL_drawers_326 rfl rfl ?_
    refine vv_iconst (v := 2) C dL_drawers_327 (by decide) ?_
    refine vv_iload C 8 dL_drawers_328 rfl ?_
    refine vv_iadd C dL_drawers_330 ?_
    refine vv_top (y := nI (2 + d)) (nI_add 2 d) ?_
    refine vv_ald (j := 2 + d) (q := 1100 + (2 + d)) C sh_145 rfl (by omega) (by omega) dL_drawers_331 ?_
    refine vv_top (y := nI kn) (hgn) ?_
    obtain ⟨kk, hkk, ekk⟩ : ∃ kk, kk < kn ∧ y / 2 % kn = kk := ⟨_, Nat.mod_lt _ (by omega), rfl⟩
    refine vv_irem C dL_drawers_332 (nI_ne0 (by omega) (by omega)) ?_
    refine vv_top (y := nI kk) ((pk_rem (by omega) (by omega) (by omega)).trans (congrArg nI ekk)) ?_
    refine vv_istore (ls2 := [some (.ref (G.1 144)), some (.ref (G.1 145)), some (.ref (G.1 146)), some (.ref (G.1 147)), some (.ref (G.1 148)), some (.ref (G.1 149)), some (.int (nI way)), some (.int (nI y)), some (.int (nI d)), some (.int (nI kk)), none, none, none, none]) C 9 dL_drawers_333 (Nat.le_of_ble_eq_true rfl) rfl ?_
    refine vv_iload C 6 dL_drawers_335 rfl ?_
    refine vv_iconst (v := 2) C dL_drawers_337 (by decide) ?_
    refine vv_ncmp_ne C way 2 417 dL_drawers_338 (by decide) (by omega) (by decide) (fun h_n2 => ?_) (fun h_2 => ?_)
    · have hkv : ¬ M (2 + d) ≤ nI kk := by rw [hkn]; exact nI_ge hkk (by omega)
      obtain ⟨u, hu, hS, hV⟩ := h.1.2.1.2.1 d kk hd (by omega) hkv
      refine vv_iload C 7 dL_drawers_417 rfl ?_
      refine vv_bipush (v := 24) C dL_drawers_419 (by decide) ?_
      refine vv_idiv C dL_drawers_421 (by decide) ?_
      refine vv_top (y := nI (y / 24)) (pk_div (a := y) (d := 24) (by omega) (by omega) (by omega)) ?_
      refine vv_aload_n C 1 dL_drawers_422 rfl rfl ?_
      refine vv_iload C 8 dL_drawers_423 rfl ?_
      refine vv_ald (j := d) (q := 1100 + d) C sh_145 rfl (by omega) (by omega) dL_drawers_425 ?_
      refine vv_top (y := nI wd) (hgw) ?_
      obtain ⟨cc, hcc, ecc⟩ : ∃ cc, cc < wd ∧ y / 24 % wd = cc := ⟨_, Nat.mod_lt _ (by omega), rfl⟩
      refine vv_irem C dL_drawers_426 (nI_ne0 (by omega) (by omega)) ?_
      refine vv_top (y := nI cc) ((pk_rem (by omega) (by omega) (by omega)).trans (congrArg nI ecc)) ?_
      refine vv_istore (ls2 := [some (.ref (G.1 144)), some (.ref (G.1 145)), some (.ref (G.1 146)), some (.ref (G.1 147)), some (.ref (G.1 148)), some (.ref (G.1 149)), some (.int (nI way)), some (.int (nI y)), some (.int (nI d)), some (.int (nI kk)), some (.int (nI cc)), none, none, none]) C 10 dL_drawers_427 (Nat.le_of_ble_eq_true rfl) rfl ?_
      refine vv_aload_n C 2 dL_drawers_429 rfl rfl ?_
      refine vv_iload C 8 dL_drawers_430 rfl ?_
      refine vv_iload C 9 dL_drawers_432 rfl ?_
      refine vv_iload C 10 dL_drawers_434 rfl ?_
      refine vv_callSI C [.ref (G.1 146), .int (nI d), .int (nI kk), .int (nI cc)] (c_L_get M (d := d) (k := kk) (i := cc) (by omega) (by omega) (by omega) (u := u) hu hV) (cwS 4 C.1.2.2.2.2 gL_drawers_L_get rfl rfl rfl (by decide +kernel) ⟨Nat.le_of_ble_eq_true rfl, Nat.le_of_ble_eq_true rfl⟩) rfl rfl rfl (Nat.le_of_ble_eq_true rfl) dL_drawers_436 ⟨Nat.le_refl _, Nat.le_refl _⟩ ?_
      refine vv_istore (ls2 := [some (.ref (G.1 144)), some (.ref (G.1 145)), some (.ref (G.1 146)), some (.ref (G.1 147)), some (.ref (G.1 148)), some (.ref (G.1 149)), some (.int (nI way)), some (.int (nI y)), some (.int (nI d)), some (.int (nI kk)), some (.int (nI cc)), some (.int (nI (u cc) - 1)), none, none]) C 11 dL_drawers_439 (Nat.le_of_ble_eq_true rfl) rfl ?_
      refine vv_iload C 7 dL_drawers_441 rfl ?_
      refine vv_iconst (v := 5) C dL_drawers_443 (by decide) ?_
      refine vv_irem C dL_drawers_444 (by decide) ?_
      refine vv_top (y := nI (y % 5)) (pk_rem (a := y) (d := 5) (by omega) (by omega) (by omega)) ?_
      refine vv_nif_ne C (y % 5) 461 dL_drawers_445 (by decide) (by omega) (fun h_5 => ?_) (fun h_6 => ?_)
      · refine vv_iload C 7 dL_drawers_461 rfl ?_
        refine vv_bipush (v := 96) C dL_drawers_463 (by decide) ?_
        refine vv_idiv C dL_drawers_465 (by decide) ?_
        refine vv_top (y := nI (y / 96)) (pk_div (a := y) (d := 96) (by omega) (by omega) (by omega)) ?_
        refine vv_iconst (v := 5) C dL_drawers_466 (by decide) ?_
        refine vv_irem C dL_drawers_467 (by decide) ?_
        refine vv_top (y := nI (y / 96 % 5 + 1) - 1) ((pk_rem (d := 5) (by omega) (by omega) (by omega)).trans (nI_pred _).symm) ?_
        refine vv_istore (ls2 := [some (.ref (G.1 144)), some (.ref (G.1 145)), some (.ref (G.1 146)), some (.ref (G.1 147)), some (.ref (G.1 148)), some (.ref (G.1 149)), some (.int (nI way)), some (.int (nI y)), some (.int (nI d)), some (.int (nI kk)), some (.int (nI cc)), some (.int (nI (u cc) - 1)), some (.int (nI (y / 96 % 5 + 1) - 1)), none]) C 12 dL_drawers_468 (Nat.le_of_ble_eq_true rfl) rfl ?_
        refine vv_aload_n C 2 dL_drawers_470 rfl rfl ?_
        refine vv_iload C 8 dL_drawers_471 rfl ?_
        refine vv_iload C 9 dL_drawers_473 rfl ?_
        refine vv_iload C 10 dL_drawers_475 rfl ?_
        refine vv_iload C 12 dL_drawers_477 rfl ?_
        refine vv_callSV C [.ref (G.1 146), .int (nI d), .int (nI kk), .int (nI cc), .int (nI (y / 96 % 5 + 1) - 1)] (c_L_set M (d := d) (k := kk) (i := cc) (by omega) (by omega) (by omega) (u := u) hu hV (n := y / 96 % 5 + 1) rfl) (cwS 5 C.1.2.2.2.2 gL_drawers_L_set rfl rfl rfl (by decide +kernel) ⟨Nat.le_of_ble_eq_true rfl, Nat.le_of_ble_eq_true rfl⟩) rfl rfl rfl (Nat.le_of_ble_eq_true rfl) dL_drawers_479 ⟨Nat.le_refl _, Nat.le_refl _⟩ ?_
        refine vv_aload_n C 0 dL_drawers_482 rfl rfl ?_
        refine vv_iload C 8 dL_drawers_483 rfl ?_
        refine vv_iload C 9 dL_drawers_485 rfl ?_
        refine vv_iload C 10 dL_drawers_487 rfl ?_
        refine vv_iload C 12 dL_drawers_489 rfl ?_
        have hc := L_put h (k := kk) (i := cc) hd (by omega) (by omega) hkv (by rw [hwd]; exact nI_ge hcc (by omega)) hu hS (n := y / 96 % 5 + 1) (by omega) rfl (M1 := upd M (1200 + (12 * d + kk)) (nI (pkN (putN u cc (y / 96 % 5 + 1))))) rfl
        refine vv_callVIP C [.int (nI d), .int (nI kk), .int (nI cc), .int (nI (y / 96 % 5 + 1) - 1)] (c_X8_put (upd M (1200 + (12 * d + kk)) (nI (pkN (putN u cc (y / 96 % 5 + 1))))) (hc.1.inv h.1.1).1 (hc.1.inv h.1.1).2.1 (hc.1.inv h.1.1).2.2.1 (nI d) (nI kk) (nI cc) (nI (y / 96 % 5 + 1) - 1)) sh_144 rfl (cwV 4 C.1.2.2.2.2 gL_drawers_X8_put rfl rfl rfl (by decide +kernel) ⟨Nat.le_of_ble_eq_true rfl, Nat.le_of_ble_eq_true rfl⟩) rfl rfl rfl (Nat.le_of_ble_eq_true rfl) dL_drawers_491 ⟨Nat.le_refl _, Nat.le_refl _⟩ (fun x_7 M_8 h_9 => ?_)
        obtain ⟨h_x, h_cl⟩ := h_9
        refine vv_iload C 11 dL_drawers_494 rfl ?_
        refine vv_icmp_ne C 503 dL_drawers_496 (by decide) (fun h_10 => absurd (h_x.trans hc.2.1) h_10) (fun h_11 => ?_)
        refine vv_iconst (v := 1) C dL_drawers_499 (by decide) ?_
        refine vv_goto C 504 dL_drawers_500 (by decide) ?_
        exact vv_zret1 C hR dL_drawers_504 (qIP_of ⟨rfl, hc.2.2 _ h_cl⟩)
      · refine vv_iload C 7 dL_drawers_448 rfl ?_
        refine vv_bipush (v := 96) C dL_drawers_450 (by decide) ?_
        refine vv_idiv C dL_drawers_452 (by decide) ?_
        refine vv_top (y := nI (y / 96)) (pk_div (a := y) (d := 96) (by omega) (by omega) (by omega)) ?_
        refine vv_bipush (v := 101) C dL_drawers_453 (by decide) ?_
        refine vv_irem C dL_drawers_455 (by decide) ?_
        refine vv_top (y := nI ((y / 96) % 101)) (pk_rem (a := y / 96) (d := 101) (by omega) (by omega) (by omega)) ?_
        refine vv_iconst (v := 1) C dL_drawers_456 (by decide) ?_
        refine vv_isub C dL_drawers_457 ?_
        refine vv_goto C 468 dL_drawers_458 (by decide) ?_
        refine vv_istore (ls2 := [some (.ref (G.1 144)), some (.ref (G.1 145)), some (.ref (G.1 146)), some (.ref (G.1 147)), some (.ref (G.1 148)), some (.ref (G.1 149)), some (.int (nI way)), some (.int (nI y)), some (.int (nI d)), some (.int (nI kk)), some (.int (nI cc)), some (.int (nI (u cc) - 1)), some (.int ((nI ((y / 96) % 101)) - 1)), none]) C 12 dL_drawers_468 (Nat.le_of_ble_eq_true rfl) rfl ?_
        refine vv_aload_n C 2 dL_drawers_470 rfl rfl ?_
        refine vv_iload C 8 dL_drawers_471 rfl ?_
        refine vv_iload C 9 dL_drawers_473 rfl ?_
        refine vv_iload C 10 dL_drawers_475 rfl ?_
        refine vv_iload C 12 dL_drawers_477 rfl ?_
        refine vv_callSV C [.ref (G.1 146), .int (nI d), .int (nI kk), .int (nI cc), .int ((nI ((y / 96) % 101)) - 1)] (c_L_set M (d := d) (k := kk) (i := cc) (by omega) (by omega) (by omega) (u := u) hu hV (n := (y / 96) % 101) rfl) (cwS 5 C.1.2.2.2.2 gL_drawers_L_set rfl rfl rfl (by decide +kernel) ⟨Nat.le_of_ble_eq_true rfl, Nat.le_of_ble_eq_true rfl⟩) rfl rfl rfl (Nat.le_of_ble_eq_true rfl) dL_drawers_479 ⟨Nat.le_refl _, Nat.le_refl _⟩ ?_
        refine vv_aload_n C 0 dL_drawers_482 rfl rfl ?_
        refine vv_iload C 8 dL_drawers_483 rfl ?_
        refine vv_iload C 9 dL_drawers_485 rfl ?_
        refine vv_iload C 10 dL_drawers_487 rfl ?_
        refine vv_iload C 12 dL_drawers_489 rfl ?_
        have hc := L_put h (k := kk) (i := cc) hd (by omega) (by omega) hkv (by rw [hwd]; exact nI_ge hcc (by omega)) hu hS (n := (y / 96) % 101) (by omega) rfl (M1 := upd M (1200 + (12 * d + kk)) (nI (pkN (putN u cc ((y / 96) % 101))))) rfl
        refine vv_callVIP C [.int (nI d), .int (nI kk), .int (nI cc), .int ((nI ((y / 96) % 101)) - 1)] (c_X8_put (upd M (1200 + (12 * d + kk)) (nI (pkN (putN u cc ((y / 96) % 101))))) (hc.1.inv h.1.1).1 (hc.1.inv h.1.1).2.1 (hc.1.inv h.1.1).2.2.1 (nI d) (nI kk) (nI cc) ((nI ((y / 96) % 101)) - 1)) sh_144 rfl (cwV 4 C.1.2.2.2.2 gL_drawers_X8_put rfl rfl rfl (by decide +kernel) ⟨Nat.le_of_ble_eq_true rfl, Nat.le_of_ble_eq_true rfl⟩) rfl rfl rfl (Nat.le_of_ble_eq_true rfl) dL_drawers_491 ⟨Nat.le_refl _, Nat.le_refl _⟩ (fun x_12 M_13 h_14 => ?_)
        obtain ⟨h_x, h_cl⟩ := h_14
        refine vv_iload C 11 dL_drawers_494 rfl ?_
        refine vv_icmp_ne C 503 dL_drawers_496 (by decide) (fun h_15 => absurd (h_x.trans hc.2.1) h_15) (fun h_16 => ?_)
        refine vv_iconst (v := 1) C dL_drawers_499 (by decide) ?_
        refine vv_goto C 504 dL_drawers_500 (by decide) ?_
        exact vv_zret1 C hR dL_drawers_504 (qIP_of ⟨rfl, hc.2.2 _ h_cl⟩)
    · refine vv_aload_n C 1 dL_drawers_341 rfl rfl ?_
      refine vv_iconst (v := 2) C dL_drawers_342 (by decide) ?_
      refine vv_iload C 8 dL_drawers_343 rfl ?_
      refine vv_iadd C dL_drawers_345 ?_
      refine vv_top (y := nI (2 + d)) (nI_add 2 d) ?_
      refine vv_dup2 C dL_drawers_346 rfl rfl ?_
      refine vv_ald (j := 2 + d) (q := 1100 + (2 + d)) C sh_145 rfl (by omega) (by omega) dL_drawers_347 ?_
      refine vv_top (y := nI kn) (hgn) ?_
      refine vv_iconst (v := 1) C dL_drawers_348 (by decide) ?_
      refine vv_isub C dL_drawers_349 ?_
      refine vv_top (y := nI (kn - 1)) (pk_sub (b := 1) (by omega)) ?_
      refine vv_ast (j := 2 + d) (q := 1100 + (2 + d)) C sh_145 rfl (by omega) (by omega) dL_drawers_350 ?_
      refine vv_bipush (v := 12) C dL_drawers_351 (by decide) ?_
      refine vv_iload C 8 dL_drawers_353 rfl ?_
      refine vv_imul C dL_drawers_355 ?_
      refine vv_top (y := nI (12 * d)) (pk_mul 12 d) ?_
      refine vv_iload C 9 dL_drawers_356 rfl ?_
      refine vv_iadd C dL_drawers_358 ?_
      refine vv_top (y := nI (12 * d + kk)) (nI_add (12 * d) kk) ?_
      refine vv_istore (ls2 := [some (.ref (G.1 144)), some (.ref (G.1 145)), some (.ref (G.1 146)), some (.ref (G.1 147)), some (.ref (G.1 148)), some (.ref (G.1 149)), some (.int (nI way)), some (.int (nI y)), some (.int (nI d)), some (.int (nI kk)), some (.int (nI (12 * d + kk))), none, none, none]) C 10 dL_drawers_359 (Nat.le_of_ble_eq_true rfl) rfl ?_
      refine vv_mem (M2 := shV (upd M (1100 + (2 + d)) (nI (kn - 1))) d kk kk) shV_0.symm ?_
      refine lp_drawers2l C hd hkn12 hkk ?_ (kn + 1) kk (by omega) (Nat.le_refl _) (by omega)
      have hc := L_drop h hd hkn hkn12 hkk (M1 := shV (upd M (1100 + (2 + d)) (nI (kn - 1))) d kk (kn - 1)) (by rw [show 1100 + (2 + d) = 1102 + d by omega])
      refine vv_aload_n C 0 dL_drawers_394 rfl rfl ?_
      refine vv_iload C 8 dL_drawers_395 rfl ?_
      refine vv_iload C 9 dL_drawers_397 rfl ?_
      refine vv_callVIP C [.int (nI d), .int (nI kk)] (c_X8_drop (shV (upd M (1100 + (2 + d)) (nI (kn - 1))) d kk (kn - 1)) (hc.1.inv h.1.1).1 (hc.1.inv h.1.1).2.1 (hc.1.inv h.1.1).2.2.1 (nI d) (nI kk)) sh_144 rfl (cwV 2 C.1.2.2.2.2 gL_drawers_X8_drop rfl rfl rfl (by decide +kernel) ⟨Nat.le_of_ble_eq_true rfl, Nat.le_of_ble_eq_true rfl⟩) rfl rfl rfl (Nat.le_of_ble_eq_true rfl) dL_drawers_399 ⟨Nat.le_refl _, Nat.le_refl _⟩ (fun x_17 M_18 h_19 => ?_)
      obtain ⟨h_x, h_cl⟩ := h_19
      refine vv_aload_n C 1 dL_drawers_402 rfl rfl ?_
      refine vv_iconst (v := 2) C dL_drawers_403 (by decide) ?_
      refine vv_iload C 8 dL_drawers_404 rfl ?_
      refine vv_iadd C dL_drawers_406 ?_
      refine vv_top (y := nI (2 + d)) (nI_add 2 d) ?_
      refine vv_ald (j := 2 + d) (q := 1100 + (2 + d)) C sh_145 rfl (by omega) (by omega) dL_drawers_407 ?_
      refine vv_top (y := nI (kn - 1)) ((h_cl _ (by unfold clS; omega)).trans (((op_drop_ok (hc.1.inv h.1.1) _ _).2 _ (by omega)).trans (by unfold shV; rw [if_neg (by omega), upd_s]))) ?_
      refine vv_icmp_ne C 415 dL_drawers_408 (by decide) (fun h_20 => absurd (h_x.trans hc.2.1) h_20) (fun h_21 => ?_)
      refine vv_iconst (v := 1) C dL_drawers_411 (by decide) ?_
      refine vv_goto C 416 dL_drawers_412 (by decide) ?_
      exact vv_zret1 C hR dL_drawers_416 (qIP_of ⟨rfl, hc.2.2 _ h_cl⟩)
  · have h0 : M (2 + d) = nI 0 := by rw [hkn, h_k0]
    have e0 := L_drop0 hd h0
    have e1 := L_put0 hd h0
    refine vv_aload_n C 0 dL_drawers_290 rfl rfl ?_
    refine vv_iload C 8 dL_drawers_291 rfl ?_
    refine vv_iconst (v := 0) C dL_drawers_293 (by decide) ?_
    refine vv_callVIP C [.int (nI d), .int 0] (c_X8_drop M h.1.1.1 h.1.1.2.1 h.1.1.2.2.1 (nI d) 0) sh_144 rfl (cwV 2 C.1.2.2.2.2 gL_drawers_X8_drop rfl rfl rfl (by decide +kernel) ⟨Nat.le_of_ble_eq_true rfl, Nat.le_of_ble_eq_true rfl⟩) rfl rfl rfl (Nat.le_of_ble_eq_true rfl) dL_drawers_294 ⟨Nat.le_refl _, Nat.le_refl _⟩ (fun x_22 M_23 h_24 => ?_)
    obtain ⟨h_x, h_cl⟩ := h_24
    rw [e0] at h_x h_cl
    have h2 := lsame1 h h_cl
    have e2 := L_put0 hd ((h_cl (2 + d) (by unfold clS; omega)).trans h0)
    refine vv_bipush (v := (-11)) C dL_drawers_297 (by decide) ?_
    refine vv_icmp_ne C 320 dL_drawers_299 (by decide) (fun h_25 => absurd h_x h_25) (fun h_26 => ?_)
    refine vv_aload_n C 0 dL_drawers_302 rfl rfl ?_
    refine vv_iload C 8 dL_drawers_303 rfl ?_
    refine vv_iconst (v := 0) C dL_drawers_305 (by decide) ?_
    refine vv_iconst (v := 0) C dL_drawers_306 (by decide) ?_
    refine vv_iconst (v := 1) C dL_drawers_307 (by decide) ?_
    refine vv_callVIP C [.int (nI d), .int 0, .int 0, .int 1] (c_X8_put M_23 h2.1.1.1 h2.1.1.2.1 h2.1.1.2.2.1 (nI d) 0 0 1) sh_144 rfl (cwV 4 C.1.2.2.2.2 gL_drawers_X8_put rfl rfl rfl (by decide +kernel) ⟨Nat.le_of_ble_eq_true rfl, Nat.le_of_ble_eq_true rfl⟩) rfl rfl rfl (Nat.le_of_ble_eq_true rfl) dL_drawers_308 ⟨Nat.le_refl _, Nat.le_refl _⟩ (fun x_27 M_28 h_29 => ?_)
    obtain ⟨h_x2, h_cl2⟩ := h_29
    rw [e2] at h_x2 h_cl2
    refine vv_bipush (v := (-11)) C dL_drawers_311 (by decide) ?_
    refine vv_icmp_ne C 320 dL_drawers_313 (by decide) (fun h_30 => absurd h_x2 h_30) (fun h_31 => ?_)
    refine vv_iconst (v := 1) C dL_drawers_316 (by decide) ?_
    refine vv_goto C 321 dL_drawers_317 (by decide) ?_
    exact vv_zret1 C hR dL_drawers_321 (qIP_of ⟨rfl, lsame1 h2 h_cl2⟩)
set_option maxRecDepth 100000 in
set_option maxHeartbeats 4000000 in
theorem c_L_drawers {l : Launch} {G : mw_GG} {M : mw_M} (h : linv M) {way y : Nat} (hw : way < 4) (hy : y < 2 ^ 31) : mw_Met l yL_drawers wsL_drawers ({ frames := 7, cells := 0, slots := 0, locals := 153 } : Room) G [.ref (G.1 144), .ref (G.1 145), .ref (G.1 146), .ref (G.1 147), .ref (G.1 148), .ref (G.1 149), .int (nI way), .int (nI y)] M (qIP (fun r M2 => r = 1 ∧ linv M2)) := by
  refine mw_ofV (cc := cL_drawers) 14 (by decide) rfl rfl (Nat.le_of_ble_eq_true rfl) ?_
  intro p e s m args below meth c C hR hN0
  refine vv_loc (ls2 := [some (.ref (G.1 144)), some (.ref (G.1 145)), some (.ref (G.1 146)), some (.ref (G.1 147)), some (.ref (G.1 148)), some (.ref (G.1 149)), some (.int (nI way)), some (.int (nI y)), none, none, none, none, none, none]) rfl ?_
  refine vv_iload C 7 dL_drawers_0 rfl ?_
  refine vv_iconst (v := 2) C dL_drawers_2 (by decide) ?_
  obtain ⟨d, hd, ed⟩ : ∃ d, d < 2 ∧ y % 2 = d := ⟨_, Nat.mod_lt _ (by decide), rfl⟩
  refine vv_irem C dL_drawers_3 (by decide) ?_
  refine vv_top (y := nI d) ((pk_rem (d := 2) (by omega) (by omega) (by omega)).trans (congrArg nI ed)) ?_
  refine vv_istore (ls2 := [some (.ref (G.1 144)), some (.ref (G.1 145)), some (.ref (G.1 146)), some (.ref (G.1 147)), some (.ref (G.1 148)), some (.ref (G.1 149)), some (.int (nI way)), some (.int (nI y)), some (.int (nI d)), none, none, none, none, none]) C 8 dL_drawers_4 (Nat.le_of_ble_eq_true rfl) rfl ?_
  refine vv_iload C 6 dL_drawers_6 rfl ?_
  refine vv_nif_ne C way 187 dL_drawers_8 (by decide) (by omega) (fun h_1 => ?_) (fun h_2 => ?_)
  · refine vv_iload C 6 dL_drawers_187 rfl ?_
    refine vv_iconst (v := 1) C dL_drawers_189 (by decide) ?_
    refine vv_ncmp_ne C way 1 281 dL_drawers_190 (by decide) (by omega) (by decide) (fun h_3 => ?_) (fun h_4 => ?_)
    · exact lp_drawers2 C hR h hy hd hw
    · exact lp_drawers1 C hR h hy hd
  · exact lp_drawers0 C hR h hy hd
