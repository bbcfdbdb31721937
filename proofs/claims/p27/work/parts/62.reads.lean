set_option maxRecDepth 100000 in
set_option maxHeartbeats 4000000 in
theorem lp_reads_b {p : Program} {l : Launch} {e : Env} {s : State} {m : MethodId} {args : Array Value} {below : List Frame} {meth : Method} {c : Code} {G : mw_GG} {A : Nat → Prop} {Q : State → Prop} (C : vx_C p s m args c G A cL_reads 15 wsL_reads RL) {X : va_W} {y d cl cn i : Nat} {M Mi S : mw_M} {Cs : List ceT} (hI : rdQ M Mi S Cs) (hCs : Cs.length = i) (hi4 : i < 4) {kd one two : Nat} (hA : okA kd one) (hB : okB kd one two) (hk : ∀ z M2, okC z → invV M2 → txP M2 (txC (Cs ++ [z])) → stP Mi M2 → vx p l e ({ frames := 7, cells := 2, slots := 7, locals := 161 } : Room) s m args below meth c G A 0 0 Q M2 X 416 [some (.ref (G.1 144)), some (.ref (G.1 145)), some (.ref (G.1 146)), some (.ref (G.1 147)), some (.ref (G.1 148)), some (.ref (G.1 149)), some (.int (nI y)), some (.int (nI d)), some (.int (nI cl)), some (.int 1), some (.int (nI cn)), some (.int (nI i)), some (.int (nI z.1)), some (.int (nI z.2.1)), some (.int (nI z.2.2))] []) : vx p l e ({ frames := 7, cells := 2, slots := 7, locals := 161 } : Room) s m args below meth c G A 0 0 Q Mi X 167 [some (.ref (G.1 144)), some (.ref (G.1 145)), some (.ref (G.1 146)), some (.ref (G.1 147)), some (.ref (G.1 148)), some (.ref (G.1 149)), some (.int (nI y)), some (.int (nI d)), some (.int (nI cl)), some (.int 1), some (.int (nI cn)), some (.int (nI i)), some (.int (nI kd)), some (.int (nI one)), some (.int (nI two))] [] := by
  have hln := txC_len Cs hI.2.2.1
  refine vx_iload C 9 dL_reads_167 rfl ?_
  refine vx_nif_eq C 1 305 dL_reads_169 (by decide) (by decide) (fun h_1 => absurd h_1 (by decide)) (fun h_2 => ?_)
  refine vx_iload C 11 dL_reads_172 rfl ?_
  refine vx_nif_eq C i 186 dL_reads_174 (by decide) (by omega) (fun h_i0 => ?_) (fun h_i => ?_)
  · have hc0 : Cs = [] := List.eq_nil_of_length_eq_zero (hCs.trans h_i0)
    have eT : txC (Cs ++ [(kd, one, two)]) = txC Cs ++ celW (kd, one, two) := by rw [txC_snoc, show sepW Cs = [] from if_pos hc0, List.append_nil]
    have hk2 : ∀ M2, invV M2 → txP M2 (txC Cs ++ celW (kd, one, two)) → stP Mi M2 → vx p l e ({ frames := 7, cells := 2, slots := 7, locals := 161 } : Room) s m args below meth c G A 0 0 Q M2 X 416 [some (.ref (G.1 144)), some (.ref (G.1 145)), some (.ref (G.1 146)), some (.ref (G.1 147)), some (.ref (G.1 148)), some (.ref (G.1 149)), some (.int (nI y)), some (.int (nI d)), some (.int (nI cl)), some (.int 1), some (.int (nI cn)), some (.int (nI i)), some (.int (nI kd)), some (.int (nI one)), some (.int (nI two))] [] := fun M2 h1 h2 h3 => hk (kd, one, two) M2 ⟨hA, hB⟩ h1 (by rw [eT]; exact h2) h3
    rcases kd11 hA.1 with rfl | rfl | rfl | rfl | rfl | rfl | rfl | rfl | rfl | rfl | rfl
    · exact lp_reads_k0 C hI.1 hI.2.1 rfl (by omega) hA hB hk2
    · exact lp_reads_k1 C hI.1 hI.2.1 rfl (by omega) hA hB hk2
    · exact lp_reads_k2 C hI.1 hI.2.1 rfl (by omega) hA hB hk2
    · exact lp_reads_k3 C hI.1 hI.2.1 rfl (by omega) hA hB hk2
    · exact lp_reads_k4 C hI.1 hI.2.1 rfl (by omega) hA hB hk2
    · exact lp_reads_k5 C hI.1 hI.2.1 rfl (by omega) hA hB hk2
    · exact lp_reads_k6 C hI.1 hI.2.1 rfl (by omega) hA hB hk2
    · exact lp_reads_k7 C hI.1 hI.2.1 rfl (by omega) hA hB hk2
    · exact lp_reads_k8 C hI.1 hI.2.1 rfl (by omega) hA hB hk2
    · exact lp_reads_k9 C hI.1 hI.2.1 rfl (by omega) hA hB hk2
    · exact lp_reads_k10 C hI.1 hI.2.1 rfl (by omega) hA hB hk2
  · refine vx_aload_n C 0 dL_reads_177 rfl rfl ?_
    refine vx_bipush (v := 44) C dL_reads_178 (by decide) ?_
    refine vx_callVIP C [.int 44] (c_X8_type Mi hI.1.1 hI.1.2.1 hI.1.2.2.1 44) sh_144 rfl (cwV 1 C.1.2.2.2.2 gL_reads_X8_type rfl rfl rfl (by decide +kernel) ⟨Nat.le_of_ble_eq_true rfl, Nat.le_of_ble_eq_true rfl⟩) rfl rfl rfl (Nat.le_of_ble_eq_true rfl) dL_reads_180 ⟨Nat.le_of_ble_eq_true rfl, Nat.le_of_ble_eq_true rfl⟩ (fun x_5 M_6 h_7 => ?_)
    obtain ⟨e_33, hi_33, ht_33, hn_33, hs_33⟩ := ty_step (c := 44) hI.1 hI.2.1 rfl (by omega) (by omega) (by omega) h_7
    refine vx_top (y := nI ((txC Cs).length + 1)) e_33 ?_
    refine vx_nif_le C ((txC Cs).length + 1) 305 dL_reads_183 (by decide) (by omega) (fun h_8 => absurd h_8 (by omega)) (fun h_9 => ?_)
    have eT : txC (Cs ++ [(kd, one, two)]) = (txC Cs ++ [44]) ++ celW (kd, one, two) := by rw [txC_snoc, show sepW Cs = [44] from if_neg (fun z => h_i (by rw [← hCs, z]; rfl))]
    have hk2 : ∀ M2, invV M2 → txP M2 ((txC Cs) ++ [44] ++ celW (kd, one, two)) → stP M_6 M2 → vx p l e ({ frames := 7, cells := 2, slots := 7, locals := 161 } : Room) s m args below meth c G A 0 0 Q M2 X 416 [some (.ref (G.1 144)), some (.ref (G.1 145)), some (.ref (G.1 146)), some (.ref (G.1 147)), some (.ref (G.1 148)), some (.ref (G.1 149)), some (.int (nI y)), some (.int (nI d)), some (.int (nI cl)), some (.int 1), some (.int (nI cn)), some (.int (nI i)), some (.int (nI kd)), some (.int (nI one)), some (.int (nI two))] [] := fun M2 h1 h2 h3 => hk (kd, one, two) M2 ⟨hA, hB⟩ h1 (by rw [eT]; exact h2) (hs_33.tr h3)
    rcases kd11 hA.1 with rfl | rfl | rfl | rfl | rfl | rfl | rfl | rfl | rfl | rfl | rfl
    · exact lp_reads_k0 C hi_33 ht_33 hn_33 (by omega) hA hB hk2
    · exact lp_reads_k1 C hi_33 ht_33 hn_33 (by omega) hA hB hk2
    · exact lp_reads_k2 C hi_33 ht_33 hn_33 (by omega) hA hB hk2
    · exact lp_reads_k3 C hi_33 ht_33 hn_33 (by omega) hA hB hk2
    · exact lp_reads_k4 C hi_33 ht_33 hn_33 (by omega) hA hB hk2
    · exact lp_reads_k5 C hi_33 ht_33 hn_33 (by omega) hA hB hk2
    · exact lp_reads_k6 C hi_33 ht_33 hn_33 (by omega) hA hB hk2
    · exact lp_reads_k7 C hi_33 ht_33 hn_33 (by omega) hA hB hk2
    · exact lp_reads_k8 C hi_33 ht_33 hn_33 (by omega) hA hB hk2
    · exact lp_reads_k9 C hi_33 ht_33 hn_33 (by omega) hA hB hk2
    · exact lp_reads_k10 C hi_33 ht_33 hn_33 (by omega) hA hB hk2
set_option maxRecDepth 100000 in
set_option maxHeartbeats 4000000 in
theorem lp_reads_t {p : Program} {l : Launch} {e : Env} {s : State} {m : MethodId} {args : Array Value} {below : List Frame} {meth : Method} {c : Code} {G : mw_GG} {A : Nat → Prop} {Q : State → Prop} (C : vx_C p s m args c G A cL_reads 15 wsL_reads RL) {X : va_W} {y : Nat} (hy : y < 10000000) {d cl cn i : Nat} {M Mi S : mw_M} {Cs : List ceT} (hI : rdQ M Mi S Cs) (hCs : Cs.length = i) (hi4 : i < 4) {kd one : Nat} (hA : okA kd one) (hk : ∀ z M2, okC z → invV M2 → txP M2 (txC (Cs ++ [z])) → stP Mi M2 → vx p l e ({ frames := 7, cells := 2, slots := 7, locals := 161 } : Room) s m args below meth c G A 0 0 Q M2 X 416 [some (.ref (G.1 144)), some (.ref (G.1 145)), some (.ref (G.1 146)), some (.ref (G.1 147)), some (.ref (G.1 148)), some (.ref (G.1 149)), some (.int (nI y)), some (.int (nI d)), some (.int (nI cl)), some (.int 1), some (.int (nI cn)), some (.int (nI i)), some (.int (nI z.1)), some (.int (nI z.2.1)), some (.int (nI z.2.2))] []) : vx p l e ({ frames := 7, cells := 2, slots := 7, locals := 161 } : Room) s m args below meth c G A 0 0 Q Mi X 125 [some (.ref (G.1 144)), some (.ref (G.1 145)), some (.ref (G.1 146)), some (.ref (G.1 147)), some (.ref (G.1 148)), some (.ref (G.1 149)), some (.int (nI y)), some (.int (nI d)), some (.int (nI cl)), some (.int 1), some (.int (nI cn)), some (.int (nI i)), some (.int (nI kd)), some (.int (nI one)), none] [] := by
  have hq := div_lt (k := 11 + i) hy
  obtain ⟨hA0, hA1, hA2, hA3⟩ := id hA
  refine vx_iload C 12 dL_reads_125 rfl ?_
  refine vx_bipush (v := 7) C dL_reads_127 (by decide) ?_
  refine vx_ncmp_ne C kd 7 148 dL_reads_129 (by decide) (by omega) (by decide) (fun h_1 => ?_) (fun h_2 => ?_)
  · refine vx_iconst (v := 0) C dL_reads_148 (by decide) ?_
    refine vx_istore (ls2 := [some (.ref (G.1 144)), some (.ref (G.1 145)), some (.ref (G.1 146)), some (.ref (G.1 147)), some (.ref (G.1 148)), some (.ref (G.1 149)), some (.int (nI y)), some (.int (nI d)), some (.int (nI cl)), some (.int 1), some (.int (nI cn)), some (.int (nI i)), some (.int (nI kd)), some (.int (nI one)), some (.int 0)]) C 14 dL_reads_149 (Nat.le_of_ble_eq_true rfl) rfl ?_
    refine vx_iload C 14 dL_reads_151 rfl ?_
    refine vx_bipush (v := 99) C dL_reads_153 (by decide) ?_
    refine vx_ncmp_le C 0 99 163 dL_reads_155 (by decide) (by decide) (by decide) (fun h_4 => ?_) (fun h_3 => absurd h_3 (by decide))
    refine vx_iload C 14 dL_reads_163 rfl ?_
    refine vx_istore (ls2 := [some (.ref (G.1 144)), some (.ref (G.1 145)), some (.ref (G.1 146)), some (.ref (G.1 147)), some (.ref (G.1 148)), some (.ref (G.1 149)), some (.int (nI y)), some (.int (nI d)), some (.int (nI cl)), some (.int 1), some (.int (nI cn)), some (.int (nI i)), some (.int (nI kd)), some (.int (nI one)), some (.int 0)]) C 14 dL_reads_165 (Nat.le_of_ble_eq_true rfl) rfl ?_
    refine vx_keep (ls2 := [some (.ref (G.1 144)), some (.ref (G.1 145)), some (.ref (G.1 146)), some (.ref (G.1 147)), some (.ref (G.1 148)), some (.ref (G.1 149)), some (.int (nI y)), some (.int (nI d)), some (.int (nI cl)), some (.int 1), some (.int (nI cn)), some (.int (nI i)), some (.int (nI kd)), some (.int (nI one)), some (.int 0)]) ⟨rfl, rfl, rfl, rfl, rfl, rfl, rfl, rfl, rfl, rfl, rfl, rfl, rfl, rfl, rfl, trivial⟩ ?_
    exact lp_reads_b C hI hCs hi4 (two := 0) hA ⟨fun _ => ⟨by omega, by omega⟩, fun z => by omega⟩ hk
  · refine vx_iload C 13 dL_reads_132 rfl ?_
    refine vx_iload C 6 dL_reads_134 rfl ?_
    refine vx_bipush (v := 11) C dL_reads_136 (by decide) ?_
    refine vx_iload C 11 dL_reads_138 rfl ?_
    refine vx_iadd C dL_reads_140 ?_
    refine vx_top (y := nI (11 + i)) (nI_add 11 i) ?_
    refine vx_idiv C dL_reads_141 (nI_ne0 (by omega) (by omega)) ?_
    refine vx_top (y := nI (y / (11 + i))) (pk_div (a := y) (d := 11 + i) (by omega) (by omega) (by omega)) ?_
    refine vx_iconst (v := 4) C dL_reads_142 (by decide) ?_
    refine vx_irem C dL_reads_143 (by decide) ?_
    refine vx_top (y := nI ((y / (11 + i)) % 4)) (pk_rem (a := y / (11 + i)) (d := 4) (by omega) (by omega) (by omega)) ?_
    refine vx_iadd C dL_reads_144 ?_
    refine vx_top (y := nI (one + ((y / (11 + i)) % 4))) (nI_add one ((y / (11 + i)) % 4)) ?_
    refine vx_goto C 149 dL_reads_145 (by decide) ?_
    refine vx_istore (ls2 := [some (.ref (G.1 144)), some (.ref (G.1 145)), some (.ref (G.1 146)), some (.ref (G.1 147)), some (.ref (G.1 148)), some (.ref (G.1 149)), some (.int (nI y)), some (.int (nI d)), some (.int (nI cl)), some (.int 1), some (.int (nI cn)), some (.int (nI i)), some (.int (nI kd)), some (.int (nI one)), some (.int (nI (one + ((y / (11 + i)) % 4))))]) C 14 dL_reads_149 (Nat.le_of_ble_eq_true rfl) rfl ?_
    refine vx_iload C 14 dL_reads_151 rfl ?_
    refine vx_bipush (v := 99) C dL_reads_153 (by decide) ?_
    refine vx_ncmp_le C (one + ((y / (11 + i)) % 4)) 99 163 dL_reads_155 (by decide) (by omega) (by decide) (fun h_5 => ?_) (fun h_6 => ?_)
    · refine vx_iload C 14 dL_reads_163 rfl ?_
      refine vx_istore (ls2 := [some (.ref (G.1 144)), some (.ref (G.1 145)), some (.ref (G.1 146)), some (.ref (G.1 147)), some (.ref (G.1 148)), some (.ref (G.1 149)), some (.int (nI y)), some (.int (nI d)), some (.int (nI cl)), some (.int 1), some (.int (nI cn)), some (.int (nI i)), some (.int (nI kd)), some (.int (nI one)), some (.int (nI (one + ((y / (11 + i)) % 4))))]) C 14 dL_reads_165 (Nat.le_of_ble_eq_true rfl) rfl ?_
      refine vx_keep (ls2 := [some (.ref (G.1 144)), some (.ref (G.1 145)), some (.ref (G.1 146)), some (.ref (G.1 147)), some (.ref (G.1 148)), some (.ref (G.1 149)), some (.int (nI y)), some (.int (nI d)), some (.int (nI cl)), some (.int 1), some (.int (nI cn)), some (.int (nI i)), some (.int (nI kd)), some (.int (nI one)), some (.int (nI (one + ((y / (11 + i)) % 4))))]) ⟨rfl, rfl, rfl, rfl, rfl, rfl, rfl, rfl, rfl, rfl, rfl, rfl, rfl, rfl, rfl, trivial⟩ ?_
      exact lp_reads_b C hI hCs hi4 (two := one + ((y / (11 + i)) % 4)) hA ⟨fun _ => ⟨by omega, by omega⟩, fun z => by omega⟩ hk
    · refine vx_bipush (v := 99) C dL_reads_158 (by decide) ?_
      refine vx_goto C 165 dL_reads_160 (by decide) ?_
      refine vx_istore (ls2 := [some (.ref (G.1 144)), some (.ref (G.1 145)), some (.ref (G.1 146)), some (.ref (G.1 147)), some (.ref (G.1 148)), some (.ref (G.1 149)), some (.int (nI y)), some (.int (nI d)), some (.int (nI cl)), some (.int 1), some (.int (nI cn)), some (.int (nI i)), some (.int (nI kd)), some (.int (nI one)), some (.int 99)]) C 14 dL_reads_165 (Nat.le_of_ble_eq_true rfl) rfl ?_
      refine vx_keep (ls2 := [some (.ref (G.1 144)), some (.ref (G.1 145)), some (.ref (G.1 146)), some (.ref (G.1 147)), some (.ref (G.1 148)), some (.ref (G.1 149)), some (.int (nI y)), some (.int (nI d)), some (.int (nI cl)), some (.int 1), some (.int (nI cn)), some (.int (nI i)), some (.int (nI kd)), some (.int (nI one)), some (.int 99)]) ⟨rfl, rfl, rfl, rfl, rfl, rfl, rfl, rfl, rfl, rfl, rfl, rfl, rfl, rfl, rfl, trivial⟩ ?_
      exact lp_reads_b C hI hCs hi4 (two := 99) hA ⟨fun _ => ⟨by omega, by omega⟩, fun z => by omega⟩ hk
set_option maxRecDepth 100000 in
set_option maxHeartbeats 4000000 in
theorem lp_reads_c {p : Program} {l : Launch} {e : Env} {s : State} {m : MethodId} {args : Array Value} {below : List Frame} {meth : Method} {c : Code} {G : mw_GG} {A : Nat → Prop} {Q : State → Prop} (C : vx_C p s m args c G A cL_reads 15 wsL_reads RL) {X : va_W} {y : Nat} (hy : y < 10000000) {d cl cn i : Nat} {M Mi S : mw_M} {Cs : List ceT} (hI : rdQ M Mi S Cs) (hCs : Cs.length = i) (hi4 : i < 4) (hk : ∀ z M2, okC z → invV M2 → txP M2 (txC (Cs ++ [z])) → stP Mi M2 → vx p l e ({ frames := 7, cells := 2, slots := 7, locals := 161 } : Room) s m args below meth c G A 0 0 Q M2 X 416 [some (.ref (G.1 144)), some (.ref (G.1 145)), some (.ref (G.1 146)), some (.ref (G.1 147)), some (.ref (G.1 148)), some (.ref (G.1 149)), some (.int (nI y)), some (.int (nI d)), some (.int (nI cl)), some (.int 1), some (.int (nI cn)), some (.int (nI i)), some (.int (nI z.1)), some (.int (nI z.2.1)), some (.int (nI z.2.2))] []) : vx p l e ({ frames := 7, cells := 2, slots := 7, locals := 161 } : Room) s m args below meth c G A 0 0 Q Mi X 56 [some (.ref (G.1 144)), some (.ref (G.1 145)), some (.ref (G.1 146)), some (.ref (G.1 147)), some (.ref (G.1 148)), some (.ref (G.1 149)), some (.int (nI y)), some (.int (nI d)), some (.int (nI cl)), some (.int 1), some (.int (nI cn)), some (.int (nI i)), none, none, none] [] := by
  have hq := div_lt (k := 7 + i) hy
  have hq3 := div_lt (k := 3 + 5 * i) hy
  obtain ⟨kd, hkd, ekd⟩ : ∃ kd, kd < 11 ∧ y / (3 + 5 * i) % 11 = kd := ⟨_, Nat.mod_lt _ (by decide), rfl⟩
  refine vx_iload C 6 dL_reads_56 rfl ?_
  refine vx_iconst (v := 3) C dL_reads_58 (by decide) ?_
  refine vx_iconst (v := 5) C dL_reads_59 (by decide) ?_
  refine vx_iload C 11 dL_reads_60 rfl ?_
  refine vx_imul C dL_reads_62 ?_
  refine vx_top (y := nI (5 * i)) (pk_mul 5 i) ?_
  refine vx_iadd C dL_reads_63 ?_
  refine vx_top (y := nI (3 + (5 * i))) (nI_add 3 (5 * i)) ?_
  refine vx_idiv C dL_reads_64 (nI_ne0 (by omega) (by omega)) ?_
  refine vx_top (y := nI (y / (3 + (5 * i)))) (pk_div (a := y) (d := 3 + (5 * i)) (by omega) (by omega) (by omega)) ?_
  refine vx_bipush (v := 11) C dL_reads_65 (by decide) ?_
  refine vx_irem C dL_reads_67 (by decide) ?_
  refine vx_top (y := nI kd) ((pk_rem (a := y / (3 + 5 * i)) (d := 11) (by omega) (by omega) (by omega)).trans (congrArg nI ekd)) ?_
  refine vx_istore (ls2 := [some (.ref (G.1 144)), some (.ref (G.1 145)), some (.ref (G.1 146)), some (.ref (G.1 147)), some (.ref (G.1 148)), some (.ref (G.1 149)), some (.int (nI y)), some (.int (nI d)), some (.int (nI cl)), some (.int 1), some (.int (nI cn)), some (.int (nI i)), some (.int (nI kd)), none, none]) C 12 dL_reads_68 (Nat.le_of_ble_eq_true rfl) rfl ?_
  refine vx_iload C 12 dL_reads_70 rfl ?_
  refine vx_iconst (v := 3) C dL_reads_72 (by decide) ?_
  refine vx_ncmp_ge C kd 3 80 dL_reads_73 (by decide) (by omega) (by decide) (fun h_1 => ?_) (fun h_2 => ?_)
  · refine vx_iload C 12 dL_reads_80 rfl ?_
    refine vx_bipush (v := 7) C dL_reads_82 (by decide) ?_
    refine vx_ncmp_le C kd 7 100 dL_reads_84 (by decide) (by omega) (by decide) (fun h_3 => ?_) (fun h_4 => ?_)
    · refine vx_iload C 6 dL_reads_100 rfl ?_
      refine vx_bipush (v := 7) C dL_reads_102 (by decide) ?_
      refine vx_iload C 11 dL_reads_104 rfl ?_
      refine vx_iadd C dL_reads_106 ?_
      refine vx_top (y := nI (7 + i)) (nI_add 7 i) ?_
      refine vx_idiv C dL_reads_107 (nI_ne0 (by omega) (by omega)) ?_
      refine vx_top (y := nI (y / (7 + i))) (pk_div (a := y) (d := 7 + i) (by omega) (by omega) (by omega)) ?_
      refine vx_iload C 6 dL_reads_108 rfl ?_
      refine vx_iconst (v := 3) C dL_reads_110 (by decide) ?_
      refine vx_irem C dL_reads_111 (by decide) ?_
      refine vx_top (y := nI (y % 3)) (pk_rem (a := y) (d := 3) (by omega) (by omega) (by omega)) ?_
      refine vx_nif_ne C (y % 3) 120 dL_reads_112 (by decide) (by omega) (fun h_5 => ?_) (fun h_6 => ?_)
      · refine vx_bipush (v := 6) C dL_reads_120 (by decide) ?_
        refine vx_irem C dL_reads_122 (by decide) ?_
        refine vx_top (y := nI ((y / (7 + i)) % 6)) (pk_rem (a := y / (7 + i)) (d := 6) (by omega) (by omega) (by omega)) ?_
        refine vx_istore (ls2 := [some (.ref (G.1 144)), some (.ref (G.1 145)), some (.ref (G.1 146)), some (.ref (G.1 147)), some (.ref (G.1 148)), some (.ref (G.1 149)), some (.int (nI y)), some (.int (nI d)), some (.int (nI cl)), some (.int 1), some (.int (nI cn)), some (.int (nI i)), some (.int (nI kd)), some (.int (nI ((y / (7 + i)) % 6))), none]) C 13 dL_reads_123 (Nat.le_of_ble_eq_true rfl) rfl ?_
        refine vx_keep (ls2 := [some (.ref (G.1 144)), some (.ref (G.1 145)), some (.ref (G.1 146)), some (.ref (G.1 147)), some (.ref (G.1 148)), some (.ref (G.1 149)), some (.int (nI y)), some (.int (nI d)), some (.int (nI cl)), some (.int 1), some (.int (nI cn)), some (.int (nI i)), some (.int (nI kd)), some (.int (nI ((y / (7 + i)) % 6))), none]) ⟨rfl, rfl, rfl, rfl, rfl, rfl, rfl, rfl, rfl, rfl, rfl, rfl, rfl, rfl, trivial⟩ ?_
        exact lp_reads_t C hy hI hCs hi4 (one := (y / (7 + i)) % 6) ⟨by omega, by omega, by omega, by omega⟩ hk
      · refine vx_bipush (v := 100) C dL_reads_115 (by decide) ?_
        refine vx_goto C 122 dL_reads_117 (by decide) ?_
        refine vx_irem C dL_reads_122 (by decide) ?_
        refine vx_top (y := nI ((y / (7 + i)) % 100)) (pk_rem (a := y / (7 + i)) (d := 100) (by omega) (by omega) (by omega)) ?_
        refine vx_istore (ls2 := [some (.ref (G.1 144)), some (.ref (G.1 145)), some (.ref (G.1 146)), some (.ref (G.1 147)), some (.ref (G.1 148)), some (.ref (G.1 149)), some (.int (nI y)), some (.int (nI d)), some (.int (nI cl)), some (.int 1), some (.int (nI cn)), some (.int (nI i)), some (.int (nI kd)), some (.int (nI ((y / (7 + i)) % 100))), none]) C 13 dL_reads_123 (Nat.le_of_ble_eq_true rfl) rfl ?_
        refine vx_keep (ls2 := [some (.ref (G.1 144)), some (.ref (G.1 145)), some (.ref (G.1 146)), some (.ref (G.1 147)), some (.ref (G.1 148)), some (.ref (G.1 149)), some (.int (nI y)), some (.int (nI d)), some (.int (nI cl)), some (.int 1), some (.int (nI cn)), some (.int (nI i)), some (.int (nI kd)), some (.int (nI ((y / (7 + i)) % 100))), none]) ⟨rfl, rfl, rfl, rfl, rfl, rfl, rfl, rfl, rfl, rfl, rfl, rfl, rfl, rfl, trivial⟩ ?_
        exact lp_reads_t C hy hI hCs hi4 (one := (y / (7 + i)) % 100) ⟨by omega, by omega, by omega, by omega⟩ hk
    · refine vx_iload C 6 dL_reads_87 rfl ?_
      refine vx_bipush (v := 7) C dL_reads_89 (by decide) ?_
      refine vx_iload C 11 dL_reads_91 rfl ?_
      refine vx_iadd C dL_reads_93 ?_
      refine vx_top (y := nI (7 + i)) (nI_add 7 i) ?_
      refine vx_idiv C dL_reads_94 (nI_ne0 (by omega) (by omega)) ?_
      refine vx_top (y := nI (y / (7 + i))) (pk_div (a := y) (d := 7 + i) (by omega) (by omega) (by omega)) ?_
      refine vx_iconst (v := 4) C dL_reads_95 (by decide) ?_
      refine vx_irem C dL_reads_96 (by decide) ?_
      refine vx_top (y := nI ((y / (7 + i)) % 4)) (pk_rem (a := y / (7 + i)) (d := 4) (by omega) (by omega) (by omega)) ?_
      refine vx_goto C 123 dL_reads_97 (by decide) ?_
      refine vx_istore (ls2 := [some (.ref (G.1 144)), some (.ref (G.1 145)), some (.ref (G.1 146)), some (.ref (G.1 147)), some (.ref (G.1 148)), some (.ref (G.1 149)), some (.int (nI y)), some (.int (nI d)), some (.int (nI cl)), some (.int 1), some (.int (nI cn)), some (.int (nI i)), some (.int (nI kd)), some (.int (nI ((y / (7 + i)) % 4))), none]) C 13 dL_reads_123 (Nat.le_of_ble_eq_true rfl) rfl ?_
      refine vx_keep (ls2 := [some (.ref (G.1 144)), some (.ref (G.1 145)), some (.ref (G.1 146)), some (.ref (G.1 147)), some (.ref (G.1 148)), some (.ref (G.1 149)), some (.int (nI y)), some (.int (nI d)), some (.int (nI cl)), some (.int 1), some (.int (nI cn)), some (.int (nI i)), some (.int (nI kd)), some (.int (nI ((y / (7 + i)) % 4))), none]) ⟨rfl, rfl, rfl, rfl, rfl, rfl, rfl, rfl, rfl, rfl, rfl, rfl, rfl, rfl, trivial⟩ ?_
      exact lp_reads_t C hy hI hCs hi4 (one := (y / (7 + i)) % 4) ⟨by omega, by omega, by omega, by omega⟩ hk
  · refine vx_iconst (v := 0) C dL_reads_76 (by decide) ?_
    refine vx_goto C 123 dL_reads_77 (by decide) ?_
    refine vx_istore (ls2 := [some (.ref (G.1 144)), some (.ref (G.1 145)), some (.ref (G.1 146)), some (.ref (G.1 147)), some (.ref (G.1 148)), some (.ref (G.1 149)), some (.int (nI y)), some (.int (nI d)), some (.int (nI cl)), some (.int 1), some (.int (nI cn)), some (.int (nI i)), some (.int (nI kd)), some (.int 0), none]) C 13 dL_reads_123 (Nat.le_of_ble_eq_true rfl) rfl ?_
    refine vx_keep (ls2 := [some (.ref (G.1 144)), some (.ref (G.1 145)), some (.ref (G.1 146)), some (.ref (G.1 147)), some (.ref (G.1 148)), some (.ref (G.1 149)), some (.int (nI y)), some (.int (nI d)), some (.int (nI cl)), some (.int 1), some (.int (nI cn)), some (.int (nI i)), some (.int (nI kd)), some (.int 0), none]) ⟨rfl, rfl, rfl, rfl, rfl, rfl, rfl, rfl, rfl, rfl, rfl, rfl, rfl, rfl, trivial⟩ ?_
    exact lp_reads_t C hy hI hCs hi4 (one := 0) ⟨by omega, by omega, by omega, by omega⟩ hk
set_option maxRecDepth 100000 in
set_option maxHeartbeats 4000000 in
theorem lp_reads_s {p : Program} {l : Launch} {e : Env} {s : State} {m : MethodId} {args : Array Value} {below : List Frame} {meth : Method} {c : Code} {G : mw_GG} {A : Nat → Prop} {Q : State → Prop} (C : vx_C p s m args c G A cL_reads 15 wsL_reads RL) {X : va_W} {y d cl cn i : Nat} (hd : d < 2) (hcn : cn ≤ 1) {M Mi M2 : mw_M} {Cs : List ceT} (hI : rdQ M Mi (if cn = 0 then M else setC M d (ceF Cs) i) Cs) (hCs : Cs.length = i) (hi4 : i < 4) {z : ceT} (hz : okC z) (h1 : invV M2) (h2 : txP M2 (txC (Cs ++ [z]))) (h3 : stP Mi M2) (hn2 : ∀ M3, rdQ M M3 (if cn = 0 then M else setC M d (ceF (Cs ++ [z])) (i + 1)) (Cs ++ [z]) → vx p l e ({ frames := 7, cells := 2, slots := 7, locals := 161 } : Room) s m args below meth c G A 0 0 Q M3 X 49 [some (.ref (G.1 144)), some (.ref (G.1 145)), some (.ref (G.1 146)), some (.ref (G.1 147)), some (.ref (G.1 148)), some (.ref (G.1 149)), some (.int (nI y)), some (.int (nI d)), some (.int (nI cl)), some (.int 1), some (.int (nI cn)), some (.int (nI (i + 1))), none, none, none] []) : vx p l e ({ frames := 7, cells := 2, slots := 7, locals := 161 } : Room) s m args below meth c G A 0 0 Q M2 X 416 [some (.ref (G.1 144)), some (.ref (G.1 145)), some (.ref (G.1 146)), some (.ref (G.1 147)), some (.ref (G.1 148)), some (.ref (G.1 149)), some (.int (nI y)), some (.int (nI d)), some (.int (nI cl)), some (.int 1), some (.int (nI cn)), some (.int (nI i)), some (.int (nI z.1)), some (.int (nI z.2.1)), some (.int (nI z.2.2))] [] := by
  refine vx_iload C 10 dL_reads_416 rfl ?_
  refine vx_nif_eq C cn 456 dL_reads_418 (by decide) (by omega) (fun h_0 => ?_) (fun h_1 => ?_)
  · refine vx_iinc (v := nI (i + 1)) (ls2 := [some (.ref (G.1 144)), some (.ref (G.1 145)), some (.ref (G.1 146)), some (.ref (G.1 147)), some (.ref (G.1 148)), some (.ref (G.1 149)), some (.int (nI y)), some (.int (nI d)), some (.int (nI cl)), some (.int 1), some (.int (nI cn)), some (.int (nI (i + 1))), some (.int (nI z.1)), some (.int (nI z.2.1)), some (.int (nI z.2.2))]) C 11 dL_reads_456 rfl (nI_add i 1) rfl ?_
    refine vx_goto C 49 dL_reads_459 (by decide) ?_
    refine vx_keep (ls2 := [some (.ref (G.1 144)), some (.ref (G.1 145)), some (.ref (G.1 146)), some (.ref (G.1 147)), some (.ref (G.1 148)), some (.ref (G.1 149)), some (.int (nI y)), some (.int (nI d)), some (.int (nI cl)), some (.int 1), some (.int (nI cn)), some (.int (nI (i + 1))), none, none, none]) ⟨rfl, rfl, rfl, rfl, rfl, rfl, rfl, rfl, rfl, rfl, rfl, rfl, trivial⟩ ?_
    have hI0 : rdQ M Mi M Cs := by rw [if_pos h_0] at hI; exact hI
    exact hn2 _ (by rw [if_pos h_0]; exact hI0.add0 hz h1 h2 h3)
  · refine vx_aload_n C 3 dL_reads_421 rfl rfl ?_
    refine vx_iconst (v := 4) C dL_reads_422 (by decide) ?_
    refine vx_iload C 7 dL_reads_423 rfl ?_
    refine vx_imul C dL_reads_425 ?_
    refine vx_top (y := nI (4 * d)) (pk_mul 4 d) ?_
    refine vx_iload C 11 dL_reads_426 rfl ?_
    refine vx_iadd C dL_reads_428 ?_
    refine vx_top (y := nI (4 * d + i)) (nI_add (4 * d) i) ?_
    refine vx_iload C 12 dL_reads_429 rfl ?_
    refine vx_ast (j := 4 * d + i) (q := 1300 + (4 * d + i)) C sh_147 rfl (by omega) (by omega) dL_reads_431 ?_
    refine vx_aload C 4 dL_reads_432 rfl ?_
    refine vx_iconst (v := 4) C dL_reads_434 (by decide) ?_
    refine vx_iload C 7 dL_reads_435 rfl ?_
    refine vx_imul C dL_reads_437 ?_
    refine vx_top (y := nI (4 * d)) (pk_mul 4 d) ?_
    refine vx_iload C 11 dL_reads_438 rfl ?_
    refine vx_iadd C dL_reads_440 ?_
    refine vx_top (y := nI (4 * d + i)) (nI_add (4 * d) i) ?_
    refine vx_iload C 13 dL_reads_441 rfl ?_
    refine vx_ast (j := 4 * d + i) (q := 1310 + (4 * d + i)) C sh_148 rfl (by omega) (by omega) dL_reads_443 ?_
    refine vx_aload C 5 dL_reads_444 rfl ?_
    refine vx_iconst (v := 4) C dL_reads_446 (by decide) ?_
    refine vx_iload C 7 dL_reads_447 rfl ?_
    refine vx_imul C dL_reads_449 ?_
    refine vx_top (y := nI (4 * d)) (pk_mul 4 d) ?_
    refine vx_iload C 11 dL_reads_450 rfl ?_
    refine vx_iadd C dL_reads_452 ?_
    refine vx_top (y := nI (4 * d + i)) (nI_add (4 * d) i) ?_
    refine vx_iload C 14 dL_reads_453 rfl ?_
    refine vx_ast (j := 4 * d + i) (q := 1320 + (4 * d + i)) C sh_149 rfl (by omega) (by omega) dL_reads_455 ?_
    refine vx_iinc (v := nI (i + 1)) (ls2 := [some (.ref (G.1 144)), some (.ref (G.1 145)), some (.ref (G.1 146)), some (.ref (G.1 147)), some (.ref (G.1 148)), some (.ref (G.1 149)), some (.int (nI y)), some (.int (nI d)), some (.int (nI cl)), some (.int 1), some (.int (nI cn)), some (.int (nI (i + 1))), some (.int (nI z.1)), some (.int (nI z.2.1)), some (.int (nI z.2.2))]) C 11 dL_reads_456 rfl (nI_add i 1) rfl ?_
    refine vx_goto C 49 dL_reads_459 (by decide) ?_
    refine vx_keep (ls2 := [some (.ref (G.1 144)), some (.ref (G.1 145)), some (.ref (G.1 146)), some (.ref (G.1 147)), some (.ref (G.1 148)), some (.ref (G.1 149)), some (.int (nI y)), some (.int (nI d)), some (.int (nI cl)), some (.int 1), some (.int (nI cn)), some (.int (nI (i + 1))), none, none, none]) ⟨rfl, rfl, rfl, rfl, rfl, rfl, rfl, rfl, rfl, rfl, rfl, rfl, trivial⟩ ?_
    have hI0 : rdQ M Mi (setC M d (ceF Cs) i) Cs := by rw [if_neg h_1] at hI; exact hI
    exact hn2 _ (by rw [if_neg h_1]; exact hI0.add1 hd hi4 hCs hz h1 h2 h3)
set_option maxRecDepth 100000 in
set_option maxHeartbeats 4000000 in
theorem lp_reads_l {p : Program} {l : Launch} {e : Env} {s : State} {m : MethodId} {args : Array Value} {below : List Frame} {meth : Method} {c : Code} {G : mw_GG} {A : Nat → Prop} {Q : State → Prop} (C : vx_C p s m args c G A cL_reads 15 wsL_reads RL) {X : va_W} {y d cl cn : Nat} (hy : y < 10000000) (hd : d < 2) (hcl : cl ≤ 4) (hcn : cn ≤ 1) {M : mw_M} (hk : ∀ Mi Cs, Cs.length = cl → rdQ M Mi (if cn = 0 then M else setC M d (ceF Cs) cl) Cs → vx p l e ({ frames := 7, cells := 2, slots := 7, locals := 161 } : Room) s m args below meth c G A 0 0 Q Mi X 462 [some (.ref (G.1 144)), some (.ref (G.1 145)), some (.ref (G.1 146)), some (.ref (G.1 147)), some (.ref (G.1 148)), some (.ref (G.1 149)), some (.int (nI y)), some (.int (nI d)), some (.int (nI cl)), some (.int 1), some (.int (nI cn)), none, none, none, none] []) : ∀ (n i : Nat) (Mi : mw_M) (Cs : List ceT), cl + 1 ≤ i + n → i ≤ cl → Cs.length = i → rdQ M Mi (if cn = 0 then M else setC M d (ceF Cs) i) Cs → vx p l e ({ frames := 7, cells := 2, slots := 7, locals := 161 } : Room) s m args below meth c G A 0 0 Q Mi X 49 [some (.ref (G.1 144)), some (.ref (G.1 145)), some (.ref (G.1 146)), some (.ref (G.1 147)), some (.ref (G.1 148)), some (.ref (G.1 149)), some (.int (nI y)), some (.int (nI d)), some (.int (nI cl)), some (.int 1), some (.int (nI cn)), some (.int (nI i)), none, none, none] [] := by
  intro n
  induction n with
  | zero => intro i Mi Cs h1 h2 _ _; omega
  | succ n ih =>
    intro i Mi Cs h1 h2 hCs hI
    refine vx_iload C 11 dL_reads_49 rfl ?_
    refine vx_iload C 8 dL_reads_51 rfl ?_
    refine vx_ncmp_ge C i cl 462 dL_reads_53 (by decide) (by omega) (by omega) (fun h_ge => ?_) (fun h_lt => ?_)
    · refine vx_keep (ls2 := [some (.ref (G.1 144)), some (.ref (G.1 145)), some (.ref (G.1 146)), some (.ref (G.1 147)), some (.ref (G.1 148)), some (.ref (G.1 149)), some (.int (nI y)), some (.int (nI d)), some (.int (nI cl)), some (.int 1), some (.int (nI cn)), none, none, none, none]) ⟨rfl, rfl, rfl, rfl, rfl, rfl, rfl, rfl, rfl, rfl, rfl, trivial⟩ ?_
      have e : i = cl := by omega
      subst e
      exact hk Mi Cs hCs hI
    · exact lp_reads_c C hy hI hCs (by omega) (fun z M2 hz h1 h2 h3 => lp_reads_s C hd hcn hI hCs (by omega) hz h1 h2 h3 (fun M3 h4 => ih (i + 1) M3 (Cs ++ [z]) (by omega) (by omega) (by rw [List.length_append, hCs]; rfl) h4))
set_option maxRecDepth 100000 in
set_option maxHeartbeats 4000000 in
theorem lp_reads_z0 {p : Program} {l : Launch} {e : Env} {s : State} {m : MethodId} {args : Array Value} {below : List Frame} {meth : Method} {c : Code} {G : mw_GG} {A : Nat → Prop} (C : vx_C p s m args c G A cL_reads 15 wsL_reads RL) {X : va_W} (hR : vv_R meth (some .boolean)) {M : mw_M} (h : linv M) {y d cl wd : Nat} (hd : d < 2) (hcl1 : 1 ≤ cl) (hcl4 : cl ≤ 4) (hwd : M d = nI wd) (hw4 : wd ≤ 4) {Cs : List ceT} (hCs : Cs.length = cl) (hlt : wd < cl) {Mi : mw_M} (hI : rdQ M Mi M Cs) : vx p l e ({ frames := 7, cells := 2, slots := 7, locals := 161 } : Room) s m args below meth c G A 0 0 (mx_E below args s G A (xI_P (fun r M2 X2 => r = 1 ∧ linv M2 ∧ X2 = X)) 2 7) Mi X 515 [some (.ref (G.1 144)), some (.ref (G.1 145)), some (.ref (G.1 146)), some (.ref (G.1 147)), some (.ref (G.1 148)), some (.ref (G.1 149)), some (.int (nI y)), some (.int (nI d)), some (.int (nI cl)), some (.int 1), some (.int 0), none, none, none, none] [] := by
  have hp := hI.prs (by omega) (by omega)
  have hln := txC_len Cs hI.2.2.1
  have hps := txC_pos Cs hI.2.2.1 (by omega)
  refine vx_iconst (v := 3) C dL_reads_515 (by decide) ?_
  refine vx_newL (N := 3) C (List.mem_of_getElem? (i := 1) rfl) rfl (by decide) (Nat.le_of_ble_eq_true rfl) (Nat.le_of_ble_eq_true rfl) dL_reads_516 (fun wq => ?_)
  refine vx_astore (ls2 := [some (.ref (G.1 144)), some (.ref (G.1 145)), some (.ref (G.1 146)), some (.ref (G.1 147)), some (.ref (G.1 148)), some (.ref (G.1 149)), some (.int (nI y)), some (.int (nI d)), some (.int (nI cl)), some (.int 1), some (.int 0), some (.ref wq), none, none, none]) C 11 dL_reads_518 (Nat.le_of_ble_eq_true rfl) rfl ?_
  refine vx_iload C 9 dL_reads_520 rfl ?_
  refine vx_nif_eq C 1 577 dL_reads_522 (by decide) (by decide) (fun h_1 => absurd h_1 (by decide)) (fun h_2 => ?_)
  refine vx_aload_n C 0 dL_reads_525 rfl rfl ?_
  refine vx_iconst (v := 0) C dL_reads_526 (by decide) ?_
  refine vx_callVIP C [.int 0] (c_X8_fault Mi hI.1.1 hI.1.2.1 hI.1.2.2.1 0) sh_144 rfl (cwV 1 C.1.2.2.2.2 gL_reads_X8_fault rfl rfl rfl (by decide +kernel) ⟨Nat.le_of_ble_eq_true rfl, Nat.le_of_ble_eq_true rfl⟩) rfl rfl rfl (Nat.le_of_ble_eq_true rfl) dL_reads_527 ⟨Nat.le_of_ble_eq_true rfl, Nat.le_of_ble_eq_true rfl⟩ (fun x_3 M_4 h_5 => ?_)
  rw [L_fault hp] at h_5
  obtain ⟨e_f, cl_f⟩ := h_5
  have hI2 := hI.cl cl_f
  have hp2 := hI2.prs (by omega) (by omega)
  refine vx_top (y := (-14)) e_f ?_
  refine vx_bipush (v := (-14)) C dL_reads_530 (by decide) ?_
  refine vx_icmp_ne C 577 dL_reads_532 (by decide) (fun h_6 => absurd rfl h_6) (fun h_7 => ?_)
  refine vx_aload_n C 0 dL_reads_535 rfl rfl ?_
  refine vx_iload C 7 dL_reads_536 rfl ?_
  refine vx_callVIP C [.int (nI d)] (c_X8_read M_4 hI2.1.1 hI2.1.2.1 hI2.1.2.2.1 (nI d)) sh_144 rfl (cwV 1 C.1.2.2.2.2 gL_reads_X8_read rfl rfl rfl (by decide +kernel) ⟨Nat.le_of_ble_eq_true rfl, Nat.le_of_ble_eq_true rfl⟩) rfl rfl rfl (Nat.le_of_ble_eq_true rfl) dL_reads_538 ⟨Nat.le_of_ble_eq_true rfl, Nat.le_of_ble_eq_true rfl⟩ (fun x_8 M_9 h_10 => ?_)
  rw [L_readN hd ((hI2.2.2.2.1 d (by omega)).trans hwd) hw4 (L := Cs) (by omega) (by omega) hp2] at h_10
  obtain ⟨e_r, cl_r⟩ := h_10
  have hI3 := hI2.cl cl_r
  have l0 := hI3.lin h
  have etx := hI3.2.1.1
  refine vx_top (y := (-12)) e_r ?_
  refine vx_iload C 10 dL_reads_541 rfl ?_
  refine vx_nif_eq C 0 561 dL_reads_543 (by decide) (by decide) (fun h_12 => ?_) (fun h_11 => absurd h_11 (by decide))
  refine vx_bipush (v := (-12)) C dL_reads_561 (by decide) ?_
  refine vx_icmp_ne C 577 dL_reads_563 (by decide) (fun h_13 => absurd rfl h_13) (fun h_14 => ?_)
  refine vx_aload_n C 0 dL_reads_566 rfl rfl ?_
  refine vx_callVIP C [] (c_X8_clearText M_9 l0.1.1 l0.1.2.1 l0.1.2.2.1 ) sh_144 rfl (cwV 0 C.1.2.2.2.2 gL_reads_X8_clearText rfl rfl rfl (by decide +kernel) ⟨Nat.le_of_ble_eq_true rfl, Nat.le_of_ble_eq_true rfl⟩) rfl rfl rfl (Nat.le_of_ble_eq_true rfl) dL_reads_567 ⟨Nat.le_of_ble_eq_true rfl, Nat.le_of_ble_eq_true rfl⟩ (fun x_15 M_16 h_17 => ?_)
  obtain ⟨e_c, hlin⟩ := lin_ct l0 h_17
  refine vx_top (y := nI (txC Cs).length) (e_c.trans etx) ?_
  refine vx_nif_le C ((txC Cs).length) 577 dL_reads_570 (by decide) (by omega) (fun h_18 => absurd h_18 (by omega)) (fun h_19 => ?_)
  refine vx_iconst (v := 1) C dL_reads_573 (by decide) ?_
  refine vx_goto C 578 dL_reads_574 (by decide) ?_
  refine vx_drop (X2 := X) (Y := [xL G wq 3 (fun _ => 0)]) rfl ?_
  exact vx_zret C hR (by decide) (by decide) (by decide) dL_reads_578 ⟨_, rfl, rfl, hlin, rfl⟩
set_option maxRecDepth 100000 in
set_option maxHeartbeats 4000000 in
theorem lp_reads_z1 {p : Program} {l : Launch} {e : Env} {s : State} {m : MethodId} {args : Array Value} {below : List Frame} {meth : Method} {c : Code} {G : mw_GG} {A : Nat → Prop} (C : vx_C p s m args c G A cL_reads 15 wsL_reads RL) {X : va_W} (hR : vv_R meth (some .boolean)) {M : mw_M} (h : linv M) {y d cl wd : Nat} (hd : d < 2) (hcl1 : 1 ≤ cl) (hcl4 : cl ≤ 4) (hwd : M d = nI wd) (hw4 : wd ≤ 4) {Cs : List ceT} (hCs : Cs.length = cl) (hle : cl ≤ wd) {Mi : mw_M} (hI : rdQ M Mi (setC M d (ceF Cs) 4) Cs) : vx p l e ({ frames := 7, cells := 2, slots := 7, locals := 161 } : Room) s m args below meth c G A 0 0 (mx_E below args s G A (xI_P (fun r M2 X2 => r = 1 ∧ linv M2 ∧ X2 = X)) 2 7) Mi X 515 [some (.ref (G.1 144)), some (.ref (G.1 145)), some (.ref (G.1 146)), some (.ref (G.1 147)), some (.ref (G.1 148)), some (.ref (G.1 149)), some (.int (nI y)), some (.int (nI d)), some (.int (nI cl)), some (.int 1), some (.int 1), none, none, none, none] [] := by
  have hp := hI.prs (by omega) (by omega)
  have hln := txC_len Cs hI.2.2.1
  have hps := txC_pos Cs hI.2.2.1 (by omega)
  refine vx_iconst (v := 3) C dL_reads_515 (by decide) ?_
  refine vx_newL (N := 3) C (List.mem_of_getElem? (i := 1) rfl) rfl (by decide) (Nat.le_of_ble_eq_true rfl) (Nat.le_of_ble_eq_true rfl) dL_reads_516 (fun wq => ?_)
  refine vx_astore (ls2 := [some (.ref (G.1 144)), some (.ref (G.1 145)), some (.ref (G.1 146)), some (.ref (G.1 147)), some (.ref (G.1 148)), some (.ref (G.1 149)), some (.int (nI y)), some (.int (nI d)), some (.int (nI cl)), some (.int 1), some (.int 1), some (.ref wq), none, none, none]) C 11 dL_reads_518 (Nat.le_of_ble_eq_true rfl) rfl ?_
  refine vx_iload C 9 dL_reads_520 rfl ?_
  refine vx_nif_eq C 1 577 dL_reads_522 (by decide) (by decide) (fun h_1 => absurd h_1 (by decide)) (fun h_2 => ?_)
  refine vx_aload_n C 0 dL_reads_525 rfl rfl ?_
  refine vx_iconst (v := 0) C dL_reads_526 (by decide) ?_
  refine vx_callVIP C [.int 0] (c_X8_fault Mi hI.1.1 hI.1.2.1 hI.1.2.2.1 0) sh_144 rfl (cwV 1 C.1.2.2.2.2 gL_reads_X8_fault rfl rfl rfl (by decide +kernel) ⟨Nat.le_of_ble_eq_true rfl, Nat.le_of_ble_eq_true rfl⟩) rfl rfl rfl (Nat.le_of_ble_eq_true rfl) dL_reads_527 ⟨Nat.le_of_ble_eq_true rfl, Nat.le_of_ble_eq_true rfl⟩ (fun x_3 M_4 h_5 => ?_)
  rw [L_fault hp] at h_5
  obtain ⟨e_f, cl_f⟩ := h_5
  have hI2 := hI.cl cl_f
  have hp2 := hI2.prs (by omega) (by omega)
  refine vx_top (y := (-14)) e_f ?_
  refine vx_bipush (v := (-14)) C dL_reads_530 (by decide) ?_
  refine vx_icmp_ne C 577 dL_reads_532 (by decide) (fun h_6 => absurd rfl h_6) (fun h_7 => ?_)
  refine vx_aload_n C 0 dL_reads_535 rfl rfl ?_
  refine vx_iload C 7 dL_reads_536 rfl ?_
  refine vx_callVIP C [.int (nI d)] (c_X8_read M_4 hI2.1.1 hI2.1.2.1 hI2.1.2.2.1 (nI d)) sh_144 rfl (cwV 1 C.1.2.2.2.2 gL_reads_X8_read rfl rfl rfl (by decide +kernel) ⟨Nat.le_of_ble_eq_true rfl, Nat.le_of_ble_eq_true rfl⟩) rfl rfl rfl (Nat.le_of_ble_eq_true rfl) dL_reads_538 ⟨Nat.le_of_ble_eq_true rfl, Nat.le_of_ble_eq_true rfl⟩ (fun x_8 M_9 h_10 => ?_)
  obtain ⟨e_r, cl_r⟩ := h_10
  obtain ⟨e1, e2⟩ := L_read hI2.1 h.1.2.2 hI2.2.2.2.1 hd hwd hw4 (L := Cs) (by omega) hp2 hI2.2.2.2.2
  obtain ⟨l0, em, e653⟩ := e2 _ cl_r
  have etx := e653.trans hI2.2.1.1
  refine vx_top (y := manyI M_9) (e_r.trans (e1.trans em.symm)) ?_
  refine vx_iload C 10 dL_reads_541 rfl ?_
  refine vx_nif_eq C 1 561 dL_reads_543 (by decide) (by decide) (fun h_11 => absurd h_11 (by decide)) (fun h_12 => ?_)
  refine vx_aload_n C 1 dL_reads_546 rfl rfl ?_
  refine vx_aload_n C 2 dL_reads_547 rfl rfl ?_
  refine vx_aload_n C 3 dL_reads_548 rfl rfl ?_
  refine vx_aload C 4 dL_reads_549 rfl ?_
  refine vx_aload C 5 dL_reads_551 rfl ?_
  refine vx_aload C 11 dL_reads_553 rfl ?_
  refine vx_callXIP C [.ref (G.1 145), .ref (G.1 146), .ref (G.1 147), .ref (G.1 148), .ref (G.1 149), .ref wq] (c_L_many M_9 M_9 l0.2.1 l0.1.1 (X := X ++ [xL G wq 3 (fun _ => 0)]) xa_at) (cwS 6 C.1.2.2.2.2 gL_reads_L_many rfl rfl rfl (by decide +kernel) ⟨Nat.le_of_ble_eq_true rfl, Nat.le_of_ble_eq_true rfl⟩) rfl rfl rfl (Nat.le_of_ble_eq_true rfl) dL_reads_555 ⟨Nat.le_of_ble_eq_true rfl, Nat.le_of_ble_eq_true rfl⟩ (fun x_13 M_14 X_15 h_16 => ?_)
  obtain ⟨e_m, e_M, W, hW, e_X⟩ := h_16
  refine vx_top (y := manyI M_9) e_m ?_
  refine vx_mem (M2 := M_9) e_M ?_
  refine vx_X (X2 := X ++ [xL G wq 3 W]) (e_X.trans xa_set) ?_
  refine vx_goto C 563 dL_reads_558 (by decide) ?_
  refine vx_icmp_ne C 577 dL_reads_563 (by decide) (fun h_17 => absurd rfl h_17) (fun h_18 => ?_)
  refine vx_aload_n C 0 dL_reads_566 rfl rfl ?_
  refine vx_callVIP C [] (c_X8_clearText M_9 l0.1.1 l0.1.2.1 l0.1.2.2.1 ) sh_144 rfl (cwV 0 C.1.2.2.2.2 gL_reads_X8_clearText rfl rfl rfl (by decide +kernel) ⟨Nat.le_of_ble_eq_true rfl, Nat.le_of_ble_eq_true rfl⟩) rfl rfl rfl (Nat.le_of_ble_eq_true rfl) dL_reads_567 ⟨Nat.le_of_ble_eq_true rfl, Nat.le_of_ble_eq_true rfl⟩ (fun x_19 M_20 h_21 => ?_)
  obtain ⟨e_c, hlin⟩ := lin_ct l0 h_21
  refine vx_top (y := nI (txC Cs).length) (e_c.trans etx) ?_
  refine vx_nif_le C ((txC Cs).length) 577 dL_reads_570 (by decide) (by omega) (fun h_22 => absurd h_22 (by omega)) (fun h_23 => ?_)
  refine vx_iconst (v := 1) C dL_reads_573 (by decide) ?_
  refine vx_goto C 578 dL_reads_574 (by decide) ?_
  refine vx_drop (X2 := X) (Y := [xL G wq 3 W]) rfl ?_
  exact vx_zret C hR (by decide) (by decide) (by decide) dL_reads_578 ⟨_, rfl, rfl, hlin, rfl⟩
set_option maxRecDepth 100000 in
set_option maxHeartbeats 4000000 in
theorem lp_reads_yl {p : Program} {l : Launch} {e : Env} {s : State} {m : MethodId} {args : Array Value} {below : List Frame} {meth : Method} {c : Code} {G : mw_GG} {A : Nat → Prop} {Q : State → Prop} (C : vx_C p s m args c G A cL_reads 15 wsL_reads RL) {X : va_W} {y d cl : Nat} (hd : d < 2) {M : mw_M} {Cs : List ceT} (hCs : Cs.length = cl) (hk : ∀ Mi, rdQ M Mi (setC M d (ceF Cs) 4) Cs → vx p l e ({ frames := 7, cells := 2, slots := 7, locals := 161 } : Room) s m args below meth c G A 0 0 Q Mi X 515 [some (.ref (G.1 144)), some (.ref (G.1 145)), some (.ref (G.1 146)), some (.ref (G.1 147)), some (.ref (G.1 148)), some (.ref (G.1 149)), some (.int (nI y)), some (.int (nI d)), some (.int (nI cl)), some (.int 1), some (.int 1), none, none, none, none] []) : ∀ (n j : Nat) (Mi : mw_M), 5 ≤ j + n → cl ≤ j → j ≤ 4 → rdQ M Mi (setC M d (ceF Cs) j) Cs → vx p l e ({ frames := 7, cells := 2, slots := 7, locals := 161 } : Room) s m args below meth c G A 0 0 Q Mi X 466 [some (.ref (G.1 144)), some (.ref (G.1 145)), some (.ref (G.1 146)), some (.ref (G.1 147)), some (.ref (G.1 148)), some (.ref (G.1 149)), some (.int (nI y)), some (.int (nI d)), some (.int (nI cl)), some (.int 1), some (.int 1), some (.int (nI j)), none, none, none] [] := by
  intro n
  induction n with
  | zero => intro j Mi h1 h2 h3 _; omega
  | succ n ih =>
    intro j Mi h1 h2 h3 hI
    refine vx_iload C 11 dL_reads_466 rfl ?_
    refine vx_iconst (v := 4) C dL_reads_468 (by decide) ?_
    refine vx_ncmp_ge C j 4 515 dL_reads_469 (by decide) (by omega) (by decide) (fun h_ge => ?_) (fun h_lt => ?_)
    · refine vx_keep (ls2 := [some (.ref (G.1 144)), some (.ref (G.1 145)), some (.ref (G.1 146)), some (.ref (G.1 147)), some (.ref (G.1 148)), some (.ref (G.1 149)), some (.int (nI y)), some (.int (nI d)), some (.int (nI cl)), some (.int 1), some (.int 1), none, none, none, none]) ⟨rfl, rfl, rfl, rfl, rfl, rfl, rfl, rfl, rfl, rfl, rfl, trivial⟩ ?_
      have e : j = 4 := by omega
      subst e
      exact hk Mi hI
    · refine vx_iload C 10 dL_reads_472 rfl ?_
      refine vx_nif_eq C 1 515 dL_reads_474 (by decide) (by decide) (fun h_3 => absurd h_3 (by decide)) (fun h_4 => ?_)
      refine vx_aload_n C 3 dL_reads_477 rfl rfl ?_
      refine vx_iconst (v := 4) C dL_reads_478 (by decide) ?_
      refine vx_iload C 7 dL_reads_479 rfl ?_
      refine vx_imul C dL_reads_481 ?_
      refine vx_top (y := nI (4 * d)) (pk_mul 4 d) ?_
      refine vx_iload C 11 dL_reads_482 rfl ?_
      refine vx_iadd C dL_reads_484 ?_
      refine vx_top (y := nI (4 * d + j)) (nI_add (4 * d) j) ?_
      refine vx_iconst (v := 0) C dL_reads_485 (by decide) ?_
      refine vx_ast (j := 4 * d + j) (q := 1300 + (4 * d + j)) C sh_147 rfl (by omega) (by omega) dL_reads_486 ?_
      refine vx_aload C 4 dL_reads_487 rfl ?_
      refine vx_iconst (v := 4) C dL_reads_489 (by decide) ?_
      refine vx_iload C 7 dL_reads_490 rfl ?_
      refine vx_imul C dL_reads_492 ?_
      refine vx_top (y := nI (4 * d)) (pk_mul 4 d) ?_
      refine vx_iload C 11 dL_reads_493 rfl ?_
      refine vx_iadd C dL_reads_495 ?_
      refine vx_top (y := nI (4 * d + j)) (nI_add (4 * d) j) ?_
      refine vx_iconst (v := 0) C dL_reads_496 (by decide) ?_
      refine vx_ast (j := 4 * d + j) (q := 1310 + (4 * d + j)) C sh_148 rfl (by omega) (by omega) dL_reads_497 ?_
      refine vx_aload C 5 dL_reads_498 rfl ?_
      refine vx_iconst (v := 4) C dL_reads_500 (by decide) ?_
      refine vx_iload C 7 dL_reads_501 rfl ?_
      refine vx_imul C dL_reads_503 ?_
      refine vx_top (y := nI (4 * d)) (pk_mul 4 d) ?_
      refine vx_iload C 11 dL_reads_504 rfl ?_
      refine vx_iadd C dL_reads_506 ?_
      refine vx_top (y := nI (4 * d + j)) (nI_add (4 * d) j) ?_
      refine vx_iconst (v := 0) C dL_reads_507 (by decide) ?_
      refine vx_ast (j := 4 * d + j) (q := 1320 + (4 * d + j)) C sh_149 rfl (by omega) (by omega) dL_reads_508 ?_
      refine vx_iinc (v := nI (j + 1)) (ls2 := [some (.ref (G.1 144)), some (.ref (G.1 145)), some (.ref (G.1 146)), some (.ref (G.1 147)), some (.ref (G.1 148)), some (.ref (G.1 149)), some (.int (nI y)), some (.int (nI d)), some (.int (nI cl)), some (.int 1), some (.int 1), some (.int (nI (j + 1))), none, none, none]) C 11 dL_reads_509 rfl (nI_add j 1) rfl ?_
      refine vx_goto C 466 dL_reads_512 (by decide) ?_
      exact ih (j + 1) _ (by omega) (by omega) (by omega) (hI.zero hd (by omega) (by omega))
set_option maxRecDepth 100000 in
set_option maxHeartbeats 4000000 in
theorem lp_reads_y1 {p : Program} {l : Launch} {e : Env} {s : State} {m : MethodId} {args : Array Value} {below : List Frame} {meth : Method} {c : Code} {G : mw_GG} {A : Nat → Prop} (C : vx_C p s m args c G A cL_reads 15 wsL_reads RL) {X : va_W} (hR : vv_R meth (some .boolean)) {M : mw_M} (h : linv M) {y d cl wd : Nat} (hd : d < 2) (hcl1 : 1 ≤ cl) (hcl4 : cl ≤ 4) (hwd : M d = nI wd) (hw4 : wd ≤ 4) {Cs : List ceT} (hCs : Cs.length = cl) (hle : cl ≤ wd) {Mi : mw_M} (hI : rdQ M Mi (setC M d (ceF Cs) cl) Cs) : vx p l e ({ frames := 7, cells := 2, slots := 7, locals := 161 } : Room) s m args below meth c G A 0 0 (mx_E below args s G A (xI_P (fun r M2 X2 => r = 1 ∧ linv M2 ∧ X2 = X)) 2 7) Mi X 462 [some (.ref (G.1 144)), some (.ref (G.1 145)), some (.ref (G.1 146)), some (.ref (G.1 147)), some (.ref (G.1 148)), some (.ref (G.1 149)), some (.int (nI y)), some (.int (nI d)), some (.int (nI cl)), some (.int 1), some (.int 1), none, none, none, none] [] := by
  refine vx_iload C 8 dL_reads_462 rfl ?_
  refine vx_istore (ls2 := [some (.ref (G.1 144)), some (.ref (G.1 145)), some (.ref (G.1 146)), some (.ref (G.1 147)), some (.ref (G.1 148)), some (.ref (G.1 149)), some (.int (nI y)), some (.int (nI d)), some (.int (nI cl)), some (.int 1), some (.int 1), some (.int (nI cl)), none, none, none]) C 11 dL_reads_464 (Nat.le_of_ble_eq_true rfl) rfl ?_
  exact lp_reads_yl C hd hCs (fun Mj hj => lp_reads_z1 C hR h hd hcl1 hcl4 hwd hw4 hCs hle hj) 5 cl _ (by omega) (by omega) hcl4 hI
set_option maxRecDepth 100000 in
set_option maxHeartbeats 4000000 in
theorem lp_reads_y0 {p : Program} {l : Launch} {e : Env} {s : State} {m : MethodId} {args : Array Value} {below : List Frame} {meth : Method} {c : Code} {G : mw_GG} {A : Nat → Prop} (C : vx_C p s m args c G A cL_reads 15 wsL_reads RL) {X : va_W} (hR : vv_R meth (some .boolean)) {M : mw_M} (h : linv M) {y d cl wd : Nat} (hd : d < 2) (hcl1 : 1 ≤ cl) (hcl4 : cl ≤ 4) (hwd : M d = nI wd) (hw4 : wd ≤ 4) {Cs : List ceT} (hCs : Cs.length = cl) (hlt : wd < cl) {Mi : mw_M} (hI : rdQ M Mi M Cs) : vx p l e ({ frames := 7, cells := 2, slots := 7, locals := 161 } : Room) s m args below meth c G A 0 0 (mx_E below args s G A (xI_P (fun r M2 X2 => r = 1 ∧ linv M2 ∧ X2 = X)) 2 7) Mi X 462 [some (.ref (G.1 144)), some (.ref (G.1 145)), some (.ref (G.1 146)), some (.ref (G.1 147)), some (.ref (G.1 148)), some (.ref (G.1 149)), some (.int (nI y)), some (.int (nI d)), some (.int (nI cl)), some (.int 1), some (.int 0), none, none, none, none] [] := by
  refine vx_iload C 8 dL_reads_462 rfl ?_
  refine vx_istore (ls2 := [some (.ref (G.1 144)), some (.ref (G.1 145)), some (.ref (G.1 146)), some (.ref (G.1 147)), some (.ref (G.1 148)), some (.ref (G.1 149)), some (.int (nI y)), some (.int (nI d)), some (.int (nI cl)), some (.int 1), some (.int 0), some (.int (nI cl)), none, none, none]) C 11 dL_reads_464 (Nat.le_of_ble_eq_true rfl) rfl ?_
  refine vx_iload C 11 dL_reads_466 rfl ?_
  refine vx_iconst (v := 4) C dL_reads_468 (by decide) ?_
  refine vx_ncmp_ge C cl 4 515 dL_reads_469 (by decide) (by omega) (by decide) (fun h_1 => ?_) (fun h_2 => ?_)
  · refine vx_keep (ls2 := [some (.ref (G.1 144)), some (.ref (G.1 145)), some (.ref (G.1 146)), some (.ref (G.1 147)), some (.ref (G.1 148)), some (.ref (G.1 149)), some (.int (nI y)), some (.int (nI d)), some (.int (nI cl)), some (.int 1), some (.int 0), none, none, none, none]) ⟨rfl, rfl, rfl, rfl, rfl, rfl, rfl, rfl, rfl, rfl, rfl, trivial⟩ ?_
    exact lp_reads_z0 C hR h hd hcl1 hcl4 hwd hw4 hCs hlt hI
  · refine vx_iload C 10 dL_reads_472 rfl ?_
    refine vx_nif_eq C 0 515 dL_reads_474 (by decide) (by decide) (fun h_4 => ?_) (fun h_3 => absurd h_3 (by decide))
    refine vx_keep (ls2 := [some (.ref (G.1 144)), some (.ref (G.1 145)), some (.ref (G.1 146)), some (.ref (G.1 147)), some (.ref (G.1 148)), some (.ref (G.1 149)), some (.int (nI y)), some (.int (nI d)), some (.int (nI cl)), some (.int 1), some (.int 0), none, none, none, none]) ⟨rfl, rfl, rfl, rfl, rfl, rfl, rfl, rfl, rfl, rfl, rfl, trivial⟩ ?_
    exact lp_reads_z0 C hR h hd hcl1 hcl4 hwd hw4 hCs hlt hI
set_option maxRecDepth 100000 in
set_option maxHeartbeats 4000000 in
theorem c_L_reads {l : Launch} {G : mw_GG} {M : mw_M} (h : linv M) (X : va_W) {y : Nat} (hy : y < 10000000) : mx_Met l yL_reads wsL_reads ({ frames := 7, cells := 2, slots := 7, locals := 161 } : Room) G [.ref (G.1 144), .ref (G.1 145), .ref (G.1 146), .ref (G.1 147), .ref (G.1 148), .ref (G.1 149), .int (nI y)] M X (xI_P (fun r M2 X2 => r = 1 ∧ linv M2 ∧ X2 = X)) 2 7 := by
  refine mx_ofV (cc := cL_reads) 15 (by decide) rfl rfl (Nat.le_of_ble_eq_true rfl) ?_
  intro p e s m args below meth c A C hR
  refine vx_loc (ls2 := [some (.ref (G.1 144)), some (.ref (G.1 145)), some (.ref (G.1 146)), some (.ref (G.1 147)), some (.ref (G.1 148)), some (.ref (G.1 149)), some (.int (nI y)), none, none, none, none, none, none, none, none]) rfl ?_
  refine vx_iload C 6 dL_reads_0 rfl ?_
  refine vx_iconst (v := 2) C dL_reads_2 (by decide) ?_
  obtain ⟨d, hd, ed⟩ : ∃ d, d < 2 ∧ y % 2 = d := ⟨_, Nat.mod_lt _ (by decide), rfl⟩
  obtain ⟨wd, hwd1, hw4, hwd, hgw⟩ := h.wd hd
  obtain ⟨cl, hcl, ecl⟩ : ∃ cl, 1 + y / 2 % 4 = cl ∧ (1 ≤ cl ∧ cl ≤ 4) := ⟨_, rfl, by omega⟩
  refine vx_irem C dL_reads_3 (by decide) ?_
  refine vx_top (y := nI d) ((pk_rem (d := 2) (by omega) (by omega) (by omega)).trans (congrArg nI ed)) ?_
  refine vx_istore (ls2 := [some (.ref (G.1 144)), some (.ref (G.1 145)), some (.ref (G.1 146)), some (.ref (G.1 147)), some (.ref (G.1 148)), some (.ref (G.1 149)), some (.int (nI y)), some (.int (nI d)), none, none, none, none, none, none, none]) C 7 dL_reads_4 (Nat.le_of_ble_eq_true rfl) rfl ?_
  refine vx_iconst (v := 1) C dL_reads_6 (by decide) ?_
  refine vx_iload C 6 dL_reads_7 rfl ?_
  refine vx_iconst (v := 2) C dL_reads_9 (by decide) ?_
  refine vx_idiv C dL_reads_10 (by decide) ?_
  refine vx_top (y := nI (y / 2)) (pk_div (a := y) (d := 2) (by omega) (by omega) (by omega)) ?_
  refine vx_iconst (v := 4) C dL_reads_11 (by decide) ?_
  refine vx_irem C dL_reads_12 (by decide) ?_
  refine vx_top (y := nI ((y / 2) % 4)) (pk_rem (a := y / 2) (d := 4) (by omega) (by omega) (by omega)) ?_
  refine vx_iadd C dL_reads_13 ?_
  refine vx_top (y := nI cl) ((nI_add 1 (y / 2 % 4)).trans (congrArg nI hcl)) ?_
  refine vx_istore (ls2 := [some (.ref (G.1 144)), some (.ref (G.1 145)), some (.ref (G.1 146)), some (.ref (G.1 147)), some (.ref (G.1 148)), some (.ref (G.1 149)), some (.int (nI y)), some (.int (nI d)), some (.int (nI cl)), none, none, none, none, none, none]) C 8 dL_reads_14 (Nat.le_of_ble_eq_true rfl) rfl ?_
  refine vx_aload_n C 0 dL_reads_16 rfl rfl ?_
  refine vx_callVIP C [] (c_X8_clearText M h.1.1.1 h.1.1.2.1 h.1.1.2.2.1 ) sh_144 rfl (cwV 0 C.1.2.2.2.2 gL_reads_X8_clearText rfl rfl rfl (by decide +kernel) ⟨Nat.le_of_ble_eq_true rfl, Nat.le_of_ble_eq_true rfl⟩) rfl rfl rfl (Nat.le_of_ble_eq_true rfl) dL_reads_17 ⟨Nat.le_of_ble_eq_true rfl, Nat.le_of_ble_eq_true rfl⟩ (fun x_1 M_2 h_3 => ?_)
  obtain ⟨e_x, hi0, ht0, hs0⟩ := ct_step h.1.1 h_3
  have hI0 := rdQ.start h hi0 ht0 hs0
  refine vx_top (y := 0) (e_x.trans h.2) ?_
  refine vx_nif_lt C 0 27 dL_reads_20 (by decide) (by decide) (fun h_4 => absurd h_4 (by decide)) (fun h_5 => ?_)
  refine vx_iconst (v := 1) C dL_reads_23 (by decide) ?_
  refine vx_goto C 28 dL_reads_24 (by decide) ?_
  refine vx_istore (ls2 := [some (.ref (G.1 144)), some (.ref (G.1 145)), some (.ref (G.1 146)), some (.ref (G.1 147)), some (.ref (G.1 148)), some (.ref (G.1 149)), some (.int (nI y)), some (.int (nI d)), some (.int (nI cl)), some (.int 1), none, none, none, none, none]) C 9 dL_reads_28 (Nat.le_of_ble_eq_true rfl) rfl ?_
  refine vx_iload C 8 dL_reads_30 rfl ?_
  refine vx_aload_n C 1 dL_reads_32 rfl rfl ?_
  refine vx_iload C 7 dL_reads_33 rfl ?_
  refine vx_ald (j := d) (q := 1100 + d) C sh_145 rfl (by omega) (by omega) dL_reads_35 ?_
  refine vx_top (y := nI wd) (((hs0 _ (Or.inr (by omega))).trans hgw)) ?_
  refine vx_ncmp_gt C cl wd 43 dL_reads_36 (by decide) (by omega) (by omega) (fun h_gt => ?_) (fun h_le => ?_)
  · refine vx_iconst (v := 0) C dL_reads_43 (by decide) ?_
    refine vx_istore (ls2 := [some (.ref (G.1 144)), some (.ref (G.1 145)), some (.ref (G.1 146)), some (.ref (G.1 147)), some (.ref (G.1 148)), some (.ref (G.1 149)), some (.int (nI y)), some (.int (nI d)), some (.int (nI cl)), some (.int 1), some (.int 0), none, none, none, none]) C 10 dL_reads_44 (Nat.le_of_ble_eq_true rfl) rfl ?_
    refine vx_iconst (v := 0) C dL_reads_46 (by decide) ?_
    refine vx_istore (ls2 := [some (.ref (G.1 144)), some (.ref (G.1 145)), some (.ref (G.1 146)), some (.ref (G.1 147)), some (.ref (G.1 148)), some (.ref (G.1 149)), some (.int (nI y)), some (.int (nI d)), some (.int (nI cl)), some (.int 1), some (.int 0), some (.int 0), none, none, none]) C 11 dL_reads_47 (Nat.le_of_ble_eq_true rfl) rfl ?_
    exact lp_reads_l C hy hd (by omega) (cn := 0) (by decide) (M := M) (fun Mi Cs hCs hI => lp_reads_y0 C hR h hd (by omega) (by omega) hwd hw4 hCs h_gt hI) (cl + 1) 0 _ [] (by omega) (by omega) rfl hI0
  · refine vx_iconst (v := 1) C dL_reads_39 (by decide) ?_
    refine vx_goto C 44 dL_reads_40 (by decide) ?_
    refine vx_istore (ls2 := [some (.ref (G.1 144)), some (.ref (G.1 145)), some (.ref (G.1 146)), some (.ref (G.1 147)), some (.ref (G.1 148)), some (.ref (G.1 149)), some (.int (nI y)), some (.int (nI d)), some (.int (nI cl)), some (.int 1), some (.int 1), none, none, none, none]) C 10 dL_reads_44 (Nat.le_of_ble_eq_true rfl) rfl ?_
    refine vx_iconst (v := 0) C dL_reads_46 (by decide) ?_
    refine vx_istore (ls2 := [some (.ref (G.1 144)), some (.ref (G.1 145)), some (.ref (G.1 146)), some (.ref (G.1 147)), some (.ref (G.1 148)), some (.ref (G.1 149)), some (.int (nI y)), some (.int (nI d)), some (.int (nI cl)), some (.int 1), some (.int 1), some (.int 0), none, none, none]) C 11 dL_reads_47 (Nat.le_of_ble_eq_true rfl) rfl ?_
    exact lp_reads_l C hy hd (by omega) (cn := 1) (by decide) (M := M) (fun Mi Cs hCs hI => lp_reads_y1 C hR h hd (by omega) (by omega) hwd hw4 hCs h_le hI) (cl + 1) 0 _ [] (by omega) (by omega) rfl (by rw [if_neg (by decide), setC_0]; exact hI0)
