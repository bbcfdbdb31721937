/-! the script's number k, or the one that stands for it: the law's method cell -/
def lc_Q : Array Value → State → Outcome → State → Prop := fun _ st oc t => (∃ r : Int32, oc = .returned (some (.int r))) ∧ va_F (fun _ => False) st t
def lc_P (b L : Nat) (xs : Nat → Int32) (k : Nat) : Array Value → State → Prop := va_Pc [.ref b, .int (nI k)] (fun U => b < U.heap.size ∧ va_X b L xs U U.heap)
theorem lc_blind {b L k : Nat} {xs : Nat → Int32} : FrameBlind (lc_P b L xs k) := fun a U g mk q => ⟨q.1, q.2.1, va_X.moved (u := U) (U := U.calling g mk a) (Vm.Alike.refl U.vm) q.2.2⟩
set_option maxHeartbeats 4000000 in
theorem c_L_cell {l : Launch} {b L : Nat} {xs : Nat → Int32} {k : Nat} (hk : k < 1000) (hL : L ≤ 1000) : Met l yL_cell wsL_cell ({ frames := 0, cells := 0, slots := 0, locals := 0 } : Room) (lc_P b L xs k) lc_Q 0 0 (fun _ => False) := by
  refine Met.ofW (cc := cL_cell) (maxL := 2) (ret := some .int) (by decide +kernel) rfl ?_
  intro p e s m args below meth c s₁ B hml hv
  obtain ⟨rfl, hbl, hX⟩ := hv
  have hl := lv_entry [.ref b, .int (nI k)] (n := 2) (Nat.le_of_ble_eq_true rfl)
  rw [lg_entry_eq]
  have hx := B.exec
  have hb := B.bytes
  have hown := findClass_of_methodNamed B.named
  have hts := atoms_spec (ws := wsL_cell) B.pre
  have hbA : ¬ (fun _ : Nat => False) b := fun z => z
  have go : ∀ la, mw_L la [some (.ref b), some (.int (nI k))] → W p l e ({ frames := 0, cells := 0, slots := 0, locals := 0 } : Room) s m (([.ref b, .int (nI k)] : List Value).toArray) below meth c s.heap [] 0 0 (MQ below lc_Q (([.ref b, .int (nI k)] : List Value).toArray) s 0 0 (fun _ => False)) (F0 m 0 la []) := by
    intro la hL2
    have fin : ∀ x, W p l e ({ frames := 0, cells := 0, slots := 0, locals := 0 } : Room) s m (([.ref b, .int (nI k)] : List Value).toArray) below meth c s.heap [] 0 0 (MQ below lc_Q (([.ref b, .int (nI k)] : List Value).toArray) s 0 0 (fun _ => False)) (F0 m 18 la [.int x]) := fun x =>
      W.iret hx hb B.returns (fun t ht hW2 => ⟨⟨_, rfl⟩, (va_S.rf (A := fun _ => False)).F ht⟩) (fun q hq => by cases hq) dL_cell_18 B.notSynchronized
    refine lv_iload_n hx hb dL_cell_0 rfl (hL2.at (i := 1) rfl) ?_
    refine lv_aload_n hx hb dL_cell_1 rfl (hL2.at (i := 0) rfl) ?_
    refine va_slen (A := fun _ => False) hx hb hX hbl hbA va_S.rf dL_cell_2 ?_
    refine lv_icmp_ge (tgt := 12) hx hb dL_cell_3 (by decide) (fun h => ?_) (fun h => ?_)
    · refine lv_ldc hx hb hown (hts _ (List.mem_of_getElem? (i := 1) rfl)) dL_cell_12 ?_
      refine lv_iload_n hx hb dL_cell_14 rfl (hL2.at (i := 1) rfl) ?_
      refine lv_iconst (v := 3) hx hb dL_cell_15 (by decide) ?_
      refine lv_iadd hx hb dL_cell_16 ?_
      refine lv_imul hx hb dL_cell_17 ?_
      exact fin _
    · have hlt : k < L := Nat.not_le.mp (fun z => h ((nI_leI (by omega) (by omega)).mpr z))
      refine lv_aload_n hx hb dL_cell_6 rfl (hL2.at (i := 0) rfl) ?_
      refine lv_iload_n hx hb dL_cell_7 rfl (hL2.at (i := 1) rfl) ?_
      refine va_sld (A := fun _ => False) hx hb hX hbl hbA va_S.rf (vp_in_nI hlt (by omega)) dL_cell_8 ?_
      refine lv_goto (tgt := 18) hx hb dL_cell_9 (by decide) ?_
      exact fin _
  refine go _ ⟨hl, fun v hv => ?_⟩
  rcases List.mem_cons.mp hv with w | hv
  · cases w; rfl
  rcases List.mem_cons.mp hv with w | hv
  · cases w; rfl
  · simp at hv
section CELL
variable {p : Program} {l : Launch} {e : Env} {R : Room} {s : State} {m : MethodId} {args : Array Value} {below : List Frame} {meth : Method} {c : Code} {G : mw_GG} {A : Nat → Prop} {cells slots : Nat} {Q : State → Prop}
variable {cc : ByteArray} {nL : Nat} {Ts : List Cond} {own : String} {M : mw_M} {X : va_W} {pc : Nat} {ls : List (Option Value)} {st : List Value}
theorem vx_cell (C : vx_C p s m args c G A cc nL Ts own) {b L k : Nat} {xs : Nat → Int32} (hX : va_X b L xs s s.heap) (hbl : b < s.heap.size) (hbA : ¬ A b) (hk : k < 1000) (hL1 : L ≤ 1000) {index maxL n : Nat} {bytes : ByteArray} {ret : Option FieldType}
    (cw : CallB R s args own index yL_cell bytes maxL ret wsL_cell ({ frames := 0, cells := 0, slots := 0, locals := 0 } : Room) 0 0 n ∧ (Cond.static yL_cell).before args s = true) (hn : 2 = n) (hlen : ls.length = nL) (hcat : (st.map fun v => v.category).sum ≤ 8) (hd : decode cc pc = .ok (.invokestatic index, 3)) (hf : cells ≤ R.cells ∧ slots ≤ R.slots)
    (kk : ∀ x, vx p l e R s m args below meth c G A cells slots Q M X (pc + 3) ls (.int x :: st)) : vx p l e R s m args below meth c G A cells slots Q M X pc ls (.int (nI k) :: .ref b :: st) := fun H locs la hP hD hS hL => by
  have hsz : la.size = nL := by rw [← hlen]; exact hL.1.1
  have hr := va_runS (g := F0 m pc la (.int (nI k) :: .ref b :: st)) (H := H) (locs := locs) (cells := cells) (slots := slots) (below := below) (meth := meth) (p := p) (e := e) (As := [.ref b, .int (nI k)]) (rest := st) C.1 (c_L_cell (l := l) (b := b) (L := L) (xs := xs) hk hL1) cw ⟨lc_blind, fun U hU hW2 => ⟨rfl, by rw [hU]; exact Nat.lt_of_lt_of_le hbl hS.1, by rw [hU]; exact va_X.moved hW2.alike (hX.kept (hS.2.1 b hbl hbA))⟩⟩ rfl hn hsz rfl (lv_room hcat) hd hf
  intro T hT Y
  obtain ⟨v, st₀, t, T', L1, h0, Y', hL2, e1, e2, ⟨⟨r, hv⟩, hz, hkp⟩, stp⟩ := hr T hT Y
  cases hv
  rw [h0] at hz hkp
  obtain ⟨t2, a1, b1⟩ := kk r T'.heap (locs ++ L1) la (by rw [e1]; exact hP.kept (fun k x hx => hkp x.1 ((hP k x hx).lt) (fun z => z))) hD
    ⟨Nat.le_trans hS.1 (by rw [e1]; exact hz), fun q h1 h2 => by rw [e1, hkp q (Nat.lt_of_lt_of_le h1 hS.1) (fun z => z)]; exact hS.2.1 q h1 h2, fun q hq => by
      rcases List.mem_append.mp hq with h | h
      · exact hS.2.2 q h
      · exact absurd (hL2 q h) (fun z => z)⟩ hL T' rfl Y'
  exact ⟨t2, stp t2 a1, b1⟩
end CELL
