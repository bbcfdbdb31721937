def nuL (G : ci_G) (h q n : Nat) (v : Int32) : va_W := [(h, .inr (3, [.ref q])), (q, .inl (G.2, (n, .inl (fun _ => v))))]
def exL (G : ci_G) (ad : Nat → Nat) : va_W := (ad 0, .inr (1, [.ref (ad 1), .ref (ad 3), .ref (ad 5)])) :: ((nuL G (ad 1) (ad 2) 4 0 ++ nuL G (ad 3) (ad 4) 4 0) ++ nuL G (ad 5) (ad 6) 4 0)
def dL (G : ci_G) (ad : Nat → Nat) : va_W := (ad 0, .inr (0, [.ref (ad 1), .ref (ad 3), .int 3, .int 0])) :: (nuL G (ad 1) (ad 2) 48 (-1) ++ exL G (fun k => ad (3 + k)))
def sL (G : ci_G) (ad : Nat → Nat) : va_W := (ad 0, .inr (6, [.ref (ad 1), .ref (ad 11), .ref (ad 21), .ref (ad 23), .int 0, .int 255])) :: (((dL G (fun k => ad (1 + k)) ++ dL G (fun k => ad (11 + k))) ++ nuL G (ad 21) (ad 22) 2 (-1)) ++ nuL G (ad 23) (ad 24) 2 0)
def hL (G : ci_G) (h : Nat) (a b c d : Nat → Nat) : va_W := (h, .inr (2, [.ref (a 0), .ref (b 0), .ref (c 0), .ref (d 0), .int 0])) :: (((sL G a ++ sL G b) ++ sL G c) ++ sL G d)
def rL (G : ci_G) (s0 : Nat) (ad : Nat → Nat) : va_W := (ad 0, .inr (5, [.ref s0, .ref (ad 1), .ref (ad 3), .ref (ad 5), .int 0, .int (-1)])) :: ((nuL G (ad 1) (ad 2) 144 0 ++ nuL G (ad 3) (ad 4) 144 0) ++ nuL G (ad 5) (ad 6) 4 (-1))
def tL (G : ci_G) (ad : Nat → Nat) : va_W := (ad 0, .inr (7, [.ref (ad 1), .int 0])) :: nuL G (ad 1) (ad 2) 60 0
def gL (G : ci_G) (t0 : Nat) (ad : Nat → Nat) : va_W := (ad 0, .inr (4, [.ref t0, .ref (ad 1), .int 0, .int 0, .int 0, .int 0])) :: exL G (fun k => ad (1 + k))
def edL (G : ci_G) (h qh : Nat) (a0 a b c d ar at_ ag : Nat → Nat) : va_W := (h, .inr (8, [.ref (a0 0), .ref qh, .ref (ar 0), .ref (at_ 0), .ref (ag 0)])) :: ((((sL G a0 ++ hL G qh a b c d) ++ rL G (a0 0) ar) ++ tL G at_) ++ gL G (at_ 0) ag)
def arL (G : ci_G) (q n : Nat) (f : Nat → Int32) : Nat × va_E := (q, .inl (G.2, (n, .inl f)))
def sF : Nat → Int32 := upd (upd (upd (upd (upd (fun _ => 0) 0 3) 1 3) 125 (-1)) 127 (-1)) 129 255
theorem ii_top {p : Program} {l : Launch} {e : Env} {R : Room} {s : State} {m : MethodId} {args : Array Value} {below : List Frame} {meth : Method} {c : Code} {G : ci_G} {A : Nat → Prop} {cells slots : Nat} {Q : State → Prop} {ws : va_W} {pc : Nat} {ls : List (Option Value)} {st : List Value} {x y : Int32} (h : x = y) (k : ii p l e R s m args below meth c G A cells slots Q ws pc ls (.int y :: st)) : ii p l e R s m args below meth c G A cells slots Q ws pc ls (.int x :: st) := by rw [h]; exact k
def flA (h q sz : Nat) : Nat → Prop := fun x => x = h ∨ x = q ∨ sz ≤ x
def flP (G : ci_G) (h q n : Nat) (v : Int32) (sz : Nat) : Array Value → State → Prop := va_Pc [.ref h, .int v] (fun U => U.heap.size = sz ∧ va_P G.1 vwCl (nuL G h q n 0) U.heap ∧ ci_K G U)
def flQ (G : ci_G) (h q n : Nat) (v : Int32) (sz : Nat) : Array Value → State → Outcome → State → Prop := va_Qv (fun _ : Unit => True) (fun _ t => va_P G.1 vwCl (nuL G h q n v) t.heap) (flA h q sz)
theorem nu_D {G : ci_G} {A : Nat → Prop} {h q n : Nat} {v : Int32} (hne : ¬ h = q) (h1 : A h) (h2 : A q) : va_D A (nuL G h q n v) := by
  refine ⟨fun i j x y hi hj hxy => ?_, fun k x hk => ?_⟩
  · match i, j, hi, hj with
    | 0, 0, _, _ => rfl
    | 1, 1, _, _ => rfl
    | 0, 1, hi, hj => cases hi; cases hj; exact absurd hxy hne
    | 1, 0, hi, hj => cases hi; cases hj; exact absurd hxy.symm hne
    | i + 2, _, hi, _ => simp [nuL] at hi
    | 0, j + 2, _, hj => simp [nuL] at hj
    | 1, j + 2, _, hj => simp [nuL] at hj
  · match k, hk with
    | 0, hk => cases hk; exact h1
    | 1, hk => cases hk; exact h2
    | k + 2, hk => simp [nuL] at hk
theorem nu_same {G : ci_G} {h q n : Nat} {f g : Nat → Int32} {H : Heap} (e : ∀ i, i < n → f i = g i) (k : va_P G.1 vwCl [(h, .inr (3, [.ref q])), (q, .inl (G.2, (n, .inl f)))] H) : va_P G.1 vwCl [(h, .inr (3, [.ref q])), (q, .inl (G.2, (n, .inl g)))] H := fun i x hx => by
  match i, hx with
  | 0, hx => exact k 0 x hx
  | 1, hx => cases hx; exact fl_same e (k 1 _ rfl)
  | i + 2, hx => simp at hx
theorem iX3_fill_X3c : ∀ w ∈ u_ws RX3 TX3 1, w ∈ wsX3_fill := fun w hw => (List.mem_cons_of_mem _ (List.mem_append_right _ hw))
set_option maxRecDepth 100000 in
set_option maxHeartbeats 4000000 in
theorem fill_loop {p : Program} {l : Launch} {e : Env} {R : Room} {s : State} {m : MethodId} {args : Array Value} {below : List Frame} {meth : Method} {c : Code} {G : ci_G} {A : Nat → Prop} {cells slots : Nat} {Q : State → Prop} (C : ii_C p s m args c G A cX3_fill 3 wsX3_fill yX3_fill.cls) {h q n : Nat} {v : Int32} (hn : n < 1000)
    (hk : ∀ f : Nat → Int32, (∀ j, j < n → f j = v) → ii p l e R s m args below meth c G A cells slots Q [(h, .inr (3, [.ref q])), (q, .inl (G.2, (n, .inl f)))] 24 [some (.ref h), some (.int v), some (.int (nI n))] []) : ∀ (k i : Nat) (f : Nat → Int32), n + 1 ≤ i + k → i ≤ n → (∀ j, j < i → f j = v) → ii p l e R s m args below meth c G A cells slots Q [(h, .inr (3, [.ref q])), (q, .inl (G.2, (n, .inl f)))] 2 [some (.ref h), some (.int v), some (.int (nI i))] [] := by
  intro k
  induction k with
  | zero => intro i f h1 h2 _; omega
  | succ k ih =>
    intro i f h1 h2 hI
    refine ii_iload_n C 2 dX3_fill_2 rfl rfl ?_
    refine ii_aload_n C 0 dX3_fill_3 rfl rfl ?_
    refine ii_get C (Cn := RX3) (T := TX3) (N := 1) 0 rfl (by decide) iX3_fill_X3c (List.mem_of_getElem? (i := 1) rfl) rfl rfl dX3_fill_4 ?_
    refine ii_alen C (v := nI n) 1 rfl rfl dX3_fill_7 ?_
    refine ii_icmp_ge C 24 dX3_fill_8 (by decide) (fun hge => ?_) (fun hlt => ?_)
    · have hin : i = n := by
        rcases Nat.lt_or_ge i n with z | z
        · exact absurd hge (nI_ge z (by omega))
        · omega
      rw [hin] at hI ⊢
      exact hk f hI
    · have hi4 : i < n := by
        rcases Nat.lt_or_ge i n with z | z
        · exact z
        · exact absurd (nI_le (a := n) z (by omega)) hlt
      refine ii_aload_n C 0 dX3_fill_11 rfl rfl ?_
      refine ii_get C (Cn := RX3) (T := TX3) (N := 1) 0 rfl (by decide) iX3_fill_X3c (List.mem_of_getElem? (i := 1) rfl) rfl rfl dX3_fill_12 ?_
      refine ii_iload_n C 2 dX3_fill_15 rfl rfl ?_
      refine ii_iload_n C 1 dX3_fill_16 rfl rfl ?_
      refine ii_iast C 1 rfl (vp_in_nI hi4 (by omega)) dX3_fill_17 ?_
      refine ii_iinc C 2 (v := nI (i + 1)) (ls2 := [some (.ref h), some (.int v), some (.int (nI (i + 1)))]) dX3_fill_18 rfl (nI_1 i) rfl ?_
      refine ii_goto C 2 dX3_fill_21 (by decide) ?_
      refine ih (i + 1) (upd f (nI i).toNatClampNeg v) (by omega) (by omega) (fun j hj => ?_)
      rw [nI_clamp (by omega)]
      by_cases z : j = i
      · rw [z]; exact upd_s
      · rw [upd_o z]; exact hI j (by omega)
set_option maxRecDepth 100000 in
set_option maxHeartbeats 4000000 in
theorem c_fill {l : Launch} (G : ci_G) {h q n : Nat} (v : Int32) (sz : Nat) (hn : n < 1000) (hne : ¬ h = q) : Met l yX3_fill wsX3_fill ({ frames := 0, cells := 0, slots := 0, locals := 0 } : Room) (flP G h q n v sz) (flQ G h q n v sz) 0 0 (flA h q sz) := by
  refine Met.ofW (cc := cX3_fill) (maxL := 3) (ret := none) (by decide) rfl ?_
  intro p e s m args below meth c s₁ B hml hv
  obtain ⟨rfl, hsz, hP, hK⟩ := hv
  subst hsz
  have hc := mw_one_cat (vs := [.ref h, .int v]) rfl
  have hl := lv_entry [.ref h, .int v] (n := 3) (Nat.le_of_ble_eq_true rfl)
  rw [lg_entry_eq]
  have C : ii_C p s m [Value.ref h, .int v].toArray c G (flA h q s.heap.size) cX3_fill 3 wsX3_fill yX3_fill.cls := ⟨⟨B.exec, B.bytes, hml, findClass_of_methodNamed B.named, atoms_spec (ws := wsX3_fill) B.pre⟩, hK, fun x hx => Or.inr (Or.inr hx)⟩
  have K : ii p l e ({ frames := 0, cells := 0, slots := 0, locals := 0 } : Room) s m [Value.ref h, .int v].toArray below meth c G (flA h q s.heap.size) 0 0 (MQ below (flQ G h q n v s.heap.size) [Value.ref h, .int v].toArray s 0 0 (flA h q s.heap.size)) (nuL G h q n 0) 0 [some (.ref h), some (.int v), none] [] := by
    refine ii_iconst (v := 0) C dX3_fill_0 (by decide) ?_
    refine ii_istore_n (ls2 := [some (.ref h), some (.int v), some (.int 0)]) C 2 dX3_fill_1 rfl (Nat.le_of_ble_eq_true rfl) rfl ?_
    refine fill_loop C hn (fun f hf => ?_) (n + 1) 0 (fun _ => 0) (by omega) (by omega) (fun j hj => by omega)
    intro H locs la hP hD hS hL
    exact W.vret C.1.1 C.1.2.1 B.returns (fun t ht hW2 => ⟨⟨(), rfl, trivial, by show va_P G.1 vwCl (nuL G h q n v) t.heap; rw [ht]; exact nu_same hf hP⟩, hS.F ht⟩) hS.2.2 dX3_fill_24 B.notSynchronized
  refine K s.heap [] _ hP (nu_D hne (Or.inl rfl) (Or.inr (Or.inl rfl))) va_S.rf ⟨?_, fun w hw => ?_⟩
  · exact hl
  · rcases List.mem_cons.mp hw with z | hw
    · cases z; rfl
    · rcases List.mem_cons.mp hw with z | hw
      · cases z; rfl
      · rcases List.mem_cons.mp hw with z | hw
        · cases z
        · exact absurd hw List.not_mem_nil
theorem fl_blind {G : ci_G} {h q n sz : Nat} {v : Int32} : FrameBlind (flP G h q n v sz) := fun a U g mk z => ⟨z.1, z.2.1, z.2.2.1, ci_same z.2.2.2⟩
theorem ii_fill {p : Program} {l : Launch} {e : Env} {R : Room} {s : State} {m : MethodId} {args : Array Value} {below : List Frame} {meth : Method} {c : Code} {G : ci_G} {A : Nat → Prop} {cells slots : Nat} {Q : State → Prop} {cc : ByteArray} {nL : Nat} {Ts : List Cond} {own : String} {pc : Nat} {ls : List (Option Value)} {st : List Value} (C : ii_C p s m args c G A cc nL Ts own) {h q n index maxL : Nat} {v : Int32} (hn : n < 1000) {bytes : ByteArray} {ret : Option FieldType}
    (cw : CallW R s args own RX3 index yX3_fill bytes maxL ret wsX3_fill ({ frames := 0, cells := 0, slots := 0, locals := 0 } : Room) 0 0 1) (hlen : ls.length = nL) (hcat : (st.map fun v => v.category).sum ≤ 8) (hd : decode cc pc = .ok (.invokevirtual index, 3)) (hf : cells ≤ R.cells ∧ slots ≤ R.slots)
    (kk : ii p l e R s m args below meth c G A cells slots Q (nuL G h q n v) (pc + 3) ls st) : ii p l e R s m args below meth c G A cells slots Q (nuL G h q n 0) pc ls (.int v :: .ref h :: st) := fun H locs la hP hD hS hL => by
  have hne : ¬ h = q := fun z => absurd (hD.1 0 1 _ _ rfl rfl z) (by decide)
  have hFc : ∀ x, flA h q H.size x → A x := fun x hx => by
    rcases hx with z | z | z
    · rw [z]; exact hD.2 0 _ rfl
    · rw [z]; exact hD.2 1 _ rfl
    · exact C.2.2 x (Nat.le_trans hS.1 z)
  refine va_callv (A1 := flA h q H.size) (va_runV (As := [.int v]) (rest := st) C.1 (c_fill G v H.size hn hne) cw ⟨fl_blind, va_recv (q := (RX3, TX3, 1)) (q0 := 0) (ci := 3) C.2.1.1 hP rfl rfl, fun U hU hW2 => ⟨rfl, by rw [hU], by rw [hU]; exact hP, ci_moved hW2 C.2.1⟩⟩ rfl rfl ?_ rfl (lv_room hcat) hd hf) hS (fun x _ z => hFc x z) hFc (fun u t H1 locs1 ht hvm hw hB hz hk hS1 => ?_)
  · rw [← hlen]; exact hL.1.1
  · rw [ht] at hB
    exact kk H1 locs1 la hB (nu_D hne (hD.2 0 _ rfl) (hD.2 1 _ rfl)) hS1 hL
theorem iX3_init_X3c : ∀ w ∈ u_ws RX3 TX3 1, w ∈ wsX3_init := fun w hw => (List.mem_cons_of_mem _ (List.mem_append_right _ hw))
set_option maxRecDepth 100000 in
set_option maxHeartbeats 4000000 in
theorem c_X3_init {l : Launch} (G : ci_G) {n : Nat} (hn : n < 1000) (v : Int32) : ci_Met l yX3_init wsX3_init ({ frames := 1, cells := 1, slots := n, locals := 22 } : Room) G 3 [.null] [.int (nI n), .int v] (fun h0 wn => ∃ q1, wn = nuL G h0 q1 n v) 1 n := by
  refine ci_of (cc := cX3_init) 3 (by decide) rfl rfl (Nat.le_of_ble_eq_true rfl) ?_
  intro p e s m args below meth c h0 A C hA hR hN0
  refine ii_loc (ls2 := [some (.ref h0), some (.int (nI n)), some (.int v)]) rfl ?_
  refine ii_aload_n C 0 dX3_init_0 rfl rfl ?_
  refine ii_objInit C rfl (List.mem_of_getElem? (i := 1) rfl) (List.mem_of_getElem? (i := 2) rfl) (List.mem_of_getElem? (i := 3) rfl) dX3_init_1 (Nat.le_of_ble_eq_true rfl) (Nat.le_of_ble_eq_true rfl) ?_
  refine ii_aload_n C 0 dX3_init_4 rfl rfl ?_
  refine ii_iload_n C 1 dX3_init_5 rfl rfl ?_
  refine ii_iconst (v := 0) C dX3_init_6 (by decide) ?_
  refine ii_mmax C rfl (List.mem_of_getElem? (i := 4) rfl) (List.mem_of_getElem? (i := 5) rfl) (List.mem_of_getElem? (i := 6) rfl) (List.mem_of_getElem? (i := 7) rfl) (Nat.le_of_ble_eq_true rfl) (Nat.le_of_ble_eq_true rfl) (Nat.zero_le _) (Nat.zero_le _) dX3_init_7 ?_
  refine ii_top (y := nI n) (if_neg (nI_pos (by omega))) ?_
  refine ii_newa C (N := n) (List.mem_of_getElem? (i := 8) rfl) (nI_pos (by omega)) (nI_clamp (by omega)) (by omega) (Nat.le_refl _) (Nat.le_of_eq (Nat.zero_add n)) dX3_init_10 (fun q1 => ?_)
  refine ii_putF C hN0 (Cn := RX3) (T := TX3) (N := 1) (ty0 := tyX3) 0 rfl (by decide) iX3_init_X3c (List.mem_of_getElem? (i := 9) rfl) rfl rfl tyX3_ok nmX3 rfl (tyX3_ok 0 (by decide)) rfl rfl (Nat.le_of_ble_eq_true rfl) dX3_init_12 ?_
  refine ii_ws (ws2 := nuL G h0 q1 n 0) rfl ?_
  refine ii_aload_n C 0 dX3_init_15 rfl rfl ?_
  refine ii_iload_n C 2 dX3_init_16 rfl rfl ?_
  refine ii_fill C hn (cwV 1 C.1.2.2.2.2 gX3_init_X3_fill rfl rfl rfl (by decide +kernel) ⟨Nat.le_of_ble_eq_true rfl, Nat.le_of_ble_eq_true rfl⟩) rfl (Nat.le_of_ble_eq_true rfl) dX3_init_17 ⟨Nat.le_refl _, Nat.le_of_eq (Nat.zero_add n)⟩ ?_
  refine ii_widen (k := 1) (n := n) (Nat.le_refl _) (Nat.le_of_eq (Nat.zero_add n)) ?_
  exact ii_vret C hA hR dX3_init_20 ⟨q1, rfl⟩
theorem iX1_init_X1 : ∀ w ∈ u_ws RX1 TX1 3, w ∈ wsX1_init := fun w hw => (List.mem_cons_of_mem _ (List.mem_append_right _ hw))
theorem iX1_init_X3 : ∀ w ∈ u_ws RX3 TX3 1, w ∈ wsX1_init := fun w hw => (List.mem_cons_of_mem _ (List.mem_append_left _ (List.mem_append_right _ hw)))
set_option maxRecDepth 100000 in
set_option maxHeartbeats 4000000 in
theorem c_X1_init {l : Launch} (G : ci_G) : ci_Met l yX1_init wsX1_init ({ frames := 2, cells := 6, slots := 15, locals := 44 } : Room) G 1 [.null, .null, .null] [] (fun h0 wn => ∃ ad : Nat → Nat, ad 0 = h0 ∧ wn = exL G ad) 6 15 := by
  refine ci_of (cc := cX1_init) 1 (by decide) rfl rfl (Nat.le_of_ble_eq_true rfl) ?_
  intro p e s m args below meth c h0 A C hA hR hN0
  refine ii_loc (ls2 := [some (.ref h0)]) rfl ?_
  refine ii_aload_n C 0 dX1_init_0 rfl rfl ?_
  refine ii_objInit C rfl (List.mem_of_getElem? (i := 1) rfl) (List.mem_of_getElem? (i := 2) rfl) (List.mem_of_getElem? (i := 3) rfl) dX1_init_1 (Nat.le_of_ble_eq_true rfl) (Nat.le_of_ble_eq_true rfl) ?_
  refine ii_aload_n C 0 dX1_init_4 rfl rfl ?_
  refine ii_new C (Cn := RX3) (T := TX3) (N := 1) (ci := 3) (fs := [.null]) tyX3 rfl iX1_init_X3 tyX3_ok (List.mem_of_getElem? (i := 4) rfl) (List.mem_of_getElem? (i := 5) rfl) (List.mem_of_getElem? (i := 6) rfl) (fun j hj => by match j, hj with | 0, _ => rfl | j + 1, hj => exact absurd hj (by omega)) (Nat.le_of_ble_eq_true rfl) (Nat.le_of_ble_eq_true rfl) dX1_init_5 (fun q5 => ?_)
  refine ii_dup C dX1_init_8 rfl ?_
  refine ii_iconst (v := 4) C dX1_init_9 (by decide) ?_
  refine ii_iconst (v := 0) C dX1_init_10 (by decide) ?_
  refine ii_init C (q := q5) [.int 4, .int 0] (c_X3_init G (n := 4) (by decide) 0) (cwI 2 C.1.2.2.2.2 gX1_init_X3_init rfl rfl rfl (C.1.2.2.2.2 _ (List.mem_of_getElem? (i := 6) rfl)) (C.1.2.2.2.2 _ (List.mem_of_getElem? (i := 10) rfl)) (C.1.2.2.2.2 _ (List.mem_of_getElem? (i := 11) rfl)) rfl (by decide +kernel) ⟨Nat.le_of_ble_eq_true rfl, Nat.le_of_ble_eq_true rfl⟩) rfl rfl rfl (Nat.le_of_ble_eq_true rfl) dX1_init_11 ⟨Nat.le_of_ble_eq_true rfl, Nat.le_of_ble_eq_true rfl⟩ (fun wn hw1 => ?_)
  obtain ⟨r1, rfl⟩ := hw1
  refine ii_ws (ws2 := (h0, .inr (1, [.null, .null, .null])) :: nuL G q5 r1 4 0) rfl ?_
  refine ii_putF C hN0 (Cn := RX1) (T := TX1) (N := 3) (ty0 := tyX1) 0 rfl (by decide) iX1_init_X1 (List.mem_of_getElem? (i := 7) rfl) rfl rfl tyX1_ok nmX1 rfl (tyX1_ok 0 (by decide)) rfl rfl (Nat.le_of_ble_eq_true rfl) dX1_init_14 ?_
  refine ii_ws (ws2 := (h0, .inr (1, [.ref q5, .null, .null])) :: nuL G q5 r1 4 0) rfl ?_
  refine ii_aload_n C 0 dX1_init_17 rfl rfl ?_
  refine ii_new C (Cn := RX3) (T := TX3) (N := 1) (ci := 3) (fs := [.null]) tyX3 rfl iX1_init_X3 tyX3_ok (List.mem_of_getElem? (i := 4) rfl) (List.mem_of_getElem? (i := 5) rfl) (List.mem_of_getElem? (i := 6) rfl) (fun j hj => by match j, hj with | 0, _ => rfl | j + 1, hj => exact absurd hj (by omega)) (Nat.le_of_ble_eq_true rfl) (Nat.le_of_ble_eq_true rfl) dX1_init_18 (fun q18 => ?_)
  refine ii_dup C dX1_init_21 rfl ?_
  refine ii_iconst (v := 4) C dX1_init_22 (by decide) ?_
  refine ii_iconst (v := 0) C dX1_init_23 (by decide) ?_
  refine ii_init C (q := q18) [.int 4, .int 0] (c_X3_init G (n := 4) (by decide) 0) (cwI 2 C.1.2.2.2.2 gX1_init_X3_init rfl rfl rfl (C.1.2.2.2.2 _ (List.mem_of_getElem? (i := 6) rfl)) (C.1.2.2.2.2 _ (List.mem_of_getElem? (i := 10) rfl)) (C.1.2.2.2.2 _ (List.mem_of_getElem? (i := 11) rfl)) rfl (by decide +kernel) ⟨Nat.le_of_ble_eq_true rfl, Nat.le_of_ble_eq_true rfl⟩) rfl rfl rfl (Nat.le_of_ble_eq_true rfl) dX1_init_24 ⟨Nat.le_of_ble_eq_true rfl, Nat.le_of_ble_eq_true rfl⟩ (fun wn hw2 => ?_)
  obtain ⟨r2, rfl⟩ := hw2
  refine ii_ws (ws2 := (h0, .inr (1, [.ref q5, .null, .null])) :: (nuL G q5 r1 4 0 ++ nuL G q18 r2 4 0)) rfl ?_
  refine ii_putF C hN0 (Cn := RX1) (T := TX1) (N := 3) (ty0 := tyX1) 1 rfl (by decide) iX1_init_X1 (List.mem_of_getElem? (i := 8) rfl) rfl rfl tyX1_ok nmX1 rfl (tyX1_ok 1 (by decide)) rfl rfl (Nat.le_of_ble_eq_true rfl) dX1_init_27 ?_
  refine ii_ws (ws2 := (h0, .inr (1, [.ref q5, .ref q18, .null])) :: (nuL G q5 r1 4 0 ++ nuL G q18 r2 4 0)) rfl ?_
  refine ii_aload_n C 0 dX1_init_30 rfl rfl ?_
  refine ii_new C (Cn := RX3) (T := TX3) (N := 1) (ci := 3) (fs := [.null]) tyX3 rfl iX1_init_X3 tyX3_ok (List.mem_of_getElem? (i := 4) rfl) (List.mem_of_getElem? (i := 5) rfl) (List.mem_of_getElem? (i := 6) rfl) (fun j hj => by match j, hj with | 0, _ => rfl | j + 1, hj => exact absurd hj (by omega)) (Nat.le_of_ble_eq_true rfl) (Nat.le_of_ble_eq_true rfl) dX1_init_31 (fun q31 => ?_)
  refine ii_dup C dX1_init_34 rfl ?_
  refine ii_iconst (v := 4) C dX1_init_35 (by decide) ?_
  refine ii_iconst (v := 0) C dX1_init_36 (by decide) ?_
  refine ii_init C (q := q31) [.int 4, .int 0] (c_X3_init G (n := 4) (by decide) 0) (cwI 2 C.1.2.2.2.2 gX1_init_X3_init rfl rfl rfl (C.1.2.2.2.2 _ (List.mem_of_getElem? (i := 6) rfl)) (C.1.2.2.2.2 _ (List.mem_of_getElem? (i := 10) rfl)) (C.1.2.2.2.2 _ (List.mem_of_getElem? (i := 11) rfl)) rfl (by decide +kernel) ⟨Nat.le_of_ble_eq_true rfl, Nat.le_of_ble_eq_true rfl⟩) rfl rfl rfl (Nat.le_of_ble_eq_true rfl) dX1_init_37 ⟨Nat.le_of_ble_eq_true rfl, Nat.le_of_ble_eq_true rfl⟩ (fun wn hw3 => ?_)
  obtain ⟨r3, rfl⟩ := hw3
  refine ii_ws (ws2 := (h0, .inr (1, [.ref q5, .ref q18, .null])) :: ((nuL G q5 r1 4 0 ++ nuL G q18 r2 4 0) ++ nuL G q31 r3 4 0)) rfl ?_
  refine ii_putF C hN0 (Cn := RX1) (T := TX1) (N := 3) (ty0 := tyX1) 2 rfl (by decide) iX1_init_X1 (List.mem_of_getElem? (i := 9) rfl) rfl rfl tyX1_ok nmX1 rfl (tyX1_ok 2 (by decide)) rfl rfl (Nat.le_of_ble_eq_true rfl) dX1_init_40 ?_
  refine ii_ws (ws2 := (h0, .inr (1, [.ref q5, .ref q18, .ref q31])) :: ((nuL G q5 r1 4 0 ++ nuL G q18 r2 4 0) ++ nuL G q31 r3 4 0)) rfl ?_
  refine ii_vret C hA hR dX1_init_43 ?_
  exact ⟨fun k => [h0, q5, r1, q18, r2, q31, r3].getD k 0, rfl, rfl⟩
theorem iX0_init_X0 : ∀ w ∈ u_ws RX0 TX0 4, w ∈ wsX0_init := fun w hw => (List.mem_cons_of_mem _ (List.mem_append_left _ (List.mem_append_right _ hw)))
theorem iX0_init_X1 : ∀ w ∈ u_ws RX1 TX1 3, w ∈ wsX0_init := fun w hw => (List.mem_cons_of_mem _ (List.mem_append_right _ hw))
theorem iX0_init_X3 : ∀ w ∈ u_ws RX3 TX3 1, w ∈ wsX0_init := fun w hw => (List.mem_cons_of_mem _ (List.mem_append_left _ (List.mem_append_left _ (List.mem_append_right _ hw))))
set_option maxRecDepth 100000 in
set_option maxHeartbeats 4000000 in
theorem c_X0_init {l : Launch} (G : ci_G) : ci_Met l yX0_init wsX0_init ({ frames := 3, cells := 9, slots := 67, locals := 64 } : Room) G 0 [.null, .null, .int 0, .int 0] [] (fun h0 wn => ∃ ad : Nat → Nat, ad 0 = h0 ∧ wn = dL G ad) 9 67 := by
  refine ci_of (cc := cX0_init) 1 (by decide) rfl rfl (Nat.le_of_ble_eq_true rfl) ?_
  intro p e s m args below meth c h0 A C hA hR hN0
  refine ii_loc (ls2 := [some (.ref h0)]) rfl ?_
  refine ii_aload_n C 0 dX0_init_0 rfl rfl ?_
  refine ii_objInit C rfl (List.mem_of_getElem? (i := 1) rfl) (List.mem_of_getElem? (i := 2) rfl) (List.mem_of_getElem? (i := 3) rfl) dX0_init_1 (Nat.le_of_ble_eq_true rfl) (Nat.le_of_ble_eq_true rfl) ?_
  refine ii_aload_n C 0 dX0_init_4 rfl rfl ?_
  refine ii_new C (Cn := RX3) (T := TX3) (N := 1) (ci := 3) (fs := [.null]) tyX3 rfl iX0_init_X3 tyX3_ok (List.mem_of_getElem? (i := 4) rfl) (List.mem_of_getElem? (i := 5) rfl) (List.mem_of_getElem? (i := 6) rfl) (fun j hj => by match j, hj with | 0, _ => rfl | j + 1, hj => exact absurd hj (by omega)) (Nat.le_of_ble_eq_true rfl) (Nat.le_of_ble_eq_true rfl) dX0_init_5 (fun q5 => ?_)
  refine ii_dup C dX0_init_8 rfl ?_
  refine ii_bipush (v := 48) C dX0_init_9 (by decide) ?_
  refine ii_iconst (v := (-1)) C dX0_init_11 (by decide) ?_
  refine ii_init C (q := q5) [.int 48, .int (-1)] (c_X3_init G (n := 48) (by decide) (-1)) (cwI 2 C.1.2.2.2.2 gX0_init_X3_init rfl rfl rfl (C.1.2.2.2.2 _ (List.mem_of_getElem? (i := 6) rfl)) (C.1.2.2.2.2 _ (List.mem_of_getElem? (i := 14) rfl)) (C.1.2.2.2.2 _ (List.mem_of_getElem? (i := 15) rfl)) rfl (by decide +kernel) ⟨Nat.le_of_ble_eq_true rfl, Nat.le_of_ble_eq_true rfl⟩) rfl rfl rfl (Nat.le_of_ble_eq_true rfl) dX0_init_12 ⟨Nat.le_of_ble_eq_true rfl, Nat.le_of_ble_eq_true rfl⟩ (fun wn hw1 => ?_)
  obtain ⟨r1, rfl⟩ := hw1
  refine ii_ws (ws2 := (h0, .inr (0, [.null, .null, .int 0, .int 0])) :: nuL G q5 r1 48 (-1)) rfl ?_
  refine ii_putF C hN0 (Cn := RX0) (T := TX0) (N := 4) (ty0 := tyX0) 0 rfl (by decide) iX0_init_X0 (List.mem_of_getElem? (i := 7) rfl) rfl rfl tyX0_ok nmX0 rfl (tyX0_ok 0 (by decide)) rfl rfl (Nat.le_of_ble_eq_true rfl) dX0_init_15 ?_
  refine ii_ws (ws2 := (h0, .inr (0, [.ref q5, .null, .int 0, .int 0])) :: nuL G q5 r1 48 (-1)) rfl ?_
  refine ii_aload_n C 0 dX0_init_18 rfl rfl ?_
  refine ii_new C (Cn := RX1) (T := TX1) (N := 3) (ci := 1) (fs := [.null, .null, .null]) tyX1 rfl iX0_init_X1 tyX1_ok (List.mem_of_getElem? (i := 8) rfl) (List.mem_of_getElem? (i := 9) rfl) (List.mem_of_getElem? (i := 10) rfl) (fun j hj => by match j, hj with | 0, _ => rfl | 1, _ => rfl | 2, _ => rfl | j + 3, hj => exact absurd hj (by omega)) (Nat.le_of_ble_eq_true rfl) (Nat.le_of_ble_eq_true rfl) dX0_init_19 (fun q19 => ?_)
  refine ii_dup C dX0_init_22 rfl ?_
  refine ii_initN C (q := q19) [] (c_X1_init G) ⟨va_cnB (host := "ExampleDrawers") 0 C.1.2.2.2.2 gX0_init_X1_init_n22 rfl rfl rfl (C.2.1.2 (RX0, 22, yX1_init) (List.mem_of_getElem? (i := 2) rfl)) (C.1.2.2.2.2 _ (List.mem_of_getElem? (i := 10) rfl)) (by decide +kernel) ⟨Nat.le_of_ble_eq_true rfl, Nat.le_of_ble_eq_true rfl⟩, rfl, C.1.2.2.2.2 _ (List.mem_of_getElem? (i := 28) rfl)⟩ rfl rfl rfl (Nat.le_of_ble_eq_true rfl) dX0_init_23 ⟨Nat.le_of_ble_eq_true rfl, Nat.le_of_ble_eq_true rfl⟩ (fun wn hw2 => ?_)
  obtain ⟨a2, rfl, rfl⟩ := hw2
  refine ii_ws (ws2 := (h0, .inr (0, [.ref q5, .null, .int 0, .int 0])) :: (nuL G q5 r1 48 (-1) ++ exL G a2)) rfl ?_
  refine ii_putF C hN0 (Cn := RX0) (T := TX0) (N := 4) (ty0 := tyX0) 1 rfl (by decide) iX0_init_X0 (List.mem_of_getElem? (i := 11) rfl) rfl rfl tyX0_ok nmX0 rfl (tyX0_ok 1 (by decide)) rfl rfl (Nat.le_of_ble_eq_true rfl) dX0_init_26 ?_
  refine ii_ws (ws2 := (h0, .inr (0, [.ref q5, .ref (a2 0), .int 0, .int 0])) :: (nuL G q5 r1 48 (-1) ++ exL G a2)) rfl ?_
  refine ii_aload_n C 0 dX0_init_29 rfl rfl ?_
  refine ii_iconst (v := 3) C dX0_init_30 (by decide) ?_
  refine ii_put C (Cn := RX0) (T := TX0) (N := 4) (ty0 := tyX0) 2 rfl (by decide) iX0_init_X0 (List.mem_of_getElem? (i := 12) rfl) rfl tyX0_ok nmX0 rfl (tyX0_ok 2 (by decide)) rfl rfl (Nat.le_of_ble_eq_true rfl) dX0_init_31 ?_
  refine ii_ws (ws2 := (h0, .inr (0, [.ref q5, .ref (a2 0), .int 3, .int 0])) :: (nuL G q5 r1 48 (-1) ++ exL G a2)) rfl ?_
  refine ii_aload_n C 0 dX0_init_34 rfl rfl ?_
  refine ii_iconst (v := 0) C dX0_init_35 (by decide) ?_
  refine ii_put C (Cn := RX0) (T := TX0) (N := 4) (ty0 := tyX0) 3 rfl (by decide) iX0_init_X0 (List.mem_of_getElem? (i := 13) rfl) rfl tyX0_ok nmX0 rfl (tyX0_ok 3 (by decide)) rfl rfl (Nat.le_of_ble_eq_true rfl) dX0_init_36 ?_
  refine ii_ws (ws2 := (h0, .inr (0, [.ref q5, .ref (a2 0), .int 3, .int 0])) :: (nuL G q5 r1 48 (-1) ++ exL G a2)) rfl ?_
  refine ii_vret C hA hR dX0_init_39 ?_
  exact ⟨fun k => if k = 0 then h0 else if k = 1 then q5 else if k = 2 then r1 else a2 (k - 3), rfl, rfl⟩
theorem iX6_init_X0 : ∀ w ∈ u_ws RX0 TX0 4, w ∈ wsX6_init := fun w hw => (List.mem_cons_of_mem _ (List.mem_append_left _ (List.mem_append_left _ (List.mem_append_left _ (List.mem_append_right _ hw)))))
theorem iX6_init_X3 : ∀ w ∈ u_ws RX3 TX3 1, w ∈ wsX6_init := fun w hw => (List.mem_cons_of_mem _ (List.mem_append_left _ (List.mem_append_right _ hw)))
theorem iX6_init_X6 : ∀ w ∈ u_ws RX6 TX6 6, w ∈ wsX6_init := fun w hw => (List.mem_cons_of_mem _ (List.mem_append_left _ (List.mem_append_left _ (List.mem_append_right _ hw))))
set_option maxRecDepth 100000 in
set_option maxHeartbeats 4000000 in
theorem c_X6_init {l : Launch} (G : ci_G) : ci_Met l yX6_init wsX6_init ({ frames := 4, cells := 24, slots := 148, locals := 84 } : Room) G 6 [.null, .null, .null, .null, .int 0, .int 0] [] (fun h0 wn => ∃ ad : Nat → Nat, ad 0 = h0 ∧ wn = sL G ad) 24 148 := by
  refine ci_of (cc := cX6_init) 1 (by decide) rfl rfl (Nat.le_of_ble_eq_true rfl) ?_
  intro p e s m args below meth c h0 A C hA hR hN0
  refine ii_loc (ls2 := [some (.ref h0)]) rfl ?_
  refine ii_aload_n C 0 dX6_init_0 rfl rfl ?_
  refine ii_objInit C rfl (List.mem_of_getElem? (i := 1) rfl) (List.mem_of_getElem? (i := 2) rfl) (List.mem_of_getElem? (i := 3) rfl) dX6_init_1 (Nat.le_of_ble_eq_true rfl) (Nat.le_of_ble_eq_true rfl) ?_
  refine ii_aload_n C 0 dX6_init_4 rfl rfl ?_
  refine ii_new C (Cn := RX0) (T := TX0) (N := 4) (ci := 0) (fs := [.null, .null, .int 0, .int 0]) tyX0 rfl iX6_init_X0 tyX0_ok (List.mem_of_getElem? (i := 4) rfl) (List.mem_of_getElem? (i := 5) rfl) (List.mem_of_getElem? (i := 6) rfl) (fun j hj => by match j, hj with | 0, _ => rfl | 1, _ => rfl | 2, _ => rfl | 3, _ => rfl | j + 4, hj => exact absurd hj (by omega)) (Nat.le_of_ble_eq_true rfl) (Nat.le_of_ble_eq_true rfl) dX6_init_5 (fun q5 => ?_)
  refine ii_dup C dX6_init_8 rfl ?_
  refine ii_initN C (q := q5) [] (c_X0_init G) ⟨va_cnB (host := "ExampleDrawers") 0 C.1.2.2.2.2 gX6_init_X0_init_n11 rfl rfl rfl (C.2.1.2 (RX6, 11, yX0_init) (List.mem_of_getElem? (i := 1) rfl)) (C.1.2.2.2.2 _ (List.mem_of_getElem? (i := 6) rfl)) (by decide +kernel) ⟨Nat.le_of_ble_eq_true rfl, Nat.le_of_ble_eq_true rfl⟩, rfl, C.1.2.2.2.2 _ (List.mem_of_getElem? (i := 16) rfl)⟩ rfl rfl rfl (Nat.le_of_ble_eq_true rfl) dX6_init_9 ⟨Nat.le_of_ble_eq_true rfl, Nat.le_of_ble_eq_true rfl⟩ (fun wn hw1 => ?_)
  obtain ⟨a1, rfl, rfl⟩ := hw1
  refine ii_ws (ws2 := (h0, .inr (6, [.null, .null, .null, .null, .int 0, .int 0])) :: dL G a1) rfl ?_
  refine ii_putF C hN0 (Cn := RX6) (T := TX6) (N := 6) (ty0 := tyX6) 0 rfl (by decide) iX6_init_X6 (List.mem_of_getElem? (i := 7) rfl) rfl rfl tyX6_ok nmX6 rfl (tyX6_ok 0 (by decide)) rfl rfl (Nat.le_of_ble_eq_true rfl) dX6_init_12 ?_
  refine ii_ws (ws2 := (h0, .inr (6, [.ref (a1 0), .null, .null, .null, .int 0, .int 0])) :: dL G a1) rfl ?_
  refine ii_aload_n C 0 dX6_init_15 rfl rfl ?_
  refine ii_new C (Cn := RX0) (T := TX0) (N := 4) (ci := 0) (fs := [.null, .null, .int 0, .int 0]) tyX0 rfl iX6_init_X0 tyX0_ok (List.mem_of_getElem? (i := 4) rfl) (List.mem_of_getElem? (i := 5) rfl) (List.mem_of_getElem? (i := 6) rfl) (fun j hj => by match j, hj with | 0, _ => rfl | 1, _ => rfl | 2, _ => rfl | 3, _ => rfl | j + 4, hj => exact absurd hj (by omega)) (Nat.le_of_ble_eq_true rfl) (Nat.le_of_ble_eq_true rfl) dX6_init_16 (fun q16 => ?_)
  refine ii_dup C dX6_init_19 rfl ?_
  refine ii_initN C (q := q16) [] (c_X0_init G) ⟨va_cnB (host := "ExampleDrawers") 0 C.1.2.2.2.2 gX6_init_X0_init_n11 rfl rfl rfl (C.2.1.2 (RX6, 11, yX0_init) (List.mem_of_getElem? (i := 1) rfl)) (C.1.2.2.2.2 _ (List.mem_of_getElem? (i := 6) rfl)) (by decide +kernel) ⟨Nat.le_of_ble_eq_true rfl, Nat.le_of_ble_eq_true rfl⟩, rfl, C.1.2.2.2.2 _ (List.mem_of_getElem? (i := 16) rfl)⟩ rfl rfl rfl (Nat.le_of_ble_eq_true rfl) dX6_init_20 ⟨Nat.le_of_ble_eq_true rfl, Nat.le_of_ble_eq_true rfl⟩ (fun wn hw2 => ?_)
  obtain ⟨a2, rfl, rfl⟩ := hw2
  refine ii_ws (ws2 := (h0, .inr (6, [.ref (a1 0), .null, .null, .null, .int 0, .int 0])) :: (dL G a1 ++ dL G a2)) rfl ?_
  refine ii_putF C hN0 (Cn := RX6) (T := TX6) (N := 6) (ty0 := tyX6) 1 rfl (by decide) iX6_init_X6 (List.mem_of_getElem? (i := 8) rfl) rfl rfl tyX6_ok nmX6 rfl (tyX6_ok 1 (by decide)) rfl rfl (Nat.le_of_ble_eq_true rfl) dX6_init_23 ?_
  refine ii_ws (ws2 := (h0, .inr (6, [.ref (a1 0), .ref (a2 0), .null, .null, .int 0, .int 0])) :: (dL G a1 ++ dL G a2)) rfl ?_
  refine ii_aload_n C 0 dX6_init_26 rfl rfl ?_
  refine ii_new C (Cn := RX3) (T := TX3) (N := 1) (ci := 3) (fs := [.null]) tyX3 rfl iX6_init_X3 tyX3_ok (List.mem_of_getElem? (i := 9) rfl) (List.mem_of_getElem? (i := 10) rfl) (List.mem_of_getElem? (i := 11) rfl) (fun j hj => by match j, hj with | 0, _ => rfl | j + 1, hj => exact absurd hj (by omega)) (Nat.le_of_ble_eq_true rfl) (Nat.le_of_ble_eq_true rfl) dX6_init_27 (fun q27 => ?_)
  refine ii_dup C dX6_init_30 rfl ?_
  refine ii_iconst (v := 2) C dX6_init_31 (by decide) ?_
  refine ii_iconst (v := (-1)) C dX6_init_32 (by decide) ?_
  refine ii_init C (q := q27) [.int 2, .int (-1)] (c_X3_init G (n := 2) (by decide) (-1)) (cwI 2 C.1.2.2.2.2 gX6_init_X3_init rfl rfl rfl (C.1.2.2.2.2 _ (List.mem_of_getElem? (i := 11) rfl)) (C.1.2.2.2.2 _ (List.mem_of_getElem? (i := 49) rfl)) (C.1.2.2.2.2 _ (List.mem_of_getElem? (i := 28) rfl)) rfl (by decide +kernel) ⟨Nat.le_of_ble_eq_true rfl, Nat.le_of_ble_eq_true rfl⟩) rfl rfl rfl (Nat.le_of_ble_eq_true rfl) dX6_init_33 ⟨Nat.le_of_ble_eq_true rfl, Nat.le_of_ble_eq_true rfl⟩ (fun wn hw3 => ?_)
  obtain ⟨r3, rfl⟩ := hw3
  refine ii_ws (ws2 := (h0, .inr (6, [.ref (a1 0), .ref (a2 0), .null, .null, .int 0, .int 0])) :: ((dL G a1 ++ dL G a2) ++ nuL G q27 r3 2 (-1))) rfl ?_
  refine ii_putF C hN0 (Cn := RX6) (T := TX6) (N := 6) (ty0 := tyX6) 2 rfl (by decide) iX6_init_X6 (List.mem_of_getElem? (i := 12) rfl) rfl rfl tyX6_ok nmX6 rfl (tyX6_ok 2 (by decide)) rfl rfl (Nat.le_of_ble_eq_true rfl) dX6_init_36 ?_
  refine ii_ws (ws2 := (h0, .inr (6, [.ref (a1 0), .ref (a2 0), .ref q27, .null, .int 0, .int 0])) :: ((dL G a1 ++ dL G a2) ++ nuL G q27 r3 2 (-1))) rfl ?_
  refine ii_aload_n C 0 dX6_init_39 rfl rfl ?_
  refine ii_new C (Cn := RX3) (T := TX3) (N := 1) (ci := 3) (fs := [.null]) tyX3 rfl iX6_init_X3 tyX3_ok (List.mem_of_getElem? (i := 9) rfl) (List.mem_of_getElem? (i := 10) rfl) (List.mem_of_getElem? (i := 11) rfl) (fun j hj => by match j, hj with | 0, _ => rfl | j + 1, hj => exact absurd hj (by omega)) (Nat.le_of_ble_eq_true rfl) (Nat.le_of_ble_eq_true rfl) dX6_init_40 (fun q40 => ?_)
  refine ii_dup C dX6_init_43 rfl ?_
  refine ii_iconst (v := 2) C dX6_init_44 (by decide) ?_
  refine ii_iconst (v := 0) C dX6_init_45 (by decide) ?_
  refine ii_init C (q := q40) [.int 2, .int 0] (c_X3_init G (n := 2) (by decide) 0) (cwI 2 C.1.2.2.2.2 gX6_init_X3_init rfl rfl rfl (C.1.2.2.2.2 _ (List.mem_of_getElem? (i := 11) rfl)) (C.1.2.2.2.2 _ (List.mem_of_getElem? (i := 49) rfl)) (C.1.2.2.2.2 _ (List.mem_of_getElem? (i := 28) rfl)) rfl (by decide +kernel) ⟨Nat.le_of_ble_eq_true rfl, Nat.le_of_ble_eq_true rfl⟩) rfl rfl rfl (Nat.le_of_ble_eq_true rfl) dX6_init_46 ⟨Nat.le_of_ble_eq_true rfl, Nat.le_of_ble_eq_true rfl⟩ (fun wn hw4 => ?_)
  obtain ⟨r4, rfl⟩ := hw4
  refine ii_ws (ws2 := (h0, .inr (6, [.ref (a1 0), .ref (a2 0), .ref q27, .null, .int 0, .int 0])) :: (((dL G a1 ++ dL G a2) ++ nuL G q27 r3 2 (-1)) ++ nuL G q40 r4 2 0)) rfl ?_
  refine ii_putF C hN0 (Cn := RX6) (T := TX6) (N := 6) (ty0 := tyX6) 3 rfl (by decide) iX6_init_X6 (List.mem_of_getElem? (i := 13) rfl) rfl rfl tyX6_ok nmX6 rfl (tyX6_ok 3 (by decide)) rfl rfl (Nat.le_of_ble_eq_true rfl) dX6_init_49 ?_
  refine ii_ws (ws2 := (h0, .inr (6, [.ref (a1 0), .ref (a2 0), .ref q27, .ref q40, .int 0, .int 0])) :: (((dL G a1 ++ dL G a2) ++ nuL G q27 r3 2 (-1)) ++ nuL G q40 r4 2 0)) rfl ?_
  refine ii_aload_n C 0 dX6_init_52 rfl rfl ?_
  refine ii_iconst (v := 0) C dX6_init_53 (by decide) ?_
  refine ii_put C (Cn := RX6) (T := TX6) (N := 6) (ty0 := tyX6) 4 rfl (by decide) iX6_init_X6 (List.mem_of_getElem? (i := 14) rfl) rfl tyX6_ok nmX6 rfl (tyX6_ok 4 (by decide)) rfl rfl (Nat.le_of_ble_eq_true rfl) dX6_init_54 ?_
  refine ii_ws (ws2 := (h0, .inr (6, [.ref (a1 0), .ref (a2 0), .ref q27, .ref q40, .int 0, .int 0])) :: (((dL G a1 ++ dL G a2) ++ nuL G q27 r3 2 (-1)) ++ nuL G q40 r4 2 0)) rfl ?_
  refine ii_aload_n C 0 dX6_init_57 rfl rfl ?_
  refine ii_sipush (v := 255) C dX6_init_58 (by decide) ?_
  refine ii_put C (Cn := RX6) (T := TX6) (N := 6) (ty0 := tyX6) 5 rfl (by decide) iX6_init_X6 (List.mem_of_getElem? (i := 15) rfl) rfl tyX6_ok nmX6 rfl (tyX6_ok 5 (by decide)) rfl rfl (Nat.le_of_ble_eq_true rfl) dX6_init_61 ?_
  refine ii_ws (ws2 := (h0, .inr (6, [.ref (a1 0), .ref (a2 0), .ref q27, .ref q40, .int 0, .int 255])) :: (((dL G a1 ++ dL G a2) ++ nuL G q27 r3 2 (-1)) ++ nuL G q40 r4 2 0)) rfl ?_
  refine ii_vret C hA hR dX6_init_64 ?_
  exact ⟨fun k => if k = 0 then h0 else if k < 11 then a1 (k - 1) else if k < 21 then a2 (k - 11) else if k = 21 then q27 else if k = 22 then r3 else if k = 23 then q40 else r4, rfl, rfl⟩
theorem iX2_init_X2 : ∀ w ∈ u_ws RX2 TX2 5, w ∈ wsX2_init := fun w hw => (List.mem_cons_of_mem _ (List.mem_append_left _ (List.mem_append_left _ (List.mem_append_left _ (List.mem_append_right _ hw)))))
theorem iX2_init_X6 : ∀ w ∈ u_ws RX6 TX6 6, w ∈ wsX2_init := fun w hw => (List.mem_cons_of_mem _ (List.mem_append_left _ (List.mem_append_left _ (List.mem_append_left _ (List.mem_append_left _ (List.mem_append_right _ hw))))))
set_option maxRecDepth 100000 in
set_option maxHeartbeats 4000000 in
theorem c_X2_init {l : Launch} (G : ci_G) : ci_Met l yX2_init wsX2_init ({ frames := 5, cells := 100, slots := 616, locals := 104 } : Room) G 2 [.null, .null, .null, .null, .int 0] [] (fun h0 wn => ∃ a b c d : Nat → Nat, wn = hL G h0 a b c d) 100 616 := by
  refine ci_of (cc := cX2_init) 1 (by decide) rfl rfl (Nat.le_of_ble_eq_true rfl) ?_
  intro p e s m args below meth c h0 A C hA hR hN0
  refine ii_loc (ls2 := [some (.ref h0)]) rfl ?_
  refine ii_aload_n C 0 dX2_init_0 rfl rfl ?_
  refine ii_objInit C rfl (List.mem_of_getElem? (i := 1) rfl) (List.mem_of_getElem? (i := 2) rfl) (List.mem_of_getElem? (i := 3) rfl) dX2_init_1 (Nat.le_of_ble_eq_true rfl) (Nat.le_of_ble_eq_true rfl) ?_
  refine ii_aload_n C 0 dX2_init_4 rfl rfl ?_
  refine ii_new C (Cn := RX6) (T := TX6) (N := 6) (ci := 6) (fs := [.null, .null, .null, .null, .int 0, .int 0]) tyX6 rfl iX2_init_X6 tyX6_ok (List.mem_of_getElem? (i := 4) rfl) (List.mem_of_getElem? (i := 5) rfl) (List.mem_of_getElem? (i := 6) rfl) (fun j hj => by match j, hj with | 0, _ => rfl | 1, _ => rfl | 2, _ => rfl | 3, _ => rfl | 4, _ => rfl | 5, _ => rfl | j + 6, hj => exact absurd hj (by omega)) (Nat.le_of_ble_eq_true rfl) (Nat.le_of_ble_eq_true rfl) dX2_init_5 (fun q5 => ?_)
  refine ii_dup C dX2_init_8 rfl ?_
  refine ii_initN C (q := q5) [] (c_X6_init G) ⟨va_cnB (host := "ExampleDrawers") 0 C.1.2.2.2.2 gX2_init_X6_init_n11 rfl rfl rfl (C.2.1.2 (RX2, 11, yX6_init) (List.mem_of_getElem? (i := 4) rfl)) (C.1.2.2.2.2 _ (List.mem_of_getElem? (i := 6) rfl)) (by decide +kernel) ⟨Nat.le_of_ble_eq_true rfl, Nat.le_of_ble_eq_true rfl⟩, rfl, C.1.2.2.2.2 _ (List.mem_of_getElem? (i := 12) rfl)⟩ rfl rfl rfl (Nat.le_of_ble_eq_true rfl) dX2_init_9 ⟨Nat.le_of_ble_eq_true rfl, Nat.le_of_ble_eq_true rfl⟩ (fun wn hw1 => ?_)
  obtain ⟨a1, rfl, rfl⟩ := hw1
  refine ii_ws (ws2 := (h0, .inr (2, [.null, .null, .null, .null, .int 0])) :: sL G a1) rfl ?_
  refine ii_putF C hN0 (Cn := RX2) (T := TX2) (N := 5) (ty0 := tyX2) 0 rfl (by decide) iX2_init_X2 (List.mem_of_getElem? (i := 7) rfl) rfl rfl tyX2_ok nmX2 rfl (tyX2_ok 0 (by decide)) rfl rfl (Nat.le_of_ble_eq_true rfl) dX2_init_12 ?_
  refine ii_ws (ws2 := (h0, .inr (2, [.ref (a1 0), .null, .null, .null, .int 0])) :: sL G a1) rfl ?_
  refine ii_aload_n C 0 dX2_init_15 rfl rfl ?_
  refine ii_new C (Cn := RX6) (T := TX6) (N := 6) (ci := 6) (fs := [.null, .null, .null, .null, .int 0, .int 0]) tyX6 rfl iX2_init_X6 tyX6_ok (List.mem_of_getElem? (i := 4) rfl) (List.mem_of_getElem? (i := 5) rfl) (List.mem_of_getElem? (i := 6) rfl) (fun j hj => by match j, hj with | 0, _ => rfl | 1, _ => rfl | 2, _ => rfl | 3, _ => rfl | 4, _ => rfl | 5, _ => rfl | j + 6, hj => exact absurd hj (by omega)) (Nat.le_of_ble_eq_true rfl) (Nat.le_of_ble_eq_true rfl) dX2_init_16 (fun q16 => ?_)
  refine ii_dup C dX2_init_19 rfl ?_
  refine ii_initN C (q := q16) [] (c_X6_init G) ⟨va_cnB (host := "ExampleDrawers") 0 C.1.2.2.2.2 gX2_init_X6_init_n11 rfl rfl rfl (C.2.1.2 (RX2, 11, yX6_init) (List.mem_of_getElem? (i := 4) rfl)) (C.1.2.2.2.2 _ (List.mem_of_getElem? (i := 6) rfl)) (by decide +kernel) ⟨Nat.le_of_ble_eq_true rfl, Nat.le_of_ble_eq_true rfl⟩, rfl, C.1.2.2.2.2 _ (List.mem_of_getElem? (i := 12) rfl)⟩ rfl rfl rfl (Nat.le_of_ble_eq_true rfl) dX2_init_20 ⟨Nat.le_of_ble_eq_true rfl, Nat.le_of_ble_eq_true rfl⟩ (fun wn hw2 => ?_)
  obtain ⟨a2, rfl, rfl⟩ := hw2
  refine ii_ws (ws2 := (h0, .inr (2, [.ref (a1 0), .null, .null, .null, .int 0])) :: (sL G a1 ++ sL G a2)) rfl ?_
  refine ii_putF C hN0 (Cn := RX2) (T := TX2) (N := 5) (ty0 := tyX2) 1 rfl (by decide) iX2_init_X2 (List.mem_of_getElem? (i := 8) rfl) rfl rfl tyX2_ok nmX2 rfl (tyX2_ok 1 (by decide)) rfl rfl (Nat.le_of_ble_eq_true rfl) dX2_init_23 ?_
  refine ii_ws (ws2 := (h0, .inr (2, [.ref (a1 0), .ref (a2 0), .null, .null, .int 0])) :: (sL G a1 ++ sL G a2)) rfl ?_
  refine ii_aload_n C 0 dX2_init_26 rfl rfl ?_
  refine ii_new C (Cn := RX6) (T := TX6) (N := 6) (ci := 6) (fs := [.null, .null, .null, .null, .int 0, .int 0]) tyX6 rfl iX2_init_X6 tyX6_ok (List.mem_of_getElem? (i := 4) rfl) (List.mem_of_getElem? (i := 5) rfl) (List.mem_of_getElem? (i := 6) rfl) (fun j hj => by match j, hj with | 0, _ => rfl | 1, _ => rfl | 2, _ => rfl | 3, _ => rfl | 4, _ => rfl | 5, _ => rfl | j + 6, hj => exact absurd hj (by omega)) (Nat.le_of_ble_eq_true rfl) (Nat.le_of_ble_eq_true rfl) dX2_init_27 (fun q27 => ?_)
  refine ii_dup C dX2_init_30 rfl ?_
  refine ii_initN C (q := q27) [] (c_X6_init G) ⟨va_cnB (host := "ExampleDrawers") 0 C.1.2.2.2.2 gX2_init_X6_init_n11 rfl rfl rfl (C.2.1.2 (RX2, 11, yX6_init) (List.mem_of_getElem? (i := 4) rfl)) (C.1.2.2.2.2 _ (List.mem_of_getElem? (i := 6) rfl)) (by decide +kernel) ⟨Nat.le_of_ble_eq_true rfl, Nat.le_of_ble_eq_true rfl⟩, rfl, C.1.2.2.2.2 _ (List.mem_of_getElem? (i := 12) rfl)⟩ rfl rfl rfl (Nat.le_of_ble_eq_true rfl) dX2_init_31 ⟨Nat.le_of_ble_eq_true rfl, Nat.le_of_ble_eq_true rfl⟩ (fun wn hw3 => ?_)
  obtain ⟨a3, rfl, rfl⟩ := hw3
  refine ii_ws (ws2 := (h0, .inr (2, [.ref (a1 0), .ref (a2 0), .null, .null, .int 0])) :: ((sL G a1 ++ sL G a2) ++ sL G a3)) rfl ?_
  refine ii_putF C hN0 (Cn := RX2) (T := TX2) (N := 5) (ty0 := tyX2) 2 rfl (by decide) iX2_init_X2 (List.mem_of_getElem? (i := 9) rfl) rfl rfl tyX2_ok nmX2 rfl (tyX2_ok 2 (by decide)) rfl rfl (Nat.le_of_ble_eq_true rfl) dX2_init_34 ?_
  refine ii_ws (ws2 := (h0, .inr (2, [.ref (a1 0), .ref (a2 0), .ref (a3 0), .null, .int 0])) :: ((sL G a1 ++ sL G a2) ++ sL G a3)) rfl ?_
  refine ii_aload_n C 0 dX2_init_37 rfl rfl ?_
  refine ii_new C (Cn := RX6) (T := TX6) (N := 6) (ci := 6) (fs := [.null, .null, .null, .null, .int 0, .int 0]) tyX6 rfl iX2_init_X6 tyX6_ok (List.mem_of_getElem? (i := 4) rfl) (List.mem_of_getElem? (i := 5) rfl) (List.mem_of_getElem? (i := 6) rfl) (fun j hj => by match j, hj with | 0, _ => rfl | 1, _ => rfl | 2, _ => rfl | 3, _ => rfl | 4, _ => rfl | 5, _ => rfl | j + 6, hj => exact absurd hj (by omega)) (Nat.le_of_ble_eq_true rfl) (Nat.le_of_ble_eq_true rfl) dX2_init_38 (fun q38 => ?_)
  refine ii_dup C dX2_init_41 rfl ?_
  refine ii_initN C (q := q38) [] (c_X6_init G) ⟨va_cnB (host := "ExampleDrawers") 0 C.1.2.2.2.2 gX2_init_X6_init_n11 rfl rfl rfl (C.2.1.2 (RX2, 11, yX6_init) (List.mem_of_getElem? (i := 4) rfl)) (C.1.2.2.2.2 _ (List.mem_of_getElem? (i := 6) rfl)) (by decide +kernel) ⟨Nat.le_of_ble_eq_true rfl, Nat.le_of_ble_eq_true rfl⟩, rfl, C.1.2.2.2.2 _ (List.mem_of_getElem? (i := 12) rfl)⟩ rfl rfl rfl (Nat.le_of_ble_eq_true rfl) dX2_init_42 ⟨Nat.le_of_ble_eq_true rfl, Nat.le_of_ble_eq_true rfl⟩ (fun wn hw4 => ?_)
  obtain ⟨a4, rfl, rfl⟩ := hw4
  refine ii_ws (ws2 := (h0, .inr (2, [.ref (a1 0), .ref (a2 0), .ref (a3 0), .null, .int 0])) :: (((sL G a1 ++ sL G a2) ++ sL G a3) ++ sL G a4)) rfl ?_
  refine ii_putF C hN0 (Cn := RX2) (T := TX2) (N := 5) (ty0 := tyX2) 3 rfl (by decide) iX2_init_X2 (List.mem_of_getElem? (i := 10) rfl) rfl rfl tyX2_ok nmX2 rfl (tyX2_ok 3 (by decide)) rfl rfl (Nat.le_of_ble_eq_true rfl) dX2_init_45 ?_
  refine ii_ws (ws2 := (h0, .inr (2, [.ref (a1 0), .ref (a2 0), .ref (a3 0), .ref (a4 0), .int 0])) :: (((sL G a1 ++ sL G a2) ++ sL G a3) ++ sL G a4)) rfl ?_
  refine ii_aload_n C 0 dX2_init_48 rfl rfl ?_
  refine ii_iconst (v := 0) C dX2_init_49 (by decide) ?_
  refine ii_put C (Cn := RX2) (T := TX2) (N := 5) (ty0 := tyX2) 4 rfl (by decide) iX2_init_X2 (List.mem_of_getElem? (i := 11) rfl) rfl tyX2_ok nmX2 rfl (tyX2_ok 4 (by decide)) rfl rfl (Nat.le_of_ble_eq_true rfl) dX2_init_50 ?_
  refine ii_ws (ws2 := (h0, .inr (2, [.ref (a1 0), .ref (a2 0), .ref (a3 0), .ref (a4 0), .int 0])) :: (((sL G a1 ++ sL G a2) ++ sL G a3) ++ sL G a4)) rfl ?_
  refine ii_vret C hA hR dX2_init_53 ?_
  exact ⟨a1, a2, a3, a4, rfl⟩
theorem iX5_init_X3 : ∀ w ∈ u_ws RX3 TX3 1, w ∈ wsX5_init := fun w hw => (List.mem_cons_of_mem _ (List.mem_append_left _ (List.mem_append_right _ hw)))
theorem iX5_init_X5 : ∀ w ∈ u_ws RX5 TX5 6, w ∈ wsX5_init := fun w hw => (List.mem_cons_of_mem _ (List.mem_append_right _ hw))
set_option maxRecDepth 100000 in
set_option maxHeartbeats 4000000 in
theorem c_X5_init {l : Launch} (G : ci_G) (s0 : Nat) : ci_Met l yX5_init wsX5_init ({ frames := 2, cells := 6, slots := 295, locals := 44 } : Room) G 5 [.null, .null, .null, .null, .int 0, .int 0] [.ref s0] (fun h0 wn => ∃ ad : Nat → Nat, ad 0 = h0 ∧ wn = rL G s0 ad) 6 295 := by
  refine ci_of (cc := cX5_init) 2 (by decide) rfl rfl (Nat.le_of_ble_eq_true rfl) ?_
  intro p e s m args below meth c h0 A C hA hR hN0
  refine ii_loc (ls2 := [some (.ref h0), some (.ref s0)]) rfl ?_
  refine ii_aload_n C 0 dX5_init_0 rfl rfl ?_
  refine ii_objInit C rfl (List.mem_of_getElem? (i := 1) rfl) (List.mem_of_getElem? (i := 2) rfl) (List.mem_of_getElem? (i := 3) rfl) dX5_init_1 (Nat.le_of_ble_eq_true rfl) (Nat.le_of_ble_eq_true rfl) ?_
  refine ii_aload_n C 0 dX5_init_4 rfl rfl ?_
  refine ii_new C (Cn := RX3) (T := TX3) (N := 1) (ci := 3) (fs := [.null]) tyX3 rfl iX5_init_X3 tyX3_ok (List.mem_of_getElem? (i := 4) rfl) (List.mem_of_getElem? (i := 5) rfl) (List.mem_of_getElem? (i := 6) rfl) (fun j hj => by match j, hj with | 0, _ => rfl | j + 1, hj => exact absurd hj (by omega)) (Nat.le_of_ble_eq_true rfl) (Nat.le_of_ble_eq_true rfl) dX5_init_5 (fun q5 => ?_)
  refine ii_dup C dX5_init_8 rfl ?_
  refine ii_sipush (v := 144) C dX5_init_9 (by decide) ?_
  refine ii_iconst (v := 0) C dX5_init_12 (by decide) ?_
  refine ii_init C (q := q5) [.int 144, .int 0] (c_X3_init G (n := 144) (by decide) 0) (cwI 2 C.1.2.2.2.2 gX5_init_X3_init rfl rfl rfl (C.1.2.2.2.2 _ (List.mem_of_getElem? (i := 6) rfl)) (C.1.2.2.2.2 _ (List.mem_of_getElem? (i := 13) rfl)) (C.1.2.2.2.2 _ (List.mem_of_getElem? (i := 14) rfl)) rfl (by decide +kernel) ⟨Nat.le_of_ble_eq_true rfl, Nat.le_of_ble_eq_true rfl⟩) rfl rfl rfl (Nat.le_of_ble_eq_true rfl) dX5_init_13 ⟨Nat.le_of_ble_eq_true rfl, Nat.le_of_ble_eq_true rfl⟩ (fun wn hw1 => ?_)
  obtain ⟨r1, rfl⟩ := hw1
  refine ii_ws (ws2 := (h0, .inr (5, [.null, .null, .null, .null, .int 0, .int 0])) :: nuL G q5 r1 144 0) rfl ?_
  refine ii_putF C hN0 (Cn := RX5) (T := TX5) (N := 6) (ty0 := tyX5) 1 rfl (by decide) iX5_init_X5 (List.mem_of_getElem? (i := 7) rfl) rfl rfl tyX5_ok nmX5 rfl (tyX5_ok 1 (by decide)) rfl rfl (Nat.le_of_ble_eq_true rfl) dX5_init_16 ?_
  refine ii_ws (ws2 := (h0, .inr (5, [.null, .ref q5, .null, .null, .int 0, .int 0])) :: nuL G q5 r1 144 0) rfl ?_
  refine ii_aload_n C 0 dX5_init_19 rfl rfl ?_
  refine ii_new C (Cn := RX3) (T := TX3) (N := 1) (ci := 3) (fs := [.null]) tyX3 rfl iX5_init_X3 tyX3_ok (List.mem_of_getElem? (i := 4) rfl) (List.mem_of_getElem? (i := 5) rfl) (List.mem_of_getElem? (i := 6) rfl) (fun j hj => by match j, hj with | 0, _ => rfl | j + 1, hj => exact absurd hj (by omega)) (Nat.le_of_ble_eq_true rfl) (Nat.le_of_ble_eq_true rfl) dX5_init_20 (fun q20 => ?_)
  refine ii_dup C dX5_init_23 rfl ?_
  refine ii_sipush (v := 144) C dX5_init_24 (by decide) ?_
  refine ii_iconst (v := 0) C dX5_init_27 (by decide) ?_
  refine ii_init C (q := q20) [.int 144, .int 0] (c_X3_init G (n := 144) (by decide) 0) (cwI 2 C.1.2.2.2.2 gX5_init_X3_init rfl rfl rfl (C.1.2.2.2.2 _ (List.mem_of_getElem? (i := 6) rfl)) (C.1.2.2.2.2 _ (List.mem_of_getElem? (i := 13) rfl)) (C.1.2.2.2.2 _ (List.mem_of_getElem? (i := 14) rfl)) rfl (by decide +kernel) ⟨Nat.le_of_ble_eq_true rfl, Nat.le_of_ble_eq_true rfl⟩) rfl rfl rfl (Nat.le_of_ble_eq_true rfl) dX5_init_28 ⟨Nat.le_of_ble_eq_true rfl, Nat.le_of_ble_eq_true rfl⟩ (fun wn hw2 => ?_)
  obtain ⟨r2, rfl⟩ := hw2
  refine ii_ws (ws2 := (h0, .inr (5, [.null, .ref q5, .null, .null, .int 0, .int 0])) :: (nuL G q5 r1 144 0 ++ nuL G q20 r2 144 0)) rfl ?_
  refine ii_putF C hN0 (Cn := RX5) (T := TX5) (N := 6) (ty0 := tyX5) 2 rfl (by decide) iX5_init_X5 (List.mem_of_getElem? (i := 8) rfl) rfl rfl tyX5_ok nmX5 rfl (tyX5_ok 2 (by decide)) rfl rfl (Nat.le_of_ble_eq_true rfl) dX5_init_31 ?_
  refine ii_ws (ws2 := (h0, .inr (5, [.null, .ref q5, .ref q20, .null, .int 0, .int 0])) :: (nuL G q5 r1 144 0 ++ nuL G q20 r2 144 0)) rfl ?_
  refine ii_aload_n C 0 dX5_init_34 rfl rfl ?_
  refine ii_new C (Cn := RX3) (T := TX3) (N := 1) (ci := 3) (fs := [.null]) tyX3 rfl iX5_init_X3 tyX3_ok (List.mem_of_getElem? (i := 4) rfl) (List.mem_of_getElem? (i := 5) rfl) (List.mem_of_getElem? (i := 6) rfl) (fun j hj => by match j, hj with | 0, _ => rfl | j + 1, hj => exact absurd hj (by omega)) (Nat.le_of_ble_eq_true rfl) (Nat.le_of_ble_eq_true rfl) dX5_init_35 (fun q35 => ?_)
  refine ii_dup C dX5_init_38 rfl ?_
  refine ii_iconst (v := 4) C dX5_init_39 (by decide) ?_
  refine ii_iconst (v := (-1)) C dX5_init_40 (by decide) ?_
  refine ii_init C (q := q35) [.int 4, .int (-1)] (c_X3_init G (n := 4) (by decide) (-1)) (cwI 2 C.1.2.2.2.2 gX5_init_X3_init rfl rfl rfl (C.1.2.2.2.2 _ (List.mem_of_getElem? (i := 6) rfl)) (C.1.2.2.2.2 _ (List.mem_of_getElem? (i := 13) rfl)) (C.1.2.2.2.2 _ (List.mem_of_getElem? (i := 14) rfl)) rfl (by decide +kernel) ⟨Nat.le_of_ble_eq_true rfl, Nat.le_of_ble_eq_true rfl⟩) rfl rfl rfl (Nat.le_of_ble_eq_true rfl) dX5_init_41 ⟨Nat.le_of_ble_eq_true rfl, Nat.le_of_ble_eq_true rfl⟩ (fun wn hw3 => ?_)
  obtain ⟨r3, rfl⟩ := hw3
  refine ii_ws (ws2 := (h0, .inr (5, [.null, .ref q5, .ref q20, .null, .int 0, .int 0])) :: ((nuL G q5 r1 144 0 ++ nuL G q20 r2 144 0) ++ nuL G q35 r3 4 (-1))) rfl ?_
  refine ii_putF C hN0 (Cn := RX5) (T := TX5) (N := 6) (ty0 := tyX5) 3 rfl (by decide) iX5_init_X5 (List.mem_of_getElem? (i := 9) rfl) rfl rfl tyX5_ok nmX5 rfl (tyX5_ok 3 (by decide)) rfl rfl (Nat.le_of_ble_eq_true rfl) dX5_init_44 ?_
  refine ii_ws (ws2 := (h0, .inr (5, [.null, .ref q5, .ref q20, .ref q35, .int 0, .int 0])) :: ((nuL G q5 r1 144 0 ++ nuL G q20 r2 144 0) ++ nuL G q35 r3 4 (-1))) rfl ?_
  refine ii_aload_n C 0 dX5_init_47 rfl rfl ?_
  refine ii_iconst (v := 0) C dX5_init_48 (by decide) ?_
  refine ii_put C (Cn := RX5) (T := TX5) (N := 6) (ty0 := tyX5) 4 rfl (by decide) iX5_init_X5 (List.mem_of_getElem? (i := 10) rfl) rfl tyX5_ok nmX5 rfl (tyX5_ok 4 (by decide)) rfl rfl (Nat.le_of_ble_eq_true rfl) dX5_init_49 ?_
  refine ii_ws (ws2 := (h0, .inr (5, [.null, .ref q5, .ref q20, .ref q35, .int 0, .int 0])) :: ((nuL G q5 r1 144 0 ++ nuL G q20 r2 144 0) ++ nuL G q35 r3 4 (-1))) rfl ?_
  refine ii_aload_n C 0 dX5_init_52 rfl rfl ?_
  refine ii_iconst (v := (-1)) C dX5_init_53 (by decide) ?_
  refine ii_put C (Cn := RX5) (T := TX5) (N := 6) (ty0 := tyX5) 5 rfl (by decide) iX5_init_X5 (List.mem_of_getElem? (i := 11) rfl) rfl tyX5_ok nmX5 rfl (tyX5_ok 5 (by decide)) rfl rfl (Nat.le_of_ble_eq_true rfl) dX5_init_54 ?_
  refine ii_ws (ws2 := (h0, .inr (5, [.null, .ref q5, .ref q20, .ref q35, .int 0, .int (-1)])) :: ((nuL G q5 r1 144 0 ++ nuL G q20 r2 144 0) ++ nuL G q35 r3 4 (-1))) rfl ?_
  refine ii_aload_n C 0 dX5_init_57 rfl rfl ?_
  refine ii_aload_n C 1 dX5_init_58 rfl rfl ?_
  refine ii_putF C hN0 (Cn := RX5) (T := TX5) (N := 6) (ty0 := tyX5) 0 rfl (by decide) iX5_init_X5 (List.mem_of_getElem? (i := 12) rfl) rfl rfl tyX5_ok nmX5 rfl (tyX5_ok 0 (by decide)) rfl rfl (Nat.le_of_ble_eq_true rfl) dX5_init_59 ?_
  refine ii_ws (ws2 := (h0, .inr (5, [.ref s0, .ref q5, .ref q20, .ref q35, .int 0, .int (-1)])) :: ((nuL G q5 r1 144 0 ++ nuL G q20 r2 144 0) ++ nuL G q35 r3 4 (-1))) rfl ?_
  refine ii_vret C hA hR dX5_init_62 ?_
  exact ⟨fun k => [h0, q5, r1, q20, r2, q35, r3].getD k 0, rfl, rfl⟩
theorem iX7_init_X3 : ∀ w ∈ u_ws RX3 TX3 1, w ∈ wsX7_init := fun w hw => (List.mem_cons_of_mem _ (List.mem_append_left _ (List.mem_append_right _ hw)))
theorem iX7_init_X7 : ∀ w ∈ u_ws RX7 TX7 2, w ∈ wsX7_init := fun w hw => (List.mem_cons_of_mem _ (List.mem_append_right _ hw))
set_option maxRecDepth 100000 in
set_option maxHeartbeats 4000000 in
theorem c_X7_init {l : Launch} (G : ci_G) : ci_Met l yX7_init wsX7_init ({ frames := 2, cells := 2, slots := 61, locals := 44 } : Room) G 7 [.null, .int 0] [] (fun h0 wn => ∃ ad : Nat → Nat, ad 0 = h0 ∧ wn = tL G ad) 2 61 := by
  refine ci_of (cc := cX7_init) 1 (by decide) rfl rfl (Nat.le_of_ble_eq_true rfl) ?_
  intro p e s m args below meth c h0 A C hA hR hN0
  refine ii_loc (ls2 := [some (.ref h0)]) rfl ?_
  refine ii_aload_n C 0 dX7_init_0 rfl rfl ?_
  refine ii_objInit C rfl (List.mem_of_getElem? (i := 1) rfl) (List.mem_of_getElem? (i := 2) rfl) (List.mem_of_getElem? (i := 3) rfl) dX7_init_1 (Nat.le_of_ble_eq_true rfl) (Nat.le_of_ble_eq_true rfl) ?_
  refine ii_aload_n C 0 dX7_init_4 rfl rfl ?_
  refine ii_new C (Cn := RX3) (T := TX3) (N := 1) (ci := 3) (fs := [.null]) tyX3 rfl iX7_init_X3 tyX3_ok (List.mem_of_getElem? (i := 4) rfl) (List.mem_of_getElem? (i := 5) rfl) (List.mem_of_getElem? (i := 6) rfl) (fun j hj => by match j, hj with | 0, _ => rfl | j + 1, hj => exact absurd hj (by omega)) (Nat.le_of_ble_eq_true rfl) (Nat.le_of_ble_eq_true rfl) dX7_init_5 (fun q5 => ?_)
  refine ii_dup C dX7_init_8 rfl ?_
  refine ii_bipush (v := 60) C dX7_init_9 (by decide) ?_
  refine ii_iconst (v := 0) C dX7_init_11 (by decide) ?_
  refine ii_init C (q := q5) [.int 60, .int 0] (c_X3_init G (n := 60) (by decide) 0) (cwI 2 C.1.2.2.2.2 gX7_init_X3_init rfl rfl rfl (C.1.2.2.2.2 _ (List.mem_of_getElem? (i := 6) rfl)) (C.1.2.2.2.2 _ (List.mem_of_getElem? (i := 9) rfl)) (C.1.2.2.2.2 _ (List.mem_of_getElem? (i := 10) rfl)) rfl (by decide +kernel) ⟨Nat.le_of_ble_eq_true rfl, Nat.le_of_ble_eq_true rfl⟩) rfl rfl rfl (Nat.le_of_ble_eq_true rfl) dX7_init_12 ⟨Nat.le_of_ble_eq_true rfl, Nat.le_of_ble_eq_true rfl⟩ (fun wn hw1 => ?_)
  obtain ⟨r1, rfl⟩ := hw1
  refine ii_ws (ws2 := (h0, .inr (7, [.null, .int 0])) :: nuL G q5 r1 60 0) rfl ?_
  refine ii_putF C hN0 (Cn := RX7) (T := TX7) (N := 2) (ty0 := tyX7) 0 rfl (by decide) iX7_init_X7 (List.mem_of_getElem? (i := 7) rfl) rfl rfl tyX7_ok nmX7 rfl (tyX7_ok 0 (by decide)) rfl rfl (Nat.le_of_ble_eq_true rfl) dX7_init_15 ?_
  refine ii_ws (ws2 := (h0, .inr (7, [.ref q5, .int 0])) :: nuL G q5 r1 60 0) rfl ?_
  refine ii_aload_n C 0 dX7_init_18 rfl rfl ?_
  refine ii_iconst (v := 0) C dX7_init_19 (by decide) ?_
  refine ii_put C (Cn := RX7) (T := TX7) (N := 2) (ty0 := tyX7) 1 rfl (by decide) iX7_init_X7 (List.mem_of_getElem? (i := 8) rfl) rfl tyX7_ok nmX7 rfl (tyX7_ok 1 (by decide)) rfl rfl (Nat.le_of_ble_eq_true rfl) dX7_init_20 ?_
  refine ii_ws (ws2 := (h0, .inr (7, [.ref q5, .int 0])) :: nuL G q5 r1 60 0) rfl ?_
  refine ii_vret C hA hR dX7_init_23 ?_
  exact ⟨fun k => [h0, q5, r1].getD k 0, rfl, rfl⟩
theorem iX4_init_X1 : ∀ w ∈ u_ws RX1 TX1 3, w ∈ wsX4_init := fun w hw => (List.mem_cons_of_mem _ (List.mem_append_left _ (List.mem_append_left _ (List.mem_append_right _ hw))))
theorem iX4_init_X4 : ∀ w ∈ u_ws RX4 TX4 6, w ∈ wsX4_init := fun w hw => (List.mem_cons_of_mem _ (List.mem_append_left _ (List.mem_append_right _ hw)))
set_option maxRecDepth 100000 in
set_option maxHeartbeats 4000000 in
theorem c_X4_init {l : Launch} (G : ci_G) (t0 : Nat) : ci_Met l yX4_init wsX4_init ({ frames := 3, cells := 7, slots := 18, locals := 64 } : Room) G 4 [.null, .null, .int 0, .int 0, .int 0, .int 0] [.ref t0] (fun h0 wn => ∃ ad : Nat → Nat, ad 0 = h0 ∧ wn = gL G t0 ad) 7 18 := by
  refine ci_of (cc := cX4_init) 2 (by decide) rfl rfl (Nat.le_of_ble_eq_true rfl) ?_
  intro p e s m args below meth c h0 A C hA hR hN0
  refine ii_loc (ls2 := [some (.ref h0), some (.ref t0)]) rfl ?_
  refine ii_aload_n C 0 dX4_init_0 rfl rfl ?_
  refine ii_objInit C rfl (List.mem_of_getElem? (i := 1) rfl) (List.mem_of_getElem? (i := 2) rfl) (List.mem_of_getElem? (i := 3) rfl) dX4_init_1 (Nat.le_of_ble_eq_true rfl) (Nat.le_of_ble_eq_true rfl) ?_
  refine ii_aload_n C 0 dX4_init_4 rfl rfl ?_
  refine ii_new C (Cn := RX1) (T := TX1) (N := 3) (ci := 1) (fs := [.null, .null, .null]) tyX1 rfl iX4_init_X1 tyX1_ok (List.mem_of_getElem? (i := 4) rfl) (List.mem_of_getElem? (i := 5) rfl) (List.mem_of_getElem? (i := 6) rfl) (fun j hj => by match j, hj with | 0, _ => rfl | 1, _ => rfl | 2, _ => rfl | j + 3, hj => exact absurd hj (by omega)) (Nat.le_of_ble_eq_true rfl) (Nat.le_of_ble_eq_true rfl) dX4_init_5 (fun q5 => ?_)
  refine ii_dup C dX4_init_8 rfl ?_
  refine ii_initN C (q := q5) [] (c_X1_init G) ⟨va_cnB (host := "ExampleDrawers") 0 C.1.2.2.2.2 gX4_init_X1_init_n11 rfl rfl rfl (C.2.1.2 (RX4, 11, yX1_init) (List.mem_of_getElem? (i := 6) rfl)) (C.1.2.2.2.2 _ (List.mem_of_getElem? (i := 6) rfl)) (by decide +kernel) ⟨Nat.le_of_ble_eq_true rfl, Nat.le_of_ble_eq_true rfl⟩, rfl, C.1.2.2.2.2 _ (List.mem_of_getElem? (i := 13) rfl)⟩ rfl rfl rfl (Nat.le_of_ble_eq_true rfl) dX4_init_9 ⟨Nat.le_of_ble_eq_true rfl, Nat.le_of_ble_eq_true rfl⟩ (fun wn hw1 => ?_)
  obtain ⟨a1, rfl, rfl⟩ := hw1
  refine ii_ws (ws2 := (h0, .inr (4, [.null, .null, .int 0, .int 0, .int 0, .int 0])) :: exL G a1) rfl ?_
  refine ii_putF C hN0 (Cn := RX4) (T := TX4) (N := 6) (ty0 := tyX4) 1 rfl (by decide) iX4_init_X4 (List.mem_of_getElem? (i := 7) rfl) rfl rfl tyX4_ok nmX4 rfl (tyX4_ok 1 (by decide)) rfl rfl (Nat.le_of_ble_eq_true rfl) dX4_init_12 ?_
  refine ii_ws (ws2 := (h0, .inr (4, [.null, .ref (a1 0), .int 0, .int 0, .int 0, .int 0])) :: exL G a1) rfl ?_
  refine ii_aload_n C 0 dX4_init_15 rfl rfl ?_
  refine ii_iconst (v := 0) C dX4_init_16 (by decide) ?_
  refine ii_put C (Cn := RX4) (T := TX4) (N := 6) (ty0 := tyX4) 2 rfl (by decide) iX4_init_X4 (List.mem_of_getElem? (i := 8) rfl) rfl tyX4_ok nmX4 rfl (tyX4_ok 2 (by decide)) rfl rfl (Nat.le_of_ble_eq_true rfl) dX4_init_17 ?_
  refine ii_ws (ws2 := (h0, .inr (4, [.null, .ref (a1 0), .int 0, .int 0, .int 0, .int 0])) :: exL G a1) rfl ?_
  refine ii_aload_n C 0 dX4_init_20 rfl rfl ?_
  refine ii_iconst (v := 0) C dX4_init_21 (by decide) ?_
  refine ii_put C (Cn := RX4) (T := TX4) (N := 6) (ty0 := tyX4) 3 rfl (by decide) iX4_init_X4 (List.mem_of_getElem? (i := 9) rfl) rfl tyX4_ok nmX4 rfl (tyX4_ok 3 (by decide)) rfl rfl (Nat.le_of_ble_eq_true rfl) dX4_init_22 ?_
  refine ii_ws (ws2 := (h0, .inr (4, [.null, .ref (a1 0), .int 0, .int 0, .int 0, .int 0])) :: exL G a1) rfl ?_
  refine ii_aload_n C 0 dX4_init_25 rfl rfl ?_
  refine ii_iconst (v := 0) C dX4_init_26 (by decide) ?_
  refine ii_put C (Cn := RX4) (T := TX4) (N := 6) (ty0 := tyX4) 4 rfl (by decide) iX4_init_X4 (List.mem_of_getElem? (i := 10) rfl) rfl tyX4_ok nmX4 rfl (tyX4_ok 4 (by decide)) rfl rfl (Nat.le_of_ble_eq_true rfl) dX4_init_27 ?_
  refine ii_ws (ws2 := (h0, .inr (4, [.null, .ref (a1 0), .int 0, .int 0, .int 0, .int 0])) :: exL G a1) rfl ?_
  refine ii_aload_n C 0 dX4_init_30 rfl rfl ?_
  refine ii_iconst (v := 0) C dX4_init_31 (by decide) ?_
  refine ii_put C (Cn := RX4) (T := TX4) (N := 6) (ty0 := tyX4) 5 rfl (by decide) iX4_init_X4 (List.mem_of_getElem? (i := 11) rfl) rfl tyX4_ok nmX4 rfl (tyX4_ok 5 (by decide)) rfl rfl (Nat.le_of_ble_eq_true rfl) dX4_init_32 ?_
  refine ii_ws (ws2 := (h0, .inr (4, [.null, .ref (a1 0), .int 0, .int 0, .int 0, .int 0])) :: exL G a1) rfl ?_
  refine ii_aload_n C 0 dX4_init_35 rfl rfl ?_
  refine ii_aload_n C 1 dX4_init_36 rfl rfl ?_
  refine ii_putF C hN0 (Cn := RX4) (T := TX4) (N := 6) (ty0 := tyX4) 0 rfl (by decide) iX4_init_X4 (List.mem_of_getElem? (i := 12) rfl) rfl rfl tyX4_ok nmX4 rfl (tyX4_ok 0 (by decide)) rfl rfl (Nat.le_of_ble_eq_true rfl) dX4_init_37 ?_
  refine ii_ws (ws2 := (h0, .inr (4, [.ref t0, .ref (a1 0), .int 0, .int 0, .int 0, .int 0])) :: exL G a1) rfl ?_
  refine ii_vret C hA hR dX4_init_40 ?_
  exact ⟨fun k => if k = 0 then h0 else a1 (k - 1), rfl, rfl⟩
theorem iX8_init_X2 : ∀ w ∈ u_ws RX2 TX2 5, w ∈ wsX8_init := fun w hw => (List.mem_cons_of_mem _ (List.mem_append_left _ (List.mem_append_left _ (List.mem_append_left _ (List.mem_append_left _ (List.mem_append_left _ (List.mem_append_left _ (List.mem_append_right _ hw))))))))
theorem iX8_init_X4 : ∀ w ∈ u_ws RX4 TX4 6, w ∈ wsX8_init := fun w hw => (List.mem_cons_of_mem _ (List.mem_append_left _ (List.mem_append_left _ (List.mem_append_left _ (List.mem_append_right _ hw)))))
theorem iX8_init_X5 : ∀ w ∈ u_ws RX5 TX5 6, w ∈ wsX8_init := fun w hw => (List.mem_cons_of_mem _ (List.mem_append_left _ (List.mem_append_left _ (List.mem_append_left _ (List.mem_append_left _ (List.mem_append_left _ (List.mem_append_right _ hw)))))))
theorem iX8_init_X6 : ∀ w ∈ u_ws RX6 TX6 6, w ∈ wsX8_init := fun w hw => (List.mem_cons_of_mem _ (List.mem_append_left _ (List.mem_append_left _ (List.mem_append_left _ (List.mem_append_left _ (List.mem_append_left _ (List.mem_append_left _ (List.mem_append_left _ (List.mem_append_left _ (List.mem_append_right _ hw))))))))))
theorem iX8_init_X7 : ∀ w ∈ u_ws RX7 TX7 2, w ∈ wsX8_init := fun w hw => (List.mem_cons_of_mem _ (List.mem_append_left _ (List.mem_append_left _ (List.mem_append_left _ (List.mem_append_left _ (List.mem_append_right _ hw))))))
theorem iX8_init_X8 : ∀ w ∈ u_ws RX8 TX8 5, w ∈ wsX8_init := fun w hw => (List.mem_cons_of_mem _ (List.mem_append_left _ (List.mem_append_left _ (List.mem_append_left _ (List.mem_append_left _ (List.mem_append_left _ (List.mem_append_left _ (List.mem_append_left _ (List.mem_append_right _ hw)))))))))
set_option maxRecDepth 100000 in
set_option maxHeartbeats 4000000 in
theorem c_X8_init {l : Launch} (G : ci_G) : ci_Met l yX8_init wsX8_init ({ frames := 6, cells := 144, slots := 1163, locals := 124 } : Room) G 8 [.null, .null, .null, .null, .null] [] (fun h0 wn => ∃ (qh : Nat) (a0 a b c d ar at_ ag : Nat → Nat), wn = edL G h0 qh a0 a b c d ar at_ ag) 144 1163 := by
  refine ci_of (cc := cX8_init) 1 (by decide) rfl rfl (Nat.le_of_ble_eq_true rfl) ?_
  intro p e s m args below meth c h0 A C hA hR hN0
  refine ii_loc (ls2 := [some (.ref h0)]) rfl ?_
  refine ii_aload_n C 0 dX8_init_0 rfl rfl ?_
  refine ii_objInit C rfl (List.mem_of_getElem? (i := 1) rfl) (List.mem_of_getElem? (i := 2) rfl) (List.mem_of_getElem? (i := 3) rfl) dX8_init_1 (Nat.le_of_ble_eq_true rfl) (Nat.le_of_ble_eq_true rfl) ?_
  refine ii_aload_n C 0 dX8_init_4 rfl rfl ?_
  refine ii_new C (Cn := RX6) (T := TX6) (N := 6) (ci := 6) (fs := [.null, .null, .null, .null, .int 0, .int 0]) tyX6 rfl iX8_init_X6 tyX6_ok (List.mem_of_getElem? (i := 4) rfl) (List.mem_of_getElem? (i := 5) rfl) (List.mem_of_getElem? (i := 6) rfl) (fun j hj => by match j, hj with | 0, _ => rfl | 1, _ => rfl | 2, _ => rfl | 3, _ => rfl | 4, _ => rfl | 5, _ => rfl | j + 6, hj => exact absurd hj (by omega)) (Nat.le_of_ble_eq_true rfl) (Nat.le_of_ble_eq_true rfl) dX8_init_5 (fun q5 => ?_)
  refine ii_dup C dX8_init_8 rfl ?_
  refine ii_initN C (q := q5) [] (c_X6_init G) ⟨va_cnB (host := "ExampleDrawers") 0 C.1.2.2.2.2 gX8_init_X6_init_n11 rfl rfl rfl (C.2.1.2 (RX8, 11, yX6_init) (List.mem_of_getElem? (i := 0) rfl)) (C.1.2.2.2.2 _ (List.mem_of_getElem? (i := 6) rfl)) (by decide +kernel) ⟨Nat.le_of_ble_eq_true rfl, Nat.le_of_ble_eq_true rfl⟩, rfl, C.1.2.2.2.2 _ (List.mem_of_getElem? (i := 24) rfl)⟩ rfl rfl rfl (Nat.le_of_ble_eq_true rfl) dX8_init_9 ⟨Nat.le_of_ble_eq_true rfl, Nat.le_of_ble_eq_true rfl⟩ (fun wn hw1 => ?_)
  obtain ⟨a1, rfl, rfl⟩ := hw1
  refine ii_ws (ws2 := (h0, .inr (8, [.null, .null, .null, .null, .null])) :: sL G a1) rfl ?_
  refine ii_putF C hN0 (Cn := RX8) (T := TX8) (N := 5) (ty0 := tyX8) 0 rfl (by decide) iX8_init_X8 (List.mem_of_getElem? (i := 7) rfl) rfl rfl tyX8_ok nmX8 rfl (tyX8_ok 0 (by decide)) rfl rfl (Nat.le_of_ble_eq_true rfl) dX8_init_12 ?_
  refine ii_ws (ws2 := (h0, .inr (8, [.ref (a1 0), .null, .null, .null, .null])) :: sL G a1) rfl ?_
  refine ii_aload_n C 0 dX8_init_15 rfl rfl ?_
  refine ii_new C (Cn := RX2) (T := TX2) (N := 5) (ci := 2) (fs := [.null, .null, .null, .null, .int 0]) tyX2 rfl iX8_init_X2 tyX2_ok (List.mem_of_getElem? (i := 8) rfl) (List.mem_of_getElem? (i := 9) rfl) (List.mem_of_getElem? (i := 10) rfl) (fun j hj => by match j, hj with | 0, _ => rfl | 1, _ => rfl | 2, _ => rfl | 3, _ => rfl | 4, _ => rfl | j + 5, hj => exact absurd hj (by omega)) (Nat.le_of_ble_eq_true rfl) (Nat.le_of_ble_eq_true rfl) dX8_init_16 (fun q16 => ?_)
  refine ii_dup C dX8_init_19 rfl ?_
  refine ii_initN C (q := q16) [] (c_X2_init G) ⟨va_cnB (host := "ExampleDrawers") 0 C.1.2.2.2.2 gX8_init_X2_init_n18 rfl rfl rfl (C.2.1.2 (RX8, 18, yX2_init) (List.mem_of_getElem? (i := 3) rfl)) (C.1.2.2.2.2 _ (List.mem_of_getElem? (i := 10) rfl)) (by decide +kernel) ⟨Nat.le_of_ble_eq_true rfl, Nat.le_of_ble_eq_true rfl⟩, rfl, C.1.2.2.2.2 _ (List.mem_of_getElem? (i := 73) rfl)⟩ rfl rfl rfl (Nat.le_of_ble_eq_true rfl) dX8_init_20 ⟨Nat.le_of_ble_eq_true rfl, Nat.le_of_ble_eq_true rfl⟩ (fun wn hw2 => ?_)
  obtain ⟨b1, b2, b3, b4, rfl⟩ := hw2
  refine ii_ws (ws2 := (h0, .inr (8, [.ref (a1 0), .null, .null, .null, .null])) :: (sL G a1 ++ hL G q16 b1 b2 b3 b4)) rfl ?_
  refine ii_putF C hN0 (Cn := RX8) (T := TX8) (N := 5) (ty0 := tyX8) 1 rfl (by decide) iX8_init_X8 (List.mem_of_getElem? (i := 11) rfl) rfl rfl tyX8_ok nmX8 rfl (tyX8_ok 1 (by decide)) rfl rfl (Nat.le_of_ble_eq_true rfl) dX8_init_23 ?_
  refine ii_ws (ws2 := (h0, .inr (8, [.ref (a1 0), .ref q16, .null, .null, .null])) :: (sL G a1 ++ hL G q16 b1 b2 b3 b4)) rfl ?_
  refine ii_aload_n C 0 dX8_init_26 rfl rfl ?_
  refine ii_new C (Cn := RX5) (T := TX5) (N := 6) (ci := 5) (fs := [.null, .null, .null, .null, .int 0, .int 0]) tyX5 rfl iX8_init_X5 tyX5_ok (List.mem_of_getElem? (i := 12) rfl) (List.mem_of_getElem? (i := 13) rfl) (List.mem_of_getElem? (i := 14) rfl) (fun j hj => by match j, hj with | 0, _ => rfl | 1, _ => rfl | 2, _ => rfl | 3, _ => rfl | 4, _ => rfl | 5, _ => rfl | j + 6, hj => exact absurd hj (by omega)) (Nat.le_of_ble_eq_true rfl) (Nat.le_of_ble_eq_true rfl) dX8_init_27 (fun q27 => ?_)
  refine ii_dup C dX8_init_30 rfl ?_
  refine ii_aload_n C 0 dX8_init_31 rfl rfl ?_
  refine ii_get C (Cn := RX8) (T := TX8) (N := 5) 0 rfl (by decide) iX8_init_X8 (List.mem_of_getElem? (i := 7) rfl) rfl rfl dX8_init_32 ?_
  refine ii_ws (ws2 := ((h0, .inr (8, [.ref (a1 0), .ref q16, .null, .null, .null])) :: (sL G a1 ++ hL G q16 b1 b2 b3 b4)) ++ [(q27, .inr (5, [.null, .null, .null, .null, .int 0, .int 0]))]) rfl ?_
  refine ii_init C (q := q27) [.ref (a1 0)] (c_X5_init G (a1 0)) (cwI 1 C.1.2.2.2.2 gX8_init_X5_init rfl rfl rfl (C.1.2.2.2.2 _ (List.mem_of_getElem? (i := 14) rfl)) (C.1.2.2.2.2 _ (List.mem_of_getElem? (i := 82) rfl)) (C.1.2.2.2.2 _ (List.mem_of_getElem? (i := 83) rfl)) rfl (by decide +kernel) ⟨Nat.le_of_ble_eq_true rfl, Nat.le_of_ble_eq_true rfl⟩) rfl rfl rfl (Nat.le_of_ble_eq_true rfl) dX8_init_35 ⟨Nat.le_of_ble_eq_true rfl, Nat.le_of_ble_eq_true rfl⟩ (fun wn hw3 => ?_)
  obtain ⟨ar, rfl, rfl⟩ := hw3
  refine ii_ws (ws2 := (h0, .inr (8, [.ref (a1 0), .ref q16, .null, .null, .null])) :: ((sL G a1 ++ hL G q16 b1 b2 b3 b4) ++ rL G (a1 0) ar)) rfl ?_
  refine ii_putF C hN0 (Cn := RX8) (T := TX8) (N := 5) (ty0 := tyX8) 2 rfl (by decide) iX8_init_X8 (List.mem_of_getElem? (i := 15) rfl) rfl rfl tyX8_ok nmX8 rfl (tyX8_ok 2 (by decide)) rfl rfl (Nat.le_of_ble_eq_true rfl) dX8_init_38 ?_
  refine ii_ws (ws2 := (h0, .inr (8, [.ref (a1 0), .ref q16, .ref (ar 0), .null, .null])) :: ((sL G a1 ++ hL G q16 b1 b2 b3 b4) ++ rL G (a1 0) ar)) rfl ?_
  refine ii_aload_n C 0 dX8_init_41 rfl rfl ?_
  refine ii_new C (Cn := RX7) (T := TX7) (N := 2) (ci := 7) (fs := [.null, .int 0]) tyX7 rfl iX8_init_X7 tyX7_ok (List.mem_of_getElem? (i := 16) rfl) (List.mem_of_getElem? (i := 17) rfl) (List.mem_of_getElem? (i := 18) rfl) (fun j hj => by match j, hj with | 0, _ => rfl | 1, _ => rfl | j + 2, hj => exact absurd hj (by omega)) (Nat.le_of_ble_eq_true rfl) (Nat.le_of_ble_eq_true rfl) dX8_init_42 (fun q42 => ?_)
  refine ii_dup C dX8_init_45 rfl ?_
  refine ii_initN C (q := q42) [] (c_X7_init G) ⟨va_cnB (host := "ExampleDrawers") 0 C.1.2.2.2.2 gX8_init_X7_init_n34 rfl rfl rfl (C.2.1.2 (RX8, 34, yX7_init) (List.mem_of_getElem? (i := 5) rfl)) (C.1.2.2.2.2 _ (List.mem_of_getElem? (i := 18) rfl)) (by decide +kernel) ⟨Nat.le_of_ble_eq_true rfl, Nat.le_of_ble_eq_true rfl⟩, rfl, C.1.2.2.2.2 _ (List.mem_of_getElem? (i := 94) rfl)⟩ rfl rfl rfl (Nat.le_of_ble_eq_true rfl) dX8_init_46 ⟨Nat.le_of_ble_eq_true rfl, Nat.le_of_ble_eq_true rfl⟩ (fun wn hw4 => ?_)
  obtain ⟨at_, rfl, rfl⟩ := hw4
  refine ii_ws (ws2 := (h0, .inr (8, [.ref (a1 0), .ref q16, .ref (ar 0), .null, .null])) :: (((sL G a1 ++ hL G q16 b1 b2 b3 b4) ++ rL G (a1 0) ar) ++ tL G at_)) rfl ?_
  refine ii_putF C hN0 (Cn := RX8) (T := TX8) (N := 5) (ty0 := tyX8) 3 rfl (by decide) iX8_init_X8 (List.mem_of_getElem? (i := 19) rfl) rfl rfl tyX8_ok nmX8 rfl (tyX8_ok 3 (by decide)) rfl rfl (Nat.le_of_ble_eq_true rfl) dX8_init_49 ?_
  refine ii_ws (ws2 := (h0, .inr (8, [.ref (a1 0), .ref q16, .ref (ar 0), .ref (at_ 0), .null])) :: (((sL G a1 ++ hL G q16 b1 b2 b3 b4) ++ rL G (a1 0) ar) ++ tL G at_)) rfl ?_
  refine ii_aload_n C 0 dX8_init_52 rfl rfl ?_
  refine ii_new C (Cn := RX4) (T := TX4) (N := 6) (ci := 4) (fs := [.null, .null, .int 0, .int 0, .int 0, .int 0]) tyX4 rfl iX8_init_X4 tyX4_ok (List.mem_of_getElem? (i := 20) rfl) (List.mem_of_getElem? (i := 21) rfl) (List.mem_of_getElem? (i := 22) rfl) (fun j hj => by match j, hj with | 0, _ => rfl | 1, _ => rfl | 2, _ => rfl | 3, _ => rfl | 4, _ => rfl | 5, _ => rfl | j + 6, hj => exact absurd hj (by omega)) (Nat.le_of_ble_eq_true rfl) (Nat.le_of_ble_eq_true rfl) dX8_init_53 (fun q53 => ?_)
  refine ii_dup C dX8_init_56 rfl ?_
  refine ii_aload_n C 0 dX8_init_57 rfl rfl ?_
  refine ii_get C (Cn := RX8) (T := TX8) (N := 5) 3 rfl (by decide) iX8_init_X8 (List.mem_of_getElem? (i := 19) rfl) rfl rfl dX8_init_58 ?_
  refine ii_ws (ws2 := ((h0, .inr (8, [.ref (a1 0), .ref q16, .ref (ar 0), .ref (at_ 0), .null])) :: (((sL G a1 ++ hL G q16 b1 b2 b3 b4) ++ rL G (a1 0) ar) ++ tL G at_)) ++ [(q53, .inr (4, [.null, .null, .int 0, .int 0, .int 0, .int 0]))]) rfl ?_
  refine ii_init C (q := q53) [.ref (at_ 0)] (c_X4_init G (at_ 0)) (cwI 1 C.1.2.2.2.2 gX8_init_X4_init rfl rfl rfl (C.1.2.2.2.2 _ (List.mem_of_getElem? (i := 22) rfl)) (C.1.2.2.2.2 _ (List.mem_of_getElem? (i := 101) rfl)) (C.1.2.2.2.2 _ (List.mem_of_getElem? (i := 102) rfl)) rfl (by decide +kernel) ⟨Nat.le_of_ble_eq_true rfl, Nat.le_of_ble_eq_true rfl⟩) rfl rfl rfl (Nat.le_of_ble_eq_true rfl) dX8_init_61 ⟨Nat.le_of_ble_eq_true rfl, Nat.le_of_ble_eq_true rfl⟩ (fun wn hw5 => ?_)
  obtain ⟨ag, rfl, rfl⟩ := hw5
  refine ii_ws (ws2 := (h0, .inr (8, [.ref (a1 0), .ref q16, .ref (ar 0), .ref (at_ 0), .null])) :: ((((sL G a1 ++ hL G q16 b1 b2 b3 b4) ++ rL G (a1 0) ar) ++ tL G at_) ++ gL G (at_ 0) ag)) rfl ?_
  refine ii_putF C hN0 (Cn := RX8) (T := TX8) (N := 5) (ty0 := tyX8) 4 rfl (by decide) iX8_init_X8 (List.mem_of_getElem? (i := 23) rfl) rfl rfl tyX8_ok nmX8 rfl (tyX8_ok 4 (by decide)) rfl rfl (Nat.le_of_ble_eq_true rfl) dX8_init_64 ?_
  refine ii_ws (ws2 := (h0, .inr (8, [.ref (a1 0), .ref q16, .ref (ar 0), .ref (at_ 0), .ref (ag 0)])) :: ((((sL G a1 ++ hL G q16 b1 b2 b3 b4) ++ rL G (a1 0) ar) ++ tL G at_) ++ gL G (at_ 0) ag)) rfl ?_
  refine ii_vret C hA hR dX8_init_67 ?_
  exact ⟨q16, a1, b1, b2, b3, b4, ar, at_, ag, rfl⟩