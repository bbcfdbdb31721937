/-! THE CLAIM OUT OF ONE WALK OF THE LAW'S BODY. Your part is whole_start (and what it stands on); all else here is the same for every law, but numbers. -/
def R_law : String := "ExampleDrawersLaw"
def lw_P (b : Addr) (xs : List Int32) (args : Array Value) (s : State) : Prop := args = #[.ref b] ∧ s.IntsAt b xs ∧ xs.length ≤ 260 ∧ (Jvm.Cond.and given_1 narrow_1).before args s = true
def lw_Q (_ : Array Value) (s : State) (o : Outcome) (t : State) : Prop := o = .returned (some (.int 1)) ∧ Framed s o t [] 632760 7203968
def lw_Z (below : List Frame) (a : Array Value) (s : State) : State → Prop := fun t => ∃ o, t.status = .running ∧ Ended t below o ∧ lw_Q a s o t
/-- the law's own end, with 1 on the stack, nothing written that was there before, its room as the claim has it -/
theorem lw_ret {p : Program} {l : Launch} {e : Env} {s : State} {m : MethodId} {below : List Frame} {meth : Method} {c : Code} {b : Nat} (hx : p.tables.exec = Jvm.exec) (hb : c.code = code) (hr : meth.sig.returnType = ret) (hlocks : meth.locks = false) {pc : Nat} {H : Heap} {ls : Array Slot} (hdg : decode code pc = .ok (.ireturn, 1)) : W p l e room_1 s m #[Value.ref b] below meth c H [] 632760 7203968 (lw_Z below #[Value.ref b] s) (F0 m pc ls [.int 1]) := by
  intro T hT X
  obtain ⟨fs, hret, hrun, hended, hW, hframe⟩ := X.leave (v := some (.int 1)) (hlocks := hlocks) (fun h => by rw [hr] at h; cases h)
  have hmeth' : T.vm.method? m = some meth := X.method'
  refine ⟨T.setFrames fs, ?_, .returned (some (.int 1)), hrun, hended, rfl, ⟨_, rfl⟩, hW, hframe⟩
  jvm_step X.here [X.here.top, hx, hb, hdg, hmeth', hr, ret, narrow_b1]
  (try refine ⟨rfl, ?_⟩); (try refine ⟨rfl, ?_⟩)
  first | (intro acts; rw [hret _ acts rfl rfl rfl]) | rw [hret _ _ rfl rfl rfl]
  exact Steps.refl _
/-- what holds at the law's entry: the machine, the code, the tables' words (any of lw_tbl by 'hts w (by decide +kernel)'), the script of L ints xs at the cell b, what the Statement gives of the start (any of its parts by flat_of_before) -/
def lw_At (p : Program) (s : State) (m : MethodId) (meth : Method) (c : Code) (b L : Nat) (xs : Nat → Int32) : Prop :=
  p.tables.exec = Jvm.exec ∧ c.code = code ∧ meth.sig.returnType = ret ∧ c.maxLocals = 10 ∧ s.vm.findClass R_law = some m.cls ∧ (∀ w ∈ lw_tbl, w.before #[Value.ref b] s = true) ∧ va_X b L xs s s.heap ∧ b < s.heap.size ∧ meth.locks = false ∧ (Jvm.Cond.and given_1 narrow_1).before #[Value.ref b] s = true
theorem nest_in : ∀ x ∈ nestL, Cond.methodLinkNest x.1 x.2.1 x.2.2 "ExampleDrawers" ∈ lw_tbl := by decide +kernel
set_option maxHeartbeats 4000000 in
set_option maxRecDepth 100000 in
theorem whole_start {p : Program} {e : Env} {s : State} {m : MethodId} {below : List Frame} {meth : Method} {c : Code} (l : Launch) (hflags : l.flags = flags0) {b L : Nat} {xs : Nat → Int32} (hL : L ≤ 260) (C0 : lw_At p s m meth c b L xs) : W p l e room_1 s m #[Value.ref b] below meth c s.heap [] 0 0 (lw_Z below #[Value.ref b] s) (entryFrame m ([Value.ref b] : List Value).toArray 10) := by
  obtain ⟨hx, hb, hr, hml, hown, hts, hX, hbl, hlocks, hgv⟩ := id C0
  have htw : ∀ w ∈ wsL_law, w.before #[Value.ref b] s = true := fun w hw => hts w (wsL_law_in w hw)
  obtain ⟨k0, j0, hk0⟩ := u_known (C := RX0) (T := TX0) (N := 4) (n := 4) hts inX0 (htw (.instantiable RX0 4) (List.mem_of_getElem? (i := 35) rfl))
  obtain ⟨k1, j1, hk1⟩ := u_known (C := RX1) (T := TX1) (N := 3) (n := 3) hts inX1 (htw (.instantiable RX1 3) (List.mem_of_getElem? (i := 52) rfl))
  obtain ⟨k2, j2, hk2⟩ := u_known (C := RX2) (T := TX2) (N := 5) (n := 5) hts inX2 (htw (.instantiable RX2 5) (List.mem_of_getElem? (i := 16) rfl))
  obtain ⟨k3, j3, hk3⟩ := u_known (C := RX3) (T := TX3) (N := 1) (n := 1) hts inX3 (htw (.instantiable RX3 1) (List.mem_of_getElem? (i := 40) rfl))
  obtain ⟨k4, j4, hk4⟩ := u_known (C := RX4) (T := TX4) (N := 6) (n := 6) hts inX4 (htw (.instantiable RX4 6) (List.mem_of_getElem? (i := 28) rfl))
  obtain ⟨k5, j5, hk5⟩ := u_known (C := RX5) (T := TX5) (N := 6) (n := 6) hts inX5 (htw (.instantiable RX5 6) (List.mem_of_getElem? (i := 20) rfl))
  obtain ⟨k6, j6, hk6⟩ := u_known (C := RX6) (T := TX6) (N := 6) (n := 6) hts inX6 (htw (.instantiable RX6 6) (List.mem_of_getElem? (i := 12) rfl))
  obtain ⟨k7, j7, hk7⟩ := u_known (C := RX7) (T := TX7) (N := 2) (n := 2) hts inX7 (htw (.instantiable RX7 2) (List.mem_of_getElem? (i := 24) rfl))
  obtain ⟨k8, j8, hk8⟩ := u_known (C := RX8) (T := TX8) (N := 5) (n := 5) hts inX8 (htw (.instantiable RX8 5) (List.mem_of_getElem? (i := 1) rfl))
  obtain ⟨cA, kA, comp, f1, f2, f3⟩ := Cond.arrayClass_spec (htw (.arrayClass .int) (List.mem_of_getElem? (i := 3) rfl))
  obtain ⟨cB, kB, compB, g1, g2, g3⟩ := Cond.arrayClass_spec (htw (.arrayClass .long) (List.mem_of_getElem? (i := 212) rfl))
  obtain ⟨dC, dI, hKc, hd99⟩ : ∃ (dC : Nat → ClassId) (dI : Nat → Nat → Nat), (∀ (k : Nat) (q : vw_C), vwCl[k]? = some q → u_Kn s q.1 q.2.1 q.2.2 (dC k) (dI k)) ∧ dC 99 = cB := by
    refine ⟨fun k => if k = 99 then cB else if k = 0 then k0 else if k = 1 then k1 else if k = 2 then k2 else if k = 3 then k3 else if k = 4 then k4 else if k = 5 then k5 else if k = 6 then k6 else if k = 7 then k7 else k8, fun k => if k = 0 then j0 else if k = 1 then j1 else if k = 2 then j2 else if k = 3 then j3 else if k = 4 then j4 else if k = 5 then j5 else if k = 6 then j6 else if k = 7 then j7 else j8, ?_, rfl⟩
    intro k q hq
    match k, hq with
    | 0, hq => cases hq; exact hk0
    | 1, hq => cases hq; exact hk1
    | 2, hq => cases hq; exact hk2
    | 3, hq => cases hq; exact hk3
    | 4, hq => cases hq; exact hk4
    | 5, hq => cases hq; exact hk5
    | 6, hq => cases hq; exact hk6
    | 7, hq => cases hq; exact hk7
    | 8, hq => cases hq; exact hk8
    | k + 9, hq => simp at hq
  have hK : ci_K ((dC, dI), cA) s := ⟨⟨hKc, fun k x hx => by
    match k, hx with
    | 0, hx => cases hx; exact ⟨fun n z => ⟨fun k h => (by cases h), kA, f2, comp, f3⟩, f1⟩
    | k + 1, hx => simp at hx⟩, fun x hx => va_Nw.of rfl (hts _ (nest_in x hx))⟩
  have C1 : ii_C p s m #[Value.ref b] c ((dC, dI), cA) (fun q => s.heap.size ≤ q) cL_law 10 wsL_law RL := ⟨⟨hx, hb, hml, hown, htw⟩, hK, fun q h => h⟩
  have hl := lv_entry [.ref b] (n := 10) (Nat.le_of_ble_eq_true rfl)
  rw [lg_entry_eq]
  have K : ii p l e room_1 s m #[Value.ref b] below meth c ((dC, dI), cA) (fun q => s.heap.size ≤ q) 0 0 (lw_Z below #[Value.ref b] s) [] 0 [some (.ref b), none, none, none, none, none, none, none, none, none] [] := by
    refine ii_new C1 (Cn := RX8) (T := TX8) (N := 5) (ci := 8) (fs := [.null, .null, .null, .null, .null]) tyX8 rfl inlX8 tyX8_ok (List.mem_of_getElem? (i := 0) rfl) (List.mem_of_getElem? (i := 1) rfl) (List.mem_of_getElem? (i := 2) rfl) (fun j hj => by match j, hj with | 0, _ => rfl | 1, _ => rfl | 2, _ => rfl | 3, _ => rfl | 4, _ => rfl | j + 5, hj => exact absurd hj (by omega)) (Nat.le_of_ble_eq_true rfl) (Nat.le_of_ble_eq_true rfl) dL_law_0 (fun q0 => ?_)
    refine ii_dup C1 dL_law_3 rfl ?_
    refine ii_init C1 (q := q0) [] (c_X8_init ((dC, dI), cA)) (cwI 0 htw gL_law_X8_init rfl rfl rfl (htw _ (List.mem_of_getElem? (i := 2) rfl)) (htw _ (List.mem_of_getElem? (i := 5) rfl)) (htw _ (List.mem_of_getElem? (i := 6) rfl)) rfl (by decide +kernel) ⟨Nat.le_of_ble_eq_true rfl, Nat.le_of_ble_eq_true rfl⟩) rfl rfl rfl (Nat.le_of_ble_eq_true rfl) dL_law_4 ⟨Nat.le_of_ble_eq_true rfl, Nat.le_of_ble_eq_true rfl⟩ (fun wn hwn => ?_)
    obtain ⟨qh, a0, a1, a2, a3, a4, ar, at_, ag, rfl⟩ := hwn
    refine ii_ws (ws2 := edL ((dC, dI), cA) q0 qh a0 a1 a2 a3 a4 ar at_ ag) rfl ?_
    refine ii_astore_n (ls2 := [some (.ref b), some (.ref q0), none, none, none, none, none, none, none, none]) C1 1 dL_law_7 rfl (Nat.le_of_ble_eq_true rfl) rfl ?_
    refine ii_bipush (v := 10) C1 dL_law_8 (by decide) ?_
    refine ii_newa (N := 10) C1 (List.mem_of_getElem? (i := 3) rfl) (by decide) rfl (by decide) (Nat.le_of_ble_eq_true rfl) (Nat.le_of_ble_eq_true rfl) dL_law_10 (fun p0 => ?_)
    refine ii_astore_n (ls2 := [some (.ref b), some (.ref q0), some (.ref p0), none, none, none, none, none, none, none]) C1 2 dL_law_12 rfl (Nat.le_of_ble_eq_true rfl) rfl ?_
    refine ii_bipush (v := 24) C1 dL_law_13 (by decide) ?_
    refine ii_newa (N := 24) C1 (List.mem_of_getElem? (i := 3) rfl) (by decide) rfl (by decide) (Nat.le_of_ble_eq_true rfl) (Nat.le_of_ble_eq_true rfl) dL_law_15 (fun p1 => ?_)
    refine ii_astore_n (ls2 := [some (.ref b), some (.ref q0), some (.ref p0), some (.ref p1), none, none, none, none, none, none]) C1 3 dL_law_17 rfl (Nat.le_of_ble_eq_true rfl) rfl ?_
    refine ii_bipush (v := 8) C1 dL_law_18 (by decide) ?_
    refine ii_newa (N := 8) C1 (List.mem_of_getElem? (i := 3) rfl) (by decide) rfl (by decide) (Nat.le_of_ble_eq_true rfl) (Nat.le_of_ble_eq_true rfl) dL_law_20 (fun p2 => ?_)
    refine ii_astore (ls2 := [some (.ref b), some (.ref q0), some (.ref p0), some (.ref p1), some (.ref p2), none, none, none, none, none]) C1 4 dL_law_22 (Nat.le_of_ble_eq_true rfl) rfl ?_
    refine ii_bipush (v := 8) C1 dL_law_24 (by decide) ?_
    refine ii_newa (N := 8) C1 (List.mem_of_getElem? (i := 3) rfl) (by decide) rfl (by decide) (Nat.le_of_ble_eq_true rfl) (Nat.le_of_ble_eq_true rfl) dL_law_26 (fun p3 => ?_)
    refine ii_astore (ls2 := [some (.ref b), some (.ref q0), some (.ref p0), some (.ref p1), some (.ref p2), some (.ref p3), none, none, none, none]) C1 5 dL_law_28 (Nat.le_of_ble_eq_true rfl) rfl ?_
    refine ii_bipush (v := 8) C1 dL_law_30 (by decide) ?_
    refine ii_newa (N := 8) C1 (List.mem_of_getElem? (i := 3) rfl) (by decide) rfl (by decide) (Nat.le_of_ble_eq_true rfl) (Nat.le_of_ble_eq_true rfl) dL_law_32 (fun p4 => ?_)
    refine ii_astore (ls2 := [some (.ref b), some (.ref q0), some (.ref p0), some (.ref p1), some (.ref p2), some (.ref p3), some (.ref p4), none, none, none]) C1 6 dL_law_34 (Nat.le_of_ble_eq_true rfl) rfl ?_
    obtain ⟨am, h0, h1, h2, h3, h4⟩ : ∃ am : Nat → Nat, am 0 = p0 ∧ am 1 = p1 ∧ am 2 = p2 ∧ am 3 = p3 ∧ am 4 = p4 := ⟨fun k => if k = 0 then p0 else if k = 1 then p1 else if k = 2 then p2 else if k = 3 then p3 else p4, rfl, rfl, rfl, rfl, rfl⟩
    subst h0 h1 h2 h3 h4
    refine ii_ws (ws2 := edL ((dC, dI), cA) q0 qh a0 a1 a2 a3 a4 ar at_ ag ++ mL5 ((dC, dI), cA) am) app5 ?_
    intro H locs la hP hD hS hL2
    have hW := made_W hP
    have hG := made_G hD
    have hK2 : mx_K (gad q0 qh a0 a1 a2 a3 a4 ar at_ ag am, ((dC, dI), cA)) s := ⟨hKc, fun k x hx => by
      match k, hx with
      | 0, hx => cases hx; exact ⟨fun n z => ⟨fun k h => (by cases h), kA, f2, comp, f3⟩, f1⟩
      | 1, hx => cases hx; show (_ ∧ _); rw [show (((dC, dI), cA) : ci_G).1.1 99 = cB from hd99]; exact ⟨fun n z => ⟨fun k h => (by cases h), kB, g2, compB, g3⟩, g1⟩
      | k + 2, hx => simp at hx⟩
    have C2 : vx_C p s m #[Value.ref b] c (gad q0 qh a0 a1 a2 a3 a4 ar at_ ag am, ((dC, dI), cA)) (fun q => s.heap.size ≤ q) cL_law 10 wsL_law RL := ⟨C1.1, hK2, hG, fun q h => h⟩
    have hbA : ¬ (fun q => s.heap.size ≤ q) b := Nat.not_le.mpr hbl
    have hL3 : mw_L la [some (.ref b), some (.ref (((gad q0 qh a0 a1 a2 a3 a4 ar at_ ag am, ((dC, dI), cA)) : mw_GG).1 144)), some (.ref (((gad q0 qh a0 a1 a2 a3 a4 ar at_ ag am, ((dC, dI), cA)) : mw_GG).1 145)), some (.ref (((gad q0 qh a0 a1 a2 a3 a4 ar at_ ag am, ((dC, dI), cA)) : mw_GG).1 146)), some (.ref (((gad q0 qh a0 a1 a2 a3 a4 ar at_ ag am, ((dC, dI), cA)) : mw_GG).1 147)), some (.ref (((gad q0 qh a0 a1 a2 a3 a4 ar at_ ag am, ((dC, dI), cA)) : mw_GG).1 148)), some (.ref (((gad q0 qh a0 a1 a2 a3 a4 ar at_ ag am, ((dC, dI), cA)) : mw_GG).1 149)), none, none, none] := hL2
    have hP3 : va_P (((gad q0 qh a0 a1 a2 a3 a4 ar at_ ag am, ((dC, dI), cA)) : mw_GG)).2.1 vwCl (mw_l (gad q0 qh a0 a1 a2 a3 a4 ar at_ ag am, ((dC, dI), cA)) MS0 ++ []) H := by rw [List.append_nil]; exact hW
    have hD3 : va_D (fun q => s.heap.size ≤ q) (mw_l (gad q0 qh a0 a1 a2 a3 a4 ar at_ ag am, ((dC, dI), cA)) MS0 ++ []) := by rw [List.append_nil]; exact made_D hD
    refine (show vx p l e room_1 s m #[Value.ref b] below meth c (gad q0 qh a0 a1 a2 a3 a4 ar at_ ag am, ((dC, dI), cA)) (fun q => s.heap.size ≤ q) 150 1226 (lw_Z below #[Value.ref b] s) MS0 ([] : va_W) 36 [some (.ref b), some (.ref (((gad q0 qh a0 a1 a2 a3 a4 ar at_ ag am, ((dC, dI), cA)) : mw_GG).1 144)), some (.ref (((gad q0 qh a0 a1 a2 a3 a4 ar at_ ag am, ((dC, dI), cA)) : mw_GG).1 145)), some (.ref (((gad q0 qh a0 a1 a2 a3 a4 ar at_ ag am, ((dC, dI), cA)) : mw_GG).1 146)), some (.ref (((gad q0 qh a0 a1 a2 a3 a4 ar at_ ag am, ((dC, dI), cA)) : mw_GG).1 147)), some (.ref (((gad q0 qh a0 a1 a2 a3 a4 ar at_ ag am, ((dC, dI), cA)) : mw_GG).1 148)), some (.ref (((gad q0 qh a0 a1 a2 a3 a4 ar at_ ag am, ((dC, dI), cA)) : mw_GG).1 149)), none, none, none] [] from ?_) H locs la hP3 hD3 hS hL3
    refine lp_law0 C2 (fun M hM => ?_)
    refine lp_law1 C2 hX hbl hbA hL (fun M1 hM1 => ?_) 9 0 M (by omega) (by omega) hM
    refine lp_law2 C2 hX hbl hbA hL (fun M2 j hj hM2 => ?_) hM1
    refine lp_law3 C2 hX hbl hbA hL (by omega) (fun M3 hM3 => ?_) (12 + j + 1) 0 M2 (by omega) (by omega) hM2
    refine lp_law4 C2 (fun M4 => ?_) hM3
    intro H1 locs1 la1 hP1 hD1 hS1 hL4
    refine W.widen (k := 632760) (n := 7203968) (Nat.le_of_ble_eq_true rfl) (Nat.le_of_ble_eq_true rfl) ?_
    exact va_forget (fun q hq => hS1.2.2 q hq) (lw_ret hx hb hr hlocks dL_law_332)
  refine K s.heap [] _ (fun k q h => by simp at h) ⟨fun i j x y h => by simp at h, fun k q h => by simp at h⟩ va_S.rf ⟨hl, fun v hv => ?_⟩
  rcases List.mem_cons.mp hv with w | hv
  · cases w; rfl
  · simp at hv
set_option maxHeartbeats 4000000 in
theorem lw_walk (l : Launch) (hflags : l.flags = flags0) (b : Addr) (xs : List Int32) : MetFree l x (headSpec (Jvm.Cond.code x code maxLocals ret :: tables_1) room_1) (lw_P b xs) (fun _ _ _ _ _ => True) lw_Q := by
  refine MetFree.of_bodyS (code := code) (maxLocals := maxLocals) (ret := ret) (by decide) ?_ ?_
  · intro args s m h hn
    obtain ⟨meth, c, h1, h2, h3, h4, h5, h6, -, -⟩ := Cond.code_spec hn (atoms_spec (ws := Jvm.Cond.code x code maxLocals ret :: tables_1) h _ List.mem_cons_self)
    exact ⟨meth, c, h1, h2, h3, h4, h5, h6⟩
  · intro p e s m args below meth c s₁ B hml0 hP _
    obtain ⟨rfl, hx, hbd, hgv⟩ := hP
    obtain ⟨scr, harrAt, hlist, hof, hsmall⟩ := hx
    obtain ⟨hcb, hkn, -, -⟩ := State.arrayAt?_spec harrAt
    have hown : s.vm.findClass R_law = some m.cls := findClass_of_methodNamed B.named
    have hts0 : ∀ c ∈ (Jvm.Cond.code x code maxLocals ret :: tables_1), c.before #[Value.ref b] s = true := atoms_spec (ws := Jvm.Cond.code x code maxLocals ret :: tables_1) B.pre
    have hts : ∀ w ∈ lw_tbl, w.before #[Value.ref b] s = true := k2_hts_sels lw_privs (fun w hw => hts0 w (List.mem_cons_of_mem _ hw)) lw_privs_ok
    have hml : c.maxLocals = 10 := B.maxLocals_eq (hts0 _ List.mem_cons_self)
    have X₀ : Stand p l e room_1 s m #[Value.ref b] below meth c s₁ [] 0 0 := Stand.of_body B
    have hh0 : s₁.heap = s.heap := by rw [B.state]; rfl
    have hsz : scr.slots.size = xs.length := by rw [← Array.length_toList, hlist, List.length_map]
    have hval : ∀ j : Nat, j < xs.length → scr.slots[j]? = some (.int (xs.getD j 0)) := fun j hj => by
      rw [← Array.getElem?_toList, hlist]
      simp [hj]
    have hbl : b < s.heap.size := (Array.getElem?_eq_some_iff.mp hcb).1
    have hX : va_X b xs.length (fun j => xs.getD j 0) s s.heap := ⟨scr, hcb, hof, hkn, hsz, hval⟩
    have K : W p l e room_1 s m #[Value.ref b] below meth c s₁.heap [] 0 0 (lw_Z below #[Value.ref b] s) (entryFrame m ([Value.ref b] : List Value).toArray 10) := by
      rw [hh0]
      exact whole_start l hflags hbd ⟨B.exec, B.bytes, B.returns, hml, hown, hts, hX, hbl, B.notSynchronized, hgv⟩
    obtain ⟨t, a1, o, b1, b2, b3⟩ := K s₁ rfl X₀
    exact ⟨t, o, a1, b1, b2, b3⟩
theorem lw_pre_spec {args : Array Value} {s : State} (h : (Jvm.Cond.and given_1 narrow_1).before args s = true) (hr : rest_1_c.before args s = true) : ∃ (b : Addr) (xs : List Int32), lw_P b xs args s := by
  have hs := flat_of_before _ h
  have hq := flat_of_before _ hr
  have hc : (Cond.count 1).before args s = true := hs _ (by decide +kernel)
  have harr : (Cond.arrayOf (.arg 0) .int).before args s = true := hs _ (by decide +kernel)
  have hle : (Cond.le (.length (.arg 0)) (.int 260)).before args s = true := hs _ (by decide +kernel)
  have hlen : (Cond.isInt (.length (.arg 0))).before args s = true := hq _ (by decide +kernel)
  have hall : (Cond.all (.arg 0) (.isInt (.elem (.arg 0) (.index 0)))).before args s = true := hq _ (by decide +kernel)
  obtain ⟨b, xs, hb, hx⟩ := State.ints_of_pre rfl harr hlen hall
  have hsm : xs.length < 2 ^ 31 := hx.choose_spec.2.2.2
  have hev : (Term.length (.arg 0)).eval args s none [] s = some (.int xs.length.toInt32) := hx.length_eval hb
  have hv := Cond.le_ints hev (show (Term.int 260).eval args s none [] s = some (.int 260) from rfl)
  have hd : xs.length.toInt32 ≤ 260 := by
    simpa [Cond.before, Cond.holds, hv] using hle
  have hN : xs.length ≤ 260 := (Int32.ofNat_le_ofNat hsm (by decide)).mp (show Int32.ofNat xs.length ≤ Int32.ofNat 260 from hd)
  exact ⟨b, xs, Cond.one_arg hc (show args[0]? = some (.ref b) from hb), hx, hN, h⟩
theorem lw_comes (l : Launch) (hflags : l.flags = flags0) : Comes l x (Jvm.Cond.code x code maxLocals ret :: tables_1) room_1 (fun tb e args s => Calls_1 tb e args s ∧ rest_1 tb e args s ∧ Pre_1 tb e args s)
    (fun _ _ args s o t => lw_Q args s o t) := by
  intro p e ha hc hk s m args below hf hfit hheap happ hpre
  obtain ⟨b, xs, hP⟩ := lw_pre_spec hpre.2.2 hpre.2.1
  obtain ⟨k, o, h1, h2, h3, hQ⟩ := lw_walk l hflags b xs p e ha hc hk s m args below hf ((Spec.applies_iff_loose hf).mp happ).1 hP trivial
  exact ⟨k, o, h1, h2, h3, hQ⟩
theorem lw_frame {s t : State} {o : Outcome} {args : Array Value} (h : Framed s o t [] 632760 7203968) :
    Framed s o t (fieldLocs frame_1_writes args s ++ arrayLocs frame_1_arrays args s ++ staticLocs frame_1_statics s) 632760 7203968 := h
theorem lw_limb (L : Cond) (hL : ∀ (args : Array Value) (s t : State), L.after args s (.returned (some (.int 1))) t = true) :
    ArmFor flags0 classFile x code maxLocals ret World_1 tables_1 room_1 Calls_1 rest_1 Pre_1
      (fun tb e a s o t => postC L tb e a s o t ∧ Framed s o t (fieldLocs frame_1_writes a s ++ arrayLocs frame_1_arrays a s ++ staticLocs frame_1_statics s) 632760 7203968) := by
  intro l hflags _ _ p e ha hc hk s m args below hf hfit hheap happ hpre
  obtain ⟨k, o, h1, h2, h3, rfl, hF⟩ := lw_comes l hflags p e ha hc hk s m args below hf hfit hheap happ hpre
  exact ⟨k, _, h1, h2, h3, hL args s _, lw_frame hF⟩
theorem i_vc : Claimed_1_1 ∧ Claimed_1_2 := ⟨lw_limb limb_1_1 (fun args s t => by simp [limb_1_1, Cond.after, Cond.holds, Cond.value]), lw_limb limb_1_2 (fun args s t => Cond.after_iff.mpr (by
  first | (rw [show limb_1_2 = Cond.eq .result (.int 1) from rfl, Cond.eq_ints (x := 1) (y := 1) rfl rfl]; simp; done) | (simp [limb_1_2, Cond.value, Term.eval]; done)))⟩
