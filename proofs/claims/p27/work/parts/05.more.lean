/-! shapes by name, answers by kind, shorter rows -/
def mw_Nu (a n b t : Nat) : Prop := mw_S[a]? = some (.inr (3, [.inl (a + 1)])) ∧ mw_S[a + 1]? = some (.inl (n, b, t))
def mw_Ex (x b : Nat) : Prop := mw_S[x]? = some (.inr (1, [.inl (x + 1), .inl (x + 3), .inl (x + 5)])) ∧ mw_Nu (x + 1) 4 b 3 ∧ mw_Nu (x + 3) 4 (b + 1) 3 ∧ mw_Nu (x + 5) 4 (b + 2) 3
def mw_Dr (x P d : Nat) : Prop := mw_S[x]? = some (.inr (0, [.inl (x + 1), .inl (x + 3), .inr (P + d), .inr (P + 2 + d)])) ∧ mw_Nu (x + 1) 48 (P + 4 + 48 * d) 1 ∧ mw_Ex (x + 3) (P + 100 + 12 * d)
def mw_St (x P : Nat) : Prop := mw_S[x]? = some (.inr (6, [.inl (x + 1), .inl (x + 11), .inl (x + 21), .inl (x + 23), .inr (P + 124), .inr (P + 129)])) ∧ mw_Dr (x + 1) P 0 ∧ mw_Dr (x + 11) P 1 ∧ mw_Nu (x + 21) 2 (P + 125) 2 ∧ mw_Nu (x + 23) 2 (P + 126) 2
/-- the drawers of the state that is now -/
def mw_Dw (d : Nat) : Prop := mw_S[1 + 10 * d]? = some (.inr (0, [.inl (2 + 10 * d), .inl (4 + 10 * d), .inr d, .inr (2 + d)])) ∧ mw_Nu (2 + 10 * d) 48 (4 + 48 * d) 1 ∧ mw_Ex (4 + 10 * d) (100 + 12 * d)
def ck_S (c : Nat) (sh : mw_Sh) : Bool := decide (mw_S[c]? = some sh)
def ck_Nu (a n b t : Nat) : Bool := ck_S a (.inr (3, [.inl (a + 1)])) && ck_S (a + 1) (.inl (n, b, t))
def ck_Ex (x b : Nat) : Bool := ck_S x (.inr (1, [.inl (x + 1), .inl (x + 3), .inl (x + 5)])) && (ck_Nu (x + 1) 4 b 3 && (ck_Nu (x + 3) 4 (b + 1) 3 && ck_Nu (x + 5) 4 (b + 2) 3))
def ck_Dr (x P d : Nat) : Bool := ck_S x (.inr (0, [.inl (x + 1), .inl (x + 3), .inr (P + d), .inr (P + 2 + d)])) && (ck_Nu (x + 1) 48 (P + 4 + 48 * d) 1 && ck_Ex (x + 3) (P + 100 + 12 * d))
def ck_St (x P : Nat) : Bool := ck_S x (.inr (6, [.inl (x + 1), .inl (x + 11), .inl (x + 21), .inl (x + 23), .inr (P + 124), .inr (P + 129)])) && (ck_Dr (x + 1) P 0 && (ck_Dr (x + 11) P 1 && (ck_Nu (x + 21) 2 (P + 125) 2 && ck_Nu (x + 23) 2 (P + 126) 2)))
def ck_Dw (d : Nat) : Bool := ck_S (1 + 10 * d) (.inr (0, [.inl (2 + 10 * d), .inl (4 + 10 * d), .inr d, .inr (2 + d)])) && (ck_Nu (2 + 10 * d) 48 (4 + 48 * d) 1 && ck_Ex (4 + 10 * d) (100 + 12 * d))
theorem ck_and {a b : Bool} (h : (a && b) = true) : a = true ∧ b = true := by
  cases a <;> cases b <;> simp_all
theorem mw_Nu_d {a n b t : Nat} (h : ck_Nu a n b t = true) : mw_Nu a n b t := ⟨of_decide_eq_true (ck_and h).1, of_decide_eq_true (ck_and h).2⟩
theorem mw_Ex_d {x b : Nat} (h : ck_Ex x b = true) : mw_Ex x b := ⟨of_decide_eq_true (ck_and h).1, mw_Nu_d (ck_and (ck_and h).2).1, mw_Nu_d (ck_and (ck_and (ck_and h).2).2).1, mw_Nu_d (ck_and (ck_and (ck_and h).2).2).2⟩
theorem mw_Dr_d {x P d : Nat} (h : ck_Dr x P d = true) : mw_Dr x P d := ⟨of_decide_eq_true (ck_and h).1, mw_Nu_d (ck_and (ck_and h).2).1, mw_Ex_d (ck_and (ck_and h).2).2⟩
theorem mw_St_d {x P : Nat} (h : ck_St x P = true) : mw_St x P := ⟨of_decide_eq_true (ck_and h).1, mw_Dr_d (ck_and (ck_and h).2).1, mw_Dr_d (ck_and (ck_and (ck_and h).2).2).1, mw_Nu_d (ck_and (ck_and (ck_and (ck_and h).2).2).2).1, mw_Nu_d (ck_and (ck_and (ck_and (ck_and h).2).2).2).2⟩
theorem mw_Dw_c {d : Nat} (h : ck_Dw d = true) : mw_Dw d := ⟨of_decide_eq_true (ck_and h).1, mw_Nu_d (ck_and (ck_and h).2).1, mw_Ex_d (ck_and (ck_and h).2).2⟩
theorem mw_Ex_137 : mw_Ex 137 670 := mw_Ex_d (by decide +kernel)
theorem ck_St_all : (List.range 5).all (fun j => ck_St (25 * j) (130 * j)) = true := by decide +kernel
theorem ck_Dw_all : (List.range 2).all ck_Dw = true := by decide +kernel
theorem mw_St_j {j : Nat} (hj : j < 5) : mw_St (25 * j) (130 * j) := mw_St_d (List.all_eq_true.mp ck_St_all j (List.mem_range.mpr hj))
theorem mw_Dw_d {d : Nat} (h : d < 2) : mw_Dw d := mw_Dw_c (List.all_eq_true.mp ck_Dw_all d (List.mem_range.mpr h))
theorem mw_arr_n_all : mw_S.all (fun sh => match sh with | .inl (n, _, _) => decide (n < 1000) | .inr _ => true) = true := by decide +kernel
theorem mw_arr_n {c n b t : Nat} (h : mw_S[c]? = some (.inl (n, b, t))) : n < 1000 := of_decide_eq_true (List.all_eq_true.mp mw_arr_n_all _ (List.mem_of_getElem? h))
def qI (x : Int32) (M2 : mw_M) : Option Value → mw_M → Prop := fun r M => r = some (.int x) ∧ M = M2
def qR (a : Nat) (M2 : mw_M) : Option Value → mw_M → Prop := fun r M => r = some (.ref a) ∧ M = M2
def qV (M2 : mw_M) : Option Value → mw_M → Prop := fun r M => r = none ∧ M = M2
def qIP (post : Int32 → mw_M → Prop) : Option Value → mw_M → Prop := fun r M => ∃ x, r = some (.int x) ∧ post x M
def qVP (post : mw_M → Prop) : Option Value → mw_M → Prop := fun r M => r = none ∧ post M
theorem qI_of {x y : Int32} {M M2 : mw_M} (h : y = x) (hm : M = M2) : qI x M2 (some (.int y)) M := ⟨by rw [h], hm⟩
theorem qR_of {x y : Nat} {M M2 : mw_M} (h : y = x) (hm : M = M2) : qR x M2 (some (.ref y)) M := ⟨by rw [h], hm⟩
theorem qV_of {M M2 : mw_M} (hm : M = M2) : qV M2 none M := ⟨rfl, hm⟩
theorem qIP_of {y : Int32} {M : mw_M} {post : Int32 → mw_M → Prop} (h : post y M) : qIP post (some (.int y)) M := ⟨y, rfl, h⟩
theorem qVP_of {M : mw_M} {post : mw_M → Prop} (h : post M) : qVP post none M := ⟨rfl, h⟩
section VX
variable {p : Program} {l : Launch} {e : Env} {R : Room} {s : State} {m : MethodId} {args : Array Value} {below : List Frame} {meth : Method} {c : Code} {G : mw_GG} {cells slots : Nat} {Q : State → Prop}
variable {cc : ByteArray} {nL : Nat} {Ts : List Cond} {own : String} {M : mw_M} {pc : Nat} {ls : List (Option Value)} {st : List Value}
theorem vv_geti (C : vv_C p s m args c G cc nL Ts own) {Cn : String} {T : u_T} {N ci index a q : Nat} {fs : List (Nat ⊕ Nat)} (hs : mw_S[a]? = some (.inr (ci, fs))) (j : Nat) (hf : fs[j]? = some (.inr q)) (hc : vwCl[ci]? = some (Cn, T, N)) (hj : j < N) (hin : ∀ w ∈ u_ws Cn T N, w ∈ Ts) (hlink : (Cond.fieldLink own index Cn (T j).2.1 (T j).2.2.1) ∈ Ts) (hT : (T j).1 = Cn) (hd : decode cc pc = .ok (.getfield index, 3)) (k : vv p l e R s m args below meth c G cells slots Q M (pc + 3) ls (.int (M q) :: st)) : vv p l e R s m args below meth c G cells slots Q M pc ls (.ref (G.1 a) :: st) := vv_getf C hs j hf hc hj hin hlink hT hd k
theorem vv_getr (C : vv_C p s m args c G cc nL Ts own) {Cn : String} {T : u_T} {N ci index a q : Nat} {fs : List (Nat ⊕ Nat)} (hs : mw_S[a]? = some (.inr (ci, fs))) (j : Nat) (hf : fs[j]? = some (.inl q)) (hc : vwCl[ci]? = some (Cn, T, N)) (hj : j < N) (hin : ∀ w ∈ u_ws Cn T N, w ∈ Ts) (hlink : (Cond.fieldLink own index Cn (T j).2.1 (T j).2.2.1) ∈ Ts) (hT : (T j).1 = Cn) (hd : decode cc pc = .ok (.getfield index, 3)) (k : vv p l e R s m args below meth c G cells slots Q M (pc + 3) ls (.ref (G.1 q) :: st)) : vv p l e R s m args below meth c G cells slots Q M pc ls (.ref (G.1 a) :: st) := vv_getf C hs j hf hc hj hin hlink hT hd k
theorem vv_top {x y : Int32} (h : x = y) (k : vv p l e R s m args below meth c G cells slots Q M pc ls (.int y :: st)) : vv p l e R s m args below meth c G cells slots Q M pc ls (.int x :: st) := by rw [h]; exact k
theorem vv_topM {x y : Int32} (h : x = y) (k : ∀ z, z = y → vv p l e R s m args below meth c G cells slots Q M pc ls (.int z :: st)) : vv p l e R s m args below meth c G cells slots Q M pc ls (.int x :: st) := by rw [h]; exact k y rfl
theorem vv_loc {ls2 : List (Option Value)} (h : ls = ls2) (k : vv p l e R s m args below meth c G cells slots Q M pc ls2 st) : vv p l e R s m args below meth c G cells slots Q M pc ls st := by rw [h]; exact k
theorem vv_mem {M2 : mw_M} (h : M = M2) (k : vv p l e R s m args below meth c G cells slots Q M2 pc ls st) : vv p l e R s m args below meth c G cells slots Q M pc ls st := by rw [h]; exact k
theorem mw_in {n j : Nat} {i : Int32} (hi : i = nI j) (hj : j < n) (hn : n < 1000) : vp_in i n := by
  rw [hi]; exact vp_in_nI hj (by omega)
theorem vv_ald (C : vv_C p s m args c G cc nL Ts own) {a n b t j q : Nat} (hs : mw_S[a]? = some (.inl (n, b, t))) {i : Int32} (hi : i = nI j) (hj : j < n) (hq : b + t * j = q) (hd : decode cc pc = .ok (.iaload, 1)) (k : vv p l e R s m args below meth c G cells slots Q M (pc + 1) ls (.int (M q) :: st)) : vv p l e R s m args below meth c G cells slots Q M pc ls (.int i :: .ref (G.1 a) :: st) := by
  have hn := mw_arr_n hs
  have e : i.toNatClampNeg = j := by rw [hi]; exact nI_clamp (by omega)
  refine vv_iald C hs (mw_in hi hj hn) hd ?_
  rw [e, hq]
  exact k
theorem vv_ast (C : vv_C p s m args c G cc nL Ts own) {a n b t j q : Nat} (hs : mw_S[a]? = some (.inl (n, b, t))) {i x : Int32} (hi : i = nI j) (hj : j < n) (hq : b + t * j = q) (hd : decode cc pc = .ok (.iastore, 1)) (k : vv p l e R s m args below meth c G cells slots Q (upd M q x) (pc + 1) ls st) : vv p l e R s m args below meth c G cells slots Q M pc ls (.int x :: .int i :: .ref (G.1 a) :: st) := by
  have hn := mw_arr_n hs
  have e : i.toNatClampNeg = j := by rw [hi]; exact nI_clamp (by omega)
  refine vv_iast C hs (mw_in hi hj hn) hd ?_
  rw [e, hq]
  exact k
theorem vv_callVI (C : vv_C p s m args c G cc nL Ts own) {y : MethodName} {ws : List Cond} {rm : Room} {a : Nat} (As : List Value) {x : Int32} {M2 : mw_M} (hM : mw_Met l y ws rm G (.ref (G.1 a) :: As) M (qI x M2)) {Cn : String} {T : u_T} {N ci index maxL n : Nat} {bytes : ByteArray} {ret : Option FieldType} {fs : List (Nat ⊕ Nat)} (hs : mw_S[a]? = some (.inr (ci, fs))) (hc : vwCl[ci]? = some (Cn, T, N))
    (cw : CallW R s args own Cn index y bytes maxL ret ws rm 0 0 n) (hn : As.length = n) (hlen : ls.length = nL) {stk : List Value} (hst : stk = As.reverse ++ .ref (G.1 a) :: st) (hcat : (st.map fun v => v.category).sum ≤ 8) (hd : decode cc pc = .ok (.invokevirtual index, 3)) (hf : cells ≤ R.cells ∧ slots ≤ R.slots)
    (kk : vv p l e R s m args below meth c G cells slots Q M2 (pc + 3) ls (.int x :: st)) : vv p l e R s m args below meth c G cells slots Q M pc ls stk := vv_callV C As hM hs hc cw hn hlen hst hcat hd hf (fun r M3 hq => by obtain ⟨rfl, rfl⟩ := hq; exact kk)
theorem vv_callSI (C : vv_C p s m args c G cc nL Ts own) {y : MethodName} {ws : List Cond} {rm : Room} (As : List Value) {x : Int32} {M2 : mw_M} (hM : mw_Met l y ws rm G As M (qI x M2)) {index maxL n : Nat} {bytes : ByteArray} {ret : Option FieldType}
    (cw : CallB R s args own index y bytes maxL ret ws rm 0 0 n ∧ (Cond.static y).before args s = true) (hn : As.length = n) (hlen : ls.length = nL) {stk : List Value} (hst : stk = As.reverse ++ st) (hcat : (st.map fun v => v.category).sum ≤ 8) (hd : decode cc pc = .ok (.invokestatic index, 3)) (hf : cells ≤ R.cells ∧ slots ≤ R.slots)
    (kk : vv p l e R s m args below meth c G cells slots Q M2 (pc + 3) ls (.int x :: st)) : vv p l e R s m args below meth c G cells slots Q M pc ls stk := vv_callS C As hM cw hn hlen hst hcat hd hf (fun r M3 hq => by obtain ⟨rfl, rfl⟩ := hq; exact kk)
theorem vv_callVR (C : vv_C p s m args c G cc nL Ts own) {y : MethodName} {ws : List Cond} {rm : Room} {a : Nat} (As : List Value) {x : Nat} {M2 : mw_M} (hM : mw_Met l y ws rm G (.ref (G.1 a) :: As) M (qR x M2)) {Cn : String} {T : u_T} {N ci index maxL n : Nat} {bytes : ByteArray} {ret : Option FieldType} {fs : List (Nat ⊕ Nat)} (hs : mw_S[a]? = some (.inr (ci, fs))) (hc : vwCl[ci]? = some (Cn, T, N))
    (cw : CallW R s args own Cn index y bytes maxL ret ws rm 0 0 n) (hn : As.length = n) (hlen : ls.length = nL) {stk : List Value} (hst : stk = As.reverse ++ .ref (G.1 a) :: st) (hcat : (st.map fun v => v.category).sum ≤ 8) (hd : decode cc pc = .ok (.invokevirtual index, 3)) (hf : cells ≤ R.cells ∧ slots ≤ R.slots)
    (kk : vv p l e R s m args below meth c G cells slots Q M2 (pc + 3) ls (.ref x :: st)) : vv p l e R s m args below meth c G cells slots Q M pc ls stk := vv_callV C As hM hs hc cw hn hlen hst hcat hd hf (fun r M3 hq => by obtain ⟨rfl, rfl⟩ := hq; exact kk)
theorem vv_callSR (C : vv_C p s m args c G cc nL Ts own) {y : MethodName} {ws : List Cond} {rm : Room} (As : List Value) {x : Nat} {M2 : mw_M} (hM : mw_Met l y ws rm G As M (qR x M2)) {index maxL n : Nat} {bytes : ByteArray} {ret : Option FieldType}
    (cw : CallB R s args own index y bytes maxL ret ws rm 0 0 n ∧ (Cond.static y).before args s = true) (hn : As.length = n) (hlen : ls.length = nL) {stk : List Value} (hst : stk = As.reverse ++ st) (hcat : (st.map fun v => v.category).sum ≤ 8) (hd : decode cc pc = .ok (.invokestatic index, 3)) (hf : cells ≤ R.cells ∧ slots ≤ R.slots)
    (kk : vv p l e R s m args below meth c G cells slots Q M2 (pc + 3) ls (.ref x :: st)) : vv p l e R s m args below meth c G cells slots Q M pc ls stk := vv_callS C As hM cw hn hlen hst hcat hd hf (fun r M3 hq => by obtain ⟨rfl, rfl⟩ := hq; exact kk)
theorem vv_callVV (C : vv_C p s m args c G cc nL Ts own) {y : MethodName} {ws : List Cond} {rm : Room} {a : Nat} (As : List Value) {M2 : mw_M} (hM : mw_Met l y ws rm G (.ref (G.1 a) :: As) M (qV M2)) {Cn : String} {T : u_T} {N ci index maxL n : Nat} {bytes : ByteArray} {ret : Option FieldType} {fs : List (Nat ⊕ Nat)} (hs : mw_S[a]? = some (.inr (ci, fs))) (hc : vwCl[ci]? = some (Cn, T, N))
    (cw : CallW R s args own Cn index y bytes maxL ret ws rm 0 0 n) (hn : As.length = n) (hlen : ls.length = nL) {stk : List Value} (hst : stk = As.reverse ++ .ref (G.1 a) :: st) (hcat : (st.map fun v => v.category).sum ≤ 8) (hd : decode cc pc = .ok (.invokevirtual index, 3)) (hf : cells ≤ R.cells ∧ slots ≤ R.slots)
    (kk : vv p l e R s m args below meth c G cells slots Q M2 (pc + 3) ls st) : vv p l e R s m args below meth c G cells slots Q M pc ls stk := vv_callV C As hM hs hc cw hn hlen hst hcat hd hf (fun r M3 hq => by obtain ⟨rfl, rfl⟩ := hq; exact kk)
theorem vv_callSV (C : vv_C p s m args c G cc nL Ts own) {y : MethodName} {ws : List Cond} {rm : Room} (As : List Value) {M2 : mw_M} (hM : mw_Met l y ws rm G As M (qV M2)) {index maxL n : Nat} {bytes : ByteArray} {ret : Option FieldType}
    (cw : CallB R s args own index y bytes maxL ret ws rm 0 0 n ∧ (Cond.static y).before args s = true) (hn : As.length = n) (hlen : ls.length = nL) {stk : List Value} (hst : stk = As.reverse ++ st) (hcat : (st.map fun v => v.category).sum ≤ 8) (hd : decode cc pc = .ok (.invokestatic index, 3)) (hf : cells ≤ R.cells ∧ slots ≤ R.slots)
    (kk : vv p l e R s m args below meth c G cells slots Q M2 (pc + 3) ls st) : vv p l e R s m args below meth c G cells slots Q M pc ls stk := vv_callS C As hM cw hn hlen hst hcat hd hf (fun r M3 hq => by obtain ⟨rfl, rfl⟩ := hq; exact kk)
theorem vv_callVIP (C : vv_C p s m args c G cc nL Ts own) {y : MethodName} {ws : List Cond} {rm : Room} {a : Nat} (As : List Value) {post : Int32 → mw_M → Prop} (hM : mw_Met l y ws rm G (.ref (G.1 a) :: As) M (qIP post)) {Cn : String} {T : u_T} {N ci index maxL n : Nat} {bytes : ByteArray} {ret : Option FieldType} {fs : List (Nat ⊕ Nat)} (hs : mw_S[a]? = some (.inr (ci, fs))) (hc : vwCl[ci]? = some (Cn, T, N))
    (cw : CallW R s args own Cn index y bytes maxL ret ws rm 0 0 n) (hn : As.length = n) (hlen : ls.length = nL) {stk : List Value} (hst : stk = As.reverse ++ .ref (G.1 a) :: st) (hcat : (st.map fun v => v.category).sum ≤ 8) (hd : decode cc pc = .ok (.invokevirtual index, 3)) (hf : cells ≤ R.cells ∧ slots ≤ R.slots)
    (kk : ∀ x M2, post x M2 → vv p l e R s m args below meth c G cells slots Q M2 (pc + 3) ls (.int x :: st)) : vv p l e R s m args below meth c G cells slots Q M pc ls stk := vv_callV C As hM hs hc cw hn hlen hst hcat hd hf (fun r M3 hq => by obtain ⟨x, rfl, hq⟩ := hq; exact kk x M3 hq)
theorem vv_callVVP (C : vv_C p s m args c G cc nL Ts own) {y : MethodName} {ws : List Cond} {rm : Room} {a : Nat} (As : List Value) {post : mw_M → Prop} (hM : mw_Met l y ws rm G (.ref (G.1 a) :: As) M (qVP post)) {Cn : String} {T : u_T} {N ci index maxL n : Nat} {bytes : ByteArray} {ret : Option FieldType} {fs : List (Nat ⊕ Nat)} (hs : mw_S[a]? = some (.inr (ci, fs))) (hc : vwCl[ci]? = some (Cn, T, N))
    (cw : CallW R s args own Cn index y bytes maxL ret ws rm 0 0 n) (hn : As.length = n) (hlen : ls.length = nL) {stk : List Value} (hst : stk = As.reverse ++ .ref (G.1 a) :: st) (hcat : (st.map fun v => v.category).sum ≤ 8) (hd : decode cc pc = .ok (.invokevirtual index, 3)) (hf : cells ≤ R.cells ∧ slots ≤ R.slots)
    (kk : ∀ M2, post M2 → vv p l e R s m args below meth c G cells slots Q M2 (pc + 3) ls st) : vv p l e R s m args below meth c G cells slots Q M pc ls stk := vv_callV C As hM hs hc cw hn hlen hst hcat hd hf (fun r M3 hq => by obtain ⟨rfl, hq⟩ := hq; exact kk M3 hq)
theorem vv_mmax (C : vv_C p s m args c G cc nL Ts own) (hlen : ls.length = nL) {index : Nat} {x y : Int32} (h1 : Cond.methodLink own index Lib.Math.max.name ∈ Ts) (h2 : Cond.static Lib.Math.max.name ∈ Ts) (h3 : Cond.initialized "java/lang/Math" ∈ Ts) (h4 : Cond.code Lib.Math.max.name Lib.Math.max.code 2 (some .int) ∈ Ts) (hfr : 1 ≤ R.frames) (hlo : (st.map fun v => v.category).sum + 13 ≤ R.locals) (hc : cells ≤ R.cells) (hs : slots ≤ R.slots) (hd : decode cc pc = .ok (.invokestatic index, 3))
    (k : vv p l e R s m args below meth c G cells slots Q M (pc + 3) ls (.int (if x < y then y else x) :: st)) : vv p l e R s m args below meth c G cells slots Q M pc ls (.int y :: .int x :: st) := fun H locs la hW hS hL =>
  va_mmax C.1.1 C.1.2.1 (by rw [C.1.2.2.1, ← hlen]; exact hL.1.1.symm) C.1.2.2.2.1 (C.1.2.2.2.2 _ h1) (C.1.2.2.2.2 _ h2) (C.1.2.2.2.2 _ h3) (C.1.2.2.2.2 _ h4) hfr hlo hc hs hd (k H locs la hW hS hL)
theorem vv_mmin (C : vv_C p s m args c G cc nL Ts own) (hlen : ls.length = nL) {index : Nat} {x y : Int32} (h1 : Cond.methodLink own index Lib.Math.min.name ∈ Ts) (h2 : Cond.static Lib.Math.min.name ∈ Ts) (h3 : Cond.initialized "java/lang/Math" ∈ Ts) (h4 : Cond.code Lib.Math.min.name Lib.Math.min.code 2 (some .int) ∈ Ts) (hfr : 1 ≤ R.frames) (hlo : (st.map fun v => v.category).sum + 13 ≤ R.locals) (hc : cells ≤ R.cells) (hs : slots ≤ R.slots) (hd : decode cc pc = .ok (.invokestatic index, 3))
    (k : vv p l e R s m args below meth c G cells slots Q M (pc + 3) ls (.int (if y < x then y else x) :: st)) : vv p l e R s m args below meth c G cells slots Q M pc ls (.int y :: .int x :: st) := fun H locs la hW hS hL =>
  va_mmin C.1.1 C.1.2.1 (by rw [C.1.2.2.1, ← hlen]; exact hL.1.1.symm) C.1.2.2.2.1 (C.1.2.2.2.2 _ h1) (C.1.2.2.2.2 _ h2) (C.1.2.2.2.2 _ h3) (C.1.2.2.2.2 _ h4) hfr hlo hc hs hd (k H locs la hW hS hL)
theorem vv_topr {a b : Nat} (h : a = b) (k : vv p l e R s m args below meth c G cells slots Q M pc ls (.ref b :: st)) : vv p l e R s m args below meth c G cells slots Q M pc ls (.ref a :: st) := by rw [h]; exact k
end VX
