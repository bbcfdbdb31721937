/-! making: a heap that holds the cells ws and grows; what a constructor makes of its object -/
abbrev ci_G : Type := va_G × ClassId
/-- the constructors that the tables link as a nest mate's -/
def nestL : List (String × Nat × MethodName) := [(RX8, 11, yX6_init), (RX6, 11, yX0_init), (RX0, 22, yX1_init), (RX8, 18, yX2_init), (RX2, 11, yX6_init), (RX8, 34, yX7_init), (RX4, 11, yX1_init)]
def nk (U : State) : Prop := ∀ x ∈ nestL, va_Nw (.methodLinkNest x.1 x.2.1 x.2.2 "ExampleDrawers") U
def ci_K (G : ci_G) (U : State) : Prop := va_K G.1 vwCl [(G.2, .int)] U ∧ nk U
theorem ci_moved {G : ci_G} {s U : State} (hW : s.WarmedH U.vm) (h : ci_K G s) : ci_K G U := ⟨va_K.moved hW.alike h.1, fun x hx => va_Nw.warmM hW (h.2 x hx)⟩
theorem ci_same {G : ci_G} {U : State} {g : JFrame} {mk : MethodId} {a : Array Value} (h : ci_K G U) : ci_K G (U.calling g mk a) := ⟨va_K.moved (u := U) (U := U.calling g mk a) (Vm.Alike.refl U.vm) h.1, fun x hx => va_Nw.same rfl rfl (h.2 x hx)⟩
def ci_A (h0 sz : Nat) : Nat → Prop := fun q => q = h0 ∨ sz ≤ q
def ii (p : Program) (l : Launch) (e : Env) (R : Room) (s : State) (m : MethodId) (args : Array Value) (below : List Frame) (meth : Method) (c : Code) (G : ci_G) (A : Nat → Prop) (cells slots : Nat) (Q : State → Prop) (ws : va_W) (pc : Nat) (ls : List (Option Value)) (st : List Value) : Prop :=
  ∀ (H : Heap) (locs : List Loc) (la : Array Slot), va_P G.1 vwCl ws H → va_D A ws → va_S A s.heap H locs → mw_L la ls → W p l e R s m args below meth c H locs cells slots Q (F0 m pc la st)
def ii_C (p : Program) (s : State) (m : MethodId) (args : Array Value) (c : Code) (G : ci_G) (A : Nat → Prop) (cc : ByteArray) (nL : Nat) (Ts : List Cond) (own : String) : Prop :=
  CallFix p m c cc nL s args Ts own ∧ ci_K G s ∧ ∀ q, s.heap.size ≤ q → A q
def ci_Met (l : Launch) (y : MethodName) (ws : List Cond) (rm : Room) (G : ci_G) (ci : Nat) (fs As : List Value) (Post : Nat → va_W → Prop) (mc ms : Nat) : Prop :=
  ∀ h0 sz : Nat, Met l y ws rm (va_Pc (.ref h0 :: As) (fun U => U.heap.size = sz ∧ va_P G.1 vwCl [(h0, .inr (ci, fs))] U.heap ∧ ci_K G U)) (va_Qv (Post h0) (fun wn t => va_P G.1 vwCl wn t.heap ∧ va_D (ci_A h0 sz) wn) (ci_A h0 sz)) mc ms (ci_A h0 sz)
abbrev ci_E (below : List Frame) (args : Array Value) (s : State) (G : ci_G) (Post : Nat → va_W → Prop) (mc ms h0 : Nat) : State → Prop := MQ below (va_Qv (Post h0) (fun wn t => va_P G.1 vwCl wn t.heap ∧ va_D (ci_A h0 s.heap.size) wn) (ci_A h0 s.heap.size)) args s mc ms (ci_A h0 s.heap.size)
section IIV
variable {p : Program} {l : Launch} {e : Env} {R : Room} {s : State} {m : MethodId} {args : Array Value} {below : List Frame} {meth : Method} {c : Code} {G : ci_G} {A : Nat → Prop} {cells slots : Nat} {Q : State → Prop}
variable {cc : ByteArray} {nL : Nat} {Ts : List Cond} {own : String} {ws : va_W} {pc : Nat} {ls : List (Option Value)} {st : List Value}
theorem ii_iconst (C : ii_C p s m args c G A cc nL Ts own) {n : Int} {v : Int32} (hd : decode cc pc = .ok (.iconst n, 1)) (hv : Int32.ofInt n = v) (k : ii p l e R s m args below meth c G A cells slots Q ws (pc + 1) ls (.int v :: st)) : ii p l e R s m args below meth c G A cells slots Q ws pc ls st := fun H locs la hP hD hS hL => lv_iconst C.1.1 C.1.2.1 hd hv (k H locs la hP hD hS hL)
theorem ii_bipush (C : ii_C p s m args c G A cc nL Ts own) {n : Int} {v : Int32} (hd : decode cc pc = .ok (.bipush n, 2)) (hv : (Int8.ofInt n).toInt32 = v) (k : ii p l e R s m args below meth c G A cells slots Q ws (pc + 2) ls (.int v :: st)) : ii p l e R s m args below meth c G A cells slots Q ws pc ls st := fun H locs la hP hD hS hL => lv_bipush C.1.1 C.1.2.1 hd hv (k H locs la hP hD hS hL)
theorem ii_sipush (C : ii_C p s m args c G A cc nL Ts own) {n : Int} {v : Int32} (hd : decode cc pc = .ok (.sipush n, 3)) (hv : (Int16.ofInt n).toInt32 = v) (k : ii p l e R s m args below meth c G A cells slots Q ws (pc + 3) ls (.int v :: st)) : ii p l e R s m args below meth c G A cells slots Q ws pc ls st := fun H locs la hP hD hS hL => lv_sipush C.1.1 C.1.2.1 hd hv (k H locs la hP hD hS hL)
theorem ii_iload_n (C : ii_C p s m args c G A cc nL Ts own) {f : Fin 4} (i : Nat) {x : Int32} (hd : decode cc pc = .ok (.iload_n f, 1)) (hi : (f : Nat) = i) (hl : ls[i]? = some (some (.int x))) (k : ii p l e R s m args below meth c G A cells slots Q ws (pc + 1) ls (.int x :: st)) : ii p l e R s m args below meth c G A cells slots Q ws pc ls st := fun H locs la hP hD hS hL => lv_iload_n C.1.1 C.1.2.1 hd hi (hL.at hl) (k H locs la hP hD hS hL)
theorem ii_aload_n (C : ii_C p s m args c G A cc nL Ts own) {f : Fin 4} (i : Nat) {x : Nat} (hd : decode cc pc = .ok (.aload_n f, 1)) (hi : (f : Nat) = i) (hl : ls[i]? = some (some (.ref x))) (k : ii p l e R s m args below meth c G A cells slots Q ws (pc + 1) ls (.ref x :: st)) : ii p l e R s m args below meth c G A cells slots Q ws pc ls st := fun H locs la hP hD hS hL => lv_aload_n C.1.1 C.1.2.1 hd hi (hL.at hl) (k H locs la hP hD hS hL)
theorem ii_astore_n (C : ii_C p s m args c G A cc nL Ts own) {f : Fin 4} (i : Nat) {x : Nat} {ls2 : List (Option Value)} (hd : decode cc pc = .ok (.astore_n f, 1)) (hi : (f : Nat) = i) (hn : i < ls.length) (hs : ls.set i (some (.ref x)) = ls2) (k : ii p l e R s m args below meth c G A cells slots Q ws (pc + 1) ls2 st) : ii p l e R s m args below meth c G A cells slots Q ws pc ls (.ref x :: st) := fun H locs la hP hD hS hL => lv_astore_n C.1.1 C.1.2.1 hd hi hL.1 hn rfl (fun la2 h2 => k H locs la2 hP hD hS (hs ▸ hL.set rfl h2))
theorem ii_istore_n (C : ii_C p s m args c G A cc nL Ts own) {f : Fin 4} (i : Nat) {x : Int32} {ls2 : List (Option Value)} (hd : decode cc pc = .ok (.istore_n f, 1)) (hi : (f : Nat) = i) (hn : i < ls.length) (hs : ls.set i (some (.int x)) = ls2) (k : ii p l e R s m args below meth c G A cells slots Q ws (pc + 1) ls2 st) : ii p l e R s m args below meth c G A cells slots Q ws pc ls (.int x :: st) := fun H locs la hP hD hS hL => lv_istore_n C.1.1 C.1.2.1 hd hi hL.1 hn rfl (fun la2 h2 => k H locs la2 hP hD hS (hs ▸ hL.set rfl h2))
theorem ii_iinc (C : ii_C p s m args c G A cc nL Ts own) (i : Nat) {n : Int} {x v : Int32} {ls2 : List (Option Value)} (hd : decode cc pc = .ok (.iinc i n, 3)) (hl : ls[i]? = some (some (.int x))) (hv : x + Int32.ofInt n = v) (hs : ls.set i (some (.int v)) = ls2) (k : ii p l e R s m args below meth c G A cells slots Q ws (pc + 3) ls2 st) : ii p l e R s m args below meth c G A cells slots Q ws pc ls st := fun H locs la hP hD hS hL => by
  obtain ⟨j, hj⟩ := List.getElem?_of_mem ((mw_ll_mem ls 0 i (.int x)).mpr ⟨i, by omega, hl⟩)
  exact lv_iinc C.1.1 C.1.2.1 hd hL.1 hj hv (List.getElem?_eq_some_iff.mp hl).1 rfl (fun la2 h2 => k H locs la2 hP hD hS (hs ▸ hL.set rfl h2))
theorem ii_goto (C : ii_C p s m args c G A cc nL Ts own) {off : Int} (tgt : Nat) (hd : decode cc pc = .ok (.goto off, 3)) (ht : (pc : Int) + off = (tgt : Int)) (k : ii p l e R s m args below meth c G A cells slots Q ws tgt ls st) : ii p l e R s m args below meth c G A cells slots Q ws pc ls st := fun H locs la hP hD hS hL => lv_goto C.1.1 C.1.2.1 hd ht (k H locs la hP hD hS hL)
theorem ii_icmp_ge (C : ii_C p s m args c G A cc nL Ts own) {x y : Int32} {off : Int} (tgt : Nat) (hd : decode cc pc = .ok (.if_icmp .ge off, 3)) (ht : (pc : Int) + off = (tgt : Int)) (kt : y ≤ x → ii p l e R s m args below meth c G A cells slots Q ws tgt ls st) (kf : ¬ y ≤ x → ii p l e R s m args below meth c G A cells slots Q ws (pc + 3) ls st) : ii p l e R s m args below meth c G A cells slots Q ws pc ls (.int y :: .int x :: st) := fun H locs la hP hD hS hL => lv_icmp_ge C.1.1 C.1.2.1 hd ht (fun z => kt z H locs la hP hD hS hL) (fun z => kf z H locs la hP hD hS hL)
theorem ii_dup (C : ii_C p s m args c G A cc nL Ts own) {v : Value} (hd : decode cc pc = .ok (.dup, 1)) (hc : v.category = 1) (k : ii p l e R s m args below meth c G A cells slots Q ws (pc + 1) ls (v :: v :: st)) : ii p l e R s m args below meth c G A cells slots Q ws pc ls (v :: st) := fun H locs la hP hD hS hL => lv_dup C.1.1 C.1.2.1 hd hc (k H locs la hP hD hS hL)
theorem ii_ws {ws2 : va_W} (h : ws = ws2) (k : ii p l e R s m args below meth c G A cells slots Q ws2 pc ls st) : ii p l e R s m args below meth c G A cells slots Q ws pc ls st := by rw [h]; exact k
theorem ii_loc {ls2 : List (Option Value)} (h : ls = ls2) (k : ii p l e R s m args below meth c G A cells slots Q ws pc ls2 st) : ii p l e R s m args below meth c G A cells slots Q ws pc ls st := by rw [h]; exact k
theorem ii_widen {k n : Nat} (h1 : cells ≤ k) (h2 : slots ≤ n) (kk : ii p l e R s m args below meth c G A k n Q ws pc ls st) : ii p l e R s m args below meth c G A cells slots Q ws pc ls st := fun H locs la hP hD hS hL => W.widen h1 h2 (kk H locs la hP hD hS hL)
theorem ii_objInit (C : ii_C p s m args c G A cc nL Ts own) (hlen : ls.length = nL) {idx a : Nat} (h1 : Cond.methodLink own idx Lib.objectInit ∈ Ts) (h2 : Cond.instanceMethod Lib.objectInit ∈ Ts) (h3 : Cond.code Lib.objectInit ⟨#[0xb1]⟩ 1 none ∈ Ts) (hd : decode cc pc = .ok (.invokespecial idx, 3)) (hfr : 1 ≤ R.frames) (hlo : (st.map fun v => v.category).sum + 12 ≤ R.locals) (k : ii p l e R s m args below meth c G A cells slots Q ws (pc + 3) ls st) : ii p l e R s m args below meth c G A cells slots Q ws pc ls (.ref a :: st) := fun H locs la hP hD hS hL => by
  refine W.objInit C.1.1 C.1.2.1 C.1.2.2.2.1 (C.1.2.2.2.2 _ h1) (C.1.2.2.2.2 _ h2) (C.1.2.2.2.2 _ h3) rfl ?_ rfl hd hfr ?_ ?_
  · rw [C.1.2.2.1, ← hlen]
    exact hL.1.1
  · show 2 * 0 + _ + 12 ≤ _
    omega
  · exact W.eq (g2 := F0 m (pc + 3) la st) rfl (k H locs la hP hD hS hL)
theorem ii_mmax (C : ii_C p s m args c G A cc nL Ts own) (hlen : ls.length = nL) {index : Nat} {x y : Int32} (h1 : Cond.methodLink own index Lib.Math.max.name ∈ Ts) (h2 : Cond.static Lib.Math.max.name ∈ Ts) (h3 : Cond.initialized "java/lang/Math" ∈ Ts) (h4 : Cond.code Lib.Math.max.name Lib.Math.max.code 2 (some .int) ∈ Ts) (hfr : 1 ≤ R.frames) (hlo : (st.map fun v => v.category).sum + 13 ≤ R.locals) (hc : cells ≤ R.cells) (hs : slots ≤ R.slots) (hd : decode cc pc = .ok (.invokestatic index, 3))
    (k : ii p l e R s m args below meth c G A cells slots Q ws (pc + 3) ls (.int (if x < y then y else x) :: st)) : ii p l e R s m args below meth c G A cells slots Q ws pc ls (.int y :: .int x :: st) := fun H locs la hP hD hS hL => by
  refine va_mmax C.1.1 C.1.2.1 ?_ C.1.2.2.2.1 (C.1.2.2.2.2 _ h1) (C.1.2.2.2.2 _ h2) (C.1.2.2.2.2 _ h3) (C.1.2.2.2.2 _ h4) hfr hlo hc hs hd (k H locs la hP hD hS hL)
  rw [C.1.2.2.1, ← hlen]
  exact hL.1.1.symm
theorem ii_new (C : ii_C p s m args c G A cc nL Ts own) {Cn : String} {T : u_T} {N ci index : Nat} {fs : List Value} (ty : Nat → FieldType) (hc : vwCl[ci]? = some (Cn, T, N)) (hin : ∀ w ∈ u_ws Cn T N, w ∈ Ts) (hty : ∀ k, k < N → parseFieldDescriptor (T k).2.2.1 = some (ty k)) (hcl : Cond.classLink own index Cn ∈ Ts) (hinst : Cond.instantiable Cn N ∈ Ts) (hini : Cond.initialized Cn ∈ Ts) (hfs : ∀ j, j < N → defaultValue (ty j) = vp_V fs j) (hcells : cells + 1 ≤ R.cells) (hslots : slots + N ≤ R.slots) (hd : decode cc pc = .ok (.new index, 3))
    (k : ∀ q, ii p l e R s m args below meth c G A (cells + 1) (slots + N) Q (ws ++ [(q, .inr (ci, fs))]) (pc + 3) ls (.ref q :: st)) : ii p l e R s m args below meth c G A cells slots Q ws pc ls st := fun H locs la hP hD hS hL =>
  va_new C.1.1 C.1.2.1 C.1.2.2.2.2 hin ty hty C.1.2.2.2.1 (C.1.2.2.2.2 _ hcl) (C.1.2.2.2.2 _ hinst) (C.1.2.2.2.2 _ hini) C.2.1.1 hP hD hS C.2.2 hc hfs hcells hslots hd (fun q H1 hP1 hD1 hS1 => k q H1 locs la hP1 hD1 hS1 hL)
theorem ii_newa (C : ii_C p s m args c G A cc nL Ts own) {n : Int32} {N : Nat} (harr : Cond.arrayClass .int ∈ Ts) (hn : ¬ n < 0) (hN : n.toNatClampNeg = N) (hb : N ≤ 1000) (hcells : cells + 1 ≤ R.cells) (hslots : slots + N ≤ R.slots) (hd : decode cc pc = .ok (.newarray .int, 2))
    (k : ∀ q, ii p l e R s m args below meth c G A (cells + 1) (slots + N) Q (ws ++ [(q, .inl (G.2, (N, .inl (fun _ => 0))))]) (pc + 2) ls (.ref q :: st)) : ii p l e R s m args below meth c G A cells slots Q ws pc ls (.int n :: st) := fun H locs la hP hD hS hL => by
  refine va_newa (atype := .int) C.1.1 C.1.2.1 (C.1.2.2.2.2 _ harr) (ty := .int) rfl C.2.1.1 hP hD hS C.2.2 (a0 := (N, .inl (fun _ => 0))) (fun cA => rfl) hn hN ?_ hcells hslots hd (fun q cA H1 hK1 hP1 hD1 hS1 => ?_)
  · show N * 4 ≤ 536870912
    omega
  · have e1 : s.vm.findClass ("[" ++ (FieldType.int).toString) = some G.2 := (C.2.1.1.2 0 _ rfl).2
    have e2 : s.vm.findClass ("[" ++ (FieldType.int).toString) = some cA := (hK1.2 1 _ rfl).2
    have e3 : G.2 = cA := Option.some.inj (e1.symm.trans e2)
    subst e3
    exact k q H1 locs la hP1 hD1 hS1 hL
theorem ii_putF (C : ii_C p s m args c G A cc nL Ts own) (hin0 : meth.name = "<init>") {Cn : String} {T : u_T} {N ci index a : Nat} {fs : List Value} {w : va_W} {ty0 : Nat → FieldType} {ft : FieldType} {v : Value} (j : Nat) (hc : vwCl[ci]? = some (Cn, T, N)) (hj : j < N) (hin : ∀ w ∈ u_ws Cn T N, w ∈ Ts) (hlink : (Cond.fieldLink own index Cn (T j).2.1 (T j).2.2.1) ∈ Ts) (hT : (T j).1 = Cn) (hT2 : (T j).1 = own)
    (hty : ∀ k, k < N → parseFieldDescriptor (T k).2.2.1 = some (ty0 k)) (hnm : ∀ a, a < N → ∀ b, b < N → a ≠ b → (T a).2.1 ≠ (T b).2.1) (hfin : (T j).2.2.2 = true) (hI : parseFieldDescriptor (T j).2.2.1 = some ft) (hn : narrow ft v = v) (hfit : fits ft v = true) (hl : j < fs.length) (hd : decode cc pc = .ok (.putfield index, 3)) (k : ii p l e R s m args below meth c G A cells slots Q ((a, .inr (ci, fs.set j v)) :: w) (pc + 3) ls st) : ii p l e R s m args below meth c G A cells slots Q ((a, .inr (ci, fs)) :: w) pc ls (v :: .ref a :: st) := fun H locs la hP hD hS hL =>
  va_putF C.1.1 C.1.2.1 C.1.2.2.2.2 hin ty0 hty hnm C.1.2.2.2.1 C.2.1.1 hP hD hS 0 rfl hc j hj (C.1.2.2.2.2 _ hlink) (fun x hx => by rw [hT] at hx; exact hx) hfin hin0 hT2 hI hn hfit hl hd (fun H1 locs1 hP1 hD1 hS1 => k H1 locs1 la hP1 hD1 hS1 hL)
theorem ii_put (C : ii_C p s m args c G A cc nL Ts own) {Cn : String} {T : u_T} {N ci index a : Nat} {fs : List Value} {w : va_W} {ty0 : Nat → FieldType} {ft : FieldType} {v : Value} (j : Nat) (hc : vwCl[ci]? = some (Cn, T, N)) (hj : j < N) (hin : ∀ w ∈ u_ws Cn T N, w ∈ Ts) (hlink : (Cond.fieldLink own index Cn (T j).2.1 (T j).2.2.1) ∈ Ts) (hT : (T j).1 = Cn)
    (hty : ∀ k, k < N → parseFieldDescriptor (T k).2.2.1 = some (ty0 k)) (hnm : ∀ a, a < N → ∀ b, b < N → a ≠ b → (T a).2.1 ≠ (T b).2.1) (hfin : (T j).2.2.2 = false) (hI : parseFieldDescriptor (T j).2.2.1 = some ft) (hn : narrow ft v = v) (hfit : fits ft v = true) (hl : j < fs.length) (hd : decode cc pc = .ok (.putfield index, 3)) (k : ii p l e R s m args below meth c G A cells slots Q ((a, .inr (ci, fs.set j v)) :: w) (pc + 3) ls st) : ii p l e R s m args below meth c G A cells slots Q ((a, .inr (ci, fs)) :: w) pc ls (v :: .ref a :: st) := fun H locs la hP hD hS hL =>
  va_put C.1.1 C.1.2.1 C.1.2.2.2.2 hin ty0 hty hnm C.1.2.2.2.1 C.2.1.1 hP hD hS 0 rfl hc j hj (C.1.2.2.2.2 _ hlink) (fun x hx => by rw [hT] at hx; exact hx) hfin hI hn hfit hl hd (fun H1 locs1 hP1 hD1 hS1 => k H1 locs1 la hP1 hD1 hS1 hL)
theorem ii_get (C : ii_C p s m args c G A cc nL Ts own) {Cn : String} {T : u_T} {N ci index a : Nat} {fs : List Value} {w : va_W} {v : Value} (j : Nat) (hc : vwCl[ci]? = some (Cn, T, N)) (hj : j < N) (hin : ∀ w ∈ u_ws Cn T N, w ∈ Ts) (hlink : (Cond.fieldLink own index Cn (T j).2.1 (T j).2.2.1) ∈ Ts) (hT : (T j).1 = Cn) (hv : fs[j]? = some v) (hd : decode cc pc = .ok (.getfield index, 3)) (k : ii p l e R s m args below meth c G A cells slots Q ((a, .inr (ci, fs)) :: w) (pc + 3) ls (v :: st)) : ii p l e R s m args below meth c G A cells slots Q ((a, .inr (ci, fs)) :: w) pc ls (.ref a :: st) := fun H locs la hP hD hS hL =>
  va_get C.1.1 C.1.2.1 C.1.2.2.2.2 hin C.1.2.2.2.1 C.2.1.1 hP 0 rfl hc j hj (C.1.2.2.2.2 _ hlink) (fun x hx => by rw [hT] at hx; exact hx) hv hd (k H locs la hP hD hS hL)
theorem ii_iast (C : ii_C p s m args c G A cc nL Ts own) (q0 : Nat) {a n : Nat} {f : Nat → Int32} {i x : Int32} (ha : ws[q0]? = some (a, .inl (G.2, n, .inl f))) (hi : vp_in i n) (hd : decode cc pc = .ok (.iastore, 1)) (k : ii p l e R s m args below meth c G A cells slots Q (ws.set q0 (a, .inl (G.2, n, .inl (upd f i.toNatClampNeg x)))) (pc + 1) ls st) : ii p l e R s m args below meth c G A cells slots Q ws pc ls (.int x :: .int i :: .ref a :: st) := fun H locs la hP hD hS hL =>
  va_iast C.1.1 C.1.2.1 C.2.1.1 hP hD hS q0 0 ha rfl hi hd (fun H1 locs1 hP1 hD1 hS1 => k H1 locs1 la hP1 hD1 hS1 hL)
theorem ii_alen (C : ii_C p s m args c G A cc nL Ts own) (q0 : Nat) {a n : Nat} {f : Nat → Int32} {v : Int32} (ha : ws[q0]? = some (a, .inl (G.2, n, .inl f))) (hv : Int32.ofNat n = v) (hd : decode cc pc = .ok (.arraylength, 1)) (k : ii p l e R s m args below meth c G A cells slots Q ws (pc + 1) ls (.int v :: st)) : ii p l e R s m args below meth c G A cells slots Q ws pc ls (.ref a :: st) := fun H locs la hP hD hS hL =>
  va_alen C.1.1 C.1.2.1 C.2.1.1 hP q0 0 ha rfl hv hd (k H locs la hP hD hS hL)
theorem ii_vret (C : ii_C p s m args c G A cc nL Ts own) {Post : Nat → va_W → Prop} {h0 : Nat} (hA : A = ci_A h0 s.heap.size) (hR : vv_R meth none) (hd : decode cc pc = .ok (.return_, 1)) (hq : Post h0 ws) : ii p l e R s m args below meth c G A cells slots (ci_E below args s G Post cells slots h0) ws pc ls [] := fun H locs la hP hD hS hL => by
  subst hA
  exact W.vret C.1.1 C.1.2.1 hR.1 (fun t ht hW2 => ⟨⟨ws, rfl, hq, by rw [ht]; exact hP, hD⟩, hS.F ht⟩) hS.2.2 hd hR.2
theorem ci_blind {h0 sz ci : Nat} {fs As : List Value} : FrameBlind (va_Pc (.ref h0 :: As) (fun U => U.heap.size = sz ∧ va_P G.1 vwCl [(h0, .inr (ci, fs))] U.heap ∧ ci_K G U)) := fun a U g mk q => ⟨q.1, q.2.1, q.2.2.1, ci_same q.2.2.2⟩
theorem ii_init (C : ii_C p s m args c G A cc nL Ts own) {y : MethodName} {ws' : List Cond} {rm : Room} {ci q mc ms n index maxL : Nat} {fs : List Value} (As : List Value) {bytes : ByteArray} {Post : Nat → va_W → Prop} (hM : ci_Met l y ws' rm G ci fs As Post mc ms) {w : va_W} (cw : CallB R s args own index y bytes maxL none ws' rm mc ms n ∧ y.name = "<init>" ∧ (Cond.instanceMethod y).before args s = true) (hn : As.length = n) (hlen : ls.length = nL) {stk : List Value} (hst : stk = As.reverse ++ .ref q :: st) (hcat : (st.map fun v => v.category).sum ≤ 8) (hd : decode cc pc = .ok (.invokespecial index, 3)) (hf : cells + mc ≤ R.cells ∧ slots + ms ≤ R.slots)
    (kk : ∀ wn, Post q wn → ii p l e R s m args below meth c G A (cells + mc) (slots + ms) Q (w ++ wn) (pc + 3) ls st) : ii p l e R s m args below meth c G A cells slots Q (w ++ [(q, .inr (ci, fs))]) pc ls stk := fun H locs la hP hD hS hL => by
  have hq : (w ++ [(q, (.inr (ci, fs) : va_E))])[w.length]? = some (q, .inr (ci, fs)) := by rw [List.getElem?_append_right (Nat.le_refl _), Nat.sub_self]; rfl
  have hwk : ∀ (k : Nat) (x : Nat × va_E), w[k]? = some x → (w ++ [(q, (.inr (ci, fs) : va_E))])[k]? = some x := fun k x hx => by rw [List.getElem?_append_left (List.getElem?_eq_some_iff.mp hx).1]; exact hx
  have hPc : va_P G.1 vwCl [(q, .inr (ci, fs))] H := fun k x hx => by
    match k, hx with
    | 0, hx => cases hx; exact hP _ _ hq
  have hFc : ∀ x, ci_A q H.size x → A x := fun x hx => by
    rcases hx with h | h
    · rw [h]; exact hD.2 _ _ hq
    · exact C.2.2 x (Nat.le_trans hS.1 h)
  have hne : ∀ (k : Nat) (x : Nat × va_E), w[k]? = some x → ¬ ci_A q H.size x.1 := fun k x hx h => by
    rcases h with h | h
    · have e := hD.1 k w.length x _ (hwk k x hx) hq h
      have := (List.getElem?_eq_some_iff.mp hx).1
      omega
    · have := (hP k x (hwk k x hx)).lt
      omega
  refine va_callv (A1 := ci_A q H.size) (va_runI (As := As) (rest := st) C.1 (hM q H.size) cw ⟨ci_blind, fun U hU hW2 => ⟨rfl, by rw [hU], by rw [hU]; exact hPc, ci_moved hW2 C.2.1⟩⟩ rfl hn ?_ hst (lv_room hcat) hd hf) hS (fun x _ h => hFc x h) hFc (fun wn t H1 locs1 ht hvm hpost hB hz hk hS1 => ?_)
  · rw [← hlen]; exact hL.1.1
  · obtain ⟨hP1, hD1⟩ := hB
    rw [ht] at hP1
    refine kk wn hpost H1 locs1 la (va_P.app (va_P.kept (fun k x hx => hP k x (hwk k x hx)) (fun k x hx => hk x.1 (hP k x (hwk k x hx)).lt (hne k x hx))) hP1) (va_D.app ⟨fun i j x y hi hj hxy => hD.1 i j x y (hwk i x hi) (hwk j y hj) hxy, fun k x hx => hD.2 k x (hwk k x hx)⟩ (hD1.weaken (fun k x hx h => hFc x.1 h)) (fun i j x y hi hj hxy => hne i x hi (by rw [hxy]; exact hD1.2 j y hj))) hS1 hL
theorem ii_initN (C : ii_C p s m args c G A cc nL Ts own) {y : MethodName} {ws' : List Cond} {rm : Room} {ci q mc ms n index maxL : Nat} {fs : List Value} (As : List Value) {host : String} {bytes : ByteArray} {Post : Nat → va_W → Prop} (hM : ci_Met l y ws' rm G ci fs As Post mc ms) {w : va_W} (cw : va_CN R s args own index y host bytes maxL none ws' rm mc ms n ∧ y.name = "<init>" ∧ (Cond.instanceMethod y).before args s = true) (hn : As.length = n) (hlen : ls.length = nL) {stk : List Value} (hst : stk = As.reverse ++ .ref q :: st) (hcat : (st.map fun v => v.category).sum ≤ 8) (hd : decode cc pc = .ok (.invokespecial index, 3)) (hf : cells + mc ≤ R.cells ∧ slots + ms ≤ R.slots)
    (kk : ∀ wn, Post q wn → ii p l e R s m args below meth c G A (cells + mc) (slots + ms) Q (w ++ wn) (pc + 3) ls st) : ii p l e R s m args below meth c G A cells slots Q (w ++ [(q, .inr (ci, fs))]) pc ls stk := fun H locs la hP hD hS hL => by
  have hq : (w ++ [(q, (.inr (ci, fs) : va_E))])[w.length]? = some (q, .inr (ci, fs)) := by rw [List.getElem?_append_right (Nat.le_refl _), Nat.sub_self]; rfl
  have hwk : ∀ (k : Nat) (x : Nat × va_E), w[k]? = some x → (w ++ [(q, (.inr (ci, fs) : va_E))])[k]? = some x := fun k x hx => by rw [List.getElem?_append_left (List.getElem?_eq_some_iff.mp hx).1]; exact hx
  have hPc : va_P G.1 vwCl [(q, .inr (ci, fs))] H := fun k x hx => by
    match k, hx with
    | 0, hx => cases hx; exact hP _ _ hq
  have hFc : ∀ x, ci_A q H.size x → A x := fun x hx => by
    rcases hx with h | h
    · rw [h]; exact hD.2 _ _ hq
    · exact C.2.2 x (Nat.le_trans hS.1 h)
  have hne : ∀ (k : Nat) (x : Nat × va_E), w[k]? = some x → ¬ ci_A q H.size x.1 := fun k x hx h => by
    rcases h with h | h
    · have e := hD.1 k w.length x _ (hwk k x hx) hq h
      have := (List.getElem?_eq_some_iff.mp hx).1
      omega
    · have := (hP k x (hwk k x hx)).lt
      omega
  refine va_callv (A1 := ci_A q H.size) (va_runIN (As := As) (rest := st) C.1 (hM q H.size) cw ⟨ci_blind, fun U hU hW2 => ⟨rfl, by rw [hU], by rw [hU]; exact hPc, ci_moved hW2 C.2.1⟩⟩ rfl hn ?_ hst (lv_room hcat) hd hf) hS (fun x _ h => hFc x h) hFc (fun wn t H1 locs1 ht hvm hpost hB hz hk hS1 => ?_)
  · rw [← hlen]; exact hL.1.1
  · obtain ⟨hP1, hD1⟩ := hB
    rw [ht] at hP1
    refine kk wn hpost H1 locs1 la (va_P.app (va_P.kept (fun k x hx => hP k x (hwk k x hx)) (fun k x hx => hk x.1 (hP k x (hwk k x hx)).lt (hne k x hx))) hP1) (va_D.app ⟨fun i j x y hi hj hxy => hD.1 i j x y (hwk i x hi) (hwk j y hj) hxy, fun k x hx => hD.2 k x (hwk k x hx)⟩ (hD1.weaken (fun k x hx h => hFc x.1 h)) (fun i j x y hi hj hxy => hne i x hi (by rw [hxy]; exact hD1.2 j y hj))) hS1 hL
end IIV
/-- a constructor's contract out of its walk -/
theorem ci_of {l : Launch} {y : MethodName} {ws ws' : List Cond} {rm : Room} {G : ci_G} {ci mc ms : Nat} {fs As : List Value} {Post : Nat → va_W → Prop} {cc : ByteArray} (maxL : Nat) (hy : plainName y.cls = true) (hw : ws = Cond.code y cc maxL none :: ws') (h1 : mw_one As = true) (hn : As.length + 1 ≤ maxL)
    (body : ∀ p e s m args below meth c h0 A, ii_C p s m args c G A cc maxL ws y.cls → A = ci_A h0 s.heap.size → vv_R meth none → meth.name = y.name → ii p l e rm s m args below meth c G A 0 0 (ci_E below args s G Post mc ms h0) [(h0, .inr (ci, fs))] 0 ((.ref h0 :: As).map some ++ List.replicate (maxL - (As.length + 1)) none) []) : ci_Met l y ws rm G ci fs As Post mc ms := by
  intro h0 sz
  refine Met.ofW (cc := cc) (maxL := maxL) (ret := none) hy hw ?_
  intro p e s m args below meth c s₁ B hml hv
  obtain ⟨rfl, hsz, hP, hK⟩ := hv
  subst hsz
  have h1' : mw_one (.ref h0 :: As) = true := by
    unfold mw_one at h1 ⊢
    rw [List.all_cons, h1]
    rfl
  have hc := mw_one_cat h1'
  have hsl := mw_slots (.ref h0 :: As) hc
  have hl := lv_entry (.ref h0 :: As) (n := maxL) (by rw [hsl, List.length_cons]; exact hn)
  rw [lg_entry_eq]
  have C : ii_C p s m (Value.ref h0 :: As).toArray c G (ci_A h0 s.heap.size) cc maxL ws y.cls := ⟨⟨B.exec, B.bytes, hml, findClass_of_methodNamed B.named, atoms_spec (ws := ws) B.pre⟩, hK, fun q hq => Or.inr hq⟩
  refine body p e s m _ below meth c h0 _ C rfl ⟨B.returns, B.notSynchronized⟩ (name_of_methodNamed B.named B.method).1 s.heap [] _ hP ⟨fun i j x y hi hj _ => ?_, fun k x hx => ?_⟩ va_S.rf ?_
  · have a1 := (List.getElem?_eq_some_iff.mp hi).1
    have a2 := (List.getElem?_eq_some_iff.mp hj).1
    rw [List.length_singleton] at a1 a2
    omega
  · match k, hx with
    | 0, hx => cases hx; exact Or.inl rfl
  · refine ⟨?_, fun v hv => ?_⟩
    · rw [← List.length_cons (a := Value.ref h0), ← mw_args_ll (.ref h0 :: As) 0 (maxL - (Value.ref h0 :: As).length) hc]
      have e : ((Value.ref h0 :: As).map some ++ List.replicate (maxL - (Value.ref h0 :: As).length) (none : Option Value)).length = maxL := by simp; omega
      rw [e]
      exact hl
    · rcases List.mem_append.mp hv with h | h
      · obtain ⟨w, hw2, e⟩ := List.mem_map.mp h
        exact Option.some.inj e ▸ hc w hw2
      · exact absurd (List.eq_of_mem_replicate h) (by simp)
/-- fill, over its own two cells -/
def fl_Met (l : Launch) (rm : Room) (G : ci_G) (n : Nat) (v : Int32) : Prop :=
  ∀ h0 q1 sz : Nat, Met l yX3_fill wsX3_fill rm (va_Pc [.ref h0, .int v] (fun U => U.heap.size = sz ∧ va_P G.1 vwCl [(h0, .inr (3, [.ref q1])), (q1, .inl (G.2, (n, .inl (fun _ => 0))))] U.heap ∧ ci_K G U ∧ va_D (fun _ => True) [(h0, .inr (3, [.ref q1])), (q1, .inl (G.2, (n, .inl (fun _ => 0))))])) (va_Qv (fun f : Nat → Int32 => ∀ i, i < n → f i = v) (fun f t => va_P G.1 vwCl [(h0, .inr (3, [.ref q1])), (q1, .inl (G.2, (n, .inl f)))] t.heap) (fun q => q = h0 ∨ q = q1 ∨ sz ≤ q)) 0 0 (fun q => q = h0 ∨ q = q1 ∨ sz ≤ q)
theorem fl_same {G : ci_G} {q n : Nat} {f g : Nat → Int32} {H : Heap} (h : ∀ i, i < n → f i = g i) (k : va_at G.1 vwCl (q, .inl (G.2, (n, .inl f))) H) : va_at G.1 vwCl (q, .inl (G.2, (n, .inl g))) H := by
  show H[q]? = some (vp_cell G.2 (n, .inl g))
  rw [← mw_arr h]
  exact k
