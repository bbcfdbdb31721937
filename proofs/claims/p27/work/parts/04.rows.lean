/-! the machine over the flat memory: from every heap that holds M, with these locals and this stack, the machine comes to Q -/
def mw_ll : Nat → List (Option Value) → List (Nat × Value)
  | _, [] => []
  | i, none :: r => mw_ll (i + 1) r
  | i, some v :: r => (i, v) :: mw_ll (i + 1) r
theorem mw_ll_mem : ∀ (ls : List (Option Value)) (k j : Nat) (v : Value), (j, v) ∈ mw_ll k ls ↔ ∃ i, j = k + i ∧ ls[i]? = some (some v)
  | [], k, j, v => by simp [mw_ll]
  | none :: r, k, j, v => by
    rw [mw_ll, mw_ll_mem r (k + 1) j v]
    constructor
    · rintro ⟨i, h1, h2⟩
      exact ⟨i + 1, by omega, by rw [List.getElem?_cons_succ]; exact h2⟩
    · rintro ⟨i, h1, h2⟩
      cases i with
      | zero => simp at h2
      | succ i => exact ⟨i, by omega, by rw [List.getElem?_cons_succ] at h2; exact h2⟩
  | some w :: r, k, j, v => by
    rw [mw_ll, List.mem_cons, mw_ll_mem r (k + 1) j v]
    constructor
    · rintro (h | ⟨i, h1, h2⟩)
      · cases h
        exact ⟨0, by omega, rfl⟩
      · exact ⟨i + 1, by omega, by rw [List.getElem?_cons_succ]; exact h2⟩
    · rintro ⟨i, h1, h2⟩
      cases i with
      | zero =>
        rw [List.getElem?_cons_zero] at h2
        cases h2
        exact Or.inl (by rw [h1]; rfl)
      | succ i => exact Or.inr ⟨i, by omega, by rw [List.getElem?_cons_succ] at h2; exact h2⟩
def mw_L (la : Array Slot) (ls : List (Option Value)) : Prop := lv_has la ls.length (mw_ll 0 ls) ∧ ∀ v, some v ∈ ls → v.category = 1
theorem mw_L.at {la : Array Slot} {ls : List (Option Value)} (h : mw_L la ls) {i : Nat} {v : Value} (hi : ls[i]? = some (some v)) : la[i]? = some (.val v) := h.1.2.2 (i, v) ((mw_ll_mem ls 0 i v).mpr ⟨i, by omega, hi⟩)
theorem mw_L.set {la la2 : Array Slot} {ls : List (Option Value)} (h : mw_L la ls) {i : Nat} {v : Value} (hc : v.category = 1) (h2 : lv_has la2 ls.length ((i, v) :: (mw_ll 0 ls).filter (fun q => !(q.1 == i) && !(q.1 + 1 == i && q.2.category == 2)))) : mw_L la2 (ls.set i (some v)) := by
  refine ⟨⟨by rw [List.length_set]; exact h2.1, h2.2.1, fun q hq => ?_⟩, fun w hw => ?_⟩
  · obtain ⟨j, w⟩ := q
    obtain ⟨k, e, hk⟩ := (mw_ll_mem _ 0 j w).mp hq
    rw [Nat.zero_add] at e
    subst e
    apply h2.2.2
    by_cases hji : j = i
    · subst hji
      have hl : j < ls.length := by
        have := (List.getElem?_eq_some_iff.mp hk).1
        rwa [List.length_set] at this
      rw [List.getElem?_set_self hl] at hk
      cases hk
      exact List.mem_cons_self
    · rw [List.getElem?_set_ne (Ne.symm hji)] at hk
      refine List.mem_cons_of_mem _ (List.mem_filter.mpr ⟨(mw_ll_mem ls 0 j w).mpr ⟨j, by omega, hk⟩, ?_⟩)
      have hcat : w.category = 1 := h.2 w (List.mem_of_getElem? hk)
      simp [hji, hcat]
  · rcases List.mem_or_eq_of_mem_set hw with h3 | h3
    · exact h.2 w h3
    · cases h3
      exact hc
theorem mw_L.sub {la : Array Slot} {ls ls2 : List (Option Value)} (h : mw_L la ls) (hl : ls2.length = ls.length) (hs : ∀ (i : Nat) (v : Value), ls2[i]? = some (some v) → ls[i]? = some (some v)) : mw_L la ls2 := by
  refine ⟨⟨by rw [hl]; exact h.1.1, h.1.2.1, fun q hq => ?_⟩, fun v hv => ?_⟩
  · obtain ⟨j, w⟩ := q
    obtain ⟨k, e, hk⟩ := (mw_ll_mem _ 0 j w).mp hq
    rw [Nat.zero_add] at e
    subst e
    exact h.at (hs j w hk)
  · obtain ⟨i, hi⟩ := List.getElem?_of_mem hv
    exact h.2 v (List.mem_of_getElem? (hs i v hi))
def vv (p : Program) (l : Launch) (e : Env) (R : Room) (s : State) (m : MethodId) (args : Array Value) (below : List Frame) (meth : Method) (c : Code) (G : mw_GG) (cells slots : Nat) (Q : State → Prop) (M : mw_M) (pc : Nat) (ls : List (Option Value)) (st : List Value) : Prop :=
  ∀ (H : Heap) (locs : List Loc) (la : Array Slot), mw_W G M H → va_S (mw_A G) s.heap H locs → mw_L la ls → W p l e R s m args below meth c H locs cells slots Q (F0 m pc la st)
def vv_C (p : Program) (s : State) (m : MethodId) (args : Array Value) (c : Code) (G : mw_GG) (cc : ByteArray) (nL : Nat) (Ts : List Cond) (own : String) : Prop :=
  CallFix p m c cc nL s args Ts own ∧ mw_K G s ∧ mw_G G
section VV
variable {p : Program} {l : Launch} {e : Env} {R : Room} {s : State} {m : MethodId} {args : Array Value} {below : List Frame} {meth : Method} {c : Code} {G : mw_GG} {cells slots : Nat} {Q : State → Prop}
variable {cc : ByteArray} {nL : Nat} {Ts : List Cond} {own : String} {M : mw_M} {pc : Nat} {ls : List (Option Value)} {st : List Value}
theorem vv_iconst (C : vv_C p s m args c G cc nL Ts own) {n : Int} {v : Int32} (hd : decode cc pc = .ok (.iconst n, 1)) (hv : Int32.ofInt n = v) (k : vv p l e R s m args below meth c G cells slots Q M (pc + 1) ls (.int v :: st)) : vv p l e R s m args below meth c G cells slots Q M pc ls st := fun H locs la hW hS hL => lv_iconst C.1.1 C.1.2.1 hd hv (k H locs la hW hS hL)
theorem vv_bipush (C : vv_C p s m args c G cc nL Ts own) {n : Int} {v : Int32} (hd : decode cc pc = .ok (.bipush n, 2)) (hv : (Int8.ofInt n).toInt32 = v) (k : vv p l e R s m args below meth c G cells slots Q M (pc + 2) ls (.int v :: st)) : vv p l e R s m args below meth c G cells slots Q M pc ls st := fun H locs la hW hS hL => lv_bipush C.1.1 C.1.2.1 hd hv (k H locs la hW hS hL)
theorem vv_sipush (C : vv_C p s m args c G cc nL Ts own) {n : Int} {v : Int32} (hd : decode cc pc = .ok (.sipush n, 3)) (hv : (Int16.ofInt n).toInt32 = v) (k : vv p l e R s m args below meth c G cells slots Q M (pc + 3) ls (.int v :: st)) : vv p l e R s m args below meth c G cells slots Q M pc ls st := fun H locs la hW hS hL => lv_sipush C.1.1 C.1.2.1 hd hv (k H locs la hW hS hL)
theorem vv_iload_n (C : vv_C p s m args c G cc nL Ts own) {f : Fin 4} (i : Nat) {x : Int32} (hd : decode cc pc = .ok (.iload_n f, 1)) (hi : (f : Nat) = i) (hl : ls[i]? = some (some (.int x))) (k : vv p l e R s m args below meth c G cells slots Q M (pc + 1) ls (.int x :: st)) : vv p l e R s m args below meth c G cells slots Q M pc ls st := fun H locs la hW hS hL => lv_iload_n C.1.1 C.1.2.1 hd hi (hL.at hl) (k H locs la hW hS hL)
theorem vv_iload (C : vv_C p s m args c G cc nL Ts own) (i : Nat) {x : Int32} (hd : decode cc pc = .ok (.iload i, 2)) (hl : ls[i]? = some (some (.int x))) (k : vv p l e R s m args below meth c G cells slots Q M (pc + 2) ls (.int x :: st)) : vv p l e R s m args below meth c G cells slots Q M pc ls st := fun H locs la hW hS hL => lv_iload C.1.1 C.1.2.1 hd (hL.at hl) (k H locs la hW hS hL)
theorem vv_istore_n (C : vv_C p s m args c G cc nL Ts own) {f : Fin 4} (i : Nat) {x : Int32} {ls2 : List (Option Value)} (hd : decode cc pc = .ok (.istore_n f, 1)) (hi : (f : Nat) = i) (hn : i < ls.length) (hs : ls.set i (some (.int x)) = ls2) (k : vv p l e R s m args below meth c G cells slots Q M (pc + 1) ls2 st) : vv p l e R s m args below meth c G cells slots Q M pc ls (.int x :: st) := fun H locs la hW hS hL => lv_istore_n C.1.1 C.1.2.1 hd hi hL.1 hn rfl (fun la2 h2 => k H locs la2 hW hS (hs ▸ hL.set rfl h2))
theorem vv_istore (C : vv_C p s m args c G cc nL Ts own) (i : Nat) {x : Int32} {ls2 : List (Option Value)} (hd : decode cc pc = .ok (.istore i, 2)) (hn : i < ls.length) (hs : ls.set i (some (.int x)) = ls2) (k : vv p l e R s m args below meth c G cells slots Q M (pc + 2) ls2 st) : vv p l e R s m args below meth c G cells slots Q M pc ls (.int x :: st) := fun H locs la hW hS hL => lv_istore C.1.1 C.1.2.1 hd hL.1 hn rfl (fun la2 h2 => k H locs la2 hW hS (hs ▸ hL.set rfl h2))
theorem vv_aload_n (C : vv_C p s m args c G cc nL Ts own) {f : Fin 4} (i : Nat) {x : Nat} (hd : decode cc pc = .ok (.aload_n f, 1)) (hi : (f : Nat) = i) (hl : ls[i]? = some (some (.ref x))) (k : vv p l e R s m args below meth c G cells slots Q M (pc + 1) ls (.ref x :: st)) : vv p l e R s m args below meth c G cells slots Q M pc ls st := fun H locs la hW hS hL => lv_aload_n C.1.1 C.1.2.1 hd hi (hL.at hl) (k H locs la hW hS hL)
theorem vv_aload (C : vv_C p s m args c G cc nL Ts own) (i : Nat) {x : Nat} (hd : decode cc pc = .ok (.aload i, 2)) (hl : ls[i]? = some (some (.ref x))) (k : vv p l e R s m args below meth c G cells slots Q M (pc + 2) ls (.ref x :: st)) : vv p l e R s m args below meth c G cells slots Q M pc ls st := fun H locs la hW hS hL => lv_aload C.1.1 C.1.2.1 hd (hL.at hl) (k H locs la hW hS hL)
theorem vv_astore_n (C : vv_C p s m args c G cc nL Ts own) {f : Fin 4} (i : Nat) {x : Nat} {ls2 : List (Option Value)} (hd : decode cc pc = .ok (.astore_n f, 1)) (hi : (f : Nat) = i) (hn : i < ls.length) (hs : ls.set i (some (.ref x)) = ls2) (k : vv p l e R s m args below meth c G cells slots Q M (pc + 1) ls2 st) : vv p l e R s m args below meth c G cells slots Q M pc ls (.ref x :: st) := fun H locs la hW hS hL => lv_astore_n C.1.1 C.1.2.1 hd hi hL.1 hn rfl (fun la2 h2 => k H locs la2 hW hS (hs ▸ hL.set rfl h2))
theorem vv_astore (C : vv_C p s m args c G cc nL Ts own) (i : Nat) {x : Nat} {ls2 : List (Option Value)} (hd : decode cc pc = .ok (.astore i, 2)) (hn : i < ls.length) (hs : ls.set i (some (.ref x)) = ls2) (k : vv p l e R s m args below meth c G cells slots Q M (pc + 2) ls2 st) : vv p l e R s m args below meth c G cells slots Q M pc ls (.ref x :: st) := fun H locs la hW hS hL => lv_astore C.1.1 C.1.2.1 hd hL.1 hn rfl (fun la2 h2 => k H locs la2 hW hS (hs ▸ hL.set rfl h2))
theorem vv_iinc (C : vv_C p s m args c G cc nL Ts own) (i : Nat) {n : Int} {x v : Int32} {ls2 : List (Option Value)} (hd : decode cc pc = .ok (.iinc i n, 3)) (hl : ls[i]? = some (some (.int x))) (hv : x + Int32.ofInt n = v) (hs : ls.set i (some (.int v)) = ls2) (k : vv p l e R s m args below meth c G cells slots Q M (pc + 3) ls2 st) : vv p l e R s m args below meth c G cells slots Q M pc ls st := fun H locs la hW hS hL => by
  obtain ⟨j, hj⟩ := List.getElem?_of_mem ((mw_ll_mem ls 0 i (.int x)).mpr ⟨i, by omega, hl⟩)
  exact lv_iinc C.1.1 C.1.2.1 hd hL.1 hj hv (List.getElem?_eq_some_iff.mp hl).1 rfl (fun la2 h2 => k H locs la2 hW hS (hs ▸ hL.set rfl h2))
theorem vv_iadd (C : vv_C p s m args c G cc nL Ts own) {x y : Int32} (hd : decode cc pc = .ok (.iadd, 1)) (k : vv p l e R s m args below meth c G cells slots Q M (pc + 1) ls (.int (x + y) :: st)) : vv p l e R s m args below meth c G cells slots Q M pc ls (.int y :: .int x :: st) := fun H locs la hW hS hL => lv_iadd C.1.1 C.1.2.1 hd (k H locs la hW hS hL)
theorem vv_isub (C : vv_C p s m args c G cc nL Ts own) {x y : Int32} (hd : decode cc pc = .ok (.isub, 1)) (k : vv p l e R s m args below meth c G cells slots Q M (pc + 1) ls (.int (x - y) :: st)) : vv p l e R s m args below meth c G cells slots Q M pc ls (.int y :: .int x :: st) := fun H locs la hW hS hL => lv_isub C.1.1 C.1.2.1 hd (k H locs la hW hS hL)
theorem vv_imul (C : vv_C p s m args c G cc nL Ts own) {x y : Int32} (hd : decode cc pc = .ok (.imul, 1)) (k : vv p l e R s m args below meth c G cells slots Q M (pc + 1) ls (.int (x * y) :: st)) : vv p l e R s m args below meth c G cells slots Q M pc ls (.int y :: .int x :: st) := fun H locs la hW hS hL => lv_imul C.1.1 C.1.2.1 hd (k H locs la hW hS hL)
theorem vv_iand (C : vv_C p s m args c G cc nL Ts own) {x y : Int32} (hd : decode cc pc = .ok (.iand, 1)) (k : vv p l e R s m args below meth c G cells slots Q M (pc + 1) ls (.int (x &&& y) :: st)) : vv p l e R s m args below meth c G cells slots Q M pc ls (.int y :: .int x :: st) := fun H locs la hW hS hL => lv_iand C.1.1 C.1.2.1 hd (k H locs la hW hS hL)
theorem vv_ior (C : vv_C p s m args c G cc nL Ts own) {x y : Int32} (hd : decode cc pc = .ok (.ior, 1)) (k : vv p l e R s m args below meth c G cells slots Q M (pc + 1) ls (.int (x ||| y) :: st)) : vv p l e R s m args below meth c G cells slots Q M pc ls (.int y :: .int x :: st) := fun H locs la hW hS hL => lv_ior C.1.1 C.1.2.1 hd (k H locs la hW hS hL)
theorem vv_ishl (C : vv_C p s m args c G cc nL Ts own) {x y : Int32} (hd : decode cc pc = .ok (.ishl, 1)) (k : vv p l e R s m args below meth c G cells slots Q M (pc + 1) ls (.int (x <<< (y &&& 31)) :: st)) : vv p l e R s m args below meth c G cells slots Q M pc ls (.int y :: .int x :: st) := fun H locs la hW hS hL => lv_ishl C.1.1 C.1.2.1 hd (k H locs la hW hS hL)
theorem vv_ishr (C : vv_C p s m args c G cc nL Ts own) {x y : Int32} (hd : decode cc pc = .ok (.ishr, 1)) (k : vv p l e R s m args below meth c G cells slots Q M (pc + 1) ls (.int (x >>> (y &&& 31)) :: st)) : vv p l e R s m args below meth c G cells slots Q M pc ls (.int y :: .int x :: st) := fun H locs la hW hS hL => lv_ishr C.1.1 C.1.2.1 hd (k H locs la hW hS hL)
theorem vv_idiv (C : vv_C p s m args c G cc nL Ts own) {x y : Int32} (hd : decode cc pc = .ok (.idiv, 1)) (hne : ¬ y = 0) (k : vv p l e R s m args below meth c G cells slots Q M (pc + 1) ls (.int (x / y) :: st)) : vv p l e R s m args below meth c G cells slots Q M pc ls (.int y :: .int x :: st) := fun H locs la hW hS hL => lv_idiv C.1.1 C.1.2.1 hd hne (k H locs la hW hS hL)
theorem vv_irem (C : vv_C p s m args c G cc nL Ts own) {x y : Int32} (hd : decode cc pc = .ok (.irem, 1)) (hne : ¬ y = 0) (k : vv p l e R s m args below meth c G cells slots Q M (pc + 1) ls (.int (x - x / y * y) :: st)) : vv p l e R s m args below meth c G cells slots Q M pc ls (.int y :: .int x :: st) := fun H locs la hW hS hL => lv_irem C.1.1 C.1.2.1 hd hne (k H locs la hW hS hL)
theorem vv_ineg (C : vv_C p s m args c G cc nL Ts own) {x : Int32} (hd : decode cc pc = .ok (.ineg, 1)) (k : vv p l e R s m args below meth c G cells slots Q M (pc + 1) ls (.int (-x) :: st)) : vv p l e R s m args below meth c G cells slots Q M pc ls (.int x :: st) := fun H locs la hW hS hL => lv_ineg C.1.1 C.1.2.1 hd (k H locs la hW hS hL)
theorem vv_dup (C : vv_C p s m args c G cc nL Ts own) {v : Value} (hd : decode cc pc = .ok (.dup, 1)) (hc : v.category = 1) (k : vv p l e R s m args below meth c G cells slots Q M (pc + 1) ls (v :: v :: st)) : vv p l e R s m args below meth c G cells slots Q M pc ls (v :: st) := fun H locs la hW hS hL => lv_dup C.1.1 C.1.2.1 hd hc (k H locs la hW hS hL)
theorem vv_pop (C : vv_C p s m args c G cc nL Ts own) {v : Value} (hd : decode cc pc = .ok (.pop, 1)) (hc : v.category = 1) (k : vv p l e R s m args below meth c G cells slots Q M (pc + 1) ls st) : vv p l e R s m args below meth c G cells slots Q M pc ls (v :: st) := fun H locs la hW hS hL => lv_pop C.1.1 C.1.2.1 hd hc (k H locs la hW hS hL)
theorem vv_dup2 (C : vv_C p s m args c G cc nL Ts own) {v w : Value} (hd : decode cc pc = .ok (.dup2, 1)) (hc : v.category = 1) (hc2 : w.category = 1) (k : vv p l e R s m args below meth c G cells slots Q M (pc + 1) ls (v :: w :: v :: w :: st)) : vv p l e R s m args below meth c G cells slots Q M pc ls (v :: w :: st) := fun H locs la hW hS hL => lv_dup2_11 C.1.1 C.1.2.1 hd hc hc2 (k H locs la hW hS hL)
theorem vv_goto (C : vv_C p s m args c G cc nL Ts own) {off : Int} (tgt : Nat) (hd : decode cc pc = .ok (.goto off, 3)) (ht : (pc : Int) + off = (tgt : Int)) (k : vv p l e R s m args below meth c G cells slots Q M tgt ls st) : vv p l e R s m args below meth c G cells slots Q M pc ls st := fun H locs la hW hS hL => lv_goto C.1.1 C.1.2.1 hd ht (k H locs la hW hS hL)
theorem vv_if_eq (C : vv_C p s m args c G cc nL Ts own) {x : Int32} {off : Int} (tgt : Nat) (hd : decode cc pc = .ok (.ifCond .eq off, 3)) (ht : (pc : Int) + off = (tgt : Int)) (kt : x = 0 → vv p l e R s m args below meth c G cells slots Q M tgt ls st) (kf : ¬ x = 0 → vv p l e R s m args below meth c G cells slots Q M (pc + 3) ls st) : vv p l e R s m args below meth c G cells slots Q M pc ls (.int x :: st) := fun H locs la hW hS hL => lv_if_eq C.1.1 C.1.2.1 hd ht (fun z => kt z H locs la hW hS hL) (fun z => kf z H locs la hW hS hL)
theorem vv_icmp_eq (C : vv_C p s m args c G cc nL Ts own) {x y : Int32} {off : Int} (tgt : Nat) (hd : decode cc pc = .ok (.if_icmp .eq off, 3)) (ht : (pc : Int) + off = (tgt : Int)) (kt : x = y → vv p l e R s m args below meth c G cells slots Q M tgt ls st) (kf : ¬ x = y → vv p l e R s m args below meth c G cells slots Q M (pc + 3) ls st) : vv p l e R s m args below meth c G cells slots Q M pc ls (.int y :: .int x :: st) := fun H locs la hW hS hL => lv_icmp_eq C.1.1 C.1.2.1 hd ht (fun z => kt z H locs la hW hS hL) (fun z => kf z H locs la hW hS hL)
theorem vv_if_ne (C : vv_C p s m args c G cc nL Ts own) {x : Int32} {off : Int} (tgt : Nat) (hd : decode cc pc = .ok (.ifCond .ne off, 3)) (ht : (pc : Int) + off = (tgt : Int)) (kt : ¬ x = 0 → vv p l e R s m args below meth c G cells slots Q M tgt ls st) (kf : x = 0 → vv p l e R s m args below meth c G cells slots Q M (pc + 3) ls st) : vv p l e R s m args below meth c G cells slots Q M pc ls (.int x :: st) := fun H locs la hW hS hL => lv_if_ne C.1.1 C.1.2.1 hd ht (fun z => kt z H locs la hW hS hL) (fun z => kf z H locs la hW hS hL)
theorem vv_icmp_ne (C : vv_C p s m args c G cc nL Ts own) {x y : Int32} {off : Int} (tgt : Nat) (hd : decode cc pc = .ok (.if_icmp .ne off, 3)) (ht : (pc : Int) + off = (tgt : Int)) (kt : ¬ x = y → vv p l e R s m args below meth c G cells slots Q M tgt ls st) (kf : x = y → vv p l e R s m args below meth c G cells slots Q M (pc + 3) ls st) : vv p l e R s m args below meth c G cells slots Q M pc ls (.int y :: .int x :: st) := fun H locs la hW hS hL => lv_icmp_ne C.1.1 C.1.2.1 hd ht (fun z => kt z H locs la hW hS hL) (fun z => kf z H locs la hW hS hL)
theorem vv_if_lt (C : vv_C p s m args c G cc nL Ts own) {x : Int32} {off : Int} (tgt : Nat) (hd : decode cc pc = .ok (.ifCond .lt off, 3)) (ht : (pc : Int) + off = (tgt : Int)) (kt : x < 0 → vv p l e R s m args below meth c G cells slots Q M tgt ls st) (kf : ¬ x < 0 → vv p l e R s m args below meth c G cells slots Q M (pc + 3) ls st) : vv p l e R s m args below meth c G cells slots Q M pc ls (.int x :: st) := fun H locs la hW hS hL => lv_if_lt C.1.1 C.1.2.1 hd ht (fun z => kt z H locs la hW hS hL) (fun z => kf z H locs la hW hS hL)
theorem vv_icmp_lt (C : vv_C p s m args c G cc nL Ts own) {x y : Int32} {off : Int} (tgt : Nat) (hd : decode cc pc = .ok (.if_icmp .lt off, 3)) (ht : (pc : Int) + off = (tgt : Int)) (kt : x < y → vv p l e R s m args below meth c G cells slots Q M tgt ls st) (kf : ¬ x < y → vv p l e R s m args below meth c G cells slots Q M (pc + 3) ls st) : vv p l e R s m args below meth c G cells slots Q M pc ls (.int y :: .int x :: st) := fun H locs la hW hS hL => lv_icmp_lt C.1.1 C.1.2.1 hd ht (fun z => kt z H locs la hW hS hL) (fun z => kf z H locs la hW hS hL)
theorem vv_if_ge (C : vv_C p s m args c G cc nL Ts own) {x : Int32} {off : Int} (tgt : Nat) (hd : decode cc pc = .ok (.ifCond .ge off, 3)) (ht : (pc : Int) + off = (tgt : Int)) (kt : 0 ≤ x → vv p l e R s m args below meth c G cells slots Q M tgt ls st) (kf : ¬ 0 ≤ x → vv p l e R s m args below meth c G cells slots Q M (pc + 3) ls st) : vv p l e R s m args below meth c G cells slots Q M pc ls (.int x :: st) := fun H locs la hW hS hL => lv_if_ge C.1.1 C.1.2.1 hd ht (fun z => kt z H locs la hW hS hL) (fun z => kf z H locs la hW hS hL)
theorem vv_icmp_ge (C : vv_C p s m args c G cc nL Ts own) {x y : Int32} {off : Int} (tgt : Nat) (hd : decode cc pc = .ok (.if_icmp .ge off, 3)) (ht : (pc : Int) + off = (tgt : Int)) (kt : y ≤ x → vv p l e R s m args below meth c G cells slots Q M tgt ls st) (kf : ¬ y ≤ x → vv p l e R s m args below meth c G cells slots Q M (pc + 3) ls st) : vv p l e R s m args below meth c G cells slots Q M pc ls (.int y :: .int x :: st) := fun H locs la hW hS hL => lv_icmp_ge C.1.1 C.1.2.1 hd ht (fun z => kt z H locs la hW hS hL) (fun z => kf z H locs la hW hS hL)
theorem vv_if_gt (C : vv_C p s m args c G cc nL Ts own) {x : Int32} {off : Int} (tgt : Nat) (hd : decode cc pc = .ok (.ifCond .gt off, 3)) (ht : (pc : Int) + off = (tgt : Int)) (kt : 0 < x → vv p l e R s m args below meth c G cells slots Q M tgt ls st) (kf : ¬ 0 < x → vv p l e R s m args below meth c G cells slots Q M (pc + 3) ls st) : vv p l e R s m args below meth c G cells slots Q M pc ls (.int x :: st) := fun H locs la hW hS hL => lv_if_gt C.1.1 C.1.2.1 hd ht (fun z => kt z H locs la hW hS hL) (fun z => kf z H locs la hW hS hL)
theorem vv_icmp_gt (C : vv_C p s m args c G cc nL Ts own) {x y : Int32} {off : Int} (tgt : Nat) (hd : decode cc pc = .ok (.if_icmp .gt off, 3)) (ht : (pc : Int) + off = (tgt : Int)) (kt : y < x → vv p l e R s m args below meth c G cells slots Q M tgt ls st) (kf : ¬ y < x → vv p l e R s m args below meth c G cells slots Q M (pc + 3) ls st) : vv p l e R s m args below meth c G cells slots Q M pc ls (.int y :: .int x :: st) := fun H locs la hW hS hL => lv_icmp_gt C.1.1 C.1.2.1 hd ht (fun z => kt z H locs la hW hS hL) (fun z => kf z H locs la hW hS hL)
theorem vv_if_le (C : vv_C p s m args c G cc nL Ts own) {x : Int32} {off : Int} (tgt : Nat) (hd : decode cc pc = .ok (.ifCond .le off, 3)) (ht : (pc : Int) + off = (tgt : Int)) (kt : x ≤ 0 → vv p l e R s m args below meth c G cells slots Q M tgt ls st) (kf : ¬ x ≤ 0 → vv p l e R s m args below meth c G cells slots Q M (pc + 3) ls st) : vv p l e R s m args below meth c G cells slots Q M pc ls (.int x :: st) := fun H locs la hW hS hL => lv_if_le C.1.1 C.1.2.1 hd ht (fun z => kt z H locs la hW hS hL) (fun z => kf z H locs la hW hS hL)
theorem vv_icmp_le (C : vv_C p s m args c G cc nL Ts own) {x y : Int32} {off : Int} (tgt : Nat) (hd : decode cc pc = .ok (.if_icmp .le off, 3)) (ht : (pc : Int) + off = (tgt : Int)) (kt : x ≤ y → vv p l e R s m args below meth c G cells slots Q M tgt ls st) (kf : ¬ x ≤ y → vv p l e R s m args below meth c G cells slots Q M (pc + 3) ls st) : vv p l e R s m args below meth c G cells slots Q M pc ls (.int y :: .int x :: st) := fun H locs la hW hS hL => lv_icmp_le C.1.1 C.1.2.1 hd ht (fun z => kt z H locs la hW hS hL) (fun z => kf z H locs la hW hS hL)
/-- a truth value -/
def bI (q : Prop) [Decidable q] : Int32 := if q then 1 else 0
theorem bI_t {q : Prop} [Decidable q] (h : q) : bI q = 1 := if_pos h
theorem bI_f {q : Prop} [Decidable q] (h : ¬ q) : bI q = 0 := if_neg h
theorem bI_0 {q : Prop} [Decidable q] : bI q = 0 ↔ ¬ q := by
  by_cases h : q
  · rw [bI_t h]; exact ⟨fun z => absurd z (by decide), fun z => absurd h z⟩
  · rw [bI_f h]; exact ⟨fun _ => h, fun _ => rfl⟩
theorem bI_c {q r : Prop} [Decidable q] [Decidable r] (h : q ↔ r) : bI q = bI r := by
  by_cases z : q
  · rw [bI_t z, bI_t (h.mp z)]
  · rw [bI_f z, bI_f (fun w => z (h.mpr w))]
theorem bI_n {q : Prop} [Decidable q] : narrow .boolean (.int (bI q)) = .int (bI q) := by
  by_cases h : q
  · rw [bI_t h]; decide
  · rw [bI_f h]; decide
theorem vv_bif_eq (C : vv_C p s m args c G cc nL Ts own) {q : Prop} [Decidable q] {off : Int} (tgt : Nat) (hd : decode cc pc = .ok (.ifCond .eq off, 3)) (ht : (pc : Int) + off = (tgt : Int)) (kt : ¬ q → vv p l e R s m args below meth c G cells slots Q M tgt ls st) (kf : q → vv p l e R s m args below meth c G cells slots Q M (pc + 3) ls st) : vv p l e R s m args below meth c G cells slots Q M pc ls (.int (bI q) :: st) := fun H locs la hW hS hL => lv_if_eq C.1.1 C.1.2.1 hd ht (fun z => kt (bI_0.mp z) H locs la hW hS hL) (fun z => kf (Classical.not_not.mp (fun w => z (bI_0.mpr w))) H locs la hW hS hL)
theorem vv_bif_ne (C : vv_C p s m args c G cc nL Ts own) {q : Prop} [Decidable q] {off : Int} (tgt : Nat) (hd : decode cc pc = .ok (.ifCond .ne off, 3)) (ht : (pc : Int) + off = (tgt : Int)) (kt : q → vv p l e R s m args below meth c G cells slots Q M tgt ls st) (kf : ¬ q → vv p l e R s m args below meth c G cells slots Q M (pc + 3) ls st) : vv p l e R s m args below meth c G cells slots Q M pc ls (.int (bI q) :: st) := fun H locs la hW hS hL => lv_if_ne C.1.1 C.1.2.1 hd ht (fun z => kt (Classical.not_not.mp (fun w => z (bI_0.mpr w))) H locs la hW hS hL) (fun z => kf (bI_0.mp z) H locs la hW hS hL)
theorem vv_tsOut (C : vv_C p s m args c G cc nL Ts own) {dflt lo hi : Int} {offs : Array Int} {len : Nat} {x : Int32} (tgt : Nat) (hd : decode cc pc = .ok (.tableswitch dflt lo hi offs, len)) (h : x.toInt < lo ∨ hi < x.toInt) (ht : (pc : Int) + dflt = (tgt : Int)) (k : vv p l e R s m args below meth c G cells slots Q M tgt ls st) : vv p l e R s m args below meth c G cells slots Q M pc ls (.int x :: st) := fun H locs la hW hS hL => lv_tableOut C.1.1 C.1.2.1 hd h ht (k H locs la hW hS hL)
theorem vv_tsIn (C : vv_C p s m args c G cc nL Ts own) {dflt lo hi : Int} {offs : Array Int} {len : Nat} {x : Int32} (v : Int32) {off : Int} (tgt : Nat) (hd : decode cc pc = .ok (.tableswitch dflt lo hi offs, len)) (hv : x = v) (h1 : ¬ v.toInt < lo) (h2 : ¬ hi < v.toInt) (ho : offs[(v.toInt - lo).toNat]? = some off) (ht : (pc : Int) + off = (tgt : Int)) (k : vv p l e R s m args below meth c G cells slots Q M tgt ls st) : vv p l e R s m args below meth c G cells slots Q M pc ls (.int x :: st) := fun H locs la hW hS hL => lv_tableIn C.1.1 C.1.2.1 hd (by rw [hv]; exact h1) (by rw [hv]; exact h2) (by rw [hv]; exact ho) ht (k H locs la hW hS hL)
theorem vv_lookup (C : vv_C p s m args c G cc nL Ts own) {dflt : Int} {ps : Array (Int × Int)} {len : Nat} {x : Int32} {off : Int} (tgt : Nat) (hd : decode cc pc = .ok (.lookupswitch dflt ps, len)) (hp : (ps.toList.zip (ps.toList.drop 1)).all (fun (a, next) => a.1 < next.1) = true) (ho : Op.lookupswitch.offset ps.toList dflt x.toInt = off) (ht : (pc : Int) + off = (tgt : Int)) (k : vv p l e R s m args below meth c G cells slots Q M tgt ls st) : vv p l e R s m args below meth c G cells slots Q M pc ls (.int x :: st) := fun H locs la hW hS hL => lv_lookup C.1.1 C.1.2.1 hd hp ho ht (k H locs la hW hS hL)
theorem vv_memEq {M2 : mw_M} (h : ∀ q, M2 q = M q) (k : vv p l e R s m args below meth c G cells slots Q M2 pc ls st) : vv p l e R s m args below meth c G cells slots Q M pc ls st := fun H locs la hW hS hL => k H locs la (hW.eq (fun q => (h q).symm)) hS hL
theorem vv_memTo {M2 : mw_M} (h : ∀ (c : Nat) (sh : mw_Sh), mw_S[c]? = some sh → ∀ q ∈ mw_pos sh, M q = M2 q) (k : vv p l e R s m args below meth c G cells slots Q M2 pc ls st) : vv p l e R s m args below meth c G cells slots Q M pc ls st := fun H locs la hW hS hL => k H locs la (hW.congr h) hS hL
theorem vv_lsTo {ls2 : List (Option Value)} (hl : ls2.length = ls.length) (hs : ∀ (i : Nat) (v : Value), ls2[i]? = some (some v) → ls[i]? = some (some v)) (k : vv p l e R s m args below meth c G cells slots Q M pc ls2 st) : vv p l e R s m args below meth c G cells slots Q M pc ls st := fun H locs la hW hS hL => k H locs la hW hS (hL.sub hl hs)
theorem mw_map_at {ad : Nat → Nat} {M : mw_M} {fs : List (Nat ⊕ Nat)} {j : Nat} {f : Nat ⊕ Nat} (h : fs[j]? = some f) : (fs.map (mw_fv ad M))[j]? = some (mw_fv ad M f) := by rw [List.getElem?_map, h]; rfl
theorem vv_getf (C : vv_C p s m args c G cc nL Ts own) {Cn : String} {T : u_T} {N ci index a : Nat} {fs : List (Nat ⊕ Nat)} {f : Nat ⊕ Nat} (hs : mw_S[a]? = some (.inr (ci, fs))) (j : Nat) (hf : fs[j]? = some f) (hc : vwCl[ci]? = some (Cn, T, N)) (hj : j < N) (hin : ∀ w ∈ u_ws Cn T N, w ∈ Ts) (hlink : (Cond.fieldLink own index Cn (T j).2.1 (T j).2.2.1) ∈ Ts) (hT : (T j).1 = Cn) (hd : decode cc pc = .ok (.getfield index, 3)) (k : vv p l e R s m args below meth c G cells slots Q M (pc + 3) ls (mw_fv G.1 M f :: st)) : vv p l e R s m args below meth c G cells slots Q M pc ls (.ref (G.1 a) :: st) := fun H locs la hW hS hL =>
  va_get C.1.1 C.1.2.1 C.1.2.2.2.2 hin C.1.2.2.2.1 C.2.1 hW a (mw_l_at hs) hc j hj (C.1.2.2.2.2 _ hlink) (fun x hx => by rw [hT] at hx; exact hx) (mw_map_at hf) hd (k H locs la hW hS hL)
theorem vv_putf (C : vv_C p s m args c G cc nL Ts own) {Cn : String} {T : u_T} {N ci index a q : Nat} {x : Int32} {fs : List (Nat ⊕ Nat)} {ty0 : Nat → FieldType} (hs : mw_S[a]? = some (.inr (ci, fs))) (j : Nat) (hf : fs[j]? = some (.inr q)) (hc : vwCl[ci]? = some (Cn, T, N)) (hj : j < N) (hin : ∀ w ∈ u_ws Cn T N, w ∈ Ts) (hlink : (Cond.fieldLink own index Cn (T j).2.1 (T j).2.2.1) ∈ Ts) (hT : (T j).1 = Cn)
    (hty : ∀ k, k < N → parseFieldDescriptor (T k).2.2.1 = some (ty0 k)) (hnm : ∀ a, a < N → ∀ b, b < N → a ≠ b → (T a).2.1 ≠ (T b).2.1) (hfin : (T j).2.2.2 = false) (hI : parseFieldDescriptor (T j).2.2.1 = some .int) (hd : decode cc pc = .ok (.putfield index, 3)) (k : vv p l e R s m args below meth c G cells slots Q (upd M q x) (pc + 3) ls st) : vv p l e R s m args below meth c G cells slots Q M pc ls (.int x :: .ref (G.1 a) :: st) := fun H locs la hW hS hL =>
  va_put C.1.1 C.1.2.1 C.1.2.2.2.2 hin ty0 hty hnm C.1.2.2.2.1 C.2.1 hW (mw_D C.2.2) hS a (mw_l_at hs) hc j hj (C.1.2.2.2.2 _ hlink) (fun x hx => by rw [hT] at hx; exact hx) hfin hI rfl rfl (by rw [List.length_map]; exact (List.getElem?_eq_some_iff.mp hf).1) hd (fun H1 locs1 hP hD hS1 => k H1 locs1 la (mw_set hs (List.mem_filterMap.mpr ⟨.inr q, List.mem_of_getElem? hf, rfl⟩) (mw_e_obj hs hf) hP) hS1 hL)
theorem vv_iald (C : vv_C p s m args c G cc nL Ts own) {a n b t : Nat} (hs : mw_S[a]? = some (.inl (n, b, t))) {i : Int32} (hi : vp_in i n) (hd : decode cc pc = .ok (.iaload, 1)) (k : vv p l e R s m args below meth c G cells slots Q M (pc + 1) ls (.int (M (b + t * i.toNatClampNeg)) :: st)) : vv p l e R s m args below meth c G cells slots Q M pc ls (.int i :: .ref (G.1 a) :: st) := fun H locs la hW hS hL =>
  va_iald C.1.1 C.1.2.1 C.2.1 hW a 0 (mw_l_at hs) rfl hi hd (k H locs la hW hS hL)
theorem vv_iast (C : vv_C p s m args c G cc nL Ts own) {a n b t : Nat} (hs : mw_S[a]? = some (.inl (n, b, t))) {i x : Int32} (hi : vp_in i n) (hd : decode cc pc = .ok (.iastore, 1)) (k : vv p l e R s m args below meth c G cells slots Q (upd M (b + t * i.toNatClampNeg) x) (pc + 1) ls st) : vv p l e R s m args below meth c G cells slots Q M pc ls (.int x :: .int i :: .ref (G.1 a) :: st) := fun H locs la hW hS hL =>
  va_iast C.1.1 C.1.2.1 C.2.1 hW (mw_D C.2.2) hS a 0 (mw_l_at hs) rfl hi hd (fun H1 locs1 hP hD hS1 => k H1 locs1 la (mw_set hs (List.mem_map.mpr ⟨_, List.mem_range.mpr (Nat.not_le.mp (fun z => hi (Or.inr z))), rfl⟩) (mw_e_arr hs) hP) hS1 hL)
theorem vv_alen (C : vv_C p s m args c G cc nL Ts own) {a n b t : Nat} (hs : mw_S[a]? = some (.inl (n, b, t))) {v : Int32} (hv : Int32.ofNat n = v) (hd : decode cc pc = .ok (.arraylength, 1)) (k : vv p l e R s m args below meth c G cells slots Q M (pc + 1) ls (.int v :: st)) : vv p l e R s m args below meth c G cells slots Q M pc ls (.ref (G.1 a) :: st) := fun H locs la hW hS hL =>
  va_alen C.1.1 C.1.2.1 C.2.1 hW a 0 (mw_l_at hs) rfl hv hd (k H locs la hW hS hL)
/-- what a method over the flat memory does: Qr says of its answer and of the memory behind it -/
def mw_Q (G : mw_GG) (Qr : Option Value → mw_M → Prop) (st : State) (oc : Outcome) (t : State) : Prop := (∃ r M2, oc = .returned r ∧ Qr r M2 ∧ mw_W G M2 t.heap) ∧ va_F (mw_A G) st t
def mw_Pc (G : mw_GG) (vs : List Value) (M : mw_M) : Array Value → State → Prop := va_Pc vs (fun U => mw_W G M U.heap ∧ mw_K G U)
def mw_Met (l : Launch) (y : MethodName) (ws : List Cond) (rm : Room) (G : mw_GG) (vs : List Value) (M : mw_M) (Qr : Option Value → mw_M → Prop) : Prop := mw_G G → Met l y ws rm (mw_Pc G vs M) (fun _ st oc t => mw_Q G Qr st oc t) 0 0 (mw_A G)
theorem mw_blind {vs : List Value} : FrameBlind (mw_Pc G vs M) := fun a U g mk hq => ⟨hq.1, hq.2.1, va_K.moved (u := U) (U := U.calling g mk a) (Vm.Alike.refl U.vm) hq.2.2⟩
theorem mw_go {rest : List Value} {la : Array Slot} {st0 : List Value} {H : Heap} {locs : List Loc} {Qr : Option Value → mw_M → Prop} (hr : va_Run p l e R s m args below meth c H locs cells slots 0 0 (F0 m pc la st0) rest (mw_Q G Qr) (mw_A G)) (hS : va_S (mw_A G) s.heap H locs) (hL : mw_L la ls)
    (kk : ∀ r M2, Qr r M2 → vv p l e R s m args below meth c G cells slots Q M2 (pc + 3) ls (r.toList ++ rest)) : W p l e R s m args below meth c H locs cells slots Q (F0 m pc la st0) := by
  intro T hT X
  obtain ⟨v, st₀, t, T', L, h0, X', hL2, e1, e2, ⟨⟨r, M2, hv, hp, hb⟩, hz, hk⟩, stp⟩ := hr T hT X
  cases hv
  rw [h0] at hz hk
  obtain ⟨t2, a1, b1⟩ := kk v M2 hp T'.heap (locs ++ L) la (by rw [e1]; exact hb)
    ⟨Nat.le_trans hS.1 (by rw [e1]; exact hz), fun q h1 h2 => by rw [e1, hk q (Nat.lt_of_lt_of_le h1 hS.1) h2]; exact hS.2.1 q h1 h2, fun q hq => by
      rcases List.mem_append.mp hq with h | h
      · exact hS.2.2 q h
      · exact hL2 q h⟩ hL T' rfl X'
  exact ⟨t2, stp t2 a1, b1⟩
theorem vv_callV (C : vv_C p s m args c G cc nL Ts own) {y : MethodName} {ws : List Cond} {rm : Room} {a : Nat} (As : List Value) {Qr : Option Value → mw_M → Prop} (hM : mw_Met l y ws rm G (.ref (G.1 a) :: As) M Qr) {Cn : String} {T : u_T} {N ci index maxL n : Nat} {bytes : ByteArray} {ret : Option FieldType} {fs : List (Nat ⊕ Nat)} (hs : mw_S[a]? = some (.inr (ci, fs))) (hc : vwCl[ci]? = some (Cn, T, N))
    (cw : CallW R s args own Cn index y bytes maxL ret ws rm 0 0 n) (hn : As.length = n) (hlen : ls.length = nL) {stk : List Value} (hst : stk = As.reverse ++ .ref (G.1 a) :: st) (hcat : (st.map fun v => v.category).sum ≤ 8) (hd : decode cc pc = .ok (.invokevirtual index, 3)) (hf : cells ≤ R.cells ∧ slots ≤ R.slots)
    (kk : ∀ r M2, Qr r M2 → vv p l e R s m args below meth c G cells slots Q M2 (pc + 3) ls (r.toList ++ st)) : vv p l e R s m args below meth c G cells slots Q M pc ls stk := fun H locs la hW hS hL => by
  refine mw_go (va_runV (As := As) (rest := st) C.1 (hM C.2.2) cw ⟨mw_blind, va_recv (q := (Cn, T, N)) C.2.1 hW hc (mw_l_at hs), fun U hU hW2 => ⟨rfl, by rw [hU]; exact hW, va_K.moved hW2.alike C.2.1⟩⟩ rfl hn ?_ hst (lv_room hcat) hd hf) hS hL kk
  rw [← hlen]; exact hL.1.1
theorem vv_callS (C : vv_C p s m args c G cc nL Ts own) {y : MethodName} {ws : List Cond} {rm : Room} (As : List Value) {Qr : Option Value → mw_M → Prop} (hM : mw_Met l y ws rm G As M Qr) {index maxL n : Nat} {bytes : ByteArray} {ret : Option FieldType}
    (cw : CallB R s args own index y bytes maxL ret ws rm 0 0 n ∧ (Cond.static y).before args s = true) (hn : As.length = n) (hlen : ls.length = nL) {stk : List Value} (hst : stk = As.reverse ++ st) (hcat : (st.map fun v => v.category).sum ≤ 8) (hd : decode cc pc = .ok (.invokestatic index, 3)) (hf : cells ≤ R.cells ∧ slots ≤ R.slots)
    (kk : ∀ r M2, Qr r M2 → vv p l e R s m args below meth c G cells slots Q M2 (pc + 3) ls (r.toList ++ st)) : vv p l e R s m args below meth c G cells slots Q M pc ls stk := fun H locs la hW hS hL => by
  refine mw_go (va_runS (As := As) (rest := st) C.1 (hM C.2.2) cw ⟨mw_blind, fun U hU hW2 => ⟨rfl, by rw [hU]; exact hW, va_K.moved hW2.alike C.2.1⟩⟩ rfl hn ?_ hst (lv_room hcat) hd hf) hS hL kk
  rw [← hlen]; exact hL.1.1
end VV
section VE
variable {p : Program} {l : Launch} {e : Env} {R : Room} {s : State} {m : MethodId} {args : Array Value} {below : List Frame} {meth : Method} {c : Code} {G : mw_GG} {Qr : Option Value → mw_M → Prop}
variable {cc : ByteArray} {nL : Nat} {Ts : List Cond} {own : String} {M : mw_M} {pc : Nat} {ls : List (Option Value)}
/-- where a method's own walk ends -/
abbrev mw_E (below : List Frame) (args : Array Value) (s : State) (G : mw_GG) (Qr : Option Value → mw_M → Prop) : State → Prop := MQ below (fun _ st oc t => mw_Q G Qr st oc t) args s 0 0 (mw_A G)
/-- a method's end's own facts -/
def vv_R (meth : Method) (ret : Option FieldType) : Prop := meth.sig.returnType = ret ∧ meth.locks = false
theorem vv_iret (C : vv_C p s m args c G cc nL Ts own) (hR : vv_R meth (some .int)) {v : Int32} (hd : decode cc pc = .ok (.ireturn, 1)) (hq : Qr (some (.int v)) M) : vv p l e R s m args below meth c G 0 0 (mw_E below args s G Qr) M pc ls [.int v] := fun H locs la hW hS hL =>
  W.iret C.1.1 C.1.2.1 hR.1 (fun t ht hW2 => ⟨⟨_, M, rfl, hq, by rw [ht]; exact hW⟩, hS.F ht⟩) hS.2.2 hd hR.2
theorem vv_zret (C : vv_C p s m args c G cc nL Ts own) (hR : vv_R meth (some .boolean)) {q : Prop} [Decidable q] (hd : decode cc pc = .ok (.ireturn, 1)) (hq : Qr (some (.int (bI q))) M) : vv p l e R s m args below meth c G 0 0 (mw_E below args s G Qr) M pc ls [.int (bI q)] := fun H locs la hW hS hL =>
  W.zret C.1.1 C.1.2.1 hR.1 bI_n (fun t ht hW2 => ⟨⟨_, M, rfl, hq, by rw [ht]; exact hW⟩, hS.F ht⟩) hS.2.2 hd hR.2
theorem vv_zret1 (C : vv_C p s m args c G cc nL Ts own) (hR : vv_R meth (some .boolean)) (hd : decode cc pc = .ok (.ireturn, 1)) (hq : Qr (some (.int 1)) M) : vv p l e R s m args below meth c G 0 0 (mw_E below args s G Qr) M pc ls [.int 1] := fun H locs la hW hS hL =>
  W.zret C.1.1 C.1.2.1 hR.1 rfl (fun t ht hW2 => ⟨⟨_, M, rfl, hq, by rw [ht]; exact hW⟩, hS.F ht⟩) hS.2.2 hd hR.2
theorem vv_zret0 (C : vv_C p s m args c G cc nL Ts own) (hR : vv_R meth (some .boolean)) (hd : decode cc pc = .ok (.ireturn, 1)) (hq : Qr (some (.int 0)) M) : vv p l e R s m args below meth c G 0 0 (mw_E below args s G Qr) M pc ls [.int 0] := fun H locs la hW hS hL =>
  W.zret C.1.1 C.1.2.1 hR.1 rfl (fun t ht hW2 => ⟨⟨_, M, rfl, hq, by rw [ht]; exact hW⟩, hS.F ht⟩) hS.2.2 hd hR.2
theorem vv_vret (C : vv_C p s m args c G cc nL Ts own) (hR : vv_R meth none) (hd : decode cc pc = .ok (.return_, 1)) (hq : Qr none M) : vv p l e R s m args below meth c G 0 0 (mw_E below args s G Qr) M pc ls [] := fun H locs la hW hS hL =>
  W.vret C.1.1 C.1.2.1 hR.1 (fun t ht hW2 => ⟨⟨_, M, rfl, hq, by rw [ht]; exact hW⟩, hS.F ht⟩) hS.2.2 hd hR.2
theorem vv_aret (C : vv_C p s m args c G cc nL Ts own) {Cn : String} (hR : vv_R meth (some (.object Cn))) {a : Nat} (hd : decode cc pc = .ok (.areturn, 1)) (hq : Qr (some (.ref a)) M) : vv p l e R s m args below meth c G 0 0 (mw_E below args s G Qr) M pc ls [.ref a] := fun H locs la hW hS hL =>
  W.aret C.1.1 C.1.2.1 hR.1 (Or.inl ⟨_, rfl⟩) (Or.inr ⟨_, rfl⟩) (fun t ht hW2 => ⟨⟨_, M, rfl, hq, by rw [ht]; exact hW⟩, hS.F ht⟩) hS.2.2 hd hR.2
end VE
def mw_one (vs : List Value) : Bool := vs.all (fun v => match v with | .int _ => true | .ref _ => true | _ => false)
theorem mw_one_cat {vs : List Value} (h : mw_one vs = true) : ∀ v ∈ vs, v.category = 1 := by
  intro v hv
  have h1 := List.all_eq_true.mp h v hv
  cases v <;> first | rfl | simp at h1
theorem mw_args_ll : ∀ (vs : List Value) (k n : Nat), (∀ v ∈ vs, v.category = 1) → lv_args k vs = mw_ll k (vs.map some ++ List.replicate n none)
  | [], k, n, _ => by
    have h : ∀ n k, mw_ll k (List.replicate n none) = [] := by
      intro n
      induction n with
      | zero => intro k; rfl
      | succ n ih => intro k; rw [List.replicate_succ, mw_ll]; exact ih (k + 1)
    simp [lv_args, h]
  | v :: vs, k, n, h => by
    have hv : v.category = 1 := h v List.mem_cons_self
    rw [lv_args, if_neg (by omega), List.map_cons, List.cons_append, mw_ll, mw_args_ll vs (k + 1) n (fun w hw => h w (List.mem_cons_of_mem _ hw))]
theorem mw_slots : ∀ (vs : List Value), (∀ v ∈ vs, v.category = 1) → (lg_sl vs).length = vs.length
  | [], _ => rfl
  | v :: vs, h => by
    have hv : v.category = 1 := h v List.mem_cons_self
    have := mw_slots vs (fun w hw => h w (List.mem_cons_of_mem _ hw))
    unfold lg_sl at this ⊢
    rw [List.flatMap_cons, List.length_append, this, if_neg (by omega)]
    simp; omega
/-- a method's contract out of its walk over the flat memory -/
theorem mw_ofV {l : Launch} {y : MethodName} {ws ws' : List Cond} {rm : Room} {G : mw_GG} {vs : List Value} {M : mw_M} {Qr : Option Value → mw_M → Prop} {cc : ByteArray} (maxL : Nat) {ret : Option FieldType} (hy : plainName y.cls = true) (hw : ws = Cond.code y cc maxL ret :: ws') (h1 : mw_one vs = true) (hn : vs.length ≤ maxL)
    (body : ∀ p e s m args below meth c, vv_C p s m args c G cc maxL ws y.cls → vv_R meth ret → meth.name = y.name → vv p l e rm s m args below meth c G 0 0 (mw_E below args s G Qr) M 0 (vs.map some ++ List.replicate (maxL - vs.length) none) []) : mw_Met l y ws rm G vs M Qr := by
  intro hG
  refine Met.ofW (cc := cc) (maxL := maxL) (ret := ret) hy hw ?_
  intro p e s m args below meth c s₁ B hml hv
  obtain ⟨rfl, hW, hK⟩ := hv
  have hc := mw_one_cat h1
  have hsl := mw_slots vs hc
  have hl := lv_entry vs (n := maxL) (by rw [hsl]; exact hn)
  rw [lg_entry_eq]
  have C : vv_C p s m vs.toArray c G cc maxL ws y.cls := ⟨⟨B.exec, B.bytes, hml, findClass_of_methodNamed B.named, atoms_spec (ws := ws) B.pre⟩, hK, hG⟩
  refine body p e s m _ below meth c C ⟨B.returns, B.notSynchronized⟩ (name_of_methodNamed B.named B.method).1 s.heap [] _ hW va_S.rf ?_
  refine ⟨?_, fun v hv => ?_⟩
  · rw [← mw_args_ll vs 0 (maxL - vs.length) hc]
    have e : (vs.map some ++ List.replicate (maxL - vs.length) (none : Option Value)).length = maxL := by simp; omega
    rw [e]
    exact hl
  · rcases List.mem_append.mp hv with h | h
    · obtain ⟨w, hw2, e⟩ := List.mem_map.mp h
      exact Option.some.inj e ▸ hc w hw2
    · exact absurd (List.eq_of_mem_replicate h) (by simp)

