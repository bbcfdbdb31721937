def mw_le : List (Option Value) → List (Option Value) → Prop
  | [], [] => True
  | none :: a, _ :: b => mw_le a b
  | some v :: a, w :: b => w = some v ∧ mw_le a b
  | [], _ :: _ => False
  | _ :: _, [] => False
theorem mw_le_len : ∀ (a b : List (Option Value)), mw_le a b → a.length = b.length
  | [], [], _ => rfl
  | none :: a, _ :: b, h => by rw [List.length_cons, List.length_cons, mw_le_len a b h]
  | some v :: a, w :: b, h => by rw [List.length_cons, List.length_cons, mw_le_len a b h.2]
theorem mw_le_at : ∀ (a b : List (Option Value)), mw_le a b → ∀ (i : Nat) (v : Value), a[i]? = some (some v) → b[i]? = some (some v)
  | [], [], _, i, v, hv => hv
  | none :: a, _ :: b, h, 0, v, hv => by simp at hv
  | none :: a, _ :: b, h, i + 1, v, hv => by
    rw [List.getElem?_cons_succ] at hv ⊢
    exact mw_le_at a b h i v hv
  | some u :: a, w :: b, h, 0, v, hv => by
    rw [List.getElem?_cons_zero] at hv ⊢
    rw [h.1]
    exact hv
  | some u :: a, w :: b, h, i + 1, v, hv => by
    rw [List.getElem?_cons_succ] at hv ⊢
    exact mw_le_at a b h.2 i v hv
theorem vv_keep {p : Program} {l : Launch} {e : Env} {R : Room} {s : State} {m : MethodId} {args : Array Value} {below : List Frame} {meth : Method} {c : Code} {G : mw_GG} {cells slots : Nat} {Q : State → Prop} {M : mw_M} {pc : Nat} {ls ls2 : List (Option Value)} {st : List Value} (h : mw_le ls2 ls) (k : vv p l e R s m args below meth c G cells slots Q M pc ls2 st) : vv p l e R s m args below meth c G cells slots Q M pc ls st := vv_lsTo (mw_le_len ls2 ls h) (mw_le_at ls2 ls h) k
theorem sh_0 : mw_S[0]? = some (.inr (6, [.inl 1, .inl 11, .inl 21, .inl 23, .inr 124, .inr 129])) := by decide +kernel
theorem dw_0 : mw_Dw 0 := mw_Dw_d (by decide)
theorem dw_1 : mw_Dw 1 := mw_Dw_d (by decide)
theorem nu_21 : mw_Nu 21 2 125 2 := mw_Nu_d (by decide +kernel)
theorem nu_23 : mw_Nu 23 2 126 2 := mw_Nu_d (by decide +kernel)
theorem nu_127 : mw_Nu 127 144 700 1 := mw_Nu_d (by decide +kernel)
theorem nu_129 : mw_Nu 129 144 850 1 := mw_Nu_d (by decide +kernel)
theorem nu_131 : mw_Nu 131 4 660 1 := mw_Nu_d (by decide +kernel)
theorem nu_134 : mw_Nu 134 60 1000 1 := mw_Nu_d (by decide +kernel)
theorem st_0 : mw_St 0 0 := mw_St_j (j := 0) (by decide)
theorem st_1 : mw_St 25 130 := mw_St_j (j := 1) (by decide)
theorem st_2 : mw_St 50 260 := mw_St_j (j := 2) (by decide)
theorem st_3 : mw_St 75 390 := mw_St_j (j := 3) (by decide)
theorem st_4 : mw_St 100 520 := mw_St_j (j := 4) (by decide)
theorem sh_125 : mw_S[125]? = some (.inr (2, [.inl 25, .inl 50, .inl 75, .inl 100, .inr 650])) := by decide +kernel
theorem sh_126 : mw_S[126]? = some (.inr (5, [.inl 0, .inl 127, .inl 129, .inl 131, .inr 651, .inr 652])) := by decide +kernel
theorem sh_133 : mw_S[133]? = some (.inr (7, [.inl 134, .inr 653])) := by decide +kernel
theorem sh_136 : mw_S[136]? = some (.inr (4, [.inl 133, .inl 137, .inr 654, .inr 655, .inr 656, .inr 657])) := by decide +kernel
theorem sh_144 : mw_S[144]? = some (.inr (8, [.inl 0, .inl 125, .inl 126, .inl 133, .inl 136])) := by decide +kernel
theorem iX3_at_X3 : ∀ w ∈ u_ws RX3 TX3 1, w ∈ wsX3_at := fun w hw => (List.mem_cons_of_mem _ (List.mem_append_right _ hw))
set_option maxRecDepth 100000 in
set_option maxHeartbeats 4000000 in
theorem c_X3_at {l : Launch} {G : mw_GG} {a n b t : Nat} (hN : mw_Nu a n b t) (M : mw_M) {i : Int32} {j : Nat} (hi : i = nI j) (hj : j < n) : mw_Met l yX3_at wsX3_at ({ frames := 0, cells := 0, slots := 0, locals := 0 } : Room) G [.ref (G.1 a), .int i] M (qI (M (b + t * j)) M) := by
  refine mw_ofV (cc := cX3_at) 2 (by decide) rfl rfl (Nat.le_of_ble_eq_true rfl) ?_
  intro p e s m args below meth c C hR hN0
  refine vv_loc (ls2 := [some (.ref (G.1 a)), some (.int i)]) rfl ?_
  have hn := mw_arr_n hN.2
  refine vv_iload_n C 1 dX3_at_0 rfl rfl ?_
  refine vv_if_lt C 22 dX3_at_1 (by decide) (fun h_1 => absurd h_1 (by rw [hi]; exact nI_pos (by omega))) (fun h_2 => ?_)
  refine vv_iload_n C 1 dX3_at_4 rfl rfl ?_
  refine vv_aload_n C 0 dX3_at_5 rfl rfl ?_
  refine vv_getr C (Cn := RX3) (T := TX3) (N := 1) hN.1 0 rfl rfl (by decide) iX3_at_X3 (List.mem_of_getElem? (i := 1) rfl) rfl dX3_at_6 ?_
  refine vv_alen (v := nI n) C hN.2 rfl dX3_at_9 ?_
  refine vv_icmp_ge C 22 dX3_at_10 (by decide) (fun h_3 => absurd h_3 (by rw [hi]; exact nI_ge hj (by omega))) (fun h_4 => ?_)
  refine vv_aload_n C 0 dX3_at_13 rfl rfl ?_
  refine vv_getr C (Cn := RX3) (T := TX3) (N := 1) hN.1 0 rfl rfl (by decide) iX3_at_X3 (List.mem_of_getElem? (i := 1) rfl) rfl dX3_at_14 ?_
  refine vv_iload_n C 1 dX3_at_17 rfl rfl ?_
  refine vv_ald (j := j) (q := b + t * j) C hN.2 hi hj rfl dX3_at_18 ?_
  refine vv_goto C 23 dX3_at_19 (by decide) ?_
  exact vv_iret C hR dX3_at_23 (qI_of (rfl) (rfl))
theorem iX3_set_X3 : ∀ w ∈ u_ws RX3 TX3 1, w ∈ wsX3_set := fun w hw => (List.mem_cons_of_mem _ (List.mem_append_right _ hw))
set_option maxRecDepth 100000 in
set_option maxHeartbeats 4000000 in
theorem c_X3_set {l : Launch} {G : mw_GG} {a n b t : Nat} (hN : mw_Nu a n b t) (M : mw_M) {i : Int32} {j : Nat} (hi : i = nI j) (hj : j < n) (x : Int32) : mw_Met l yX3_set wsX3_set ({ frames := 0, cells := 0, slots := 0, locals := 0 } : Room) G [.ref (G.1 a), .int i, .int x] M (qV (upd M (b + t * j) x)) := by
  refine mw_ofV (cc := cX3_set) 3 (by decide) rfl rfl (Nat.le_of_ble_eq_true rfl) ?_
  intro p e s m args below meth c C hR hN0
  refine vv_loc (ls2 := [some (.ref (G.1 a)), some (.int i), some (.int x)]) rfl ?_
  have hn := mw_arr_n hN.2
  refine vv_iload_n C 1 dX3_set_0 rfl rfl ?_
  refine vv_if_lt C 20 dX3_set_1 (by decide) (fun h_1 => absurd h_1 (by rw [hi]; exact nI_pos (by omega))) (fun h_2 => ?_)
  refine vv_iload_n C 1 dX3_set_4 rfl rfl ?_
  refine vv_aload_n C 0 dX3_set_5 rfl rfl ?_
  refine vv_getr C (Cn := RX3) (T := TX3) (N := 1) hN.1 0 rfl rfl (by decide) iX3_set_X3 (List.mem_of_getElem? (i := 1) rfl) rfl dX3_set_6 ?_
  refine vv_alen (v := nI n) C hN.2 rfl dX3_set_9 ?_
  refine vv_icmp_ge C 20 dX3_set_10 (by decide) (fun h_3 => absurd h_3 (by rw [hi]; exact nI_ge hj (by omega))) (fun h_4 => ?_)
  refine vv_aload_n C 0 dX3_set_13 rfl rfl ?_
  refine vv_getr C (Cn := RX3) (T := TX3) (N := 1) hN.1 0 rfl rfl (by decide) iX3_set_X3 (List.mem_of_getElem? (i := 1) rfl) rfl dX3_set_14 ?_
  refine vv_iload_n C 1 dX3_set_17 rfl rfl ?_
  refine vv_iload_n C 2 dX3_set_18 rfl rfl ?_
  refine vv_ast (j := j) (q := b + t * j) C hN.2 hi hj rfl dX3_set_19 ?_
  exact vv_vret C hR dX3_set_20 (qV_of (rfl))
/-- an array of the memory was written: place i has f i; all else stays -/
def r_Put (M M2 : mw_M) (n b t : Nat) (f : Nat → Int32) : Prop := (∀ i, i < n → M2 (b + t * i) = f i) ∧ ∀ q, (∀ i, i < n → q ≠ b + t * i) → M2 q = M q
theorem iX3_fill_X3 : ∀ w ∈ u_ws RX3 TX3 1, w ∈ wsX3_fill := fun w hw => (List.mem_cons_of_mem _ (List.mem_append_right _ hw))
set_option maxRecDepth 100000 in
set_option maxHeartbeats 4000000 in
theorem lp_X3_fill {p : Program} {l : Launch} {e : Env} {s : State} {m : MethodId} {args : Array Value} {below : List Frame} {meth : Method} {c : Code} {G : mw_GG} {Q : State → Prop} (C : vv_C p s m args c G cX3_fill 3 wsX3_fill RX3) {a n b t : Nat} (hN : mw_Nu a n b t) (hn : n < 1000) (M : mw_M) (x : Int32) (hk : ∀ M1, r_Put M M1 n b t (fun _ => x) → vv p l e ({ frames := 0, cells := 0, slots := 0, locals := 0 } : Room) s m args below meth c G 0 0 Q M1 24 [some (.ref (G.1 a)), some (.int x), some (.int (nI n))] []) : ∀ (k i : Nat) (M1 : mw_M), n + 1 ≤ i + k → i ≤ n → r_Put M M1 i b t (fun _ => x) → vv p l e ({ frames := 0, cells := 0, slots := 0, locals := 0 } : Room) s m args below meth c G 0 0 Q M1 2 [some (.ref (G.1 a)), some (.int x), some (.int (nI i))] [] := by
  intro k
  induction k with
  | zero => intro i M1 h1 h2 _; omega
  | succ k ih =>
    intro i M1 h1 h2 hI
    have ht := mw_arr_t hN.2
    refine vv_iload_n C 2 dX3_fill_2 rfl rfl ?_
    refine vv_aload_n C 0 dX3_fill_3 rfl rfl ?_
    refine vv_getr C (Cn := RX3) (T := TX3) (N := 1) hN.1 0 rfl rfl (by decide) iX3_fill_X3 (List.mem_of_getElem? (i := 1) rfl) rfl dX3_fill_4 ?_
    refine vv_alen (v := nI n) C hN.2 rfl dX3_fill_7 ?_
    refine vv_icmp_ge C 24 dX3_fill_8 (by decide) (fun hge => ?_) (fun hlt => ?_)
    · have hin : i = n := by
        rcases Nat.lt_or_ge i n with z | z
        · exact absurd hge (nI_ge z (by omega))
        · omega
      subst hin
      exact hk M1 hI
    · have hlt2 : i < n := by
        rcases Nat.lt_or_ge i n with z | z
        · exact z
        · exact absurd (nI_le z (by omega)) hlt
      refine vv_aload_n C 0 dX3_fill_11 rfl rfl ?_
      refine vv_getr C (Cn := RX3) (T := TX3) (N := 1) hN.1 0 rfl rfl (by decide) iX3_fill_X3 (List.mem_of_getElem? (i := 1) rfl) rfl dX3_fill_12 ?_
      refine vv_iload_n C 2 dX3_fill_15 rfl rfl ?_
      refine vv_iload_n C 1 dX3_fill_16 rfl rfl ?_
      refine vv_ast (j := i) (q := b + t * i) C hN.2 rfl hlt2 rfl dX3_fill_17 ?_
      refine vv_iinc (v := nI (i + 1)) (ls2 := [some (.ref (G.1 a)), some (.int x), some (.int (nI (i + 1)))]) C 2 dX3_fill_18 rfl (nI_1 _) rfl ?_
      refine vv_goto C 2 dX3_fill_21 (by decide) ?_
      refine ih (i + 1) _ (by omega) (by omega) ⟨fun j hj => ?_, fun q hq => ?_⟩
      · unfold upd
        by_cases hji : j = i
        · rw [if_pos (by rw [hji])]
        · rw [if_neg (fun z => hji (Nat.eq_of_mul_eq_mul_left ht (Nat.add_left_cancel z)))]
          exact hI.1 j (by omega)
      · unfold upd
        rw [if_neg (hq i (by omega))]
        exact hI.2 q (fun j hj => hq j (by omega))
set_option maxRecDepth 100000 in
set_option maxHeartbeats 4000000 in
theorem c_X3_fill {l : Launch} {G : mw_GG} {a n b t : Nat} (hN : mw_Nu a n b t) (M : mw_M) (x : Int32) : mw_Met l yX3_fill wsX3_fill ({ frames := 0, cells := 0, slots := 0, locals := 0 } : Room) G [.ref (G.1 a), .int x] M (qVP (fun M2 => r_Put M M2 n b t (fun _ => x))) := by
  refine mw_ofV (cc := cX3_fill) 3 (by decide) rfl rfl (Nat.le_of_ble_eq_true rfl) ?_
  intro p e s m args below meth c C hR hN0
  refine vv_loc (ls2 := [some (.ref (G.1 a)), some (.int x), none]) rfl ?_
  have hn := mw_arr_n hN.2
  refine vv_iconst (v := 0) C dX3_fill_0 (by decide) ?_
  refine vv_istore_n (ls2 := [some (.ref (G.1 a)), some (.int x), some (.int 0)]) C 2 dX3_fill_1 rfl (Nat.le_of_ble_eq_true rfl) rfl ?_
  refine lp_X3_fill C hN hn M x (fun M1 hI => ?_) (n + 1) 0 M (by omega) (by omega) ⟨fun i hi => by omega, fun q _ => rfl⟩
  exact vv_vret C hR dX3_fill_24 (qVP_of hI)
theorem iX3_copyFrom_X3 : ∀ w ∈ u_ws RX3 TX3 1, w ∈ wsX3_copyFrom := fun w hw => (List.mem_cons_of_mem _ (List.mem_append_right _ hw))
set_option maxRecDepth 100000 in
set_option maxHeartbeats 4000000 in
theorem lp_X3_copyFrom {p : Program} {l : Launch} {e : Env} {s : State} {m : MethodId} {args : Array Value} {below : List Frame} {meth : Method} {c : Code} {G : mw_GG} {Q : State → Prop} (C : vv_C p s m args c G cX3_copyFrom 3 wsX3_copyFrom RX3) {a n b t : Nat} (hN : mw_Nu a n b t) {a2 n2 b2 t2 : Nat} (hN2 : mw_Nu a2 n2 b2 t2) (hle : n ≤ n2) (hdis : ∀ i j, i < n → j < n → b + t * i ≠ b2 + t2 * j) (hn : n < 1000) (M : mw_M) (hk : ∀ M1, r_Put M M1 n b t (fun i => M (b2 + t2 * i)) → vv p l e ({ frames := 1, cells := 0, slots := 0, locals := 21 } : Room) s m args below meth c G 0 0 Q M1 28 [some (.ref (G.1 a)), some (.ref (G.1 a2)), some (.int (nI n))] []) : ∀ (k i : Nat) (M1 : mw_M), n + 1 ≤ i + k → i ≤ n → r_Put M M1 i b t (fun i => M (b2 + t2 * i)) → vv p l e ({ frames := 1, cells := 0, slots := 0, locals := 21 } : Room) s m args below meth c G 0 0 Q M1 2 [some (.ref (G.1 a)), some (.ref (G.1 a2)), some (.int (nI i))] [] := by
  intro k
  induction k with
  | zero => intro i M1 h1 h2 _; omega
  | succ k ih =>
    intro i M1 h1 h2 hI
    have ht := mw_arr_t hN.2
    refine vv_iload_n C 2 dX3_copyFrom_2 rfl rfl ?_
    refine vv_aload_n C 0 dX3_copyFrom_3 rfl rfl ?_
    refine vv_getr C (Cn := RX3) (T := TX3) (N := 1) hN.1 0 rfl rfl (by decide) iX3_copyFrom_X3 (List.mem_of_getElem? (i := 1) rfl) rfl dX3_copyFrom_4 ?_
    refine vv_alen (v := nI n) C hN.2 rfl dX3_copyFrom_7 ?_
    refine vv_icmp_ge C 28 dX3_copyFrom_8 (by decide) (fun hge => ?_) (fun hlt => ?_)
    · have hin : i = n := by
        rcases Nat.lt_or_ge i n with z | z
        · exact absurd hge (nI_ge z (by omega))
        · omega
      subst hin
      exact hk M1 hI
    · have hlt2 : i < n := by
        rcases Nat.lt_or_ge i n with z | z
        · exact z
        · exact absurd (nI_le z (by omega)) hlt
      refine vv_aload_n C 0 dX3_copyFrom_11 rfl rfl ?_
      refine vv_getr C (Cn := RX3) (T := TX3) (N := 1) hN.1 0 rfl rfl (by decide) iX3_copyFrom_X3 (List.mem_of_getElem? (i := 1) rfl) rfl dX3_copyFrom_12 ?_
      refine vv_iload_n C 2 dX3_copyFrom_15 rfl rfl ?_
      refine vv_aload_n C 1 dX3_copyFrom_16 rfl rfl ?_
      refine vv_iload_n C 2 dX3_copyFrom_17 rfl rfl ?_
      refine vv_callVI C [.int (nI i)] (c_X3_at hN2 M1 (i := (nI i)) (j := i) rfl (by omega)) hN2.1 rfl (cwV 1 C.1.2.2.2.2 gX3_copyFrom_X3_at rfl rfl rfl (by decide +kernel) ⟨Nat.le_of_ble_eq_true rfl, Nat.le_of_ble_eq_true rfl⟩) rfl rfl rfl (Nat.le_of_ble_eq_true rfl) dX3_copyFrom_18 ⟨Nat.le_refl _, Nat.le_refl _⟩ ?_
      refine vv_ast (j := i) (q := b + t * i) C hN.2 rfl hlt2 rfl dX3_copyFrom_21 ?_
      refine vv_iinc (v := nI (i + 1)) (ls2 := [some (.ref (G.1 a)), some (.ref (G.1 a2)), some (.int (nI (i + 1)))]) C 2 dX3_copyFrom_22 rfl (nI_1 _) rfl ?_
      refine vv_goto C 2 dX3_copyFrom_25 (by decide) ?_
      refine ih (i + 1) _ (by omega) (by omega) ⟨fun j hj => ?_, fun q hq => ?_⟩
      · unfold upd
        by_cases hji : j = i
        · rw [if_pos (by rw [hji]), hI.2 _ (fun j2 hj2 z => hdis j2 i (by omega) hlt2 z.symm), hji]
        · rw [if_neg (fun z => hji (Nat.eq_of_mul_eq_mul_left ht (Nat.add_left_cancel z)))]
          exact hI.1 j (by omega)
      · unfold upd
        rw [if_neg (hq i (by omega))]
        exact hI.2 q (fun j hj => hq j (by omega))
set_option maxRecDepth 100000 in
set_option maxHeartbeats 4000000 in
theorem c_X3_copyFrom {l : Launch} {G : mw_GG} {a n b t : Nat} (hN : mw_Nu a n b t) {a2 n2 b2 t2 : Nat} (hN2 : mw_Nu a2 n2 b2 t2) (hle : n ≤ n2) (hdis : ∀ i j, i < n → j < n → b + t * i ≠ b2 + t2 * j) (M : mw_M) : mw_Met l yX3_copyFrom wsX3_copyFrom ({ frames := 1, cells := 0, slots := 0, locals := 21 } : Room) G [.ref (G.1 a), .ref (G.1 a2)] M (qVP (fun M2 => r_Put M M2 n b t (fun i => M (b2 + t2 * i)))) := by
  refine mw_ofV (cc := cX3_copyFrom) 3 (by decide) rfl rfl (Nat.le_of_ble_eq_true rfl) ?_
  intro p e s m args below meth c C hR hN0
  refine vv_loc (ls2 := [some (.ref (G.1 a)), some (.ref (G.1 a2)), none]) rfl ?_
  have hn := mw_arr_n hN.2
  refine vv_iconst (v := 0) C dX3_copyFrom_0 (by decide) ?_
  refine vv_istore_n (ls2 := [some (.ref (G.1 a)), some (.ref (G.1 a2)), some (.int 0)]) C 2 dX3_copyFrom_1 rfl (Nat.le_of_ble_eq_true rfl) rfl ?_
  refine lp_X3_copyFrom C hN hN2 hle hdis hn M (fun M1 hI => ?_) (n + 1) 0 M (by omega) (by omega) ⟨fun i hi => by omega, fun q _ => rfl⟩
  exact vv_vret C hR dX3_copyFrom_28 (qVP_of hI)
