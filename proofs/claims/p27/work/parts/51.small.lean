/-! the law's own numbers (g 1100, v 1200, e 1300, a 1310, b 1320), tied to a state S of the class -/
def pkN (u : Nat → Nat) : Nat := u 0 + 128 * u 1 + 16384 * u 2 + 2097152 * u 3
theorem c4 {c : Nat} (h : c < 4) : c = 0 ∨ c = 1 ∨ c = 2 ∨ c = 3 := by omega
theorem c8 {c : Nat} (h : c < 8) : c = 0 ∨ c = 1 ∨ c = 2 ∨ c = 3 ∨ c = 4 ∨ c = 5 ∨ c = 6 ∨ c = 7 := by omega
theorem pkN_lt {u : Nat → Nat} (h : ∀ c, c < 4 → u c ≤ 100) : pkN u < 2 ^ 31 := by
  have h0 := h 0 (by omega)
  have h1 := h 1 (by omega)
  have h2 := h 2 (by omega)
  have h3 := h 3 (by omega)
  unfold pkN
  omega
theorem pkN_dg {u : Nat → Nat} (h : ∀ c, c < 4 → u c ≤ 100) {c : Nat} (hc : c < 4) : pkN u / 2 ^ (7 * c) % 2 ^ 7 = u c := by
  have h0 := h 0 (by omega)
  have h1 := h 1 (by omega)
  have h2 := h 2 (by omega)
  have h3 := h 3 (by omega)
  unfold pkN
  rcases c4 hc with rfl | rfl | rfl | rfl
  · show (u 0 + 128 * u 1 + 16384 * u 2 + 2097152 * u 3) / 1 % 128 = _
    omega
  · show (u 0 + 128 * u 1 + 16384 * u 2 + 2097152 * u 3) / 128 % 128 = _
    omega
  · show (u 0 + 128 * u 1 + 16384 * u 2 + 2097152 * u 3) / 16384 % 128 = _
    omega
  · show (u 0 + 128 * u 1 + 16384 * u 2 + 2097152 * u 3) / 2097152 % 128 = _
    omega
theorem shr7 {w c : Nat} (hw : w < 2 ^ 31) (hc : c < 4) : nI w >>> (nI (7 * c) &&& 31) = nI (w / 2 ^ (7 * c)) := by
  rcases c4 hc with rfl | rfl | rfl | rfl <;> exact pk_shrN hw _ _ (by decide)
theorem get_dg {u : Nat → Nat} (h : ∀ c, c < 4 → u c ≤ 100) {c : Nat} (hc : c < 4) : nI (pkN u / 2 ^ (7 * c)) &&& 127 = nI (u c) := by
  rw [pk_andN (Nat.lt_of_le_of_lt (Nat.div_le_self _ _) (Nat.lt_trans (pkN_lt h) (by decide))) 7 (by decide), pkN_dg h hc]
theorem shl_mulN (z s : Int32) (k : Nat) (hs : (s.toBitVec.smod 32).toNat = k) : z <<< s = z * nI (2 ^ k) := by
  apply Int32.toBitVec_inj.mp
  rw [Int32.toBitVec_shiftLeft, BitVec.shiftLeft_eq', hs]
  apply BitVec.eq_of_toNat_eq
  rw [BitVec.toNat_shiftLeft, Int32.toBitVec_mul, BitVec.toNat_mul, Nat.shiftLeft_eq]
  show _ = (_ * (BitVec.ofNat 32 (2 ^ k)).toNat) % 2 ^ 32
  rw [BitVec.toNat_ofNat, Nat.mul_mod_mod]
theorem shl7 (z : Int32) {c : Nat} (hc : c < 4) : z <<< (nI (7 * c) &&& 31) = z * nI (2 ^ (7 * c)) := by
  rcases c4 hc with rfl | rfl | rfl | rfl <;> exact shl_mulN z _ _ (by decide)
/-- u with n at the place c -/
def putN (u : Nat → Nat) (c n : Nat) : Nat → Nat := fun i => if i = c then n else u i
theorem putN_le {u : Nat → Nat} (h : ∀ c, c < 4 → u c ≤ 100) {c n : Nat} (hn : n ≤ 100) : ∀ i, i < 4 → putN u c n i ≤ 100 := fun i hi => by
  unfold putN
  split
  · exact hn
  · exact h i hi
theorem putN_sum {u : Nat → Nat} {c n : Nat} (hc : c < 4) : ∃ r, pkN u = r + u c * 2 ^ (7 * c) ∧ pkN (putN u c n) = r + n * 2 ^ (7 * c) := by
  unfold pkN
  rcases c4 hc with rfl | rfl | rfl | rfl
  · exact ⟨128 * u 1 + 16384 * u 2 + 2097152 * u 3, by show _ = _ + u 0 * 1; omega, by simp only [putN]; show _ = _ + n * 1; simp; omega⟩
  · exact ⟨u 0 + 16384 * u 2 + 2097152 * u 3, by show _ = _ + u 1 * 128; omega, by simp only [putN]; show _ = _ + n * 128; simp; omega⟩
  · exact ⟨u 0 + 128 * u 1 + 2097152 * u 3, by show _ = _ + u 2 * 16384; omega, by simp only [putN]; show _ = _ + n * 16384; simp; omega⟩
  · exact ⟨u 0 + 128 * u 1 + 16384 * u 2, by show _ = _ + u 3 * 2097152; omega, by simp only [putN]; show _ = _ + n * 2097152; simp; omega⟩
theorem i_sub1 (a b : Int32) : a - 1 - (b - 1) = a - b := by
  rw [Int32.sub_eq_add_neg a, Int32.sub_eq_add_neg (a + -1), Int32.neg_sub, Int32.add_assoc, Int32.sub_eq_add_neg 1 b, ← Int32.add_assoc (-1) 1, show (-1 : Int32) + 1 = 0 by decide, Int32.zero_add, ← Int32.sub_eq_add_neg]
theorem set_eq {u : Nat → Nat} {c n : Nat} (hc : c < 4) {x : Int32} (hx : x = nI n - 1) : nI (pkN u) + (x - (nI (u c) - 1)) <<< (nI (7 * c) &&& 31) = nI (pkN (putN u c n)) := by
  obtain ⟨r, h1, h2⟩ := putN_sum (u := u) (n := n) hc
  rw [h1, h2, hx, i_sub1, shl7 _ hc, ← nI_add, ← nI_add, ← pk_mul, ← pk_mul, Int32.add_assoc, ← Int32.add_mul]
  congr 2
  rw [Int32.add_comm, Int32.sub_add_cancel]
def lgR (L S : mw_M) : Prop := (∀ k, k < 4 → L (1100 + k) = S k) ∧ L 1104 = S 124 ∧ (∀ k, k < 4 → L (1105 + k) = S (125 + k)) ∧ L 1109 = S 129
def lvR (L S : mw_M) : Prop := ∀ d k, d < 2 → k < 12 → ¬ S (2 + d) ≤ nI k → ∃ u : Nat → Nat, (∀ c, c < 4 → u c ≤ 100) ∧ (∀ c, c < 4 → S (4 + 48 * d + (4 * k + c)) = nI (u c) - 1) ∧ L (1200 + (12 * d + k)) = nI (pkN u)
def lcR (L S : mw_M) : Prop := ∀ c, c < 8 → L (1300 + c) = S (100 + 3 * c) ∧ L (1310 + c) = S (101 + 3 * c) ∧ L (1320 + c) = S (102 + 3 * c)
/-- the law's numbers L tell of the state S -/
def lrel (L S : mw_M) : Prop := lgR L S ∧ lvR L S ∧ lcR L S
theorem lrel.g0 {L S : mw_M} (h : lrel L S) : L 1100 = S 0 := h.1.1 0 (by omega)
theorem lrel.g1 {L S : mw_M} (h : lrel L S) : L 1101 = S 1 := h.1.1 1 (by omega)
theorem lrel.g2 {L S : mw_M} (h : lrel L S) : L 1102 = S 2 := h.1.1 2 (by omega)
theorem lrel.g3 {L S : mw_M} (h : lrel L S) : L 1103 = S 3 := h.1.1 3 (by omega)
theorem lrel.g4 {L S : mw_M} (h : lrel L S) : L 1104 = S 124 := h.1.2.1
theorem lrel.g9 {L S : mw_M} (h : lrel L S) : L 1109 = S 129 := h.1.2.2.2
theorem lrel.e {L S : mw_M} (h : lrel L S) {c : Nat} (hc : c < 8) : L (1300 + c) = S (100 + 3 * c) := (h.2.2 c hc).1
theorem lrel.a {L S : mw_M} (h : lrel L S) {c : Nat} (hc : c < 8) : L (1310 + c) = S (101 + 3 * c) := (h.2.2 c hc).2.1
theorem lrel.b {L S : mw_M} (h : lrel L S) {c : Nat} (hc : c < 8) : L (1320 + c) = S (102 + 3 * c) := (h.2.2 c hc).2.2
theorem ask_lo {S : mw_M} {c : Nat} (hc : c < 4) : askP S (nI c) ↔ ¬ S 0 ≤ nI c := by
  have h1 : ¬ (4 : Int32) ≤ nI c := fun z => absurd ((nI_leI (a := 4) (by omega) (by omega)).mp z) (by omega)
  constructor
  · rintro (⟨-, h⟩ | ⟨h, -⟩)
    · exact h.2
    · exact absurd h h1
  · intro h
    exact Or.inl ⟨h1, nI_pos (by omega), h⟩
theorem ask_up {S : mw_M} {c : Nat} (h4 : 4 ≤ c) (hc : c < 8) : askP S (nI c) ↔ (S 124 = 1 ∧ ¬ S 1 ≤ nI (c - 4)) := by
  have h1 : (4 : Int32) ≤ nI c := (nI_leI (a := 4) (by omega) (by omega)).mpr h4
  have h2 : nI c - 4 = nI (c - 4) := pk_sub (b := 4) h4
  constructor
  · rintro (⟨h, -⟩ | ⟨-, h, h3⟩)
    · exact absurd h1 h
    · rw [h2] at h3
      exact ⟨h, h3.2⟩
  · rintro ⟨h, h3⟩
    exact Or.inr ⟨h1, h, by rw [h2]; exact ⟨nI_pos (by omega), h3⟩⟩
/-- a row's card is there in the drawer of the column c -/
def cdP (S : mw_M) (c f g : Nat) : Prop := (c < 4 → f < 12 ∧ ¬ S 2 ≤ nI f) ∧ (4 ≤ c → g < 12 ∧ ¬ S 3 ≤ nI g)
theorem valP.cd {S : mw_M} {f g c : Nat} (h : valP S f g) (ha : askP S (nI c)) (hc : c < 8) : cdP S c f g := by
  refine ⟨fun _ => ⟨h.1, h.2.2.1⟩, fun h4 => ⟨h.2.1, h.2.2.2 ((ask_up h4 hc).mp ha).1⟩⟩
theorem vS_lo {S : mw_M} {c f g : Nat} (hc : c < 4) : vS S c f g = S (4 + 48 * 0 + (4 * f + c)) := by
  unfold vS
  rw [if_pos hc, show c / 4 = 0 by omega, show c % 4 = c by omega]
theorem vS_up {S : mw_M} {c f g : Nat} (h4 : 4 ≤ c) (hc : c < 8) : vS S c f g = S (4 + 48 * 1 + (4 * g + (c - 4))) := by
  unfold vS
  rw [if_neg (by omega), show c / 4 = 1 by omega, show c % 4 = c - 4 by omega]
theorem vl_neg {x : Int32} (h : vlP x) : x < 0 ↔ x = -1 := by
  rcases h with h | ⟨w, hw, h⟩
  · rw [h]; decide
  · rw [h]
    exact ⟨fun z => absurd z (nI_pos (by omega)), fun z => absurd z (nI_ne_m1 (by omega))⟩

set_option maxRecDepth 100000 in
set_option maxHeartbeats 4000000 in
theorem c_L_low {l : Launch} {G : mw_GG} (M : mw_M) (x : Int32) {n : Nat} (h0 : 0 < n) (hn : n < 2 ^ 31) : mw_Met l yL_low wsL_low ({ frames := 0, cells := 0, slots := 0, locals := 0 } : Room) G [.int x, .int (nI n)] M (qIP (fun r M2 => M2 = M ∧ ∃ j, j < n ∧ r = nI j)) := by
  refine mw_ofV (cc := cL_low) 2 (by decide) rfl rfl (Nat.le_of_ble_eq_true rfl) ?_
  intro p e s m args below meth c C hR hN0
  refine vv_loc (ls2 := [some (.int x), some (.int (nI n))]) rfl ?_
  refine vv_iload_n C 0 dL_low_0 rfl rfl ?_
  refine vv_ldc (v := 2147483647) C (List.mem_of_getElem? (i := 1) rfl) dL_low_1 ?_
  refine vv_iand C dL_low_3 ?_
  refine vv_top (y := nI (x.toBitVec.toNat % 2 ^ 31)) (pk_and x 31 (by decide)) ?_
  refine vv_iload_n C 1 dL_low_4 rfl rfl ?_
  refine vv_irem C dL_low_5 (nI_ne0 h0 hn) ?_
  refine vv_top (y := nI (x.toBitVec.toNat % 2 ^ 31 % n)) (pk_rem (Nat.mod_lt _ (by decide)) h0 hn) ?_
  exact vv_iret C hR dL_low_6 (qIP_of ⟨rfl, _, Nat.mod_lt _ h0, rfl⟩)
set_option maxRecDepth 100000 in
set_option maxHeartbeats 4000000 in
theorem c_L_get {l : Launch} {G : mw_GG} (M : mw_M) {d k i : Nat} (hd : d < 2) (hk : k < 12) (hi : i < 4) {u : Nat → Nat} (hu : ∀ c, c < 4 → u c ≤ 100) (hM : M (1200 + (12 * d + k)) = nI (pkN u)) : mw_Met l yL_get wsL_get ({ frames := 0, cells := 0, slots := 0, locals := 0 } : Room) G [.ref (G.1 146), .int (nI d), .int (nI k), .int (nI i)] M (qI (nI (u i) - 1) M) := by
  refine mw_ofV (cc := cL_get) 4 (by decide) rfl rfl (Nat.le_of_ble_eq_true rfl) ?_
  intro p e s m args below meth c C hR hN0
  refine vv_loc (ls2 := [some (.ref (G.1 146)), some (.int (nI d)), some (.int (nI k)), some (.int (nI i))]) rfl ?_
  refine vv_aload_n C 0 dL_get_0 rfl rfl ?_
  refine vv_bipush (v := 12) C dL_get_1 (by decide) ?_
  refine vv_iload_n C 1 dL_get_3 rfl rfl ?_
  refine vv_imul C dL_get_4 ?_
  refine vv_top (y := nI (12 * d)) (pk_mul 12 d) ?_
  refine vv_iload_n C 2 dL_get_5 rfl rfl ?_
  refine vv_iadd C dL_get_6 ?_
  refine vv_top (y := nI (12 * d + k)) (nI_add (12 * d) k) ?_
  refine vv_ald (j := 12 * d + k) (q := 1200 + (12 * d + k)) C sh_146 rfl (by omega) (by omega) dL_get_7 ?_
  refine vv_top (y := nI (pkN u)) (hM) ?_
  refine vv_bipush (v := 7) C dL_get_8 (by decide) ?_
  refine vv_iload_n C 3 dL_get_10 rfl rfl ?_
  refine vv_imul C dL_get_11 ?_
  refine vv_top (y := nI (7 * i)) (pk_mul 7 i) ?_
  refine vv_ishr C dL_get_12 ?_
  refine vv_top (y := nI (pkN u / 2 ^ (7 * i))) (shr7 (pkN_lt hu) hi) ?_
  refine vv_bipush (v := 127) C dL_get_13 (by decide) ?_
  refine vv_iand C dL_get_15 ?_
  refine vv_top (y := nI (u i)) (get_dg hu hi) ?_
  refine vv_iconst (v := 1) C dL_get_16 (by decide) ?_
  refine vv_isub C dL_get_17 ?_
  exact vv_iret C hR dL_get_18 (qI_of rfl rfl)
set_option maxRecDepth 100000 in
set_option maxHeartbeats 4000000 in
theorem c_L_set {l : Launch} {G : mw_GG} (M : mw_M) {d k i : Nat} (hd : d < 2) (hk : k < 12) (hi : i < 4) {u : Nat → Nat} (hu : ∀ c, c < 4 → u c ≤ 100) (hM : M (1200 + (12 * d + k)) = nI (pkN u)) {n : Nat} {x : Int32} (hx : x = nI n - 1) : mw_Met l yL_set wsL_set ({ frames := 1, cells := 0, slots := 0, locals := 23 } : Room) G [.ref (G.1 146), .int (nI d), .int (nI k), .int (nI i), .int x] M (qV (upd M (1200 + (12 * d + k)) (nI (pkN (putN u i n))))) := by
  refine mw_ofV (cc := cL_set) 5 (by decide) rfl rfl (Nat.le_of_ble_eq_true rfl) ?_
  intro p e s m args below meth c C hR hN0
  refine vv_loc (ls2 := [some (.ref (G.1 146)), some (.int (nI d)), some (.int (nI k)), some (.int (nI i)), some (.int x)]) rfl ?_
  refine vv_aload_n C 0 dL_set_0 rfl rfl ?_
  refine vv_bipush (v := 12) C dL_set_1 (by decide) ?_
  refine vv_iload_n C 1 dL_set_3 rfl rfl ?_
  refine vv_imul C dL_set_4 ?_
  refine vv_top (y := nI (12 * d)) (pk_mul 12 d) ?_
  refine vv_iload_n C 2 dL_set_5 rfl rfl ?_
  refine vv_iadd C dL_set_6 ?_
  refine vv_top (y := nI (12 * d + k)) (nI_add (12 * d) k) ?_
  refine vv_dup2 C dL_set_7 rfl rfl ?_
  refine vv_ald (j := 12 * d + k) (q := 1200 + (12 * d + k)) C sh_146 rfl (by omega) (by omega) dL_set_8 ?_
  refine vv_top (y := nI (pkN u)) (hM) ?_
  refine vv_iload C 4 dL_set_9 rfl ?_
  refine vv_aload_n C 0 dL_set_11 rfl rfl ?_
  refine vv_iload_n C 1 dL_set_12 rfl rfl ?_
  refine vv_iload_n C 2 dL_set_13 rfl rfl ?_
  refine vv_iload_n C 3 dL_set_14 rfl rfl ?_
  refine vv_callSI C [.ref (G.1 146), .int (nI d), .int (nI k), .int (nI i)] (c_L_get M (d := d) (k := k) (i := i) (by omega) (by omega) (by omega) (u := u) hu hM) (cwS 4 C.1.2.2.2.2 gL_set_L_get rfl rfl rfl (by decide +kernel) ⟨Nat.le_of_ble_eq_true rfl, Nat.le_of_ble_eq_true rfl⟩) rfl rfl rfl (Nat.le_of_ble_eq_true rfl) dL_set_15 ⟨Nat.le_refl _, Nat.le_refl _⟩ ?_
  refine vv_isub C dL_set_18 ?_
  refine vv_bipush (v := 7) C dL_set_19 (by decide) ?_
  refine vv_iload_n C 3 dL_set_21 rfl rfl ?_
  refine vv_imul C dL_set_22 ?_
  refine vv_top (y := nI (7 * i)) (pk_mul 7 i) ?_
  refine vv_ishl C dL_set_23 ?_
  refine vv_iadd C dL_set_24 ?_
  refine vv_top (y := nI (pkN (putN u i n))) (set_eq hi hx) ?_
  refine vv_ast (j := 12 * d + k) (q := 1200 + (12 * d + k)) C sh_146 rfl (by omega) (by omega) dL_set_25 ?_
  exact vv_vret C hR dL_set_26 (qV_of rfl)
set_option maxRecDepth 100000 in
set_option maxHeartbeats 4000000 in
theorem c_L_asked {l : Launch} {G : mw_GG} (M S : mw_M) (hr : lrel M S) {i : Nat} (hi : i < 8) : mw_Met l yL_asked wsL_asked ({ frames := 0, cells := 0, slots := 0, locals := 0 } : Room) G [.ref (G.1 145), .int (nI i)] M (qI (bI (askP S (nI i))) M) := by
  refine mw_ofV (cc := cL_asked) 2 (by decide) rfl rfl (Nat.le_of_ble_eq_true rfl) ?_
  intro p e s m args below meth c C hR hN0
  refine vv_loc (ls2 := [some (.ref (G.1 145)), some (.int (nI i))]) rfl ?_
  refine vv_iload_n C 1 dL_asked_0 rfl rfl ?_
  refine vv_iconst (v := 4) C dL_asked_1 (by decide) ?_
  refine vv_ncmp_ge C i 4 20 dL_asked_2 (by decide) (by omega) (by decide) (fun h_up => ?_) (fun h_lo => ?_)
  · refine vv_aload_n C 0 dL_asked_20 rfl rfl ?_
    refine vv_iconst (v := 4) C dL_asked_21 (by decide) ?_
    refine vv_ald (j := 4) (q := 1104) C sh_145 rfl (by decide) rfl dL_asked_22 ?_
    refine vv_top (y := S 124) (hr.g4) ?_
    refine vv_iconst (v := 1) C dL_asked_23 (by decide) ?_
    refine vv_icmp_ne C 40 dL_asked_24 (by decide) (fun h_3 => ?_) (fun h_4 => ?_)
    · refine vv_iconst (v := 0) C dL_asked_40 (by decide) ?_
      exact vv_zret0 C hR dL_asked_41 (qI_of ((bI_f (fun z => h_3 ((ask_up h_up hi).mp z).1)).symm) rfl)
    · refine vv_iload_n C 1 dL_asked_27 rfl rfl ?_
      refine vv_iconst (v := 4) C dL_asked_28 (by decide) ?_
      refine vv_isub C dL_asked_29 ?_
      refine vv_top (y := nI (i - 4)) (pk_sub (b := 4) h_up) ?_
      refine vv_aload_n C 0 dL_asked_30 rfl rfl ?_
      refine vv_iconst (v := 1) C dL_asked_31 (by decide) ?_
      refine vv_ald (j := 1) (q := 1101) C sh_145 rfl (by decide) rfl dL_asked_32 ?_
      refine vv_top (y := S 1) (hr.g1) ?_
      refine vv_icmp_ge C 40 dL_asked_33 (by decide) (fun h_5 => ?_) (fun h_6 => ?_)
      · refine vv_iconst (v := 0) C dL_asked_40 (by decide) ?_
        exact vv_zret0 C hR dL_asked_41 (qI_of ((bI_f (fun z => ((ask_up h_up hi).mp z).2 h_5)).symm) rfl)
      · refine vv_iconst (v := 1) C dL_asked_36 (by decide) ?_
        refine vv_goto C 41 dL_asked_37 (by decide) ?_
        exact vv_zret1 C hR dL_asked_41 (qI_of ((bI_t ((ask_up h_up hi).mpr ⟨h_4, h_6⟩)).symm) rfl)
  · refine vv_iload_n C 1 dL_asked_5 rfl rfl ?_
    refine vv_aload_n C 0 dL_asked_6 rfl rfl ?_
    refine vv_iconst (v := 0) C dL_asked_7 (by decide) ?_
    refine vv_ald (j := 0) (q := 1100) C sh_145 rfl (by decide) rfl dL_asked_8 ?_
    refine vv_top (y := S 0) (hr.g0) ?_
    refine vv_icmp_ge C 16 dL_asked_9 (by decide) (fun h_7 => ?_) (fun h_8 => ?_)
    · refine vv_iconst (v := 0) C dL_asked_16 (by decide) ?_
      refine vv_goto C 41 dL_asked_17 (by decide) ?_
      exact vv_zret0 C hR dL_asked_41 (qI_of ((bI_f (fun z => (ask_lo h_lo).mp z h_7)).symm) rfl)
    · refine vv_iconst (v := 1) C dL_asked_12 (by decide) ?_
      refine vv_goto C 41 dL_asked_13 (by decide) ?_
      exact vv_zret1 C hR dL_asked_41 (qI_of ((bI_t ((ask_lo h_lo).mpr h_8)).symm) rfl)
set_option maxRecDepth 100000 in
set_option maxHeartbeats 4000000 in
theorem c_L_of {l : Launch} {G : mw_GG} (M S : mw_M) (hr : lrel M S) {i f g : Nat} (hi : i < 8) (hcd : cdP S i f g) : mw_Met l yL_of wsL_of ({ frames := 1, cells := 0, slots := 0, locals := 23 } : Room) G [.ref (G.1 146), .int (nI f), .int (nI g), .int (nI i)] M (qI (vS S i f g) M) := by
  refine mw_ofV (cc := cL_of) 4 (by decide) rfl rfl (Nat.le_of_ble_eq_true rfl) ?_
  intro p e s m args below meth c C hR hN0
  refine vv_loc (ls2 := [some (.ref (G.1 146)), some (.int (nI f)), some (.int (nI g)), some (.int (nI i))]) rfl ?_
  refine vv_iload_n C 3 dL_of_0 rfl rfl ?_
  refine vv_iconst (v := 4) C dL_of_1 (by decide) ?_
  refine vv_ncmp_ge C i 4 15 dL_of_2 (by decide) (by omega) (by decide) (fun h_up => ?_) (fun h_lo => ?_)
  · obtain ⟨hf, hf2⟩ := hcd.2 h_up
    obtain ⟨u, hu, hS, hM⟩ := hr.2.1 1 g (by omega) hf hf2
    refine vv_aload_n C 0 dL_of_15 rfl rfl ?_
    refine vv_iconst (v := 1) C dL_of_16 (by decide) ?_
    refine vv_iload_n C 2 dL_of_17 rfl rfl ?_
    refine vv_iload_n C 3 dL_of_18 rfl rfl ?_
    refine vv_iconst (v := 4) C dL_of_19 (by decide) ?_
    refine vv_isub C dL_of_20 ?_
    refine vv_top (y := nI (i - 4)) (pk_sub (b := 4) h_up) ?_
    refine vv_callSI C [.ref (G.1 146), .int 1, .int (nI g), .int (nI (i - 4))] (c_L_get M (d := 1) (k := g) (i := i - 4) (by omega) (by omega) (by omega) (u := u) hu hM) (cwS 4 C.1.2.2.2.2 gL_of_L_get rfl rfl rfl (by decide +kernel) ⟨Nat.le_of_ble_eq_true rfl, Nat.le_of_ble_eq_true rfl⟩) rfl rfl rfl (Nat.le_of_ble_eq_true rfl) dL_of_21 ⟨Nat.le_refl _, Nat.le_refl _⟩ ?_
    exact vv_iret C hR dL_of_24 (qI_of ((hS (i - 4) (by omega)).symm.trans (vS_up h_up hi).symm) rfl)
  · obtain ⟨hf, hf2⟩ := hcd.1 h_lo
    obtain ⟨u, hu, hS, hM⟩ := hr.2.1 0 f (by omega) hf hf2
    refine vv_aload_n C 0 dL_of_5 rfl rfl ?_
    refine vv_iconst (v := 0) C dL_of_6 (by decide) ?_
    refine vv_iload_n C 1 dL_of_7 rfl rfl ?_
    refine vv_iload_n C 3 dL_of_8 rfl rfl ?_
    refine vv_callSI C [.ref (G.1 146), .int 0, .int (nI f), .int (nI i)] (c_L_get M (d := 0) (k := f) (i := i) (by omega) (by omega) (by omega) (u := u) hu hM) (cwS 4 C.1.2.2.2.2 gL_of_L_get rfl rfl rfl (by decide +kernel) ⟨Nat.le_of_ble_eq_true rfl, Nat.le_of_ble_eq_true rfl⟩) rfl rfl rfl (Nat.le_of_ble_eq_true rfl) dL_of_9 ⟨Nat.le_refl _, Nat.le_refl _⟩ ?_
    refine vv_goto C 24 dL_of_12 (by decide) ?_
    exact vv_iret C hR dL_of_24 (qI_of ((hS i h_lo).symm.trans (vS_lo h_lo).symm) rfl)
set_option maxRecDepth 100000 in
set_option maxHeartbeats 4000000 in
theorem c_L_plain {l : Launch} {G : mw_GG} (M : mw_M) (k a b x : Int32) (hx : vlP x) : mw_Met l yL_plain wsL_plain ({ frames := 0, cells := 0, slots := 0, locals := 0 } : Room) G [.int k, .int a, .int b, .int x] M (qI (bI (tkB k a b x = true)) M) := by
  refine mw_ofV (cc := cL_plain) 5 (by decide) rfl rfl (Nat.le_of_ble_eq_true rfl) ?_
  intro p e s m args below meth c C hR hN0
  refine vv_loc (ls2 := [some (.int k), some (.int a), some (.int b), some (.int x), none]) rfl ?_
  have hm1 : x < 0 ↔ x = -1 := vl_neg hx
  have hm2 : 0 ≤ x ↔ ¬ x = -1 := by rw [← hm1, Int32.not_lt]
  refine vv_iload_n C 0 dL_plain_0 rfl rfl ?_
  refine vv_if_eq C 13 dL_plain_1 (by decide) (fun hk0 => ?_) (fun hn0 => ?_)
  · refine vv_iconst (v := 1) C dL_plain_13 (by decide) ?_
    refine vv_goto C 18 dL_plain_14 (by decide) ?_
    refine vv_istore (ls2 := [some (.int k), some (.int a), some (.int b), some (.int x), some (.int 1)]) C 4 dL_plain_18 (Nat.le_of_ble_eq_true rfl) rfl ?_
    refine vv_iload C 4 dL_plain_20 rfl ?_
    refine vv_nif_ne C 1 97 dL_plain_22 (by decide) (by decide) (fun h_4 => ?_) (fun h_3 => absurd h_3 (by decide))
    refine vv_iconst (v := 1) C dL_plain_97 (by decide) ?_
    refine vv_goto C 102 dL_plain_98 (by decide) ?_
    exact vv_zret1 C hR dL_plain_102 (qI_of (by first | (simp [bI, tkB, hk0, h_4]; done) | (simp [bI, tkB, ← Int32.not_le, ← Int32.not_lt, hk0, h_4]; done) | (simp_all [bI, tkB]; done)) rfl)
  · refine vv_iload_n C 0 dL_plain_4 rfl rfl ?_
    refine vv_iconst (v := 1) C dL_plain_5 (by decide) ?_
    refine vv_icmp_ne C 17 dL_plain_6 (by decide) (fun hn1 => ?_) (fun hk1 => ?_)
    · refine vv_iconst (v := 0) C dL_plain_17 (by decide) ?_
      refine vv_istore (ls2 := [some (.int k), some (.int a), some (.int b), some (.int x), some (.int 0)]) C 4 dL_plain_18 (Nat.le_of_ble_eq_true rfl) rfl ?_
      refine vv_iload C 4 dL_plain_20 rfl ?_
      refine vv_nif_ne C 0 97 dL_plain_22 (by decide) (by decide) (fun h_7 => absurd h_7 (by decide)) (fun h_8 => ?_)
      refine vv_iload_n C 3 dL_plain_25 rfl rfl ?_
      refine vv_if_lt C 101 dL_plain_26 (by decide) (fun h_neg => ?_) (fun h_nneg => ?_)
      · refine vv_iconst (v := 0) C dL_plain_101 (by decide) ?_
        exact vv_zret0 C hR dL_plain_102 (qI_of (by first | (simp [bI, tkB, hn0, hn1, h_8, h_neg, hm1.mp h_neg]; done) | (simp [bI, tkB, ← Int32.not_le, ← Int32.not_lt, hn0, hn1, h_8, h_neg, hm1.mp h_neg]; done) | (simp_all [bI, tkB]; done)) rfl)
      · refine vv_iload_n C 0 dL_plain_29 rfl rfl ?_
        refine vv_iconst (v := 2) C dL_plain_30 (by decide) ?_
        refine vv_icmp_eq C 97 dL_plain_31 (by decide) (fun hk2 => ?_) (fun hn2 => ?_)
        · refine vv_iconst (v := 1) C dL_plain_97 (by decide) ?_
          refine vv_goto C 102 dL_plain_98 (by decide) ?_
          exact vv_zret1 C hR dL_plain_102 (qI_of (by first | (simp [bI, tkB, hn0, hn1, h_8, h_nneg, hk2, fun z => h_nneg (hm1.mpr z)]; done) | (simp [bI, tkB, ← Int32.not_le, ← Int32.not_lt, hn0, hn1, h_8, h_nneg, hk2, fun z => h_nneg (hm1.mpr z)]; done) | (simp_all [bI, tkB]; done)) rfl)
        · refine vv_iload_n C 0 dL_plain_34 rfl rfl ?_
          refine vv_bipush (v := 8) C dL_plain_35 (by decide) ?_
          refine vv_icmp_eq C 97 dL_plain_37 (by decide) (fun hk8 => ?_) (fun hn8 => ?_)
          · refine vv_iconst (v := 1) C dL_plain_97 (by decide) ?_
            refine vv_goto C 102 dL_plain_98 (by decide) ?_
            exact vv_zret1 C hR dL_plain_102 (qI_of (by first | (simp [bI, tkB, hn0, hn1, h_8, h_nneg, hn2, hk8, fun z => h_nneg (hm1.mpr z)]; done) | (simp [bI, tkB, ← Int32.not_le, ← Int32.not_lt, hn0, hn1, h_8, h_nneg, hn2, hk8, fun z => h_nneg (hm1.mpr z)]; done) | (simp_all [bI, tkB]; done)) rfl)
          · refine vv_iload_n C 0 dL_plain_40 rfl rfl ?_
            refine vv_iconst (v := 3) C dL_plain_41 (by decide) ?_
            refine vv_icmp_ne C 50 dL_plain_42 (by decide) (fun hn3 => ?_) (fun hk3 => ?_)
            · refine vv_iload_n C 0 dL_plain_50 rfl rfl ?_
              refine vv_iconst (v := 4) C dL_plain_51 (by decide) ?_
              refine vv_icmp_ne C 60 dL_plain_52 (by decide) (fun hn4 => ?_) (fun hk4 => ?_)
              · refine vv_iload_n C 0 dL_plain_60 rfl rfl ?_
                refine vv_iconst (v := 5) C dL_plain_61 (by decide) ?_
                refine vv_icmp_ne C 70 dL_plain_62 (by decide) (fun hn5 => ?_) (fun hk5 => ?_)
                · refine vv_iload_n C 0 dL_plain_70 rfl rfl ?_
                  refine vv_bipush (v := 6) C dL_plain_71 (by decide) ?_
                  refine vv_icmp_ne C 81 dL_plain_73 (by decide) (fun hn6 => ?_) (fun hk6 => ?_)
                  · refine vv_iload_n C 0 dL_plain_81 rfl rfl ?_
                    refine vv_bipush (v := 7) C dL_plain_82 (by decide) ?_
                    refine vv_icmp_ne C 101 dL_plain_84 (by decide) (fun hn7 => ?_) (fun hk7 => ?_)
                    · refine vv_iconst (v := 0) C dL_plain_101 (by decide) ?_
                      exact vv_zret0 C hR dL_plain_102 (qI_of (by first | (simp [bI, tkB, hn0, hn1, h_8, h_nneg, hn2, hn8, hn3, hn4, hn5, hn6, hn7, fun z => h_nneg (hm1.mpr z)]; done) | (simp [bI, tkB, ← Int32.not_le, ← Int32.not_lt, hn0, hn1, h_8, h_nneg, hn2, hn8, hn3, hn4, hn5, hn6, hn7, fun z => h_nneg (hm1.mpr z)]; done) | (simp_all [bI, tkB]; done)) rfl)
                    · refine vv_iload_n C 3 dL_plain_87 rfl rfl ?_
                      refine vv_iload_n C 1 dL_plain_88 rfl rfl ?_
                      refine vv_icmp_lt C 101 dL_plain_89 (by decide) (fun h_25 => ?_) (fun h_26 => ?_)
                      · refine vv_iconst (v := 0) C dL_plain_101 (by decide) ?_
                        exact vv_zret0 C hR dL_plain_102 (qI_of (by first | (simp [bI, tkB, hn0, hn1, h_8, h_nneg, hn2, hn8, hn3, hn4, hn5, hn6, hk7, h_25, fun z => h_nneg (hm1.mpr z)]; done) | (simp [bI, tkB, ← Int32.not_le, ← Int32.not_lt, hn0, hn1, h_8, h_nneg, hn2, hn8, hn3, hn4, hn5, hn6, hk7, h_25, fun z => h_nneg (hm1.mpr z)]; done) | (simp_all [bI, tkB]; done)) rfl)
                      · refine vv_iload_n C 3 dL_plain_92 rfl rfl ?_
                        refine vv_iload_n C 2 dL_plain_93 rfl rfl ?_
                        refine vv_icmp_gt C 101 dL_plain_94 (by decide) (fun h_27 => ?_) (fun h_28 => ?_)
                        · refine vv_iconst (v := 0) C dL_plain_101 (by decide) ?_
                          exact vv_zret0 C hR dL_plain_102 (qI_of (by first | (simp [bI, tkB, hn0, hn1, h_8, h_nneg, hn2, hn8, hn3, hn4, hn5, hn6, hk7, h_26, h_27, fun z => h_nneg (hm1.mpr z)]; done) | (simp [bI, tkB, ← Int32.not_le, ← Int32.not_lt, hn0, hn1, h_8, h_nneg, hn2, hn8, hn3, hn4, hn5, hn6, hk7, h_26, h_27, fun z => h_nneg (hm1.mpr z)]; done) | (simp_all [bI, tkB]; done)) rfl)
                        · refine vv_iconst (v := 1) C dL_plain_97 (by decide) ?_
                          refine vv_goto C 102 dL_plain_98 (by decide) ?_
                          exact vv_zret1 C hR dL_plain_102 (qI_of (by first | (simp [bI, tkB, hn0, hn1, h_8, h_nneg, hn2, hn8, hn3, hn4, hn5, hn6, hk7, h_26, h_28, fun z => h_nneg (hm1.mpr z)]; done) | (simp [bI, tkB, ← Int32.not_le, ← Int32.not_lt, hn0, hn1, h_8, h_nneg, hn2, hn8, hn3, hn4, hn5, hn6, hk7, h_26, h_28, fun z => h_nneg (hm1.mpr z)]; done) | (simp_all [bI, tkB]; done)) rfl)
                  · refine vv_iload_n C 3 dL_plain_76 rfl rfl ?_
                    refine vv_iload_n C 1 dL_plain_77 rfl rfl ?_
                    refine vv_icmp_gt C 97 dL_plain_78 (by decide) (fun h_29 => ?_) (fun h_30 => ?_)
                    · refine vv_iconst (v := 1) C dL_plain_97 (by decide) ?_
                      refine vv_goto C 102 dL_plain_98 (by decide) ?_
                      exact vv_zret1 C hR dL_plain_102 (qI_of (by first | (simp [bI, tkB, hn0, hn1, h_8, h_nneg, hn2, hn8, hn3, hn4, hn5, hk6, h_29, fun z => h_nneg (hm1.mpr z)]; done) | (simp [bI, tkB, ← Int32.not_le, ← Int32.not_lt, hn0, hn1, h_8, h_nneg, hn2, hn8, hn3, hn4, hn5, hk6, h_29, fun z => h_nneg (hm1.mpr z)]; done) | (simp_all [bI, tkB]; done)) rfl)
                    · refine vv_iload_n C 0 dL_plain_81 rfl rfl ?_
                      refine vv_bipush (v := 7) C dL_plain_82 (by decide) ?_
                      refine vv_icmp_ne C 101 dL_plain_84 (by decide) (fun h_32 => ?_) (fun h_31 => absurd (hk6.symm.trans h_31) (by decide))
                      refine vv_iconst (v := 0) C dL_plain_101 (by decide) ?_
                      exact vv_zret0 C hR dL_plain_102 (qI_of (by first | (simp [bI, tkB, hn0, hn1, h_8, h_nneg, hn2, hn8, hn3, hn4, hn5, hk6, h_30, h_32, fun z => h_nneg (hm1.mpr z)]; done) | (simp [bI, tkB, ← Int32.not_le, ← Int32.not_lt, hn0, hn1, h_8, h_nneg, hn2, hn8, hn3, hn4, hn5, hk6, h_30, h_32, fun z => h_nneg (hm1.mpr z)]; done) | (simp_all [bI, tkB]; done)) rfl)
                · refine vv_iload_n C 3 dL_plain_65 rfl rfl ?_
                  refine vv_iload_n C 1 dL_plain_66 rfl rfl ?_
                  refine vv_icmp_lt C 97 dL_plain_67 (by decide) (fun h_33 => ?_) (fun h_34 => ?_)
                  · refine vv_iconst (v := 1) C dL_plain_97 (by decide) ?_
                    refine vv_goto C 102 dL_plain_98 (by decide) ?_
                    exact vv_zret1 C hR dL_plain_102 (qI_of (by first | (simp [bI, tkB, hn0, hn1, h_8, h_nneg, hn2, hn8, hn3, hn4, hk5, h_33, fun z => h_nneg (hm1.mpr z)]; done) | (simp [bI, tkB, ← Int32.not_le, ← Int32.not_lt, hn0, hn1, h_8, h_nneg, hn2, hn8, hn3, hn4, hk5, h_33, fun z => h_nneg (hm1.mpr z)]; done) | (simp_all [bI, tkB]; done)) rfl)
                  · refine vv_iload_n C 0 dL_plain_70 rfl rfl ?_
                    refine vv_bipush (v := 6) C dL_plain_71 (by decide) ?_
                    refine vv_icmp_ne C 81 dL_plain_73 (by decide) (fun h_36 => ?_) (fun h_35 => absurd (hk5.symm.trans h_35) (by decide))
                    refine vv_iload_n C 0 dL_plain_81 rfl rfl ?_
                    refine vv_bipush (v := 7) C dL_plain_82 (by decide) ?_
                    refine vv_icmp_ne C 101 dL_plain_84 (by decide) (fun h_38 => ?_) (fun h_37 => absurd (hk5.symm.trans h_37) (by decide))
                    refine vv_iconst (v := 0) C dL_plain_101 (by decide) ?_
                    exact vv_zret0 C hR dL_plain_102 (qI_of (by first | (simp [bI, tkB, hn0, hn1, h_8, h_nneg, hn2, hn8, hn3, hn4, hk5, h_34, h_36, h_38, fun z => h_nneg (hm1.mpr z)]; done) | (simp [bI, tkB, ← Int32.not_le, ← Int32.not_lt, hn0, hn1, h_8, h_nneg, hn2, hn8, hn3, hn4, hk5, h_34, h_36, h_38, fun z => h_nneg (hm1.mpr z)]; done) | (simp_all [bI, tkB]; done)) rfl)
              · refine vv_iload_n C 3 dL_plain_55 rfl rfl ?_
                refine vv_iload_n C 1 dL_plain_56 rfl rfl ?_
                refine vv_icmp_ne C 97 dL_plain_57 (by decide) (fun h_39 => ?_) (fun h_40 => ?_)
                · refine vv_iconst (v := 1) C dL_plain_97 (by decide) ?_
                  refine vv_goto C 102 dL_plain_98 (by decide) ?_
                  exact vv_zret1 C hR dL_plain_102 (qI_of (by first | (simp [bI, tkB, hn0, hn1, h_8, h_nneg, hn2, hn8, hn3, hk4, h_39, fun z => h_nneg (hm1.mpr z)]; done) | (simp [bI, tkB, ← Int32.not_le, ← Int32.not_lt, hn0, hn1, h_8, h_nneg, hn2, hn8, hn3, hk4, h_39, fun z => h_nneg (hm1.mpr z)]; done) | (simp_all [bI, tkB]; done)) rfl)
                · refine vv_iload_n C 0 dL_plain_60 rfl rfl ?_
                  refine vv_iconst (v := 5) C dL_plain_61 (by decide) ?_
                  refine vv_icmp_ne C 70 dL_plain_62 (by decide) (fun h_42 => ?_) (fun h_41 => absurd (hk4.symm.trans h_41) (by decide))
                  refine vv_iload_n C 0 dL_plain_70 rfl rfl ?_
                  refine vv_bipush (v := 6) C dL_plain_71 (by decide) ?_
                  refine vv_icmp_ne C 81 dL_plain_73 (by decide) (fun h_44 => ?_) (fun h_43 => absurd (hk4.symm.trans h_43) (by decide))
                  refine vv_iload_n C 0 dL_plain_81 rfl rfl ?_
                  refine vv_bipush (v := 7) C dL_plain_82 (by decide) ?_
                  refine vv_icmp_ne C 101 dL_plain_84 (by decide) (fun h_46 => ?_) (fun h_45 => absurd (hk4.symm.trans h_45) (by decide))
                  refine vv_iconst (v := 0) C dL_plain_101 (by decide) ?_
                  exact vv_zret0 C hR dL_plain_102 (qI_of (by first | (simp [bI, tkB, hn0, hn1, h_8, h_nneg, hn2, hn8, hn3, hk4, h_40, h_42, h_44, h_46, fun z => h_nneg (hm1.mpr z)]; done) | (simp [bI, tkB, ← Int32.not_le, ← Int32.not_lt, hn0, hn1, h_8, h_nneg, hn2, hn8, hn3, hk4, h_40, h_42, h_44, h_46, fun z => h_nneg (hm1.mpr z)]; done) | (simp_all [bI, tkB]; done)) rfl)
            · refine vv_iload_n C 3 dL_plain_45 rfl rfl ?_
              refine vv_iload_n C 1 dL_plain_46 rfl rfl ?_
              refine vv_icmp_eq C 97 dL_plain_47 (by decide) (fun h_47 => ?_) (fun h_48 => ?_)
              · refine vv_iconst (v := 1) C dL_plain_97 (by decide) ?_
                refine vv_goto C 102 dL_plain_98 (by decide) ?_
                exact vv_zret1 C hR dL_plain_102 (qI_of (by first | (simp [bI, tkB, hn0, hn1, h_8, h_nneg, hn2, hn8, hk3, h_47, fun z => h_nneg (hm1.mpr z)]; done) | (simp [bI, tkB, ← Int32.not_le, ← Int32.not_lt, hn0, hn1, h_8, h_nneg, hn2, hn8, hk3, h_47, fun z => h_nneg (hm1.mpr z)]; done) | (simp_all [bI, tkB]; done)) rfl)
              · refine vv_iload_n C 0 dL_plain_50 rfl rfl ?_
                refine vv_iconst (v := 4) C dL_plain_51 (by decide) ?_
                refine vv_icmp_ne C 60 dL_plain_52 (by decide) (fun h_50 => ?_) (fun h_49 => absurd (hk3.symm.trans h_49) (by decide))
                refine vv_iload_n C 0 dL_plain_60 rfl rfl ?_
                refine vv_iconst (v := 5) C dL_plain_61 (by decide) ?_
                refine vv_icmp_ne C 70 dL_plain_62 (by decide) (fun h_52 => ?_) (fun h_51 => absurd (hk3.symm.trans h_51) (by decide))
                refine vv_iload_n C 0 dL_plain_70 rfl rfl ?_
                refine vv_bipush (v := 6) C dL_plain_71 (by decide) ?_
                refine vv_icmp_ne C 81 dL_plain_73 (by decide) (fun h_54 => ?_) (fun h_53 => absurd (hk3.symm.trans h_53) (by decide))
                refine vv_iload_n C 0 dL_plain_81 rfl rfl ?_
                refine vv_bipush (v := 7) C dL_plain_82 (by decide) ?_
                refine vv_icmp_ne C 101 dL_plain_84 (by decide) (fun h_56 => ?_) (fun h_55 => absurd (hk3.symm.trans h_55) (by decide))
                refine vv_iconst (v := 0) C dL_plain_101 (by decide) ?_
                exact vv_zret0 C hR dL_plain_102 (qI_of (by first | (simp [bI, tkB, hn0, hn1, h_8, h_nneg, hn2, hn8, hk3, h_48, h_50, h_52, h_54, h_56, fun z => h_nneg (hm1.mpr z)]; done) | (simp [bI, tkB, ← Int32.not_le, ← Int32.not_lt, hn0, hn1, h_8, h_nneg, hn2, hn8, hk3, h_48, h_50, h_52, h_54, h_56, fun z => h_nneg (hm1.mpr z)]; done) | (simp_all [bI, tkB]; done)) rfl)
    · refine vv_iload_n C 3 dL_plain_9 rfl rfl ?_
      refine vv_if_ge C 17 dL_plain_10 (by decide) (fun h_ge => ?_) (fun h_lt => ?_)
      · refine vv_iconst (v := 0) C dL_plain_17 (by decide) ?_
        refine vv_istore (ls2 := [some (.int k), some (.int a), some (.int b), some (.int x), some (.int 0)]) C 4 dL_plain_18 (Nat.le_of_ble_eq_true rfl) rfl ?_
        refine vv_iload C 4 dL_plain_20 rfl ?_
        refine vv_nif_ne C 0 97 dL_plain_22 (by decide) (by decide) (fun h_59 => absurd h_59 (by decide)) (fun h_60 => ?_)
        refine vv_iload_n C 3 dL_plain_25 rfl rfl ?_
        refine vv_if_lt C 101 dL_plain_26 (by decide) (fun h_neg => ?_) (fun h_nneg => ?_)
        · refine vv_iconst (v := 0) C dL_plain_101 (by decide) ?_
          exact vv_zret0 C hR dL_plain_102 (qI_of (by first | (simp [bI, tkB, hn0, hk1, h_ge, h_60, h_neg, hm1.mp h_neg, hm2.mp h_ge]; done) | (simp [bI, tkB, ← Int32.not_le, ← Int32.not_lt, hn0, hk1, h_ge, h_60, h_neg, hm1.mp h_neg, hm2.mp h_ge]; done) | (simp_all [bI, tkB]; done)) rfl)
        · refine vv_iload_n C 0 dL_plain_29 rfl rfl ?_
          refine vv_iconst (v := 2) C dL_plain_30 (by decide) ?_
          refine vv_icmp_eq C 97 dL_plain_31 (by decide) (fun h_63 => absurd (hk1.symm.trans h_63) (by decide)) (fun h_64 => ?_)
          refine vv_iload_n C 0 dL_plain_34 rfl rfl ?_
          refine vv_bipush (v := 8) C dL_plain_35 (by decide) ?_
          refine vv_icmp_eq C 97 dL_plain_37 (by decide) (fun h_65 => absurd (hk1.symm.trans h_65) (by decide)) (fun h_66 => ?_)
          refine vv_iload_n C 0 dL_plain_40 rfl rfl ?_
          refine vv_iconst (v := 3) C dL_plain_41 (by decide) ?_
          refine vv_icmp_ne C 50 dL_plain_42 (by decide) (fun h_68 => ?_) (fun h_67 => absurd (hk1.symm.trans h_67) (by decide))
          refine vv_iload_n C 0 dL_plain_50 rfl rfl ?_
          refine vv_iconst (v := 4) C dL_plain_51 (by decide) ?_
          refine vv_icmp_ne C 60 dL_plain_52 (by decide) (fun h_70 => ?_) (fun h_69 => absurd (hk1.symm.trans h_69) (by decide))
          refine vv_iload_n C 0 dL_plain_60 rfl rfl ?_
          refine vv_iconst (v := 5) C dL_plain_61 (by decide) ?_
          refine vv_icmp_ne C 70 dL_plain_62 (by decide) (fun h_72 => ?_) (fun h_71 => absurd (hk1.symm.trans h_71) (by decide))
          refine vv_iload_n C 0 dL_plain_70 rfl rfl ?_
          refine vv_bipush (v := 6) C dL_plain_71 (by decide) ?_
          refine vv_icmp_ne C 81 dL_plain_73 (by decide) (fun h_74 => ?_) (fun h_73 => absurd (hk1.symm.trans h_73) (by decide))
          refine vv_iload_n C 0 dL_plain_81 rfl rfl ?_
          refine vv_bipush (v := 7) C dL_plain_82 (by decide) ?_
          refine vv_icmp_ne C 101 dL_plain_84 (by decide) (fun h_76 => ?_) (fun h_75 => absurd (hk1.symm.trans h_75) (by decide))
          refine vv_iconst (v := 0) C dL_plain_101 (by decide) ?_
          exact vv_zret0 C hR dL_plain_102 (qI_of (by first | (simp [bI, tkB, hn0, hk1, h_ge, h_60, h_nneg, h_64, h_66, h_68, h_70, h_72, h_74, h_76, fun z => h_nneg (hm1.mpr z), hm2.mp h_ge]; done) | (simp [bI, tkB, ← Int32.not_le, ← Int32.not_lt, hn0, hk1, h_ge, h_60, h_nneg, h_64, h_66, h_68, h_70, h_72, h_74, h_76, fun z => h_nneg (hm1.mpr z), hm2.mp h_ge]; done) | (simp_all [bI, tkB]; done)) rfl)
      · refine vv_iconst (v := 1) C dL_plain_13 (by decide) ?_
        refine vv_goto C 18 dL_plain_14 (by decide) ?_
        refine vv_istore (ls2 := [some (.int k), some (.int a), some (.int b), some (.int x), some (.int 1)]) C 4 dL_plain_18 (Nat.le_of_ble_eq_true rfl) rfl ?_
        refine vv_iload C 4 dL_plain_20 rfl ?_
        refine vv_nif_ne C 1 97 dL_plain_22 (by decide) (by decide) (fun h_78 => ?_) (fun h_77 => absurd h_77 (by decide))
        refine vv_iconst (v := 1) C dL_plain_97 (by decide) ?_
        refine vv_goto C 102 dL_plain_98 (by decide) ?_
        exact vv_zret1 C hR dL_plain_102 (qI_of (by first | (simp [bI, tkB, hn0, hk1, h_lt, h_78, Classical.not_not.mp (fun z => h_lt (hm2.mpr z))]; done) | (simp [bI, tkB, ← Int32.not_le, ← Int32.not_lt, hn0, hk1, h_lt, h_78, Classical.not_not.mp (fun z => h_lt (hm2.mpr z))]; done) | (simp_all [bI, tkB]; done)) rfl)
