def vlS (S : mw_M) (c : Nat) (L : List Nat) (i : Nat) : Int32 := vS S c (L.getD i 0 / 12) (L.getD i 0 % 12)
def kyS (S : mw_M) (L : List Nat) (i : Nat) : Int32 := nI (keyS S (L.getD i 0))
def cdS (d : Nat) (L : List Nat) (i : Nat) : Int32 := nI (if d = 0 then L.getD i 0 / 12 else L.getD i 0 % 12)
theorem faS_lt {S : mw_M} {d k : Nat} (h : k < 12) : faS S d k < 12 := by
  have := fsN_le (fun j => alkS S d j k) k
  unfold faS
  omega
theorem keyS_lt {S : mw_M} {r : Nat} (h : r < 144) : keyS S r < 144 := by
  have h1 := faS_lt (S := S) (d := 0) (k := r / 12) (by omega)
  have h2 := faS_lt (S := S) (d := 1) (k := r % 12) (by omega)
  unfold keyS
  omega
theorem nI_ne_m1 {n : Nat} (h : n < 1000) : ¬ nI n = -1 := by
  intro e
  have := congrArg Int32.toInt e
  rw [nI_toInt (by omega)] at this
  exact absurd this (by simp)
theorem mrk_start {M M1 : mw_M} {f : Nat → Int32} (h : r_Put M M1 144 850 1 (fun _ => 0)) : mrkI M1 f 0 := by
  intro w hw
  have := h.1 w hw
  rw [Nat.one_mul] at this
  rw [this]
  rfl
/-- all but the scratch of a finding and the marks stays -/
def scR (q : Nat) : Prop := scF q ∨ (850 ≤ q ∧ q < 994)
def runI (M M1 : mw_M) (L : List Nat) : Prop := (∀ q, ¬ scR q → M1 q = M q) ∧ M1 651 = nI L.length ∧ ∀ i, i < L.length → M1 (700 + i) = nI (L.getD i 0)
theorem runI.eq {M M1 : mw_M} {L : List Nat} (h : runI M M1 L) : eqS M M1 := fun q hq => h.1 q (by unfold scR scF; omega)
theorem runI.upd {M M1 : mw_M} {L : List Nat} (h : runI M M1 L) {w : Nat} {x : Int32} (hw : w < 144) (hL : L.length ≤ 144) : runI M (upd M1 (850 + w) x) L := by
  refine ⟨fun q hq => ?_, ?_, fun i hi => ?_⟩
  · have := hq
    unfold scR at this
    rw [upd_o (by omega)]
    exact h.1 q hq
  · rw [upd_o (by omega)]
    exact h.2.1
  · rw [upd_o (by omega)]
    exact h.2.2 i hi
theorem runI.of {M M1 M2 : mw_M} {lo : Nat} {L : List Nat} (h : fndI M M1 lo L) (hL : L.length ≤ 144) (h2 : r_Put M1 M2 144 850 1 (fun _ => 0)) : runI M M2 L := by
  refine ⟨fun q hq => ?_, ?_, fun i hi => ?_⟩
  · unfold scR at hq
    rw [h2.2 q (fun i hi => by omega)]
    exact h.1 q (fun z => hq (Or.inl z))
  · rw [h2.2 651 (fun i hi => by omega)]
    exact h.2.2.1
  · rw [h2.2 (700 + i) (fun j hj => by omega)]
    exact h.2.2.2 i hi
theorem runI.of0 {M M1 : mw_M} {lo : Nat} {L : List Nat} (h : fndI M M1 lo L) : runI M M1 L := ⟨fun q hq => h.1 q (fun z => hq (Or.inl z)), h.2.2.1, h.2.2.2⟩
theorem svC_t {f : Nat → Int32} {n : Nat} (h : ¬ f n = -1) : svC f (n + 1) = svC f n + 1 := cntB_t (by simp [h])
theorem svC_f {f : Nat → Int32} {n : Nat} (h : f n = -1) : svC f (n + 1) = svC f n := cntB_f (by simp [h])
theorem dcF_add {f : Nat → Int32} {M1 : mw_M} {n w : Nat} (h : mrkI M1 f n) (hw : w < 144) (hf : f n = nI w) : nI (dcF f n) + (if M1 (850 + w) = 0 then 1 else 0) = nI (dcF f (n + 1)) := by
  have e : dcF f (n + 1) = dcF f n + (if noneB f (f n) n then 1 else 0) := by
    show (if f n = -1 then _ else _) = _
    rw [if_neg (by rw [hf]; exact nI_ne_m1 (by omega))]
  rw [e, h w hw, hf]
  by_cases z : noneB f (nI w) n = true
  · rw [if_pos z, if_pos z, if_pos rfl]
    exact nI_1 _
  · rw [if_neg z, if_neg z, if_neg (by decide)]
    exact Int32.add_zero _
def totS (f : Nat → Int32) (n : Nat) (x : Int32) : Int32 := if x = 0 then nI (svC f n) else if x = 1 then svS f n else if x = 2 then svL f n else if x = 3 then svG f n else nI (dcF f n)

theorem eqS.shw {S S2 : mw_M} (h : eqS S S2) {x : Int32} : shwP S2 x ↔ shwP S x := by
  have h9 : S2 129 = S 129 := h 129 (by omega)
  constructor
  · intro z
    exact ⟨h.ask.mp z.1, by rw [← h9]; exact z.2⟩
  · intro z
    exact ⟨h.ask.mpr z.1, by rw [h9]; exact z.2⟩
theorem alB_c {p q : Nat → Bool} : ∀ n, (∀ c, c < n → p c = q c) → alB p n = alB q n
  | 0, _ => rfl
  | n + 1, h => by
    unfold alB
    rw [alB_c n (fun c hc => h c (by omega)), h n (by omega)]
theorem fsN_c {p q : Nat → Bool} : ∀ n, (∀ c, c < n → p c = q c) → fsN p n = fsN q n
  | 0, _ => rfl
  | n + 1, h => by
    unfold fsN
    rw [fsN_c n (fun c hc => h c (by omega)), h n (by omega)]
theorem eqS.alkc {S S2 : mw_M} (h : eqS S S2) {d j k c : Nat} (hd : d < 2) (hj : j < 12) (hk : k < 12) (hc : c < 4) : alkC S2 d j k c = alkC S d j k c := by
  have e1 : decide (entI S2 d (nI j) (nI c) = entI S2 d (nI k) (nI c)) = decide (entI S d (nI j) (nI c) = entI S d (nI k) (nI c)) := by rw [h.ent hd hj hc, h.ent hd hk hc]
  have e2 : decide (¬ shwP S2 (nI (4 * d + c))) = decide (¬ shwP S (nI (4 * d + c))) := decide_eq_decide.mpr (not_congr h.shw)
  unfold alkC
  rw [e1, e2]
theorem eqS.alk {S S2 : mw_M} (h : eqS S S2) {d j k : Nat} (hd : d < 2) (hj : j < 12) (hk : k < 12) : alkS S2 d j k = alkS S d j k := alB_c 4 (fun c hc => h.alkc hd hj hk hc)
theorem eqS.fa {S S2 : mw_M} (h : eqS S S2) {d k : Nat} (hd : d < 2) (hk : k < 12) : faS S2 d k = faS S d k := fsN_c k (fun j hj => h.alk hd (by omega) hk)
theorem eqS.key {S S2 : mw_M} (h : eqS S S2) {r : Nat} (hr : r < 144) : keyS S2 r = keyS S r := by
  unfold keyS
  rw [h.fa (d := 0) (by omega) (by omega), h.fa (d := 1) (by omega) (by omega)]
theorem iX5_countUnlike_X5 : ∀ w ∈ u_ws RX5 TX5 6, w ∈ wsX5_countUnlike := fun w hw => (List.mem_cons_of_mem _ (List.mem_append_left _ (List.mem_append_left _ (List.mem_append_left _ (List.mem_append_left _ (List.mem_append_right _ hw))))))
set_option maxRecDepth 100000 in
set_option maxHeartbeats 4000000 in
theorem lp_X5_countUnlike {p : Program} {l : Launch} {e : Env} {s : State} {m : MethodId} {args : Array Value} {below : List Frame} {meth : Method} {c : Code} {G : mw_GG} {Q : State → Prop} (C : vv_C p s m args c G cX5_countUnlike 6 wsX5_countUnlike RX5) (M : mw_M) (hw : wfR M) {L : List Nat} (hL : L.length ≤ 144) (hV : ∀ r, r ∈ L → r < 144 ∧ valP M (r / 12) (r % 12)) (hk : ∀ M1, runI M M1 L → vv p l e ({ frames := 6, cells := 0, slots := 0, locals := 140 } : Room) s m args below meth c G 0 0 Q M1 78 [some (.ref (G.1 126)), some (.int (nI (dcF (kyS M L) L.length))), some (.int (nI L.length)), none, none, none] []) : ∀ (n i : Nat) (M1 : mw_M), L.length + 1 ≤ i + n → i ≤ L.length → runI M M1 L → mrkI M1 (kyS M L) i → vv p l e ({ frames := 6, cells := 0, slots := 0, locals := 140 } : Room) s m args below meth c G 0 0 Q M1 18 [some (.ref (G.1 126)), some (.int (nI (dcF (kyS M L) i))), some (.int (nI i)), none, none, none] [] := by
  intro n
  induction n with
  | zero => intro i M1 h1 h2 _ _; omega
  | succ n ih =>
    intro i M1 h1 h2 hI hM
    refine vv_iload_n C 2 dX5_countUnlike_18 rfl rfl ?_
    refine vv_aload_n C 0 dX5_countUnlike_19 rfl rfl ?_
    refine vv_geti C (Cn := RX5) (T := TX5) (N := 6) sh_126 4 rfl rfl (by decide) iX5_countUnlike_X5 (List.mem_of_getElem? (i := 2) rfl) rfl dX5_countUnlike_20 ?_
    refine vv_top (y := nI L.length) (by rw [hI.2.1]) ?_
    refine vv_icmp_ge C 78 dX5_countUnlike_23 (by decide) (fun hge => ?_) (fun hlt => ?_)
    · have hin : i = L.length := by
        rcases Nat.lt_or_ge i L.length with z | z
        · exact absurd hge (nI_ge z (by omega))
        · omega
      subst hin
      refine vv_keep (ls2 := [some (.ref (G.1 126)), some (.int (nI (dcF (kyS M L) L.length))), some (.int (nI L.length)), none, none, none]) ⟨rfl, rfl, rfl, trivial⟩ ?_
      exact hk M1 hI
    · have hi2 : i < L.length := by
        rcases Nat.lt_or_ge i L.length with z | z
        · exact z
        · exact absurd (nI_le z (by omega)) hlt
      have hr := hV _ (getD_mem hi2)
      have hkl : keyS M (L.getD i 0) < 144 := keyS_lt hr.1
      have hke : keyS M1 (L.getD i 0) = keyS M (L.getD i 0) := hI.eq.key hr.1
      refine vv_aload_n C 0 dX5_countUnlike_26 rfl rfl ?_
      refine vv_getr C (Cn := RX5) (T := TX5) (N := 6) sh_126 1 rfl rfl (by decide) iX5_countUnlike_X5 (List.mem_of_getElem? (i := 3) rfl) rfl dX5_countUnlike_27 ?_
      refine vv_iload_n C 2 dX5_countUnlike_30 rfl rfl ?_
      refine vv_callVI C [.int (nI i)] (c_X3_at nu_127 M1 (i := (nI i)) (j := i) rfl (by omega)) nu_127.1 rfl (cwV 1 C.1.2.2.2.2 gX5_countUnlike_X3_at rfl rfl rfl (by decide +kernel) ⟨Nat.le_of_ble_eq_true rfl, Nat.le_of_ble_eq_true rfl⟩) rfl rfl rfl (Nat.le_of_ble_eq_true rfl) dX5_countUnlike_31 ⟨Nat.le_refl _, Nat.le_refl _⟩ ?_
      refine vv_top (y := nI (12 * (L.getD i 0 / 12) + L.getD i 0 % 12)) (by rw [Nat.one_mul, hI.2.2 i hi2]; exact row_eq) ?_
      refine vv_istore_n (ls2 := [some (.ref (G.1 126)), some (.int (nI (dcF (kyS M L) i))), some (.int (nI i)), some (.int (nI (12 * (L.getD i 0 / 12) + L.getD i 0 % 12))), none, none]) C 3 dX5_countUnlike_34 rfl (Nat.le_of_ble_eq_true rfl) rfl ?_
      refine vv_aload_n C 0 dX5_countUnlike_35 rfl rfl ?_
      refine vv_iconst (v := 0) C dX5_countUnlike_36 (by decide) ?_
      refine vv_iload_n C 3 dX5_countUnlike_37 rfl rfl ?_
      refine vv_bipush (v := 12) C dX5_countUnlike_38 (by decide) ?_
      refine vv_idiv C dX5_countUnlike_40 (by decide) ?_
      refine vv_top (y := nI (L.getD i 0 / 12)) (row_div hr.2.1 hr.2.2.1) ?_
      refine vv_callVI C [.int 0, .int (nI (L.getD i 0 / 12))] (c_X5_firstAlike (d := 0) (by decide) M1 (hI.eq.sz (by omega) hw.1) (k := (L.getD i 0 / 12)) hr.2.1 (x := 0) (y := (nI (L.getD i 0 / 12))) rfl rfl) sh_126 rfl (cwV 2 C.1.2.2.2.2 gX5_countUnlike_X5_firstAlike rfl rfl rfl (by decide +kernel) ⟨Nat.le_of_ble_eq_true rfl, Nat.le_of_ble_eq_true rfl⟩) rfl rfl rfl (Nat.le_of_ble_eq_true rfl) dX5_countUnlike_41 ⟨Nat.le_refl _, Nat.le_refl _⟩ ?_
      refine vv_istore (ls2 := [some (.ref (G.1 126)), some (.int (nI (dcF (kyS M L) i))), some (.int (nI i)), some (.int (nI (12 * (L.getD i 0 / 12) + L.getD i 0 % 12))), some (.int (nI (faS M1 0 (L.getD i 0 / 12)))), none]) C 4 dX5_countUnlike_44 (Nat.le_of_ble_eq_true rfl) rfl ?_
      refine vv_aload_n C 0 dX5_countUnlike_46 rfl rfl ?_
      refine vv_iconst (v := 1) C dX5_countUnlike_47 (by decide) ?_
      refine vv_iload_n C 3 dX5_countUnlike_48 rfl rfl ?_
      refine vv_bipush (v := 12) C dX5_countUnlike_49 (by decide) ?_
      refine vv_irem C dX5_countUnlike_51 (by decide) ?_
      refine vv_top (y := nI (L.getD i 0 % 12)) (row_rem hr.2.1 hr.2.2.1) ?_
      refine vv_callVI C [.int 1, .int (nI (L.getD i 0 % 12))] (c_X5_firstAlike (d := 1) (by decide) M1 (hI.eq.sz (by omega) hw.2.1) (k := (L.getD i 0 % 12)) hr.2.2.1 (x := 1) (y := (nI (L.getD i 0 % 12))) rfl rfl) sh_126 rfl (cwV 2 C.1.2.2.2.2 gX5_countUnlike_X5_firstAlike rfl rfl rfl (by decide +kernel) ⟨Nat.le_of_ble_eq_true rfl, Nat.le_of_ble_eq_true rfl⟩) rfl rfl rfl (Nat.le_of_ble_eq_true rfl) dX5_countUnlike_52 ⟨Nat.le_refl _, Nat.le_refl _⟩ ?_
      refine vv_istore (ls2 := [some (.ref (G.1 126)), some (.int (nI (dcF (kyS M L) i))), some (.int (nI i)), some (.int (nI (12 * (L.getD i 0 / 12) + L.getD i 0 % 12))), some (.int (nI (faS M1 0 (L.getD i 0 / 12)))), some (.int (nI (faS M1 1 (L.getD i 0 % 12))))]) C 5 dX5_countUnlike_55 (Nat.le_of_ble_eq_true rfl) rfl ?_
      refine vv_iload_n C 1 dX5_countUnlike_57 rfl rfl ?_
      refine vv_aload_n C 0 dX5_countUnlike_58 rfl rfl ?_
      refine vv_iload C 4 dX5_countUnlike_59 rfl ?_
      refine vv_bipush (v := 12) C dX5_countUnlike_61 (by decide) ?_
      refine vv_imul C dX5_countUnlike_63 ?_
      refine vv_iload C 5 dX5_countUnlike_64 rfl ?_
      refine vv_iadd C dX5_countUnlike_66 ?_
      refine vv_top (y := nI (keyS M (L.getD i 0))) (by rw [show (12 : Int32) = nI 12 from rfl, pk_mul, nI_add, Nat.mul_comm]; exact congrArg nI hke) ?_
      refine vv_callVI C [.int (nI (keyS M (L.getD i 0)))] (c_X5_markNew M1 (j := (keyS M (L.getD i 0))) hkl (x := (nI (keyS M (L.getD i 0)))) rfl) sh_126 rfl (cwV 1 C.1.2.2.2.2 gX5_countUnlike_X5_markNew rfl rfl rfl (by decide +kernel) ⟨Nat.le_of_ble_eq_true rfl, Nat.le_of_ble_eq_true rfl⟩) rfl rfl rfl (Nat.le_of_ble_eq_true rfl) dX5_countUnlike_67 ⟨Nat.le_refl _, Nat.le_refl _⟩ ?_
      refine vv_iadd C dX5_countUnlike_70 ?_
      refine vv_top (y := nI (dcF (kyS M L) (i + 1))) (dcF_add hM hkl rfl) ?_
      refine vv_istore_n (ls2 := [some (.ref (G.1 126)), some (.int (nI (dcF (kyS M L) (i + 1)))), some (.int (nI i)), some (.int (nI (12 * (L.getD i 0 / 12) + L.getD i 0 % 12))), some (.int (nI (faS M1 0 (L.getD i 0 / 12)))), some (.int (nI (faS M1 1 (L.getD i 0 % 12))))]) C 1 dX5_countUnlike_71 rfl (Nat.le_of_ble_eq_true rfl) rfl ?_
      refine vv_iinc (v := nI (i + 1)) (ls2 := [some (.ref (G.1 126)), some (.int (nI (dcF (kyS M L) (i + 1)))), some (.int (nI (i + 1))), some (.int (nI (12 * (L.getD i 0 / 12) + L.getD i 0 % 12))), some (.int (nI (faS M1 0 (L.getD i 0 / 12)))), some (.int (nI (faS M1 1 (L.getD i 0 % 12))))]) C 2 dX5_countUnlike_72 rfl (nI_1 _) rfl ?_
      refine vv_goto C 18 dX5_countUnlike_75 (by decide) ?_
      refine vv_keep (ls2 := [some (.ref (G.1 126)), some (.int (nI (dcF (kyS M L) (i + 1)))), some (.int (nI (i + 1))), none, none, none]) ⟨rfl, rfl, rfl, trivial⟩ ?_
      exact ih (i + 1) _ (by omega) (by omega) (hI.upd hkl hL) (hM.mark hkl rfl)
set_option maxRecDepth 100000 in
set_option maxHeartbeats 4000000 in
theorem c_X5_countUnlike {l : Launch} {G : mw_GG} (M : mw_M) (hw : wfR M) : mw_Met l yX5_countUnlike wsX5_countUnlike ({ frames := 6, cells := 0, slots := 0, locals := 140 } : Room) G [.ref (G.1 126)] M (qIP (fun r M2 => r = nI (dcF (kyS M (lstS M 8)) (lstS M 8).length) ∧ ∀ q, ¬ scR q → M2 q = M q)) := by
  refine mw_ofV (cc := cX5_countUnlike) 6 (by decide) rfl rfl (Nat.le_of_ble_eq_true rfl) ?_
  intro p e s m args below meth c C hR hN0
  refine vv_loc (ls2 := [some (.ref (G.1 126)), none, none, none, none, none]) rfl ?_
  refine vv_aload_n C 0 dX5_countUnlike_0 rfl rfl ?_
  refine vv_iconst (v := (-1)) C dX5_countUnlike_1 (by decide) ?_
  refine vv_callVIP C [.int (-1)] (c_X5_find M hw (lo := 8) (x := (-1)) (by decide)) sh_126 rfl (cwV 1 C.1.2.2.2.2 gX5_countUnlike_X5_find rfl rfl rfl (by decide +kernel) ⟨Nat.le_of_ble_eq_true rfl, Nat.le_of_ble_eq_true rfl⟩) rfl rfl rfl (Nat.le_of_ble_eq_true rfl) dX5_countUnlike_2 ⟨Nat.le_refl _, Nat.le_refl _⟩ (fun x_1 M_2 h_3 => ?_)
  obtain ⟨rfl, h_3⟩ := h_3
  refine vv_pop C dX5_countUnlike_5 rfl ?_
  refine vv_aload_n C 0 dX5_countUnlike_6 rfl rfl ?_
  refine vv_getr C (Cn := RX5) (T := TX5) (N := 6) sh_126 2 rfl rfl (by decide) iX5_countUnlike_X5 (List.mem_of_getElem? (i := 1) rfl) rfl dX5_countUnlike_7 ?_
  refine vv_iconst (v := 0) C dX5_countUnlike_10 (by decide) ?_
  refine vv_callVVP C [.int 0] (c_X3_fill nu_129 M_2 0) nu_129.1 rfl (cwV 1 C.1.2.2.2.2 gX5_countUnlike_X3_fill rfl rfl rfl (by decide +kernel) ⟨Nat.le_of_ble_eq_true rfl, Nat.le_of_ble_eq_true rfl⟩) rfl rfl rfl (Nat.le_of_ble_eq_true rfl) dX5_countUnlike_11 ⟨Nat.le_refl _, Nat.le_refl _⟩ (fun M_4 h_5 => ?_)
  refine vv_iconst (v := 0) C dX5_countUnlike_14 (by decide) ?_
  refine vv_istore_n (ls2 := [some (.ref (G.1 126)), some (.int 0), none, none, none, none]) C 1 dX5_countUnlike_15 rfl (Nat.le_of_ble_eq_true rfl) rfl ?_
  refine vv_iconst (v := 0) C dX5_countUnlike_16 (by decide) ?_
  refine vv_istore_n (ls2 := [some (.ref (G.1 126)), some (.int 0), some (.int 0), none, none, none]) C 2 dX5_countUnlike_17 rfl (Nat.le_of_ble_eq_true rfl) rfl ?_
  have hLl := lstS_len (lo := 8) hw
  refine vv_loc (ls2 := [some (.ref (G.1 126)), some (.int (nI (dcF (kyS M (lstS M 8)) 0))), some (.int (nI 0)), none, none, none]) rfl ?_
  refine lp_X5_countUnlike C M hw hLl (fun r hr => valP_row hw hr) (fun M1 hI => ?_) ((lstS M 8).length + 1) 0 _ (by omega) (by omega) (runI.of h_3 hLl h_5) (mrk_start h_5)
  refine vv_iload_n C 1 dX5_countUnlike_78 rfl rfl ?_
  exact vv_iret C hR dX5_countUnlike_79 (qIP_of ⟨rfl, hI.1⟩)