/-! what the class's small methods do, over the flat memory -/
theorem ix_of {x : Int32} {n : Nat} (h0 : ¬ x < 0) (h1 : ¬ nI n ≤ x) (hn : n < 2 ^ 31) : ∃ j, j < n ∧ x = nI j ∧ x.toNatClampNeg = j := by
  obtain ⟨j, hj, e⟩ := nI_of h0
  subst e
  have hlt : j < n := by
    rcases Nat.lt_or_ge j n with z | z
    · exact z
    · exact absurd (nI_le z hj) h1
  exact ⟨j, hlt, rfl, nI_clamp hj⟩
abbrev hcP (M : mw_M) (d : Nat) (c : Int32) : Prop := ¬ c < 0 ∧ ¬ M d ≤ c
abbrev hkP (M : mw_M) (d : Nat) (k : Int32) : Prop := ¬ k < 0 ∧ ¬ M (2 + d) ≤ k
def entI (M : mw_M) (d : Nat) (k c : Int32) : Int32 := if hkP M d k ∧ hcP M d c then M (4 + 48 * d + (4 * k.toNatClampNeg + c.toNatClampNeg)) else -1
/-- the sizes of a drawer are within their limits -/
def szP (M : mw_M) (d : Nat) : Prop := ∃ w n, M d = nI w ∧ w ≤ 4 ∧ M (2 + d) = nI n ∧ n ≤ 12
theorem ent_ix {M : mw_M} {d : Nat} {k c : Int32} (hz : szP M d) (hk : hkP M d k) (hc : hcP M d c) : k * 4 + c = nI (4 * k.toNatClampNeg + c.toNatClampNeg) ∧ 4 * k.toNatClampNeg + c.toNatClampNeg < 48 := by
  obtain ⟨w, n, hw, hw4, hn, hn12⟩ := hz
  obtain ⟨h1, h2⟩ := hk
  obtain ⟨h3, h4⟩ := hc
  rw [hn] at h2
  rw [hw] at h4
  obtain ⟨k', hk1, hk2, hk3⟩ := ix_of h1 h2 (by omega)
  obtain ⟨c', hc1, hc2, hc3⟩ := ix_of h3 h4 (by omega)
  rw [hk3, hc3]
  refine ⟨?_, by omega⟩
  rw [hk2, hc2, show (4 : Int32) = nI 4 from rfl, pk_mul, nI_add]
  congr 1
  omega
def s_zero (M : mw_M) (b : Nat) : mw_M := fun q => if b ≤ q ∧ q < b + 12 then 0 else M q
def s_blk (M : mw_M) (b b2 w : Nat) : mw_M := fun q => if b ≤ q ∧ q < b + w then M (b2 + (q - b)) else M q
theorem wipe_eq {M M1 M2 M3 : mw_M} {b : Nat} (h1 : r_Put M M1 4 b 3 (fun _ => 0)) (h2 : r_Put M1 M2 4 (b + 1) 3 (fun _ => 0)) (h3 : r_Put M2 M3 4 (b + 2) 3 (fun _ => 0)) : M3 = s_zero M b := by
  funext q
  unfold s_zero
  by_cases hq : b ≤ q ∧ q < b + 12
  · rw [if_pos hq]
    obtain ⟨i, hi, hc⟩ : ∃ i, i < 4 ∧ (q = b + 3 * i ∨ q = b + 1 + 3 * i ∨ q = b + 2 + 3 * i) := ⟨(q - b) / 3, by omega, by omega⟩
    rcases hc with rfl | rfl | rfl
    · rw [h3.2 _ (fun j hj => by omega), h2.2 _ (fun j hj => by omega)]
      exact h1.1 i hi
    · rw [h3.2 _ (fun j hj => by omega)]
      exact h2.1 i hi
    · exact h3.1 i hi
  · rw [if_neg hq, h3.2 _ (fun j hj => by omega), h2.2 _ (fun j hj => by omega), h1.2 _ (fun j hj => by omega)]
theorem copy_eq {M M1 M2 M3 : mw_M} {b b2 : Nat} (hd : b + 12 ≤ b2 ∨ b2 + 12 ≤ b) (h1 : r_Put M M1 4 b 3 (fun i => M (b2 + 3 * i))) (h2 : r_Put M1 M2 4 (b + 1) 3 (fun i => M1 (b2 + 1 + 3 * i))) (h3 : r_Put M2 M3 4 (b + 2) 3 (fun i => M2 (b2 + 2 + 3 * i))) : M3 = s_blk M b b2 12 := by
  funext q
  unfold s_blk
  by_cases hq : b ≤ q ∧ q < b + 12
  · rw [if_pos hq]
    obtain ⟨i, hi, hc⟩ : ∃ i, i < 4 ∧ (q = b + 3 * i ∨ q = b + 1 + 3 * i ∨ q = b + 2 + 3 * i) := ⟨(q - b) / 3, by omega, by omega⟩
    rcases hc with rfl | rfl | rfl
    · rw [h3.2 _ (fun j hj => by omega), h2.2 _ (fun j hj => by omega), h1.1 i hi]
      show M (b2 + 3 * i) = _
      congr 1
      omega
    · rw [h3.2 _ (fun j hj => by omega), h2.1 i hi]
      show M1 (b2 + 1 + 3 * i) = _
      rw [h1.2 _ (fun j hj => by omega)]
      congr 1
      omega
    · rw [h3.1 i hi]
      show M2 (b2 + 2 + 3 * i) = _
      rw [h2.2 _ (fun j hj => by omega), h1.2 _ (fun j hj => by omega)]
      congr 1
      omega
  · rw [if_neg hq, h3.2 _ (fun j hj => by omega), h2.2 _ (fun j hj => by omega), h1.2 _ (fun j hj => by omega)]
/-- whether a value fits a cell by itself -/
def tkB (kd a bb v : Int32) : Bool := if kd = 0 then true else if kd = 1 then decide (v = -1) else if v = -1 then false else if kd = 2 then true else if kd = 8 then true else if kd = 3 then decide (v = a) else if kd = 4 then decide (¬ v = a) else if kd = 5 then decide (¬ a ≤ v) else if kd = 6 then decide (¬ v ≤ a) else if kd = 7 then decide (¬ v < a ∧ ¬ bb < v) else false
def cntB (f : Nat → Bool) : Nat → Nat
  | 0 => 0
  | n + 1 => cntB f n + (if f n then 1 else 0)
theorem cntB_le (f : Nat → Bool) : ∀ n, cntB f n ≤ n
  | 0 => Nat.le_refl 0
  | n + 1 => by
    have h := cntB_le f n
    unfold cntB
    split <;> omega
theorem cntB_t {f : Nat → Bool} {n : Nat} (h : f n = true) : cntB f (n + 1) = cntB f n + 1 := by simp [cntB, h]
theorem cntB_f {f : Nat → Bool} {n : Nat} (h : f n = false) : cntB f (n + 1) = cntB f n := by simp [cntB, h]
theorem cntB_c {f g : Nat → Bool} : ∀ {n : Nat}, (∀ i, i < n → f i = g i) → cntB f n = cntB g n
  | 0, _ => rfl
  | n + 1, h => by
    unfold cntB
    rw [cntB_c (fun i hi => h i (by omega)), h n (by omega)]
def dN (x : Int32) : Nat := if x = 0 then 0 else 1
theorem dN_lt (x : Int32) : dN x < 2 := by unfold dN; split <;> omega
def xN (x : Int32) : Nat := if 4 ≤ x then 1 else 0
theorem xN_lt (x : Int32) : xN x < 2 := by unfold xN; split <;> omega
abbrev askP (M : mw_M) (c : Int32) : Prop := (¬ 4 ≤ c ∧ hcP M 0 c) ∨ (4 ≤ c ∧ M 124 = 1 ∧ hcP M 1 (c - 4))
abbrev shwP (M : mw_M) (c : Int32) : Prop := askP M c ∧ (M 129 >>> (c &&& 31)) &&& 1 = 1
def rowE (M : mw_M) (c r : Int32) : Int32 := if 4 ≤ c then entI M 1 (r - r / 12 * 12) (c - 4) else entI M 0 (r / 12) c
def dOf (k : Nat) : Nat := if k < 4 then k % 2 else if k < 100 then (k - 4) / 48 else if k < 124 then (k - 100) / 12 else 2
def s_dr (M : mw_M) (P P2 d : Nat) : mw_M := fun q => if P ≤ q ∧ q < P + 130 ∧ dOf (q - P) = d then M (P2 + (q - P)) else M q
theorem dr_eq {M M1 : mw_M} {P P2 d : Nat} (hd : d < 2) (hP : P + 130 ≤ P2 ∨ P2 + 130 ≤ P) (h1 : r_Put M M1 48 (P + 4 + 48 * d) 1 (fun i => M (P2 + 4 + 48 * d + 1 * i))) (M3 : mw_M) (h3 : M3 = upd (upd (s_blk M1 (P + 100 + 12 * d) (P2 + 100 + 12 * d) 12) (P + d) (s_blk M1 (P + 100 + 12 * d) (P2 + 100 + 12 * d) 12 (P2 + d))) (P + 2 + d) (upd (s_blk M1 (P + 100 + 12 * d) (P2 + 100 + 12 * d) 12) (P + d) (s_blk M1 (P + 100 + 12 * d) (P2 + 100 + 12 * d) 12 (P2 + d)) (P2 + 2 + d))) : M3 = s_dr M P P2 d := by
  have keep : ∀ q, (q < P + 4 + 48 * d ∨ P + 4 + 48 * d + 48 ≤ q) → M1 q = M q := fun q hq => h1.2 q (fun i hi => by omega)
  subst h3
  funext q
  unfold s_dr
  by_cases hin : P ≤ q ∧ q < P + 130
  · obtain ⟨k, rfl⟩ : ∃ k, q = P + k := ⟨q - P, by omega⟩
    have hk : k < 130 := by omega
    have e : P + k - P = k := by omega
    rw [e]
    by_cases hdk : dOf k = d
    · rw [if_pos ⟨hin.1, hin.2, hdk⟩]
      unfold upd
      by_cases c1 : P + k = P + 2 + d
      · rw [if_pos c1]
        simp only [show ¬ P2 + 2 + d = P + d by omega, if_false]
        unfold s_blk
        rw [if_neg (by omega), keep _ (by omega)]
        congr 1
        omega
      · rw [if_neg c1]
        by_cases c2 : P + k = P + d
        · rw [if_pos c2]
          unfold s_blk
          rw [if_neg (by omega), keep _ (by omega)]
          congr 1
          omega
        · rw [if_neg c2]
          unfold s_blk
          by_cases c3 : P + 100 + 12 * d ≤ P + k ∧ P + k < P + 100 + 12 * d + 12
          · rw [if_pos c3, keep _ (by omega)]
            congr 1
            omega
          · rw [if_neg c3]
            have hx : 4 + 48 * d ≤ k ∧ k < 4 + 48 * d + 48 := by
              unfold dOf at hdk
              split at hdk
              · omega
              · split at hdk
                · omega
                · split at hdk <;> omega
            have := h1.1 (k - (4 + 48 * d)) (by omega)
            rw [show P + 4 + 48 * d + 1 * (k - (4 + 48 * d)) = P + k by omega] at this
            rw [this]
            show M _ = M _
            congr 1
            omega
    · rw [if_neg (fun z => hdk z.2.2)]
      have hne : ¬ (4 + 48 * d ≤ k ∧ k < 4 + 48 * d + 48) ∧ ¬ (100 + 12 * d ≤ k ∧ k < 100 + 12 * d + 12) ∧ ¬ k = d ∧ ¬ k = 2 + d := by
        unfold dOf at hdk
        split at hdk
        · omega
        · split at hdk
          · omega
          · split at hdk <;> omega
      unfold upd
      rw [if_neg (by omega), if_neg (by omega)]
      unfold s_blk
      rw [if_neg (by omega), keep _ (by omega)]
  · rw [if_neg (fun z => hin ⟨z.1, z.2.1⟩)]
    unfold upd
    rw [if_neg (by omega), if_neg (by omega)]
    unfold s_blk
    rw [if_neg (by omega), keep _ (by omega)]
