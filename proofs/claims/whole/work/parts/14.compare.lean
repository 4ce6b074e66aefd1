/-! ===== the comparator, abstractly: how many questions, who is settled at what, the candidate, the next number ===== -/
abbrev zs_G : Type := Nat × (Nat → Option Nat) × Option Nat × Nat
def zs_sel (x y : Nat) (g : zs_G) : Nat := if g.2.2.1 = some x then x else y
def zs_st (x y : Nat) (g : zs_G) : Nat → Option Nat := if g.2.1 x = none ∧ g.2.1 y = none then va_up g.2.1 (zs_sel x y g) (some g.2.2.2) else g.2.1
def zs_nx (x y : Nat) (g : zs_G) : Nat := if g.2.1 x = none ∧ g.2.1 y = none then g.2.2.2 + 1 else g.2.2.2
def zs_cd (x y : Nat) (g : zs_G) : Option Nat := if zs_st x y g x = none then some x else if zs_st x y g y = none then some y else g.2.2.1
def zs_g (md : Bool) (x y : Nat) (g : zs_G) : zs_G := bif md then (g.1 + 1, zs_st x y g, zs_cd x y g, zs_nx x y g) else (g.1 + 1, g.2.1, g.2.2.1, g.2.2.2)
def zs_lt (s : Nat → Option Nat) (x y : Nat) : Bool := match s x, s y with
  | some _, none => true
  | some a, some b => decide (a < b)
  | none, _ => false
def zs_b (md : Bool) (ka : Nat → Int64) (x y : Nat) (g : zs_G) : Bool := bif md then zs_lt (zs_st x y g) x y else decide (ka x < ka y)
def zs_cn (s : Nat → Option Nat) : Nat → Nat
  | 0 => 0
  | k + 1 => zs_cn s k + (if s k = none then 0 else 1)
theorem zs_cn_le (s : Nat → Option Nat) : ∀ n, zs_cn s n ≤ n
  | 0 => Nat.le_refl _
  | n + 1 => by
    have := zs_cn_le s n
    unfold zs_cn
    split <;> omega
theorem zs_cn_lt {s : Nat → Option Nat} {k : Nat} (h : s k = none) : ∀ n, k < n → zs_cn s n < n
  | 0, hk => by omega
  | n + 1, hk => by
    unfold zs_cn
    by_cases e : k = n
    · subst e
      have := zs_cn_le s k
      rw [if_pos h]; omega
    · have := zs_cn_lt h n (by omega)
      split <;> omega
theorem zs_cn_same {s t : Nat → Option Nat} : ∀ n, (∀ k, k < n → s k = t k) → zs_cn s n = zs_cn t n
  | 0, _ => rfl
  | n + 1, h => by
    unfold zs_cn
    rw [zs_cn_same n (fun k hk => h k (by omega)), h n (by omega)]
theorem zs_cn_up {s : Nat → Option Nat} {k v : Nat} (h : s k = none) : ∀ n, k < n → zs_cn (va_up s k (some v)) n = zs_cn s n + 1
  | 0, hk => by omega
  | n + 1, hk => by
    unfold zs_cn
    by_cases e : k = n
    · subst e
      rw [va_up_self, h, zs_cn_same k (t := s) (fun j hj => va_up_ne _ _ (by omega))]
      simp
    · rw [zs_cn_up h n (by omega), va_up_ne _ _ (fun q => e q.symm)]
      omega
/-- what holds of the comparator against n things -/
def zs_I (n : Nat) (g : zs_G) : Prop := zs_cn g.2.1 n = g.2.2.2 ∧ (∀ k v, k < n → g.2.1 k = some v → v < g.2.2.2) ∧ (∀ j k v, j < n → k < n → g.2.1 j = some v → g.2.1 k = some v → j = k) ∧ ∀ c, g.2.2.1 = some c → c < n
theorem zs_I.nx {n : Nat} {g : zs_G} (h : zs_I n g) : g.2.2.2 ≤ n := by rw [← h.1]; exact zs_cn_le _ _
theorem zs_I.lt {n : Nat} {g : zs_G} (h : zs_I n g) {x : Nat} (hx : x < n) (e : g.2.1 x = none) : g.2.2.2 < n := by rw [← h.1]; exact zs_cn_lt e n hx
theorem zs_sel_or (x y : Nat) (g : zs_G) : zs_sel x y g = x ∨ zs_sel x y g = y := by unfold zs_sel; split <;> simp
theorem zs_I.go {n : Nat} {g : zs_G} (h : zs_I n g) {x y : Nat} (hx : x < n) (hy : y < n) : zs_I n (zs_g true x y g) := by
  obtain ⟨h1, h2, h3, h4⟩ := h
  unfold zs_g zs_st zs_nx
  simp only [cond_true]
  by_cases hq : g.2.1 x = none ∧ g.2.1 y = none
  · rw [if_pos hq, if_pos hq]
    have hs : zs_sel x y g < n ∧ g.2.1 (zs_sel x y g) = none := by
      rcases zs_sel_or x y g with e | e <;> rw [e]
      · exact ⟨hx, hq.1⟩
      · exact ⟨hy, hq.2⟩
    refine ⟨by dsimp only; rw [zs_cn_up hs.2 n hs.1, h1], fun k v hk hv => ?_, fun j k v hj hk hv hw => ?_, fun c hc => ?_⟩
    · dsimp only at hv ⊢
      by_cases e : k = zs_sel x y g
      · subst e
        rw [va_up_self] at hv
        cases hv
        exact Nat.lt_succ_self _
      · rw [va_up_ne _ _ e] at hv
        have := h2 k v hk hv
        omega
    · dsimp only at hv hw
      by_cases e : j = zs_sel x y g
      · by_cases e2 : k = zs_sel x y g
        · rw [e, e2]
        · subst e
          rw [va_up_self] at hv
          rw [va_up_ne _ _ e2] at hw
          cases hv
          have := h2 k _ hk hw
          omega
      · rw [va_up_ne _ _ e] at hv
        by_cases e2 : k = zs_sel x y g
        · subst e2
          rw [va_up_self] at hw
          cases hw
          have := h2 j _ hj hv
          omega
        · rw [va_up_ne _ _ e2] at hw
          exact h3 j k v hj hk hv hw
    · dsimp only at hc
      unfold zs_cd at hc
      split at hc
      · cases hc; exact hx
      · split at hc
        · cases hc; exact hy
        · exact h4 c hc
  · rw [if_neg hq, if_neg hq]
    refine ⟨h1, h2, h3, fun c hc => ?_⟩
    dsimp only at hc
    unfold zs_cd at hc
    split at hc
    · cases hc; exact hx
    · split at hc
      · cases hc; exact hy
      · exact h4 c hc
/-- known: x is not greater than y -/
def zs_K (md : Bool) (ka : Nat → Int64) (g : zs_G) (x y : Nat) : Prop := bif md then (x = y ∨ ∃ a, g.2.1 x = some a ∧ ∀ b, g.2.1 y = some b → a < b) else ka x ≤ ka y
theorem zs_K.rf {md : Bool} {ka : Nat → Int64} {g : zs_G} (x : Nat) : zs_K md ka g x x := by
  cases md
  · exact Int64.le_refl _
  · exact Or.inl rfl
theorem zs_K.tr {md : Bool} {ka : Nat → Int64} {g : zs_G} {x y z : Nat} (h : zs_K md ka g x y) (k : zs_K md ka g y z) : zs_K md ka g x z := by
  cases md
  · exact Int64.le_trans h k
  · rcases h with rfl | ⟨a, h1, h2⟩
    · exact k
    · rcases k with rfl | ⟨b, k1, k2⟩
      · exact Or.inr ⟨a, h1, h2⟩
      · exact Or.inr ⟨a, h1, fun c hc => Nat.lt_trans (h2 b k1) (k2 c hc)⟩
theorem zs_st_some {x y k v : Nat} {g : zs_G} (h : g.2.1 k = some v) : zs_st x y g k = some v := by
  unfold zs_st
  split
  · rename_i hq
    by_cases e : k = zs_sel x y g
    · exfalso
      rcases zs_sel_or x y g with e2 | e2 <;> rw [e, e2] at h
      · rw [hq.1] at h; cases h
      · rw [hq.2] at h; cases h
    · rw [va_up_ne _ _ e]; exact h
  · exact h
theorem zs_st_new {x y k v n : Nat} {g : zs_G} (hI : zs_I n g) (h : zs_st x y g k = some v) (hn : g.2.1 k = none) : v = g.2.2.2 ∧ k = zs_sel x y g := by
  unfold zs_st at h
  split at h
  · by_cases e : k = zs_sel x y g
    · subst e
      rw [va_up_self] at h
      cases h
      exact ⟨rfl, rfl⟩
    · rw [va_up_ne _ _ e, hn] at h; cases h
  · rw [hn] at h; cases h
/-- what is known stays known -/
theorem zs_K.mono {md : Bool} {ka : Nat → Int64} {n : Nat} {g : zs_G} {u v : Nat} (hI : md = true → zs_I n g) (hu : u < n) (h : zs_K md ka g u v) (x y : Nat) : zs_K md ka (zs_g md x y g) u v := by
  cases md
  · exact h
  · have hI := hI rfl
    rcases h with rfl | ⟨a, h1, h2⟩
    · exact Or.inl rfl
    · refine Or.inr ⟨a, zs_st_some h1, fun b hb => ?_⟩
      have hb : zs_st x y g v = some b := hb
      cases hv : g.2.1 v with
      | some b' =>
        rw [zs_st_some hv] at hb
        cases hb
        exact h2 _ hv
      | none =>
        rw [(zs_st_new hI hb hv).1]
        exact hI.2.1 u a hu h1
/-- the answer 'less' -/
theorem zs_b_t {md : Bool} {ka : Nat → Int64} {n : Nat} {g : zs_G} {x y : Nat} (hI : md = true → zs_I n g) (hx : x < n) (hy : y < n) (h : zs_b md ka x y g = true) : zs_K md ka (zs_g md x y g) x y ∧ ¬ zs_K md ka (zs_g md x y g) y x := by
  cases md
  · have h : ka x < ka y := of_decide_eq_true h
    exact ⟨Int64.le_of_lt h, Int64.not_le.mpr h⟩
  · have h : zs_lt (zs_st x y g) x y = true := h
    have hne : x ≠ y := by
      rintro rfl
      unfold zs_lt at h
      cases hs : zs_st x x g x with
      | none => rw [hs] at h; cases h
      | some a => rw [hs] at h; simp at h
    unfold zs_lt at h
    show (x = y ∨ ∃ a, zs_st x y g x = some a ∧ ∀ b, zs_st x y g y = some b → a < b) ∧ ¬ (y = x ∨ ∃ a, zs_st x y g y = some a ∧ ∀ b, zs_st x y g x = some b → a < b)
    split at h
    · rename_i a e1 e2
      refine ⟨Or.inr ⟨a, e1, fun b hb => by rw [e2] at hb; cases hb⟩, fun q => ?_⟩
      rcases q with q | ⟨c, q, -⟩
      · exact hne q.symm
      · rw [e2] at q; cases q
    · rename_i a b e1 e2
      have hab : a < b := of_decide_eq_true h
      refine ⟨Or.inr ⟨a, e1, fun c hc => by rw [e2] at hc; cases hc; exact hab⟩, fun q => ?_⟩
      rcases q with q | ⟨c, q, q2⟩
      · exact hne q.symm
      · rw [e2] at q; cases q
        have := q2 a e1
        omega
    · cases h
/-- the answer 'not less' -/
theorem zs_b_f {md : Bool} {ka : Nat → Int64} {n : Nat} {g : zs_G} {x y : Nat} (hI : md = true → zs_I n g) (hx : x < n) (hy : y < n) (h : zs_b md ka x y g = false) : zs_K md ka (zs_g md x y g) y x := by
  cases md
  · have h : ¬ ka x < ka y := of_decide_eq_false h
    exact Int64.not_lt.mp h
  · have h : zs_lt (zs_st x y g) x y = false := h
    have hI' := (hI rfl).go hx hy
    unfold zs_lt at h
    show y = x ∨ ∃ a, zs_st x y g y = some a ∧ ∀ b, zs_st x y g x = some b → a < b
    split at h
    · cases h
    · rename_i a b e1 e2
      have hab : ¬ a < b := of_decide_eq_false h
      by_cases e : y = x
      · exact Or.inl e
      · refine Or.inr ⟨b, e2, fun c hc => ?_⟩
        rw [e1] at hc; cases hc
        by_cases e3 : a = b
        · subst e3
          exact absurd (hI'.2.2.1 y x a hy hx e2 e1) e
        · omega
    · rename_i e1
      by_cases e : y = x
      · exact Or.inl e
      · cases hs : zs_st x y g y with
        | some b => exact Or.inr ⟨b, rfl, fun c hc => by rw [e1] at hc; cases hc⟩
        | none =>
          exfalso
          unfold zs_st at e1 hs
          by_cases hq : g.2.1 x = none ∧ g.2.1 y = none
          · rw [if_pos hq] at e1 hs
            rcases zs_sel_or x y g with e2 | e2 <;> rw [e2] at e1 hs
            · rw [va_up_self] at e1; cases e1
            · rw [va_up_self] at hs; cases hs
          · rw [if_neg hq] at e1 hs
            exact hq ⟨e1, hs⟩
/-- what is known is answered so -/
theorem zs_b_K {md : Bool} {ka : Nat → Int64} {n : Nat} {g : zs_G} {x y : Nat} (hI : md = true → zs_I n g) (hx : x < n) (hy : y < n) (h : zs_K md ka g y x) : zs_b md ka x y g = false := by
  cases hb : zs_b md ka x y g with
  | false => rfl
  | true => exact absurd (h.mono hI hy x y) (zs_b_t hI hx hy hb).2
