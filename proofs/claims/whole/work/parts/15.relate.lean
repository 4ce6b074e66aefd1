/-! ===== what ties the class's row, and the reference's, to the abstract row and comparator ===== -/
def zs_z (b : Bool) : Int32 := bif b then 1 else 0
def zs_c : Option Nat → Int32
  | none => -1
  | some c => nI c
/-- a run's fixed things: adversary?, how many, class's thing of a place, keys, order, numbers by TAG, numbers by place, both counts at its start -/
abbrev ze_T : Type := Bool × Nat × (Nat → Nat) × (Nat → Int64) × Int32 × (Nat → Int32) × (Nat → Int32) × Int64 × Int64
abbrev ze_md (E : ze_T) : Bool := E.1
abbrev ze_n (E : ze_T) : Nat := E.2.1
abbrev ze_pi (E : ze_T) : Nat → Nat := E.2.2.1
abbrev ze_ka (E : ze_T) : Nat → Int64 := E.2.2.2.1
abbrev ze_od (E : ze_T) : Int32 := E.2.2.2.2.1
abbrev ze_nu (E : ze_T) : Nat → Int32 := E.2.2.2.2.2.1
abbrev ze_mu (E : ze_T) : Nat → Int32 := E.2.2.2.2.2.2.1
abbrev ze_c0 (E : ze_T) : Int64 := E.2.2.2.2.2.2.2.1
abbrev ze_d0 (E : ze_T) : Int64 := E.2.2.2.2.2.2.2.2
def ze_or (o : Int32) : Prop := o = 0 ∨ o = 1 ∨ o = 2 ∨ o = 3
def ze_ok (E : ze_T) : Prop := ze_n E ≤ 600 ∧ (∀ k, k < ze_n E → ze_pi E k < ze_n E) ∧ (ze_md E = true → ∀ k, k < ze_n E → ze_pi E k = k) ∧ (ze_md E = false → ze_or (ze_od E) ∧ (∀ k, k < ze_n E → zk_key (ze_od E) (ze_nu E (ze_pi E k)).toInt64 = ze_ka E k) ∧ ∀ k, k < ze_n E → zk_key (ze_od E) (ze_mu E k).toInt64 = ze_ka E k)
/-- the class's row -/
def cr_R (E : ze_T) (row : Nat → Nat) (g : zs_G) (r : cz_Row) : Prop := r.1 = nI (ze_n E) ∧ r.2.1 = ze_od E ∧ r.2.2.1 = ze_c0 E + lN g.1 ∧ (∀ k, k < ze_n E → r.2.2.2.2.2.2.2 k = nI (ze_pi E (row k))) ∧
  (bif ze_md E then r.2.2.2.1 = 1 ∧ r.2.2.2.2.1 = zs_c g.2.2.1 ∧ r.2.2.2.2.2.1 = nI g.2.2.2 ∧ ∀ k, k < ze_n E → r.2.2.2.2.2.2.1 k = nI ((g.2.1 k).getD (ze_n E)) else r.2.2.2.1 = 0 ∧ r.2.2.2.2.2.2.1 = ze_nu E)
/-- the reference's row -/
def mr_R (E : ze_T) (row : Nat → Nat) (g : zs_G) (A : mz_A) : Prop := A.1 = nI (ze_n E) ∧ A.2.1 = ze_od E ∧ A.2.2.2.2.2.1 = ze_d0 E + lN g.1 ∧ A.2.2.2.2.2.2.1 = lN g.1 ∧ (∀ k, k < ze_n E → A.2.2.2.2.2.2.2.2.2 k = nI (row k)) ∧
  (bif ze_md E then A.2.2.1 = 1 ∧ A.2.2.2.1 = zs_c g.2.2.1 ∧ A.2.2.2.2.1 = nI g.2.2.2 ∧ ∀ k, k < ze_n E → A.2.2.2.2.2.2.2.2.1 k = zs_c (g.2.1 k) else A.2.2.1 = 0 ∧ A.2.2.2.2.2.2.2.1 = ze_mu E)
/-- the abstract row's places, the comparator's own -/
def zr_ok (E : ze_T) (row : Nat → Nat) (g : zs_G) : Prop := (∀ k, k < ze_n E → row k < ze_n E) ∧ (ze_md E = true → zs_I (ze_n E) g)
theorem zr_ok.go {E : ze_T} {row : Nat → Nat} {g : zs_G} (h : zr_ok E row g) {x y : Nat} (hx : x < ze_n E) (hy : y < ze_n E) : zr_ok E row (zs_g (ze_md E) x y g) := ⟨h.1, fun q => by rw [q]; exact (h.2 q).go hx hy⟩
theorem zr_ok.set {E : ze_T} {row : Nat → Nat} {g : zs_G} (h : zr_ok E row g) {k x : Nat} (hx : x < ze_n E) : zr_ok E (va_up row k x) g := ⟨fun j hj => by
  by_cases e : j = k
  · rw [e, va_up_self]; exact hx
  · rw [va_up_ne _ _ e]; exact h.1 j hj, h.2⟩
theorem zs_c_eq {c : Option Nat} {x n : Nat} (hc : ∀ z, c = some z → z < n) (hx : x < n) (hn : n ≤ 600) : zs_c c = nI x ↔ c = some x := by
  cases c with
  | none =>
    constructor
    · intro q
      have h1 : (zs_c none).toInt = (nI x).toInt := by rw [q]
      rw [nI_toInt (by omega)] at h1
      have h2 : (zs_c none).toInt = -1 := by decide
      omega
    · intro q; cases q
  | some z =>
    have := hc z rfl
    show nI z = nI x ↔ _
    rw [nI_eq (by omega) (by omega)]
    constructor
    · rintro rfl; rfl
    · intro q; cases q; rfl
theorem cr_settle {n : Nat} {g : zs_G} (hI : zs_I n g) (hn : n ≤ 600) {x y : Nat} (hx : x < n) (hy : y < n) {ord adv : Int32} {asked : Int64} {num thg : Nat → Int32} (hnum : ∀ k, k < n → num k = nI ((g.2.1 k).getD n)) :
    ∃ num' : Nat → Int32, pf_settle x y (nI n) ord asked adv (zs_c g.2.2.1) (nI g.2.2.2) num thg = (nI n, ord, asked, adv, zs_c (zs_cd x y g), nI (zs_nx x y g), num', thg) ∧ ∀ k, k < n → num' k = nI ((zs_st x y g k).getD n) := by
  have hnx := hI.nx
  have hop : ∀ k, k < n → (num k = nI n ↔ g.2.1 k = none) := fun k hk => by
    rw [hnum k hk]
    cases hs : g.2.1 k with
    | none => simp
    | some v =>
      have := hI.2.1 k v hk hs
      show nI v = nI n ↔ _
      rw [nI_eq (by omega) (by omega)]
      constructor
      · intro q; omega
      · intro q; cases q
  have hcd := zs_c_eq hI.2.2.2 hx hn
  by_cases hq : g.2.1 x = none ∧ g.2.1 y = none
  · have hlt := hI.lt hx hq.1
    have hne : ¬ nI g.2.2.2 = nI n := by rw [nI_eq (by omega) (by omega)]; omega
    have hsel : ∀ s, s < n → g.2.1 s = none → ∀ k, k < n → (upd num s (nI g.2.2.2)) k = nI ((va_up g.2.1 s (some g.2.2.2) k).getD n) := fun s hs hs0 k hk => by
      by_cases e : k = s
      · subst e; rw [pk_us, va_up_self]; rfl
      · rw [pk_un e, va_up_ne _ _ e]; exact hnum k hk
    unfold pf_settle zs_cd zs_nx zs_st zs_sel
    rw [if_pos ((hop x hx).mpr hq.1), if_pos ((hop y hy).mpr hq.2), if_pos hq, if_pos hq]
    have hup : ∀ s : Nat, ¬ va_up g.2.1 s (some g.2.2.2) s = none := fun s z => by rw [va_up_self] at z; cases z
    have hus : ∀ s : Nat, ¬ upd num s (nI g.2.2.2) s = nI n := fun s => by rw [pk_us]; exact hne
    by_cases hc : g.2.2.1 = some x
    · rw [if_pos (hcd.mpr hc), if_pos hc, if_neg (hus x), if_neg (hup x)]
      refine ⟨upd num x (nI g.2.2.2), ?_, hsel x hx hq.1⟩
      by_cases e : y = x
      · subst e
        rw [if_neg (hus y), if_neg (hup y), nI_add]
      · have k1 : upd num x (nI g.2.2.2) y = nI n := by rw [pk_un e]; exact (hop y hy).mpr hq.2
        have k2 : va_up g.2.1 x (some g.2.2.2) y = none := by rw [va_up_ne _ _ e]; exact hq.2
        rw [if_pos k1, if_pos k2, nI_add]
        rfl
    · rw [if_neg (fun z => hc (hcd.mp z)), if_neg hc]
      refine ⟨upd num y (nI g.2.2.2), ?_, hsel y hy hq.2⟩
      by_cases e : x = y
      · subst e
        rw [if_neg (hus x), if_neg (hus x), if_neg (hup x), if_neg (hup x), nI_add]
      · have k1 : upd num y (nI g.2.2.2) x = nI n := by rw [pk_un e]; exact (hop x hx).mpr hq.1
        have k2 : va_up g.2.1 y (some g.2.2.2) x = none := by rw [va_up_ne _ _ e]; exact hq.1
        rw [if_pos k1, if_pos k2, nI_add]
        rfl
  · unfold pf_settle zs_cd zs_nx zs_st
    rw [if_neg hq, if_neg hq]
    refine ⟨num, ?_, hnum⟩
    by_cases h1 : g.2.1 x = none
    · have h2 : ¬ g.2.1 y = none := fun z => hq ⟨h1, z⟩
      rw [if_pos ((hop x hx).mpr h1), if_neg (fun z => h2 ((hop y hy).mp z)), if_pos ((hop x hx).mpr h1), if_pos h1]
      rfl
    · rw [if_neg (fun z => h1 ((hop x hx).mp z)), if_neg (fun z => h1 ((hop x hx).mp z)), if_neg h1]
      by_cases h2 : g.2.1 y = none
      · rw [if_pos ((hop y hy).mpr h2), if_pos h2]
        rfl
      · rw [if_neg (fun z => h2 ((hop y hy).mp z)), if_neg h2]
