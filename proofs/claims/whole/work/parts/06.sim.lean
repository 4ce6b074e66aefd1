/-! ===== a step of the interpreter is a step of the machine ===== -/
def ez_G : List Jvm.Cond := lw_tbl.filter goodWord
theorem ez_in_G {w : Jvm.Cond} (h : ez_in w = true) : w ∈ ez_G := by
  simp only [ez_in, Bool.and_eq_true, decide_eq_true_eq] at h
  exact List.mem_filter.mpr h
theorem ez_inp_G {k : Nat} {w : Jvm.Cond} (h : ez_inp k w = true) : w ∈ ez_G := by
  simp only [ez_inp, Bool.and_eq_true, decide_eq_true_eq] at h
  exact List.mem_filter.mpr ⟨List.mem_of_getElem? h.1, h.2⟩
theorem ez_G_good {ws : List Jvm.Cond} (h : ∀ w ∈ ws, w ∈ ez_G) : GoodIn ez_G ws := fun w hw => ⟨h w hw, good_of_word (List.mem_filter.mp (h w hw)).2⟩
theorem ez_G_tbl {w : Jvm.Cond} (h : w ∈ ez_G) : w ∈ lw_tbl := (List.mem_filter.mp h).1
theorem ez_lk_mem {α : Type} {k : Nat} {v : α} : ∀ {r : List (Nat × α)}, ez_lk r k = some v → (k, v) ∈ r
  | [], h => by cases h
  | q :: t, h => by
    unfold ez_lk at h
    cases hq : Nat.beq q.1 k with
    | true =>
      rw [hq] at h
      obtain ⟨a, b⟩ := q
      have e1 : a = k := Nat.eq_of_beq_eq_true hq
      cases h
      rw [e1]
      exact List.mem_cons_self
    | false =>
      rw [hq] at h
      exact List.mem_cons_of_mem _ (ez_lk_mem h)
theorem ez_at_mem {α : Type} {t : List (List (Nat × α))} {o k : Nat} {v : α} (h : ez_at t o k = some v) : ∃ r, t[o]? = some r ∧ (k, v) ∈ r := by
  unfold ez_at at h
  cases hr : t[o]? with
  | none => rw [hr] at h; cases h
  | some r => rw [hr] at h; exact ⟨r, rfl, ez_lk_mem h⟩
def ez_v (ad : Nat → Nat) : Value → Value
  | .ref a => .ref (ad a)
  | v => v
theorem ez_v_cat (ad : Nat → Nat) (v : Value) : (ez_v ad v).category = v.category := by cases v <;> rfl
def ez_e (cI : ClassId) (ad : Nat → Nat) : ez_C → va_E
  | .inl x => .inl (cI, x.1, .inl x.2)
  | .inr o => .inr (o.1, o.2.map (ez_v ad))
def ez_z (cI : ClassId) (ad : Nat → Nat) (w : ez_W) : va_W := w.mapIdx (fun k e => (ad k, ez_e cI ad e))
theorem ez_z_at {cI : ClassId} {ad : Nat → Nat} {w : ez_W} {k : Nat} {e : ez_C} (h : w[k]? = some e) : (ez_z cI ad w)[k]? = some (ad k, ez_e cI ad e) := by simp [ez_z, h]
theorem ez_z_set {cI : ClassId} {ad : Nat → Nat} {w : ez_W} {k : Nat} {e : ez_C} : ez_z cI ad (w.set k e) = (ez_z cI ad w).set k (ad k, ez_e cI ad e) := by
  apply List.ext_getElem?
  intro j
  simp only [ez_z, List.getElem?_mapIdx, List.getElem?_set, List.length_mapIdx]
  by_cases hj : k = j
  · subst hj
    by_cases hk : k < w.length <;> simp [hk]
  · simp [hj]
def ez_l (nL : Nat) (ad : Nat → Nat) (L : ez_L) (ls : Array Slot) : Prop := L.length = nL ∧ ls.size = nL ∧ lv_wf ls ∧ ∀ (i : Nat) (v : Value), L[i]? = some (some v) → ls[i]? = some (.val (ez_v ad v))
def ez_p (ad : Nat → Nat) (L : ez_L) : List (Nat × Value) := (List.range L.length).filterMap (fun k => match L[k]? with
  | some (some v) => some (k, ez_v ad v)
  | _ => none)
theorem ez_p_mem {ad : Nat → Nat} {L : ez_L} {i : Nat} {v : Value} (h : L[i]? = some (some v)) : (i, ez_v ad v) ∈ ez_p ad L := by
  refine List.mem_filterMap.mpr ⟨i, List.mem_range.mpr ?_, ?_⟩
  · exact (List.getElem?_eq_some_iff.mp h).1
  · rw [h]
theorem ez_p_of {ad : Nat → Nat} {L : ez_L} {q : Nat × Value} (h : q ∈ ez_p ad L) : ∃ v, L[q.1]? = some (some v) ∧ q.2 = ez_v ad v := by
  obtain ⟨k, -, hk⟩ := List.mem_filterMap.mp h
  split at hk
  · rename_i v hv
    cases hk
    exact ⟨v, hv, rfl⟩
  · cases hk
theorem ez_has {nL : Nat} {ad : Nat → Nat} {L : ez_L} {ls : Array Slot} (h : ez_l nL ad L ls) : lv_has ls nL (ez_p ad L) := by
  refine ⟨h.2.1, h.2.2.1, fun q hq => ?_⟩
  obtain ⟨v, h1, h2⟩ := ez_p_of hq
  rw [h2]
  exact h.2.2.2 _ _ h1
theorem ez_clr_len (L : ez_L) (i : Nat) : (ez_clr L i).length = L.length := by
  cases i with
  | zero => rfl
  | succ k =>
    unfold ez_clr
    dsimp only
    split <;> simp
theorem ez_clr_get {L : ez_L} {i j : Nat} {u : Value} (h : (ez_clr L i)[j]? = some (some u)) : L[j]? = some (some u) ∧ (j + 1 = i → u.category = 1) := by
  cases i with
  | zero => exact ⟨h, fun q => by omega⟩
  | succ k =>
    unfold ez_clr at h
    dsimp only at h
    split at h
    · by_cases hj : k = j
      · subst hj
        rw [List.getElem?_set] at h
        simp at h
      · rw [List.getElem?_set_ne hj] at h
        exact ⟨h, fun q => by omega⟩
    · by_cases hj : k = j
      · subst hj
        rw [List.getElem?_set] at h
        simp at h
      · rw [List.getElem?_set_ne hj] at h
        exact ⟨h, fun q => by omega⟩
    · rename_i h1 h2
      refine ⟨h, fun q => ?_⟩
      have e : j = k := by omega
      subst e
      cases u <;> first | rfl | exact absurd h (h1 _) | exact absurd h (h2 _)
theorem ez_s1_ok {nL : Nat} {ad : Nat → Nat} {L L' : ez_L} {i : Nat} {v : Value} {ls' : Array Slot} (hL : L.length = nL) (he : ez_s1 L i v = some L') (h : lv_has ls' nL ((i, ez_v ad v) :: (ez_p ad L).filter (fun q => !(q.1 == i) && !(q.1 + 1 == i && q.2.category == 2)))) : ez_l nL ad L' ls' := by
  unfold ez_s1 at he
  cases hb : Nat.blt i L.length with
  | false => rw [hb] at he; cases he
  | true =>
    rw [hb] at he
    cases he
    refine ⟨by rw [List.length_set, ez_clr_len, hL], h.1, h.2.1, fun j u hj => ?_⟩
    by_cases hij : i = j
    · subst hij
      rw [List.getElem?_set_self' ] at hj
      cases hq : (ez_clr L i)[i]? with
      | none => rw [hq] at hj; cases hj
      | some z =>
        rw [hq] at hj
        cases hj
        exact h.2.2 _ List.mem_cons_self
    · rw [List.getElem?_set_ne hij] at hj
      obtain ⟨h1, h2⟩ := ez_clr_get hj
      refine h.2.2 (j, ez_v ad u) (List.mem_cons_of_mem _ (List.mem_filter.mpr ⟨ez_p_mem h1, ?_⟩))
      have a1 : (j == i) = false := by simp; omega
      by_cases hji : j + 1 = i
      · have := h2 hji
        simp [a1, ez_v_cat, this]
      · simp [a1, hji]
theorem ez_s2_ok {nL : Nat} {ad : Nat → Nat} {L L' : ez_L} {i : Nat} {v : Value} {ls' : Array Slot} (hL : L.length = nL) (he : ez_s2 L i v = some L') (h : lv_has ls' nL ((i, ez_v ad v) :: (ez_p ad L).filter (fun q => !(q.1 == i) && (!(q.1 == i + 1) && !(q.1 + 1 == i && q.2.category == 2))))) : ez_l nL ad L' ls' := by
  unfold ez_s2 at he
  cases hb : Nat.blt (i + 1) L.length with
  | false => rw [hb] at he; cases he
  | true =>
    rw [hb] at he
    cases he
    refine ⟨by rw [List.length_set, List.length_set, ez_clr_len, hL], h.1, h.2.1, fun j u hj => ?_⟩
    by_cases hij1 : i + 1 = j
    · subst hij1
      rw [List.getElem?_set_self'] at hj
      cases hq : ((ez_clr L i).set i (some v))[i + 1]? with
      | none => rw [hq] at hj; cases hj
      | some z => rw [hq] at hj; cases hj
    · rw [List.getElem?_set_ne hij1] at hj
      by_cases hij : i = j
      · subst hij
        rw [List.getElem?_set_self' ] at hj
        cases hq : (ez_clr L i)[i]? with
        | none => rw [hq] at hj; cases hj
        | some z =>
          rw [hq] at hj
          cases hj
          exact h.2.2 _ List.mem_cons_self
      · rw [List.getElem?_set_ne hij] at hj
        obtain ⟨h1, h2⟩ := ez_clr_get hj
        refine h.2.2 (j, ez_v ad u) (List.mem_cons_of_mem _ (List.mem_filter.mpr ⟨ez_p_mem h1, ?_⟩))
        have a1 : (j == i) = false := by simp; omega
        have a2 : (j == i + 1) = false := by simp; omega
        by_cases hji : j + 1 = i
        · have := h2 hji
          simp [a1, a2, ez_v_cat, this]
        · simp [a1, a2, hji]
theorem ez_li_of {L : ez_L} {k : Nat} {x : Int32} (h : ez_li L k = some x) : L[k]? = some (some (.int x)) := by
  unfold ez_li at h
  split at h
  · rename_i y hy
    cases h
    exact hy
  · cases h
theorem ez_ll_of {L : ez_L} {k : Nat} {x : Int64} (h : ez_ll L k = some x) : L[k]? = some (some (.long x)) := by
  unfold ez_ll at h
  split at h
  · rename_i y hy
    cases h
    exact hy
  · cases h
theorem ez_la_of {L : ez_L} {k : Nat} {x : Nat} (h : ez_la L k = some x) : L[k]? = some (some (.ref x)) := by
  unfold ez_la at h
  split at h
  · rename_i y hy
    cases h
    exact hy
  · cases h
theorem ez_br_of {pc t : Nat} {off : Int} (h : ez_br pc off = some t) : (pc : Int) + off = (t : Int) := by
  unfold ez_br at h
  split at h
  · rename_i y hy
    cases h
    exact hy
  · cases h
theorem ez_s1_lt {L L' : ez_L} {i nL : Nat} {v : Value} (hL : L.length = nL) (h : ez_s1 L i v = some L') : i < nL := by
  unfold ez_s1 at h
  cases hb : Nat.blt i L.length with
  | false => rw [hb] at h; cases h
  | true => rw [← hL]; exact Nat.le_of_ble_eq_true hb
theorem ez_s2_lt {L L' : ez_L} {i nL : Nat} {v : Value} (hL : L.length = nL) (h : ez_s2 L i v = some L') : i + 1 < nL := by
  unfold ez_s2 at h
  cases hb : Nat.blt (i + 1) L.length with
  | false => rw [hb] at h; cases h
  | true => rw [← hL]; exact Nat.le_of_ble_eq_true hb
