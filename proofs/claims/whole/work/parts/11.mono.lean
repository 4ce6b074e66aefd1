/-! ===== more fuel, more known locals: the same answer ===== -/
def ez_le (L L' : ez_L) : Prop := L.length = L'.length ∧ ∀ (k : Nat) (v : Value), L[k]? = some (some v) → L'[k]? = some (some v)
theorem ez_le_rf (L : ez_L) : ez_le L L := ⟨rfl, fun _ _ h => h⟩
theorem ez_li_le {L L' : ez_L} (h : ez_le L L') {k : Nat} {x : Int32} (hx : ez_li L k = some x) : ez_li L' k = some x := by
  have := h.2 _ _ (ez_li_of hx)
  unfold ez_li
  rw [this]
theorem ez_ll_le {L L' : ez_L} (h : ez_le L L') {k : Nat} {x : Int64} (hx : ez_ll L k = some x) : ez_ll L' k = some x := by
  have := h.2 _ _ (ez_ll_of hx)
  unfold ez_ll
  rw [this]
theorem ez_la_le {L L' : ez_L} (h : ez_le L L') {k : Nat} {x : Nat} (hx : ez_la L k = some x) : ez_la L' k = some x := by
  have := h.2 _ _ (ez_la_of hx)
  unfold ez_la
  rw [this]
theorem ez_clr_put {L : ez_L} {i j : Nat} {u : Value} (h : L[j]? = some (some u)) (h2 : j + 1 = i → u.category = 1) : (ez_clr L i)[j]? = some (some u) := by
  cases i with
  | zero => exact h
  | succ k =>
    unfold ez_clr
    dsimp only
    by_cases hj : k = j
    · subst hj
      have := h2 rfl
      rw [h]
      split
      · rename_i z hz
        cases hz
        cases this
      · rename_i z hz
        cases hz
        cases this
      · exact h
    · split
      · rw [List.getElem?_set_ne hj]; exact h
      · rw [List.getElem?_set_ne hj]; exact h
      · exact h
theorem ez_set_le {L L' : ez_L} (h : ez_le L L') (k : Nat) (v : Option Value) : ez_le (L.set k v) (L'.set k v) := by
  refine ⟨by rw [List.length_set, List.length_set]; exact h.1, fun j u hj => ?_⟩
  by_cases hk : k = j
  · subst hk
    rw [List.getElem?_set_self'] at hj ⊢
    have h1 := h.1
    cases hq : L[k]? with
    | none => rw [hq] at hj; cases hj
    | some z =>
      rw [hq] at hj
      have hlt : k < L'.length := by rw [← h.1]; exact (List.getElem?_eq_some_iff.mp hq).1
      rw [List.getElem?_eq_getElem hlt]
      exact hj
  · rw [List.getElem?_set_ne hk] at hj ⊢
    exact h.2 _ _ hj
theorem ez_clr_le {L L' : ez_L} (h : ez_le L L') (k : Nat) : ez_le (ez_clr L k) (ez_clr L' k) := by
  refine ⟨by rw [ez_clr_len, ez_clr_len]; exact h.1, fun j u hj => ?_⟩
  obtain ⟨h1, h2⟩ := ez_clr_get hj
  exact ez_clr_put (h.2 _ _ h1) h2
theorem ez_s1_le {L L' L1 : ez_L} (h : ez_le L L') {k : Nat} {v : Value} (hx : ez_s1 L k v = some L1) : ∃ L1', ez_s1 L' k v = some L1' ∧ ez_le L1 L1' := by
  unfold ez_s1 at hx ⊢
  rw [← h.1]
  cases hb : Nat.blt k L.length with
  | false => rw [hb] at hx; cases hx
  | true =>
    rw [hb] at hx
    cases hx
    exact ⟨_, rfl, ez_set_le (ez_clr_le h k) _ _⟩
theorem ez_s2_le {L L' L1 : ez_L} (h : ez_le L L') {k : Nat} {v : Value} (hx : ez_s2 L k v = some L1) : ∃ L1', ez_s2 L' k v = some L1' ∧ ez_le L1 L1' := by
  unfold ez_s2 at hx ⊢
  rw [← h.1]
  cases hb : Nat.blt (k + 1) L.length with
  | false => rw [hb] at hx; cases hx
  | true =>
    rw [hb] at hx
    cases hx
    exact ⟨_, rfl, ez_set_le (ez_set_le (ez_clr_le h k) _ _) _ _⟩
set_option maxHeartbeats 4000000 in
theorem ez_s_le {L L' : ez_L} (h : ez_le L L') {o pc pc1 : Nat} {i : Instr} {st st1 : List Value} {w w1 : ez_W} {L1 : ez_L} (hs : ez_s o i pc L st w = some (pc1, L1, st1, w1)) : ∃ L1', ez_s o i pc L' st w = some (pc1, L1', st1, w1) ∧ ez_le L1 L1' := by
  cases i
  case iload_n k =>
    simp only [ez_s] at hs ⊢
    split at hs
    · rename_i x hx
      cases hs
      rw [ez_li_le h hx]
      exact ⟨_, rfl, h⟩
    · cases hs
  case iload k =>
    simp only [ez_s] at hs ⊢
    split at hs
    · rename_i x hx
      cases hs
      rw [ez_li_le h hx]
      exact ⟨_, rfl, h⟩
    · cases hs
  case lload_n k =>
    simp only [ez_s] at hs ⊢
    split at hs
    · rename_i x hx
      cases hs
      rw [ez_ll_le h hx]
      exact ⟨_, rfl, h⟩
    · cases hs
  case lload k =>
    simp only [ez_s] at hs ⊢
    split at hs
    · rename_i x hx
      cases hs
      rw [ez_ll_le h hx]
      exact ⟨_, rfl, h⟩
    · cases hs
  case aload_n k =>
    simp only [ez_s] at hs ⊢
    split at hs
    · rename_i x hx
      cases hs
      rw [ez_la_le h hx]
      exact ⟨_, rfl, h⟩
    · cases hs
  case aload k =>
    simp only [ez_s] at hs ⊢
    split at hs
    · rename_i x hx
      cases hs
      rw [ez_la_le h hx]
      exact ⟨_, rfl, h⟩
    · cases hs
  case istore_n k =>
    simp only [ez_s] at hs ⊢
    split at hs
    · split at hs
      · rename_i x st2 _ L2 hL2
        cases hs
        obtain ⟨L3, e1, e2⟩ := ez_s1_le h hL2
        (try dsimp only)
        rw [e1]
        exact ⟨_, rfl, e2⟩
      · cases hs
    · cases hs
  case istore k =>
    simp only [ez_s] at hs ⊢
    split at hs
    · split at hs
      · rename_i x st2 _ L2 hL2
        cases hs
        obtain ⟨L3, e1, e2⟩ := ez_s1_le h hL2
        (try dsimp only)
        rw [e1]
        exact ⟨_, rfl, e2⟩
      · cases hs
    · cases hs
  case lstore_n k =>
    simp only [ez_s] at hs ⊢
    split at hs
    · split at hs
      · rename_i x st2 _ L2 hL2
        cases hs
        obtain ⟨L3, e1, e2⟩ := ez_s2_le h hL2
        (try dsimp only)
        rw [e1]
        exact ⟨_, rfl, e2⟩
      · cases hs
    · cases hs
  case lstore k =>
    simp only [ez_s] at hs ⊢
    split at hs
    · split at hs
      · rename_i x st2 _ L2 hL2
        cases hs
        obtain ⟨L3, e1, e2⟩ := ez_s2_le h hL2
        (try dsimp only)
        rw [e1]
        exact ⟨_, rfl, e2⟩
      · cases hs
    · cases hs
  case iinc k n =>
    simp only [ez_s] at hs ⊢
    split at hs
    · split at hs
      · rename_i x hx _ L2 hL2
        cases hs
        obtain ⟨L3, e1, e2⟩ := ez_s1_le h hL2
        rw [ez_li_le h hx]
        (try dsimp only)
        rw [e1]
        exact ⟨_, rfl, e2⟩
      · cases hs
    · cases hs
  case getfield k =>
    simp only [ez_s, cond_eq_ite] at hs ⊢
    repeat' split at hs
    all_goals first
      | (cases hs; done)
      | (cases hs; exact ⟨_, rfl, h⟩)
      | (cases hs; refine ⟨_, ?_, h⟩; simp_all; done)
  case putfield k =>
    simp only [ez_s, cond_eq_ite] at hs ⊢
    repeat' split at hs
    all_goals first
      | (cases hs; done)
      | (cases hs; exact ⟨_, rfl, h⟩)
      | (cases hs; refine ⟨_, ?_, h⟩; simp_all; done)
  case lookupswitch d ps =>
    simp only [ez_s] at hs ⊢
    split at hs
    · cases hq : (ps.toList.zip (ps.toList.drop 1)).all (fun (a, next) => a.1 < next.1) with
      | false => rw [hq] at hs; cases hs
      | true =>
        rw [hq] at hs
        simp only [cond_true] at hs ⊢
        split at hs
        · cases hs
          exact ⟨_, rfl, h⟩
        · cases hs
    · cases hs
  all_goals first
    | (simp only [ez_s] at hs; cases hs; done)
    | (simp only [ez_s] at hs ⊢
       repeat' split at hs
       all_goals first
         | (cases hs; done)
         | (cases hs; exact ⟨_, rfl, h⟩)
         | (cases hs; refine ⟨_, ?_, h⟩; simp_all; done))
theorem ez_up {n : Nat} (ih : ∀ (n' mi pc : Nat) (L L' : ez_L) (st : List Value) (w : ez_W) (x : Option Value × ez_W), n ≤ n' → ez_le L L' → ez_ev n mi pc L st w = some x → ez_ev n' mi pc L' st w = some x) {n' : Nat} (hn : n ≤ n') {j pc : Nat} {L L' : ez_L} {st : List Value} {w : ez_W} {x : Option Value × ez_W} (hL : ez_le L L') (h : ez_ev n j pc L st w = some x) : ez_ev n' j pc L' st w = some x := ih n' j pc L L' st w x hn hL h
set_option maxHeartbeats 4000000 in
theorem ez_mono : ∀ (n n' mi pc : Nat) (L L' : ez_L) (st : List Value) (w : ez_W) (x : Option Value × ez_W), n ≤ n' → ez_le L L' → ez_ev n mi pc L st w = some x → ez_ev n' mi pc L' st w = some x := by
  intro n
  induction n with
  | zero =>
    intro n' mi pc L L' st w x hn hL h
    cases h
  | succ n ih =>
    intro n' mi pc L L' st w x hn hL h
    obtain ⟨k, rfl⟩ : ∃ k, n' = k + 1 := ⟨n' - 1, by omega⟩
    have hk : n ≤ k := by omega
    unfold ez_ev at h ⊢
    split at h
    · cases h
    · rename_i M hM
      split at h
      · cases h
      · rename_i i len hi
        cases hok : ez_ok i len with
        | false => rw [hok] at h; cases h
        | true =>
          rw [hok] at h
          simp only [cond_true] at h ⊢
          cases i
          case ireturn => exact h
          case lreturn => exact h
          case return_ => exact h
          case invokevirtual q =>
            dsimp only at h ⊢
            split at h
            · cases h
            · split at h
              · cases h
              · rename_i N hN
                (try rw [hN])
                (try dsimp only)
                split at h
                · rename_i a rest hd
                  (try rw [hd])
                  (try dsimp only)
                  split at h
                  · rename_i cc fs hw
                    (try rw [hw])
                    (try dsimp only)
                    cases hc : (Nat.beq cc N.1 && (ez_fit M N rest && (Nat.beq (st.take N.2.2.2.2.2.1).length N.2.2.2.2.2.1 && Nat.beq (ez_en (.ref a :: (st.take N.2.2.2.2.2.1).reverse) N.2.2.2.1).length N.2.2.2.1))) with
                    | false => rw [hc] at h; cases h
                    | true =>
                      rw [hc] at h
                      simp only [cond_true] at h ⊢
                      split at h
                      · rename_i r1 w1 he
                        rw [ez_up ih hk (ez_le_rf _) he]
                        exact ez_up ih hk hL h
                      · cases h
                  · cases h
                · cases h
          case invokestatic q =>
            dsimp only at h ⊢
            split at h
            · split at h
              · rename_i y z rest
                cases hc : (Nat.ble 1 M.2.2.2.2.2.2.1 && (Nat.ble ((rest.map fun v => v.category).sum + 13) M.2.2.2.2.2.2.2)) with
                | false => rw [hc] at h; cases h
                | true =>
                  rw [hc] at h
                  simp only [hc, cond_true] at h ⊢
                  exact ez_up ih hk hL h
              · cases h
            · split at h
              · cases h
              · split at h
                · cases h
                · rename_i N hN
                  (try rw [hN])
                  (try dsimp only)
                  cases hc : (Nat.beq M.1 N.1 && (ez_fit M N (st.drop N.2.2.2.2.2.1) && (Nat.beq (st.take N.2.2.2.2.2.1).length N.2.2.2.2.2.1 && Nat.beq (ez_en ((st.take N.2.2.2.2.2.1).reverse) N.2.2.2.1).length N.2.2.2.1))) with
                  | false => rw [hc] at h; cases h
                  | true =>
                    rw [hc] at h
                    simp only [cond_true] at h ⊢
                    split at h
                    · rename_i r1 w1 he
                      rw [ez_up ih hk (ez_le_rf _) he]
                      exact ez_up ih hk hL h
                    · cases h
          all_goals (
            dsimp only at h ⊢
            split at h
            · rename_i pc1 L1 st1 w1 hs
              obtain ⟨L2, e1, e2⟩ := ez_s_le hL hs
              rw [e1]
              exact ez_up ih hk e2 h
            · cases h)
