/-! ===== static calls; Math.min, Math.max ===== -/
def ez_cas (mi : Nat) (k : Nat) (st : List Value) : Option (Nat × List Value × List Value) := match ez_ms[mi]? with
  | none => none
  | some M => match ez_at ez_mm M.1 k with
    | some _ => none
    | none => match ez_at ez_sc M.1 k with
      | none => none
      | some j => match ez_ms[j]? with
        | none => none
        | some N =>
          bif Nat.beq M.1 N.1 && (ez_fit M N (st.drop N.2.2.2.2.2.1) && (Nat.beq (st.take N.2.2.2.2.2.1).length N.2.2.2.2.2.1 && Nat.beq (ez_en ((st.take N.2.2.2.2.2.1).reverse) N.2.2.2.1).length N.2.2.2.1)) then
            some (j, (st.take N.2.2.2.2.2.1).reverse, st.drop N.2.2.2.2.2.1)
          else none
theorem ez_cs {mi o pc k : Nat} {t : List (Nat × Instr × Nat)} {L : ez_L} {st : List Value} {w : ez_W} {post : Option Value → ez_W → Prop} {j : Nat} {As rest : List Value} (hm : ez_mh mi o t) (hi : ez_lk t pc = some (.invokestatic k, 3)) (hc : ez_cas mi k st = some (j, As, rest)) (kk : ez_m j As w (fun r w1 => ez_E mi (pc + 3) L (r.toList ++ rest) w1 post)) : ez_E mi pc L st w post := by
  have hi' := hm.i hi
  unfold ez_cas at hc
  split at hc
  · cases hc
  · rename_i M hM
    split at hc
    · cases hc
    · rename_i hmm
      split at hc
      · cases hc
      · rename_i j1 hj
        split at hc
        · cases hc
        · rename_i N hN
          cases hb : (Nat.beq M.1 N.1 && (ez_fit M N (st.drop N.2.2.2.2.2.1) && (Nat.beq (st.take N.2.2.2.2.2.1).length N.2.2.2.2.2.1 && Nat.beq (ez_en ((st.take N.2.2.2.2.2.1).reverse) N.2.2.2.1).length N.2.2.2.1))) with
          | false => rw [hb] at hc; cases hc
          | true =>
            rw [hb] at hc
            cases hc
            obtain ⟨N', g1, g2, n1, r1, w1, e1, n2, r2, w2, e2, e3⟩ := kk
            have hNN : N' = N := Option.some.inj (g1.symm.trans hN)
            subst hNN
            refine ⟨max n1 n2 + 1, r2, w2, ?_, e3⟩
            unfold ez_ev
            rw [hM]
            dsimp only
            rw [hi']
            dsimp only
            rw [show ez_ok (.invokestatic k) 3 = true from rfl]
            simp only [cond_true]
            rw [hmm]
            dsimp only
            rw [hj]
            dsimp only
            rw [hN]
            dsimp only
            rw [hb]
            simp only [cond_true]
            rw [ez_mono n1 (max n1 n2) _ _ _ _ _ _ _ (Nat.le_max_left _ _) (ez_le_rf _) e1]
            exact ez_mono n2 (max n1 n2) _ _ _ _ _ _ _ (Nat.le_max_right _ _) (ez_le_rf _) e2
def ez_mck (mi k : Nat) (rest : List Value) : Option Nat := match ez_ms[mi]? with
  | none => none
  | some M => match ez_at ez_mm M.1 k with
    | none => none
    | some f => bif Nat.ble 1 M.2.2.2.2.2.2.1 && (Nat.ble ((rest.map fun v => v.category).sum + 13) M.2.2.2.2.2.2.2) then some f else none
theorem ez_mth {mi o pc k f : Nat} {t : List (Nat × Instr × Nat)} {L : ez_L} {rest : List Value} {w : ez_W} {post : Option Value → ez_W → Prop} {x y : Int32} (hm : ez_mh mi o t) (hi : ez_lk t pc = some (.invokestatic k, 3)) (hc : ez_mck mi k rest = some f) (kk : ez_E mi (pc + 3) L (.int (bif Nat.beq f 0 then (if y < x then y else x) else (if x < y then y else x)) :: rest) w post) : ez_E mi pc L (.int y :: .int x :: rest) w post := by
  have hi' := hm.i hi
  unfold ez_mck at hc
  split at hc
  · cases hc
  · rename_i M hM
    split at hc
    · cases hc
    · rename_i f1 hf
      cases hb : (Nat.ble 1 M.2.2.2.2.2.2.1 && (Nat.ble ((rest.map fun v => v.category).sum + 13) M.2.2.2.2.2.2.2)) with
      | false => rw [hb] at hc; cases hc
      | true =>
        rw [hb] at hc
        cases hc
        obtain ⟨n, r, w', e1, e2⟩ := kk
        refine ⟨n + 1, r, w', ?_, e2⟩
        unfold ez_ev
        rw [hM]
        dsimp only
        rw [hi']
        dsimp only
        rw [show ez_ok (.invokestatic k) 3 = true from rfl]
        simp only [cond_true]
        rw [hf]
        dsimp only
        rw [hb]
        simp only [cond_true]
        exact e1
theorem ez_min {mi o pc k : Nat} {t : List (Nat × Instr × Nat)} {L : ez_L} {rest : List Value} {w : ez_W} {post : Option Value → ez_W → Prop} {a b : Nat} (hm : ez_mh mi o t) (hi : ez_lk t pc = some (.invokestatic k, 3)) (hc : ez_mck mi k rest = some 0) (ha : a < 2 ^ 31) (hb : b < 2 ^ 31) (kk : ez_E mi (pc + 3) L (.int (nI (min a b)) :: rest) w post) : ez_E mi pc L (.int (nI b) :: .int (nI a) :: rest) w post := by
  refine ez_mth hm hi hc ?_
  have e : (bif Nat.beq 0 0 then (if nI b < nI a then nI b else nI a) else (if nI a < nI b then nI b else nI a)) = nI (min a b) := by
    show (if nI b < nI a then nI b else nI a) = _
    by_cases h : b < a
    · rw [if_pos (nI_lt h ha), Nat.min_eq_right (by omega)]
    · rw [if_neg (nI_nlt (by omega) hb), Nat.min_eq_left (by omega)]
  rw [e]
  exact kk
theorem ez_max {mi o pc k : Nat} {t : List (Nat × Instr × Nat)} {L : ez_L} {rest : List Value} {w : ez_W} {post : Option Value → ez_W → Prop} {a b : Nat} (hm : ez_mh mi o t) (hi : ez_lk t pc = some (.invokestatic k, 3)) (hc : ez_mck mi k rest = some 1) (ha : a < 2 ^ 31) (hb : b < 2 ^ 31) (kk : ez_E mi (pc + 3) L (.int (nI (max a b)) :: rest) w post) : ez_E mi pc L (.int (nI b) :: .int (nI a) :: rest) w post := by
  refine ez_mth hm hi hc ?_
  have e : (bif Nat.beq 1 0 then (if nI b < nI a then nI b else nI a) else (if nI a < nI b then nI b else nI a)) = nI (max a b) := by
    show (if nI a < nI b then nI b else nI a) = _
    by_cases h : a < b
    · rw [if_pos (nI_lt h hb), Nat.max_eq_right (by omega)]
    · rw [if_neg (nI_nlt (by omega) ha), Nat.max_eq_left (by omega)]
  rw [e]
  exact kk
