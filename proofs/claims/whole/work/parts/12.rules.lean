/-! ===== rules for runs: ez_E a run from the middle of a method, ez_m a method's run ===== -/
def ez_E (mi pc : Nat) (L : ez_L) (st : List Value) (w : ez_W) (post : Option Value → ez_W → Prop) : Prop := ∃ (n : Nat) (r : Option Value) (w' : ez_W), ez_ev n mi pc L st w = some (r, w') ∧ post r w'
def ez_m (j : Nat) (As : List Value) (w : ez_W) (post : Option Value → ez_W → Prop) : Prop := ∃ N : ez_M, ez_ms[j]? = some N ∧ (ez_en As N.2.2.2.1).length = N.2.2.2.1 ∧ ez_E j 0 (ez_en As N.2.2.2.1) [] w post
def ez_mh (mi o : Nat) (t : List (Nat × Instr × Nat)) : Prop := ∃ M : ez_M, ez_ms[mi]? = some M ∧ M.1 = o ∧ ez_tb[mi]? = some t
theorem ez_E.le {mi pc : Nat} {L L' : ez_L} {st : List Value} {w : ez_W} {post : Option Value → ez_W → Prop} (h : ez_le L L') (k : ez_E mi pc L st w post) : ez_E mi pc L' st w post := by
  obtain ⟨n, r, w', h1, h2⟩ := k
  exact ⟨n, r, w', ez_mono n n mi pc L L' st w _ (Nat.le_refl _) h h1, h2⟩
theorem ez_E.imp {mi pc : Nat} {L : ez_L} {st : List Value} {w : ez_W} {post post' : Option Value → ez_W → Prop} (k : ez_E mi pc L st w post) (h : ∀ r w', post r w' → post' r w') : ez_E mi pc L st w post' := by
  obtain ⟨n, r, w', h1, h2⟩ := k
  exact ⟨n, r, w', h1, h _ _ h2⟩
theorem ez_m.imp {j : Nat} {As : List Value} {w : ez_W} {post post' : Option Value → ez_W → Prop} (k : ez_m j As w post) (h : ∀ r w', post r w' → post' r w') : ez_m j As w post' := by
  obtain ⟨N, h1, h2, h3⟩ := k
  exact ⟨N, h1, h2, h3.imp h⟩
theorem ez_mh.i {mi o : Nat} {t : List (Nat × Instr × Nat)} (h : ez_mh mi o t) {pc : Nat} {q : Instr × Nat} (hq : ez_lk t pc = some q) : ez_i mi pc = some q := by
  obtain ⟨M, -, -, h3⟩ := h
  unfold ez_i ez_at
  rw [h3]
  exact hq
set_option maxHeartbeats 2000000 in
theorem ez_step {mi o pc pc' : Nat} {t : List (Nat × Instr × Nat)} {i : Instr} {len : Nat} {L L' : ez_L} {st st' : List Value} {w w' : ez_W} {post : Option Value → ez_W → Prop} (hm : ez_mh mi o t) (hi : ez_lk t pc = some (i, len)) (hok : ez_ok i len = true) (hs : ez_s o i pc L st w = some (pc', L', st', w')) (k : ez_E mi pc' L' st' w' post) : ez_E mi pc L st w post := by
  obtain ⟨n, r, w1, h1, h2⟩ := k
  refine ⟨n + 1, r, w1, ?_, h2⟩
  have hi' := hm.i hi
  obtain ⟨M, g1, g2, g3⟩ := hm
  subst g2
  unfold ez_ev
  rw [g1]
  dsimp only
  rw [hi']
  dsimp only
  rw [hok]
  simp only [cond_true]
  cases i
  case ireturn => cases hs
  case lreturn => cases hs
  case return_ => cases hs
  case invokevirtual q => cases hs
  case invokestatic q => cases hs
  all_goals (dsimp only; rw [hs]; exact h1)
/-- some steps at once -/
def ez_run : Nat → Nat → List (Nat × Instr × Nat) → Nat → ez_L → List Value → ez_W → Option ez_K
  | 0, _, _, pc, L, st, w => some (pc, L, st, w)
  | k + 1, o, t, pc, L, st, w => match ez_lk t pc with
    | some (i, len) => bif ez_ok i len then match ez_s o i pc L st w with
        | some (pc', L', st', w') => ez_run k o t pc' L' st' w'
        | none => none
      else none
    | none => none
theorem ez_go {mi o : Nat} {t : List (Nat × Instr × Nat)} (hm : ez_mh mi o t) {post : Option Value → ez_W → Prop} : ∀ (k : Nat) {pc pc' : Nat} {L L' : ez_L} {st st' : List Value} {w w' : ez_W}, ez_run k o t pc L st w = some (pc', L', st', w') → ez_E mi pc' L' st' w' post → ez_E mi pc L st w post := by
  intro k
  induction k with
  | zero =>
    intro pc pc' L L' st st' w w' h kk
    cases h
    exact kk
  | succ k ih =>
    intro pc pc' L L' st st' w w' h kk
    unfold ez_run at h
    split at h
    · rename_i i len hi
      cases hok : ez_ok i len with
      | false => rw [hok] at h; cases h
      | true =>
        rw [hok] at h
        simp only [cond_true] at h
        split at h
        · rename_i pc1 L1 st1 w1 hs
          exact ez_step hm hi hok hs (ih h kk)
        · cases h
    · cases h
theorem ez_if {mi a b : Nat} {L : ez_L} {st : List Value} {w : ez_W} {post : Option Value → ez_W → Prop} {c : Prop} {_ : Decidable c} (ht : c → ez_E mi a L st w post) (hf : ¬ c → ez_E mi b L st w post) : ez_E mi (bif decide c then a else b) L st w post := by
  by_cases h : c
  · rw [decide_eq_true h]; exact ht h
  · rw [decide_eq_false h]; exact hf h
theorem ez_ifT {mi a b : Nat} {L : ez_L} {st : List Value} {w : ez_W} {post : Option Value → ez_W → Prop} {c : Prop} {_ : Decidable c} (h : c) (ht : ez_E mi a L st w post) : ez_E mi (bif decide c then a else b) L st w post := by
  rw [decide_eq_true h]; exact ht
theorem ez_ifF {mi a b : Nat} {L : ez_L} {st : List Value} {w : ez_W} {post : Option Value → ez_W → Prop} {c : Prop} {_ : Decidable c} (h : ¬ c) (hf : ez_E mi b L st w post) : ez_E mi (bif decide c then a else b) L st w post := by
  rw [decide_eq_false h]; exact hf
theorem ez_ald {mi o pc : Nat} {t : List (Nat × Instr × Nat)} {L : ez_L} {st : List Value} {w : ez_W} {post : Option Value → ez_W → Prop} {x : Int32} {a n : Nat} {f : Nat → Int32} (hm : ez_mh mi o t) (hi : ez_lk t pc = some (.iaload, 1)) (hw : w[a]? = some (.inl (n, f))) (k : Nat) (hx : x = nI k) (hk : k < n) (hn : n < 2 ^ 31) (kk : ez_E mi (pc + 1) L (.int (f k) :: st) w post) : ez_E mi pc L (.int x :: .ref a :: st) w post := by
  subst hx
  have hc : (nI k).toNatClampNeg = k := nI_clamp (by omega)
  have h0 : ¬ (nI k < 0 ∨ n ≤ (nI k).toNatClampNeg) := nI_in hk hn
  refine ez_step hm hi rfl ?_ kk
  simp only [ez_s, hw]
  rw [if_neg h0, hc]
theorem ez_ast {mi o pc : Nat} {t : List (Nat × Instr × Nat)} {L : ez_L} {st : List Value} {w : ez_W} {post : Option Value → ez_W → Prop} {x v : Int32} {a n : Nat} {f : Nat → Int32} (hm : ez_mh mi o t) (hi : ez_lk t pc = some (.iastore, 1)) (hw : w[a]? = some (.inl (n, f))) (k : Nat) (hx : x = nI k) (hk : k < n) (hn : n < 2 ^ 31) (kk : ez_E mi (pc + 1) L st (w.set a (.inl (n, upd f k v))) post) : ez_E mi pc L (.int v :: .int x :: .ref a :: st) w post := by
  subst hx
  have hc : (nI k).toNatClampNeg = k := nI_clamp (by omega)
  have h0 : ¬ (nI k < 0 ∨ n ≤ (nI k).toNatClampNeg) := nI_in hk hn
  refine ez_step hm hi rfl ?_ kk
  simp only [ez_s, hw]
  rw [if_neg h0, hc]
theorem ez_div {mi o pc : Nat} {t : List (Nat × Instr × Nat)} {L : ez_L} {st : List Value} {w : ez_W} {post : Option Value → ez_W → Prop} {x y : Int32} (hm : ez_mh mi o t) (hi : ez_lk t pc = some (.idiv, 1)) (hy : ¬ y = 0) (kk : ez_E mi (pc + 1) L (.int (x / y) :: st) w post) : ez_E mi pc L (.int y :: .int x :: st) w post := by
  refine ez_step hm hi rfl ?_ kk
  simp only [ez_s]
  rw [if_neg hy]
theorem ez_lrem {mi o pc : Nat} {t : List (Nat × Instr × Nat)} {L : ez_L} {st : List Value} {w : ez_W} {post : Option Value → ez_W → Prop} {x y : Int64} (hm : ez_mh mi o t) (hi : ez_lk t pc = some (.lrem, 1)) (hy : ¬ y = 0) (kk : ez_E mi (pc + 1) L (.long (x - x / y * y) :: st) w post) : ez_E mi pc L (.long y :: .long x :: st) w post := by
  refine ez_step hm hi rfl ?_ kk
  simp only [ez_s]
  rw [if_neg hy]
theorem ez_iret {mi o pc : Nat} {t : List (Nat × Instr × Nat)} {L : ez_L} {w : ez_W} {post : Option Value → ez_W → Prop} {v : Int32} {M : ez_M} (hM : ez_ms[mi]? = some M) (hm : ez_mh mi o t) (hi : ez_lk t pc = some (.ireturn, 1)) (hr : M.2.2.2.2.1 = some .int) (k : post (some (.int v)) w) : ez_E mi pc L [.int v] w post := by
  refine ⟨1, _, _, ?_, k⟩
  unfold ez_ev
  rw [hM]
  dsimp only
  rw [hm.i hi]
  dsimp only
  rw [hr]
  rfl
theorem ez_zret {mi o pc : Nat} {t : List (Nat × Instr × Nat)} {L : ez_L} {w : ez_W} {post : Option Value → ez_W → Prop} {v : Int32} {M : ez_M} (hM : ez_ms[mi]? = some M) (hm : ez_mh mi o t) (hi : ez_lk t pc = some (.ireturn, 1)) (hr : M.2.2.2.2.1 = some .boolean) (hv : v = 0 ∨ v = 1) (k : post (some (.int v)) w) : ez_E mi pc L [.int v] w post := by
  refine ⟨1, _, _, ?_, k⟩
  unfold ez_ev
  rw [hM]
  dsimp only
  rw [hm.i hi]
  dsimp only
  rw [hr]
  rcases hv with rfl | rfl <;> rfl
theorem ez_lret {mi o pc : Nat} {t : List (Nat × Instr × Nat)} {L : ez_L} {w : ez_W} {post : Option Value → ez_W → Prop} {v : Int64} {M : ez_M} (hM : ez_ms[mi]? = some M) (hm : ez_mh mi o t) (hi : ez_lk t pc = some (.lreturn, 1)) (hr : M.2.2.2.2.1 = some .long) (k : post (some (.long v)) w) : ez_E mi pc L [.long v] w post := by
  refine ⟨1, _, _, ?_, k⟩
  unfold ez_ev
  rw [hM]
  dsimp only
  rw [hm.i hi]
  dsimp only
  rw [hr]
  rfl
theorem ez_vret {mi o pc : Nat} {t : List (Nat × Instr × Nat)} {L : ez_L} {w : ez_W} {post : Option Value → ez_W → Prop} {M : ez_M} (hM : ez_ms[mi]? = some M) (hm : ez_mh mi o t) (hi : ez_lk t pc = some (.return_, 1)) (hr : M.2.2.2.2.1 = none) (k : post none w) : ez_E mi pc L [] w post := by
  refine ⟨1, _, _, ?_, k⟩
  unfold ez_ev
  rw [hM]
  dsimp only
  rw [hm.i hi]
  dsimp only
  rw [hr]
  rfl
/-- may this call be made here? the callee, its arguments, what is left on the stack -/
def ez_cal (mi : Nat) (k : Nat) (st : List Value) (w : ez_W) : Option (Nat × List Value × List Value) := match ez_ms[mi]? with
  | none => none
  | some M => match ez_at ez_cc M.1 k with
    | none => none
    | some j => match ez_ms[j]? with
      | none => none
      | some N => match st.drop N.2.2.2.2.2.1 with
        | .ref a :: rest => match w[a]? with
          | some (.inr (c, _)) =>
            bif Nat.beq c N.1 && (ez_fit M N rest && (Nat.beq (st.take N.2.2.2.2.2.1).length N.2.2.2.2.2.1 && Nat.beq (ez_en (.ref a :: (st.take N.2.2.2.2.2.1).reverse) N.2.2.2.1).length N.2.2.2.1)) then
              some (j, .ref a :: (st.take N.2.2.2.2.2.1).reverse, rest)
            else none
          | _ => none
        | _ => none
theorem ez_cl {mi o pc k : Nat} {t : List (Nat × Instr × Nat)} {L : ez_L} {st : List Value} {w : ez_W} {post : Option Value → ez_W → Prop} {j : Nat} {As rest : List Value} (hm : ez_mh mi o t) (hi : ez_lk t pc = some (.invokevirtual k, 3)) (hc : ez_cal mi k st w = some (j, As, rest)) (kk : ez_m j As w (fun r w1 => ez_E mi (pc + 3) L (r.toList ++ rest) w1 post)) : ez_E mi pc L st w post := by
  have hi' := hm.i hi
  unfold ez_cal at hc
  split at hc
  · cases hc
  · rename_i M hM
    split at hc
    · cases hc
    · rename_i j1 hj
      split at hc
      · cases hc
      · rename_i N hN
        split at hc
        · rename_i a rest1 hd
          split at hc
          · rename_i cc fs hw
            cases hb : (Nat.beq cc N.1 && (ez_fit M N rest1 && (Nat.beq (st.take N.2.2.2.2.2.1).length N.2.2.2.2.2.1 && Nat.beq (ez_en (.ref a :: (st.take N.2.2.2.2.2.1).reverse) N.2.2.2.1).length N.2.2.2.1))) with
            | false => rw [hb] at hc; cases hc
            | true =>
              rw [hb] at hc
              cases hc
              obtain ⟨N', g1, g2, n1, r1, w1, e1, n2, r2, w2, e2, e3⟩ := kk
              have hNN : N' = N := Option.some.inj (g1.symm.trans hN)
              subst hNN
              refine ⟨max n1 n2 + 1, r2, w2, ?_, e3⟩
              unfold ez_ev
              rw [hM]
              dsimp only
              rw [hi']
              dsimp only
              rw [show ez_ok (.invokevirtual k) 3 = true from rfl]
              simp only [cond_true]
              rw [hj]
              dsimp only
              rw [hN]
              dsimp only
              rw [hd]
              dsimp only
              rw [hw]
              dsimp only
              rw [hb]
              simp only [cond_true]
              rw [ez_mono n1 (max n1 n2) _ _ _ _ _ _ _ (Nat.le_max_left _ _) (ez_le_rf _) e1]
              exact ez_mono n2 (max n1 n2) _ _ _ _ _ _ _ (Nat.le_max_right _ _) (ez_le_rf _) e2
          · cases hc
        · cases hc
/-- a method's run from a run of its body -/
theorem ez_m.of {j : Nat} {As : List Value} {w : ez_W} {post : Option Value → ez_W → Prop} {N : ez_M} {L : ez_L} (hN : ez_ms[j]? = some N) (hL : ez_en As N.2.2.2.1 = L) (hlen : L.length = N.2.2.2.1) (k : ez_E j 0 L [] w post) : ez_m j As w post := ⟨N, hN, by rw [hL]; exact hlen, by rw [hL]; exact k⟩
/-- .. and the machine's contract of it -/
theorem ez_m.met {j : Nat} {As : List Value} {w : ez_W} {post : Option Value → ez_W → Prop} (h : ez_m j As w post) {N : ez_M} (hN : ez_ms[j]? = some N) : ∃ (r : Option Value) (w' : ez_W), post r w' ∧ ∀ (l : Launch) (D : va_G) (cI : ClassId) (ad : Nat → Nat) (sz : Nat), ez_Met l N D cI ad sz As w r w' := by
  obtain ⟨N', g1, g2, n, r, w', h1, h2⟩ := h
  have hNN : N' = N := Option.some.inj (g1.symm.trans hN)
  subst hNN
  exact ⟨r, w', h2, fun l D cI ad sz => ez_met hN h1 g2 D cI ad sz⟩
/-! the class's world: groups of the row, of QUICK, of RUNS, of the bench -/
abbrev cz_Row : Type := Int32 × Int32 × Int64 × Int32 × Int32 × Int32 × (Nat → Int32) × (Nat → Int32)
abbrev cz_Qk : Type := Int32 × Int32 × Int32 × Int32 × Int32 × Int32 × Int32 × Int64 × Int64 × (Nat → Int32) × (Nat → Int32) × (Nat → Int32)
abbrev cz_Rn : Type := Int32 × Int64 × Int64 × (Nat → Int32) × (Nat → Int32) × (Nat → Int32)
abbrev cz_Bn : Type := Int64 × Int64 × Int64 × Int64
def cz_w (r : cz_Row) (q : cz_Qk) (u : cz_Rn) (b : cz_Bn) : ez_W := [
  .inr (6, [.ref 1, .ref 2, .ref 3, .ref 4, .ref 5, .ref 6, .long b.1, .long b.2.1, .long b.2.2.1, .long b.2.2.2]),
  .inr (3, [.ref 7, .ref 8, .int r.1, .int r.2.1, .long r.2.2.1, .int r.2.2.2.1, .int r.2.2.2.2.1, .int r.2.2.2.2.2.1]),
  .inr (1, [.ref 1]), .inr (0, [.ref 1]),
  .inr (2, [.ref 1, .ref 2, .ref 3, .ref 9, .ref 10, .ref 11, .int q.1, .int q.2.1, .int q.2.2.1, .int q.2.2.2.1, .int q.2.2.2.2.1, .int q.2.2.2.2.2.1, .int q.2.2.2.2.2.2.1, .long q.2.2.2.2.2.2.2.1, .long q.2.2.2.2.2.2.2.2.1]),
  .inr (4, [.ref 1, .ref 12, .ref 13, .ref 14, .int u.1, .long u.2.1, .long u.2.2.1]),
  .inr (5, [.ref 1]),
  .inl (600, r.2.2.2.2.2.2.1), .inl (600, r.2.2.2.2.2.2.2),
  .inl (64, q.2.2.2.2.2.2.2.2.2.1), .inl (64, q.2.2.2.2.2.2.2.2.2.2.1), .inl (64, q.2.2.2.2.2.2.2.2.2.2.2),
  .inl (40, u.2.2.2.1), .inl (40, u.2.2.2.2.1), .inl (600, u.2.2.2.2.2)]
theorem ez_h0 : ez_mh 0 0 ez_t0 := ⟨_, rfl, rfl, rfl⟩
theorem ez_h1 : ez_mh 1 0 ez_t1 := ⟨_, rfl, rfl, rfl⟩
theorem ez_h2 : ez_mh 2 0 ez_t2 := ⟨_, rfl, rfl, rfl⟩
theorem ez_h3 : ez_mh 3 1 ez_t3 := ⟨_, rfl, rfl, rfl⟩
theorem ez_h4 : ez_mh 4 1 ez_t4 := ⟨_, rfl, rfl, rfl⟩
theorem ez_h5 : ez_mh 5 1 ez_t5 := ⟨_, rfl, rfl, rfl⟩
theorem ez_h6 : ez_mh 6 1 ez_t6 := ⟨_, rfl, rfl, rfl⟩
theorem ez_h7 : ez_mh 7 1 ez_t7 := ⟨_, rfl, rfl, rfl⟩
theorem ez_h8 : ez_mh 8 2 ez_t8 := ⟨_, rfl, rfl, rfl⟩
theorem ez_h9 : ez_mh 9 2 ez_t9 := ⟨_, rfl, rfl, rfl⟩
theorem ez_h10 : ez_mh 10 2 ez_t10 := ⟨_, rfl, rfl, rfl⟩
theorem ez_h11 : ez_mh 11 2 ez_t11 := ⟨_, rfl, rfl, rfl⟩
theorem ez_h12 : ez_mh 12 2 ez_t12 := ⟨_, rfl, rfl, rfl⟩
theorem ez_h13 : ez_mh 13 2 ez_t13 := ⟨_, rfl, rfl, rfl⟩
theorem ez_h14 : ez_mh 14 2 ez_t14 := ⟨_, rfl, rfl, rfl⟩
theorem ez_h15 : ez_mh 15 2 ez_t15 := ⟨_, rfl, rfl, rfl⟩
theorem ez_h16 : ez_mh 16 2 ez_t16 := ⟨_, rfl, rfl, rfl⟩
theorem ez_h17 : ez_mh 17 2 ez_t17 := ⟨_, rfl, rfl, rfl⟩
theorem ez_h18 : ez_mh 18 2 ez_t18 := ⟨_, rfl, rfl, rfl⟩
theorem ez_h19 : ez_mh 19 2 ez_t19 := ⟨_, rfl, rfl, rfl⟩
theorem ez_h20 : ez_mh 20 2 ez_t20 := ⟨_, rfl, rfl, rfl⟩
theorem ez_h21 : ez_mh 21 2 ez_t21 := ⟨_, rfl, rfl, rfl⟩
theorem ez_h22 : ez_mh 22 2 ez_t22 := ⟨_, rfl, rfl, rfl⟩
theorem ez_h23 : ez_mh 23 2 ez_t23 := ⟨_, rfl, rfl, rfl⟩
theorem ez_h24 : ez_mh 24 2 ez_t24 := ⟨_, rfl, rfl, rfl⟩
theorem ez_h25 : ez_mh 25 2 ez_t25 := ⟨_, rfl, rfl, rfl⟩
theorem ez_h26 : ez_mh 26 3 ez_t26 := ⟨_, rfl, rfl, rfl⟩
theorem ez_h27 : ez_mh 27 3 ez_t27 := ⟨_, rfl, rfl, rfl⟩
theorem ez_h28 : ez_mh 28 3 ez_t28 := ⟨_, rfl, rfl, rfl⟩
theorem ez_h29 : ez_mh 29 3 ez_t29 := ⟨_, rfl, rfl, rfl⟩
theorem ez_h30 : ez_mh 30 3 ez_t30 := ⟨_, rfl, rfl, rfl⟩
theorem ez_h31 : ez_mh 31 3 ez_t31 := ⟨_, rfl, rfl, rfl⟩
theorem ez_h32 : ez_mh 32 3 ez_t32 := ⟨_, rfl, rfl, rfl⟩
theorem ez_h33 : ez_mh 33 3 ez_t33 := ⟨_, rfl, rfl, rfl⟩
theorem ez_h34 : ez_mh 34 3 ez_t34 := ⟨_, rfl, rfl, rfl⟩
theorem ez_h35 : ez_mh 35 3 ez_t35 := ⟨_, rfl, rfl, rfl⟩
theorem ez_h36 : ez_mh 36 3 ez_t36 := ⟨_, rfl, rfl, rfl⟩
theorem ez_h37 : ez_mh 37 3 ez_t37 := ⟨_, rfl, rfl, rfl⟩
theorem ez_h38 : ez_mh 38 3 ez_t38 := ⟨_, rfl, rfl, rfl⟩
theorem ez_h39 : ez_mh 39 3 ez_t39 := ⟨_, rfl, rfl, rfl⟩
theorem ez_h40 : ez_mh 40 3 ez_t40 := ⟨_, rfl, rfl, rfl⟩
theorem ez_h41 : ez_mh 41 3 ez_t41 := ⟨_, rfl, rfl, rfl⟩
theorem ez_h42 : ez_mh 42 4 ez_t42 := ⟨_, rfl, rfl, rfl⟩
theorem ez_h43 : ez_mh 43 4 ez_t43 := ⟨_, rfl, rfl, rfl⟩
theorem ez_h44 : ez_mh 44 4 ez_t44 := ⟨_, rfl, rfl, rfl⟩
theorem ez_h45 : ez_mh 45 4 ez_t45 := ⟨_, rfl, rfl, rfl⟩
theorem ez_h46 : ez_mh 46 4 ez_t46 := ⟨_, rfl, rfl, rfl⟩
theorem ez_h47 : ez_mh 47 4 ez_t47 := ⟨_, rfl, rfl, rfl⟩
theorem ez_h48 : ez_mh 48 4 ez_t48 := ⟨_, rfl, rfl, rfl⟩
theorem ez_h49 : ez_mh 49 4 ez_t49 := ⟨_, rfl, rfl, rfl⟩
theorem ez_h50 : ez_mh 50 4 ez_t50 := ⟨_, rfl, rfl, rfl⟩
theorem ez_h51 : ez_mh 51 4 ez_t51 := ⟨_, rfl, rfl, rfl⟩
theorem ez_h52 : ez_mh 52 4 ez_t52 := ⟨_, rfl, rfl, rfl⟩
theorem ez_h53 : ez_mh 53 4 ez_t53 := ⟨_, rfl, rfl, rfl⟩
theorem ez_h54 : ez_mh 54 4 ez_t54 := ⟨_, rfl, rfl, rfl⟩
theorem ez_h55 : ez_mh 55 4 ez_t55 := ⟨_, rfl, rfl, rfl⟩
theorem ez_h56 : ez_mh 56 4 ez_t56 := ⟨_, rfl, rfl, rfl⟩
theorem ez_h57 : ez_mh 57 5 ez_t57 := ⟨_, rfl, rfl, rfl⟩
theorem ez_h58 : ez_mh 58 6 ez_t58 := ⟨_, rfl, rfl, rfl⟩
theorem ez_h59 : ez_mh 59 6 ez_t59 := ⟨_, rfl, rfl, rfl⟩
theorem ez_h60 : ez_mh 60 6 ez_t60 := ⟨_, rfl, rfl, rfl⟩
theorem ez_h61 : ez_mh 61 6 ez_t61 := ⟨_, rfl, rfl, rfl⟩
theorem ez_h62 : ez_mh 62 7 ez_t62 := ⟨_, rfl, rfl, rfl⟩
theorem ez_h63 : ez_mh 63 7 ez_t63 := ⟨_, rfl, rfl, rfl⟩
theorem ez_h64 : ez_mh 64 7 ez_t64 := ⟨_, rfl, rfl, rfl⟩
theorem ez_h65 : ez_mh 65 7 ez_t65 := ⟨_, rfl, rfl, rfl⟩
theorem ez_h66 : ez_mh 66 7 ez_t66 := ⟨_, rfl, rfl, rfl⟩
theorem ez_h67 : ez_mh 67 7 ez_t67 := ⟨_, rfl, rfl, rfl⟩
theorem ez_h68 : ez_mh 68 7 ez_t68 := ⟨_, rfl, rfl, rfl⟩
theorem ez_h69 : ez_mh 69 7 ez_t69 := ⟨_, rfl, rfl, rfl⟩
theorem ez_h70 : ez_mh 70 7 ez_t70 := ⟨_, rfl, rfl, rfl⟩
theorem ez_h71 : ez_mh 71 7 ez_t71 := ⟨_, rfl, rfl, rfl⟩
theorem ez_h72 : ez_mh 72 7 ez_t72 := ⟨_, rfl, rfl, rfl⟩
theorem ez_h73 : ez_mh 73 7 ez_t73 := ⟨_, rfl, rfl, rfl⟩
theorem ez_h74 : ez_mh 74 7 ez_t74 := ⟨_, rfl, rfl, rfl⟩
theorem ez_h75 : ez_mh 75 7 ez_t75 := ⟨_, rfl, rfl, rfl⟩
theorem ez_h76 : ez_mh 76 7 ez_t76 := ⟨_, rfl, rfl, rfl⟩
theorem ez_h77 : ez_mh 77 7 ez_t77 := ⟨_, rfl, rfl, rfl⟩
theorem ez_h78 : ez_mh 78 7 ez_t78 := ⟨_, rfl, rfl, rfl⟩
theorem ez_h79 : ez_mh 79 7 ez_t79 := ⟨_, rfl, rfl, rfl⟩
theorem ez_h80 : ez_mh 80 7 ez_t80 := ⟨_, rfl, rfl, rfl⟩
theorem ez_h81 : ez_mh 81 7 ez_t81 := ⟨_, rfl, rfl, rfl⟩
theorem ez_h82 : ez_mh 82 7 ez_t82 := ⟨_, rfl, rfl, rfl⟩
theorem ez_h83 : ez_mh 83 7 ez_t83 := ⟨_, rfl, rfl, rfl⟩
theorem ez_h84 : ez_mh 84 7 ez_t84 := ⟨_, rfl, rfl, rfl⟩
theorem ez_h85 : ez_mh 85 7 ez_t85 := ⟨_, rfl, rfl, rfl⟩
theorem ez_h86 : ez_mh 86 7 ez_t86 := ⟨_, rfl, rfl, rfl⟩
theorem ez_h87 : ez_mh 87 7 ez_t87 := ⟨_, rfl, rfl, rfl⟩
theorem ez_h88 : ez_mh 88 7 ez_t88 := ⟨_, rfl, rfl, rfl⟩
theorem ez_h89 : ez_mh 89 7 ez_t89 := ⟨_, rfl, rfl, rfl⟩
theorem ez_h90 : ez_mh 90 7 ez_t90 := ⟨_, rfl, rfl, rfl⟩
theorem ez_h91 : ez_mh 91 7 ez_t91 := ⟨_, rfl, rfl, rfl⟩
theorem ez_h92 : ez_mh 92 7 ez_t92 := ⟨_, rfl, rfl, rfl⟩
theorem ez_h93 : ez_mh 93 7 ez_t93 := ⟨_, rfl, rfl, rfl⟩
theorem ez_h94 : ez_mh 94 7 ez_t94 := ⟨_, rfl, rfl, rfl⟩
theorem ez_h95 : ez_mh 95 7 ez_t95 := ⟨_, rfl, rfl, rfl⟩
theorem ez_h96 : ez_mh 96 7 ez_t96 := ⟨_, rfl, rfl, rfl⟩
theorem ez_h97 : ez_mh 97 7 ez_t97 := ⟨_, rfl, rfl, rfl⟩
theorem ez_h98 : ez_mh 98 7 ez_t98 := ⟨_, rfl, rfl, rfl⟩
theorem ez_h99 : ez_mh 99 7 ez_t99 := ⟨_, rfl, rfl, rfl⟩
theorem ez_h100 : ez_mh 100 7 ez_t100 := ⟨_, rfl, rfl, rfl⟩
theorem ez_h101 : ez_mh 101 7 ez_t101 := ⟨_, rfl, rfl, rfl⟩
theorem ez_h102 : ez_mh 102 7 ez_t102 := ⟨_, rfl, rfl, rfl⟩
theorem ez_h103 : ez_mh 103 7 ez_t103 := ⟨_, rfl, rfl, rfl⟩
theorem ez_h104 : ez_mh 104 7 ez_t104 := ⟨_, rfl, rfl, rfl⟩
theorem ez_h105 : ez_mh 105 6 ez_t105 := ⟨_, rfl, rfl, rfl⟩
theorem ez_h106 : ez_mh 106 6 ez_t106 := ⟨_, rfl, rfl, rfl⟩
theorem ez_h107 : ez_mh 107 6 ez_t107 := ⟨_, rfl, rfl, rfl⟩
theorem ez_h108 : ez_mh 108 6 ez_t108 := ⟨_, rfl, rfl, rfl⟩
theorem ez_h109 : ez_mh 109 6 ez_t109 := ⟨_, rfl, rfl, rfl⟩
theorem ez_h110 : ez_mh 110 6 ez_t110 := ⟨_, rfl, rfl, rfl⟩
theorem ez_h111 : ez_mh 111 6 ez_t111 := ⟨_, rfl, rfl, rfl⟩
theorem ez_h112 : ez_mh 112 6 ez_t112 := ⟨_, rfl, rfl, rfl⟩
theorem ez_h113 : ez_mh 113 6 ez_t113 := ⟨_, rfl, rfl, rfl⟩
theorem ez_h114 : ez_mh 114 6 ez_t114 := ⟨_, rfl, rfl, rfl⟩
theorem ez_h115 : ez_mh 115 6 ez_t115 := ⟨_, rfl, rfl, rfl⟩
theorem ez_h116 : ez_mh 116 6 ez_t116 := ⟨_, rfl, rfl, rfl⟩
theorem ez_h117 : ez_mh 117 6 ez_t117 := ⟨_, rfl, rfl, rfl⟩
theorem ez_h118 : ez_mh 118 6 ez_t118 := ⟨_, rfl, rfl, rfl⟩
theorem ez_h119 : ez_mh 119 6 ez_t119 := ⟨_, rfl, rfl, rfl⟩
theorem ez_h120 : ez_mh 120 6 ez_t120 := ⟨_, rfl, rfl, rfl⟩
theorem ez_h121 : ez_mh 121 6 ez_t121 := ⟨_, rfl, rfl, rfl⟩
theorem ez_h122 : ez_mh 122 5 ez_t122 := ⟨_, rfl, rfl, rfl⟩
