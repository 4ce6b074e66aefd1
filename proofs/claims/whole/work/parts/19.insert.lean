/-- the way down of one that is inserted: gd: GUARDED, down to lo; else what stands before lo is known not to be greater -/
theorem zi_down {E : ze_T} (hE : ze_ok E) (gd : Bool) (lo x : Nat) (hx : x < ze_n E) : ∀ (j : Nat) (row : Nat → Nat) (g : zs_G), lo < j → j < ze_n E → zr_ok E row g → (gd = false → 1 ≤ lo ∧ zs_K (ze_md E) (ze_ka E) g (row (lo - 1)) x) →
    ∃ (row' : Nat → Nat) (g' : zs_G) (j' : Nat), lo ≤ j' ∧ j' < j ∧ zr_ok E row' g' ∧ zg_le E g g' ∧ (∀ k, row' k = if j' < k ∧ k ≤ j then row (k - 1) else row k) ∧
      (∀ i lw : Nat, lw ≤ lo → (gd = true → lw = lo) → (gd = false → lw < lo) → cr_G E 7 35 [some (.ref 2), some (.int (nI (i))), some (.int (nI (lw))), some (.int (nI (ze_pi E (x)))), some (.int (nI (j)))] row g 86 [some (.ref 2), some (.int (nI (i))), some (.int (nI (lw))), some (.int (nI (ze_pi E (x)))), some (.int (nI (j')))] row' g') ∧
      (∀ (b e i : Nat) (pp sm : Int32), (gd = true → b = lo) → mr_G E 76 62 [some (.ref 0), some (.int (nI (b))), some (.int (nI (e))), some (.int (nI (bif gd then 1 else 0))), some (.int (pp)), some (.int (sm)), some (.int (nI (i))), some (.int (nI (x))), some (.int (nI (j))), none] row g 119 [some (.ref 0), some (.int (nI (b))), some (.int (nI (e))), some (.int (nI (bif gd then 1 else 0))), some (.int (pp)), some (.int (sm)), some (.int (nI (i))), some (.int (nI (x))), some (.int (nI (j'))), none] row' g') := by
  intro j
  induction j using Nat.strongRecOn with
  | _ j ih =>
    intro row g h1 h2 hw hs
    have hn := hE.1
    have hw1 : zr_ok E (va_up row j (row (j - 1))) g := hw.set (hw.1 _ (by omega))
    have hshape : ∀ k, va_up row j (row (j - 1)) k = if j - 1 < k ∧ k ≤ j then row (k - 1) else row k := fun k => by
      by_cases e : k = j
      · rw [e, va_up_self, if_pos (by omega)]
      · rw [va_up_ne _ _ e, if_neg (by omega)]
    by_cases hstop : gd = true ∧ j - 1 = lo
    · obtain ⟨rfl, hj⟩ := hstop
      refine ⟨va_up row j (row (j - 1)), g, j - 1, by omega, by omega, hw1, zg_le.rf g, hshape, fun i lw q1 q2 q3 => ?_, fun b e i pp sm q1 => ?_⟩
      · have q2 := q2 rfl
        intro r q u b post hr kk
        refine ez_go ez_h7 8 (pc' := 49) (L' := [some (.ref 2), some (.int (nI (i))), some (.int (nI (lw))), some (.int (nI (ze_pi E (x)))), some (.int (nI (j)))]) (st' := [.int ((nI (j)) - (nI (1))), .ref 1, .int (nI (j)), .ref 1]) (w' := cz_w r q u b) rfl ?_
        refine ez_top (y := nI (j - 1)) (pk_sub (by omega)) ?_
        refine ez_cl ez_h7 rfl rfl ?_
        refine cr_at hE hr (k := j - 1) (by omega) q u b ?_
        refine ez_cl ez_h7 rfl rfl ?_
        refine cr_set hE hr (k := j) (x := row (j - 1)) (by omega) q u b (fun r4 hr4 => ?_)
        refine ez_inc ez_h7 rfl rfl (v := nI (j - 1)) (zi_m (by omega)) rfl ?_
        refine ez_go ez_h7 3 (pc' := bif decide ((nI (j - 1)) ≤ (nI (lw))) then 86 else 64) (L' := [some (.ref 2), some (.int (nI (i))), some (.int (nI (lw))), some (.int (nI (ze_pi E (x)))), some (.int (nI (j - 1)))]) (st' := []) (w' := cz_w r4 q u b) rfl ?_
        refine ez_ifT (zt_le (a := j - 1) (b := lw) (by omega) (by omega)) ?_
        exact kk _ hr4
      · have q1 := q1 rfl
        intro A Q U T post hA kk
        refine ez_go ez_h76 8 (pc' := 76) (L' := [some (.ref 0), some (.int (nI (b))), some (.int (nI (e))), some (.int (nI (1))), some (.int (pp)), some (.int (sm)), some (.int (nI (i))), some (.int (nI (x))), some (.int (nI (j))), none]) (st' := [.int ((nI (j)) - (nI (1))), .ref 4, .int (nI (j)), .ref 4]) (w' := mz_w A Q U T) rfl ?_
        refine ez_top (y := nI (j - 1)) (pk_sub (by omega)) ?_
        refine mr_ld ez_h76 rfl hE hA (k := j - 1) (by omega) ?_
        refine mr_st ez_h76 rfl hE hA (k := j) (x := row (j - 1)) (by omega) (fun A5 hA5 => ?_)
        refine ez_inc ez_h76 rfl rfl (v := nI (j - 1)) (zi_m (by omega)) rfl ?_
        refine ez_go ez_h76 2 (pc' := bif decide ((nI (1)) = (nI 0)) then 91 else 85) (L' := [some (.ref 0), some (.int (nI (b))), some (.int (nI (e))), some (.int (nI (1))), some (.int (pp)), some (.int (sm)), some (.int (nI (i))), some (.int (nI (x))), some (.int (nI (j - 1))), none]) (st' := []) (w' := mz_w A5 Q U T) rfl ?_
        refine ez_ifF (zt_ne (by omega) (by omega) (by omega)) ?_
        refine ez_go ez_h76 3 (pc' := bif decide ((nI (j - 1)) ≤ (nI (b))) then 113 else 91) (L' := [some (.ref 0), some (.int (nI (b))), some (.int (nI (e))), some (.int (nI (1))), some (.int (pp)), some (.int (sm)), some (.int (nI (i))), some (.int (nI (x))), some (.int (nI (j - 1))), none]) (st' := []) (w' := mz_w A5 Q U T) rfl ?_
        refine ez_ifT (zt_le (a := j - 1) (b := b) (by omega) (by omega)) ?_
        refine ez_go ez_h76 5 (pc' := bif decide ((nI (0)) = (nI 0)) then 119 else 62) (L' := [some (.ref 0), some (.int (nI (b))), some (.int (nI (e))), some (.int (nI (1))), some (.int (pp)), some (.int (sm)), some (.int (nI (i))), some (.int (nI (x))), some (.int (nI (j - 1))), some (.int (nI (0)))]) (st' := []) (w' := mz_w A5 Q U T) rfl ?_
        refine ez_ifT (zt_eq (by omega)) ?_
        exact ez_E.le (ez_lc (ez_lc (ez_lc (ez_lc (ez_lc (ez_lc (ez_lc (ez_lc (ez_lc (ez_ln ez_l0)))))))))) (kk _ hA5)
    · cases hb : zs_b (ze_md E) (ze_ka E) x (va_up row j (row (j - 1)) (j - 1 - 1)) g with
      | false =>
        have hlo : lo ≤ j - 1 := by omega
        refine ⟨va_up row j (row (j - 1)), zs_g (ze_md E) x (va_up row j (row (j - 1)) (j - 1 - 1)) g, j - 1, hlo, by omega, hw1.go hx (hw1.1 (j - 1 - 1) (by omega)), zg_le.go hw1 x _, hshape, fun i lw q1 q2 q3 => ?_, fun b e i pp sm q1 => ?_⟩
        · have hlw : lw < j - 1 := by
            cases gd with
            | true =>
              have := q2 rfl
              have : ¬ j - 1 = lo := fun z => hstop ⟨rfl, z⟩
              omega
            | false => have := q3 rfl; omega
          intro r q u b post hr kk
          refine ez_go ez_h7 8 (pc' := 49) (L' := [some (.ref 2), some (.int (nI (i))), some (.int (nI (lw))), some (.int (nI (ze_pi E (x)))), some (.int (nI (j)))]) (st' := [.int ((nI (j)) - (nI (1))), .ref 1, .int (nI (j)), .ref 1]) (w' := cz_w r q u b) rfl ?_
          refine ez_top (y := nI (j - 1)) (pk_sub (by omega)) ?_
          refine ez_cl ez_h7 rfl rfl ?_
          refine cr_at hE hr (k := j - 1) (by omega) q u b ?_
          refine ez_cl ez_h7 rfl rfl ?_
          refine cr_set hE hr (k := j) (x := row (j - 1)) (by omega) q u b (fun r6 hr6 => ?_)
          refine ez_inc ez_h7 rfl rfl (v := nI (j - 1)) (zi_m (by omega)) rfl ?_
          refine ez_go ez_h7 3 (pc' := bif decide ((nI (j - 1)) ≤ (nI (lw))) then 86 else 64) (L' := [some (.ref 2), some (.int (nI (i))), some (.int (nI (lw))), some (.int (nI (ze_pi E (x)))), some (.int (nI (j - 1)))]) (st' := []) (w' := cz_w r6 q u b) rfl ?_
          refine ez_ifF (zt_nle (a := j - 1) (b := lw) (by omega) (by omega)) ?_
          refine ez_go ez_h7 8 (pc' := 77) (L' := [some (.ref 2), some (.int (nI (i))), some (.int (nI (lw))), some (.int (nI (ze_pi E (x)))), some (.int (nI (j - 1)))]) (st' := [.int ((nI (j - 1)) - (nI (1))), .ref 1, .int (nI (ze_pi E (x))), .ref 1]) (w' := cz_w r6 q u b) rfl ?_
          refine ez_top (y := nI ((j - 1) - 1)) (pk_sub (by omega)) ?_
          refine ez_cl ez_h7 rfl rfl ?_
          refine cr_at hE hr6 (k := (j - 1) - 1) (by omega) q u b ?_
          refine ez_cl ez_h7 rfl rfl ?_
          refine cr_less hE hr6 (zr_ok.set hw (k := j) (x := row (j - 1)) (hw.1 (j - 1) (by omega))).2 (x := x) (y := (va_up row j (row (j - 1))) ((j - 1) - 1)) hx ((zr_ok.set hw (k := j) (x := row (j - 1)) (hw.1 (j - 1) (by omega))).1 ((j - 1) - 1) (by omega)) q u b (fun r7 hr7 => ?_)
          refine ez_go ez_h7 1 (pc' := bif decide (¬ (zs_z (zs_b (ze_md E) (ze_ka E) x ((va_up row j (row (j - 1))) ((j - 1) - 1)) g)) = 0) then 35 else 86) (L' := [some (.ref 2), some (.int (nI (i))), some (.int (nI (lw))), some (.int (nI (ze_pi E (x)))), some (.int (nI (j - 1)))]) (st' := []) (w' := cz_w r7 q u b) rfl ?_
          refine ez_ifF (fun z => z (zz_f hb)) ?_
          exact kk _ hr7
        · intro A Q U T post hA kk
          cases gd with
          | true =>
            have q1 := q1 rfl
            have hne : ¬ j - 1 = lo := fun z => hstop ⟨rfl, z⟩
            refine ez_go ez_h76 8 (pc' := 76) (L' := [some (.ref 0), some (.int (nI (b))), some (.int (nI (e))), some (.int (nI (1))), some (.int (pp)), some (.int (sm)), some (.int (nI (i))), some (.int (nI (x))), some (.int (nI (j))), none]) (st' := [.int ((nI (j)) - (nI (1))), .ref 4, .int (nI (j)), .ref 4]) (w' := mz_w A Q U T) rfl ?_
            refine ez_top (y := nI (j - 1)) (pk_sub (by omega)) ?_
            refine mr_ld ez_h76 rfl hE hA (k := j - 1) (by omega) ?_
            refine mr_st ez_h76 rfl hE hA (k := j) (x := row (j - 1)) (by omega) (fun A8 hA8 => ?_)
            refine ez_inc ez_h76 rfl rfl (v := nI (j - 1)) (zi_m (by omega)) rfl ?_
            refine ez_go ez_h76 2 (pc' := bif decide ((nI (1)) = (nI 0)) then 91 else 85) (L' := [some (.ref 0), some (.int (nI (b))), some (.int (nI (e))), some (.int (nI (1))), some (.int (pp)), some (.int (sm)), some (.int (nI (i))), some (.int (nI (x))), some (.int (nI (j - 1))), none]) (st' := []) (w' := mz_w A8 Q U T) rfl ?_
            refine ez_ifF (zt_ne (by omega) (by omega) (by omega)) ?_
            refine ez_go ez_h76 3 (pc' := bif decide ((nI (j - 1)) ≤ (nI (b))) then 113 else 91) (L' := [some (.ref 0), some (.int (nI (b))), some (.int (nI (e))), some (.int (nI (1))), some (.int (pp)), some (.int (sm)), some (.int (nI (i))), some (.int (nI (x))), some (.int (nI (j - 1))), none]) (st' := []) (w' := mz_w A8 Q U T) rfl ?_
            refine ez_ifF (zt_nle (a := j - 1) (b := b) (by omega) (by omega)) ?_
            refine ez_go ez_h76 7 (pc' := 102) (L' := [some (.ref 0), some (.int (nI (b))), some (.int (nI (e))), some (.int (nI (1))), some (.int (pp)), some (.int (sm)), some (.int (nI (i))), some (.int (nI (x))), some (.int (nI (j - 1))), none]) (st' := [.int ((nI (j - 1)) - (nI (1))), .ref 4, .int (nI (x)), .ref 0]) (w' := mz_w A8 Q U T) rfl ?_
            refine ez_top (y := nI ((j - 1) - 1)) (pk_sub (by omega)) ?_
            refine mr_ld ez_h76 rfl hE hA8 (k := (j - 1) - 1) (by omega) ?_
            refine ez_cl ez_h76 rfl rfl ?_
            refine mr_less hE hA8 (zr_ok.set hw (k := j) (x := row (j - 1)) (hw.1 (j - 1) (by omega))).2 (x := x) (y := (va_up row j (row (j - 1))) ((j - 1) - 1)) hx ((zr_ok.set hw (k := j) (x := row (j - 1)) (hw.1 (j - 1) (by omega))).1 ((j - 1) - 1) (by omega)) Q U T (fun A9 hA9 => ?_)
            refine ez_go ez_h76 1 (pc' := bif decide ((zs_z (zs_b (ze_md E) (ze_ka E) x ((va_up row j (row (j - 1))) ((j - 1) - 1)) g)) = 0) then 113 else 109) (L' := [some (.ref 0), some (.int (nI (b))), some (.int (nI (e))), some (.int (nI (1))), some (.int (pp)), some (.int (sm)), some (.int (nI (i))), some (.int (nI (x))), some (.int (nI (j - 1))), none]) (st' := []) (w' := mz_w A9 Q U T) rfl ?_
            refine ez_ifT (zz_f hb) ?_
            refine ez_go ez_h76 5 (pc' := bif decide ((nI (0)) = (nI 0)) then 119 else 62) (L' := [some (.ref 0), some (.int (nI (b))), some (.int (nI (e))), some (.int (nI (1))), some (.int (pp)), some (.int (sm)), some (.int (nI (i))), some (.int (nI (x))), some (.int (nI (j - 1))), some (.int (nI (0)))]) (st' := []) (w' := mz_w A9 Q U T) rfl ?_
            refine ez_ifT (zt_eq (by omega)) ?_
            exact ez_E.le (ez_lc (ez_lc (ez_lc (ez_lc (ez_lc (ez_lc (ez_lc (ez_lc (ez_lc (ez_ln ez_l0)))))))))) (kk _ hA9)
          | false =>
            have hs := hs rfl
            refine ez_go ez_h76 8 (pc' := 76) (L' := [some (.ref 0), some (.int (nI (b))), some (.int (nI (e))), some (.int (nI (0))), some (.int (pp)), some (.int (sm)), some (.int (nI (i))), some (.int (nI (x))), some (.int (nI (j))), none]) (st' := [.int ((nI (j)) - (nI (1))), .ref 4, .int (nI (j)), .ref 4]) (w' := mz_w A Q U T) rfl ?_
            refine ez_top (y := nI (j - 1)) (pk_sub (by omega)) ?_
            refine mr_ld ez_h76 rfl hE hA (k := j - 1) (by omega) ?_
            refine mr_st ez_h76 rfl hE hA (k := j) (x := row (j - 1)) (by omega) (fun A10 hA10 => ?_)
            refine ez_inc ez_h76 rfl rfl (v := nI (j - 1)) (zi_m (by omega)) rfl ?_
            refine ez_go ez_h76 2 (pc' := bif decide ((nI (0)) = (nI 0)) then 91 else 85) (L' := [some (.ref 0), some (.int (nI (b))), some (.int (nI (e))), some (.int (nI (0))), some (.int (pp)), some (.int (sm)), some (.int (nI (i))), some (.int (nI (x))), some (.int (nI (j - 1))), none]) (st' := []) (w' := mz_w A10 Q U T) rfl ?_
            refine ez_ifT (zt_eq (by omega)) ?_
            refine ez_go ez_h76 7 (pc' := 102) (L' := [some (.ref 0), some (.int (nI (b))), some (.int (nI (e))), some (.int (nI (0))), some (.int (pp)), some (.int (sm)), some (.int (nI (i))), some (.int (nI (x))), some (.int (nI (j - 1))), none]) (st' := [.int ((nI (j - 1)) - (nI (1))), .ref 4, .int (nI (x)), .ref 0]) (w' := mz_w A10 Q U T) rfl ?_
            refine ez_top (y := nI ((j - 1) - 1)) (pk_sub (by omega)) ?_
            refine mr_ld ez_h76 rfl hE hA10 (k := (j - 1) - 1) (by omega) ?_
            refine ez_cl ez_h76 rfl rfl ?_
            refine mr_less hE hA10 (zr_ok.set hw (k := j) (x := row (j - 1)) (hw.1 (j - 1) (by omega))).2 (x := x) (y := (va_up row j (row (j - 1))) ((j - 1) - 1)) hx ((zr_ok.set hw (k := j) (x := row (j - 1)) (hw.1 (j - 1) (by omega))).1 ((j - 1) - 1) (by omega)) Q U T (fun A11 hA11 => ?_)
            refine ez_go ez_h76 1 (pc' := bif decide ((zs_z (zs_b (ze_md E) (ze_ka E) x ((va_up row j (row (j - 1))) ((j - 1) - 1)) g)) = 0) then 113 else 109) (L' := [some (.ref 0), some (.int (nI (b))), some (.int (nI (e))), some (.int (nI (0))), some (.int (pp)), some (.int (sm)), some (.int (nI (i))), some (.int (nI (x))), some (.int (nI (j - 1))), none]) (st' := []) (w' := mz_w A11 Q U T) rfl ?_
            refine ez_ifT (zz_f hb) ?_
            refine ez_go ez_h76 5 (pc' := bif decide ((nI (0)) = (nI 0)) then 119 else 62) (L' := [some (.ref 0), some (.int (nI (b))), some (.int (nI (e))), some (.int (nI (0))), some (.int (pp)), some (.int (sm)), some (.int (nI (i))), some (.int (nI (x))), some (.int (nI (j - 1))), some (.int (nI (0)))]) (st' := []) (w' := mz_w A11 Q U T) rfl ?_
            refine ez_ifT (zt_eq (by omega)) ?_
            exact ez_E.le (ez_lc (ez_lc (ez_lc (ez_lc (ez_lc (ez_lc (ez_lc (ez_lc (ez_lc (ez_ln ez_l0)))))))))) (kk _ hA11)
      | true =>
        have hlt : lo < j - 1 := by
          cases gd with
          | true =>
            have : ¬ j - 1 = lo := fun z => hstop ⟨rfl, z⟩
            omega
          | false =>
            obtain ⟨s1, s2⟩ := hs rfl
            by_cases e : j - 1 = lo
            · exfalso
              have e2 : va_up row j (row (j - 1)) (j - 1 - 1) = row (lo - 1) := by rw [va_up_ne _ _ (by omega), e]
              rw [e2, zs_b_K hw.2 hx (hw.1 _ (by omega)) s2] at hb
              cases hb
            · omega
        have hw2 := hw1.go hx (hw1.1 (j - 1 - 1) (by omega))
        have hs2 : gd = false → 1 ≤ lo ∧ zs_K (ze_md E) (ze_ka E) (zs_g (ze_md E) x (va_up row j (row (j - 1)) (j - 1 - 1)) g) (va_up row j (row (j - 1)) (lo - 1)) x := fun z => by
          obtain ⟨s1, s2⟩ := hs z
          refine ⟨s1, ?_⟩
          have e2 : va_up row j (row (j - 1)) (lo - 1) = row (lo - 1) := va_up_ne _ _ (by omega)
          rw [e2]
          exact zg_le.go hw1 x _ _ _ (hw.1 (lo - 1) (by omega)) s2
        obtain ⟨row', g', j', a1, a2, a3, a4, a5, a6, a7⟩ := ih (j - 1) (by omega) _ _ hlt (by omega) hw2 hs2
        refine ⟨row', g', j', a1, by omega, a3, (zg_le.go hw1 x _).tr a4, fun k => ?_, fun i lw q1 q2 q3 => ?_, fun b e i pp sm q1 => ?_⟩
        · rw [a5 k]
          by_cases c1 : j' < k ∧ k ≤ j - 1
          · rw [if_pos c1, if_pos (by omega), va_up_ne _ _ (by omega)]
          · rw [if_neg c1, hshape k]
            by_cases c2 : k = j
            · rw [if_pos (by omega), if_pos (by omega)]
            · rw [if_neg (by omega), if_neg (by omega)]
        · have hlw : lw < j - 1 := by omega
          intro r q u b post hr kk
          refine ez_go ez_h7 8 (pc' := 49) (L' := [some (.ref 2), some (.int (nI (i))), some (.int (nI (lw))), some (.int (nI (ze_pi E (x)))), some (.int (nI (j)))]) (st' := [.int ((nI (j)) - (nI (1))), .ref 1, .int (nI (j)), .ref 1]) (w' := cz_w r q u b) rfl ?_
          refine ez_top (y := nI (j - 1)) (pk_sub (by omega)) ?_
          refine ez_cl ez_h7 rfl rfl ?_
          refine cr_at hE hr (k := j - 1) (by omega) q u b ?_
          refine ez_cl ez_h7 rfl rfl ?_
          refine cr_set hE hr (k := j) (x := row (j - 1)) (by omega) q u b (fun r12 hr12 => ?_)
          refine ez_inc ez_h7 rfl rfl (v := nI (j - 1)) (zi_m (by omega)) rfl ?_
          refine ez_go ez_h7 3 (pc' := bif decide ((nI (j - 1)) ≤ (nI (lw))) then 86 else 64) (L' := [some (.ref 2), some (.int (nI (i))), some (.int (nI (lw))), some (.int (nI (ze_pi E (x)))), some (.int (nI (j - 1)))]) (st' := []) (w' := cz_w r12 q u b) rfl ?_
          refine ez_ifF (zt_nle (a := j - 1) (b := lw) (by omega) (by omega)) ?_
          refine ez_go ez_h7 8 (pc' := 77) (L' := [some (.ref 2), some (.int (nI (i))), some (.int (nI (lw))), some (.int (nI (ze_pi E (x)))), some (.int (nI (j - 1)))]) (st' := [.int ((nI (j - 1)) - (nI (1))), .ref 1, .int (nI (ze_pi E (x))), .ref 1]) (w' := cz_w r12 q u b) rfl ?_
          refine ez_top (y := nI ((j - 1) - 1)) (pk_sub (by omega)) ?_
          refine ez_cl ez_h7 rfl rfl ?_
          refine cr_at hE hr12 (k := (j - 1) - 1) (by omega) q u b ?_
          refine ez_cl ez_h7 rfl rfl ?_
          refine cr_less hE hr12 (zr_ok.set hw (k := j) (x := row (j - 1)) (hw.1 (j - 1) (by omega))).2 (x := x) (y := (va_up row j (row (j - 1))) ((j - 1) - 1)) hx ((zr_ok.set hw (k := j) (x := row (j - 1)) (hw.1 (j - 1) (by omega))).1 ((j - 1) - 1) (by omega)) q u b (fun r13 hr13 => ?_)
          refine ez_go ez_h7 1 (pc' := bif decide (¬ (zs_z (zs_b (ze_md E) (ze_ka E) x ((va_up row j (row (j - 1))) ((j - 1) - 1)) g)) = 0) then 35 else 86) (L' := [some (.ref 2), some (.int (nI (i))), some (.int (nI (lw))), some (.int (nI (ze_pi E (x)))), some (.int (nI (j - 1)))]) (st' := []) (w' := cz_w r13 q u b) rfl ?_
          refine ez_ifT (zz_t hb) ?_
          exact a6 i lw q1 q2 q3 _ q u b post hr13 kk
        · intro A Q U T post hA kk
          cases gd with
          | true =>
            have q1' := q1 rfl
            refine ez_go ez_h76 8 (pc' := 76) (L' := [some (.ref 0), some (.int (nI (b))), some (.int (nI (e))), some (.int (nI (1))), some (.int (pp)), some (.int (sm)), some (.int (nI (i))), some (.int (nI (x))), some (.int (nI (j))), none]) (st' := [.int ((nI (j)) - (nI (1))), .ref 4, .int (nI (j)), .ref 4]) (w' := mz_w A Q U T) rfl ?_
            refine ez_top (y := nI (j - 1)) (pk_sub (by omega)) ?_
            refine mr_ld ez_h76 rfl hE hA (k := j - 1) (by omega) ?_
            refine mr_st ez_h76 rfl hE hA (k := j) (x := row (j - 1)) (by omega) (fun A14 hA14 => ?_)
            refine ez_inc ez_h76 rfl rfl (v := nI (j - 1)) (zi_m (by omega)) rfl ?_
            refine ez_go ez_h76 2 (pc' := bif decide ((nI (1)) = (nI 0)) then 91 else 85) (L' := [some (.ref 0), some (.int (nI (b))), some (.int (nI (e))), some (.int (nI (1))), some (.int (pp)), some (.int (sm)), some (.int (nI (i))), some (.int (nI (x))), some (.int (nI (j - 1))), none]) (st' := []) (w' := mz_w A14 Q U T) rfl ?_
            refine ez_ifF (zt_ne (by omega) (by omega) (by omega)) ?_
            refine ez_go ez_h76 3 (pc' := bif decide ((nI (j - 1)) ≤ (nI (b))) then 113 else 91) (L' := [some (.ref 0), some (.int (nI (b))), some (.int (nI (e))), some (.int (nI (1))), some (.int (pp)), some (.int (sm)), some (.int (nI (i))), some (.int (nI (x))), some (.int (nI (j - 1))), none]) (st' := []) (w' := mz_w A14 Q U T) rfl ?_
            refine ez_ifF (zt_nle (a := j - 1) (b := b) (by omega) (by omega)) ?_
            refine ez_go ez_h76 7 (pc' := 102) (L' := [some (.ref 0), some (.int (nI (b))), some (.int (nI (e))), some (.int (nI (1))), some (.int (pp)), some (.int (sm)), some (.int (nI (i))), some (.int (nI (x))), some (.int (nI (j - 1))), none]) (st' := [.int ((nI (j - 1)) - (nI (1))), .ref 4, .int (nI (x)), .ref 0]) (w' := mz_w A14 Q U T) rfl ?_
            refine ez_top (y := nI ((j - 1) - 1)) (pk_sub (by omega)) ?_
            refine mr_ld ez_h76 rfl hE hA14 (k := (j - 1) - 1) (by omega) ?_
            refine ez_cl ez_h76 rfl rfl ?_
            refine mr_less hE hA14 (zr_ok.set hw (k := j) (x := row (j - 1)) (hw.1 (j - 1) (by omega))).2 (x := x) (y := (va_up row j (row (j - 1))) ((j - 1) - 1)) hx ((zr_ok.set hw (k := j) (x := row (j - 1)) (hw.1 (j - 1) (by omega))).1 ((j - 1) - 1) (by omega)) Q U T (fun A15 hA15 => ?_)
            refine ez_go ez_h76 1 (pc' := bif decide ((zs_z (zs_b (ze_md E) (ze_ka E) x ((va_up row j (row (j - 1))) ((j - 1) - 1)) g)) = 0) then 113 else 109) (L' := [some (.ref 0), some (.int (nI (b))), some (.int (nI (e))), some (.int (nI (1))), some (.int (pp)), some (.int (sm)), some (.int (nI (i))), some (.int (nI (x))), some (.int (nI (j - 1))), none]) (st' := []) (w' := mz_w A15 Q U T) rfl ?_
            refine ez_ifF (zz_t hb) ?_
            refine ez_go ez_h76 6 (pc' := bif decide ((nI (1)) = (nI 0)) then 119 else 62) (L' := [some (.ref 0), some (.int (nI (b))), some (.int (nI (e))), some (.int (nI (1))), some (.int (pp)), some (.int (sm)), some (.int (nI (i))), some (.int (nI (x))), some (.int (nI (j - 1))), some (.int (nI (1)))]) (st' := []) (w' := mz_w A15 Q U T) rfl ?_
            refine ez_ifF (zt_ne (by omega) (by omega) (by omega)) ?_
            exact ez_E.le (ez_lc (ez_lc (ez_lc (ez_lc (ez_lc (ez_lc (ez_lc (ez_lc (ez_lc (ez_ln ez_l0)))))))))) (a7 b e i pp sm q1 _ Q U T post hA15 kk)
          | false =>
            have hs := hs rfl
            refine ez_go ez_h76 8 (pc' := 76) (L' := [some (.ref 0), some (.int (nI (b))), some (.int (nI (e))), some (.int (nI (0))), some (.int (pp)), some (.int (sm)), some (.int (nI (i))), some (.int (nI (x))), some (.int (nI (j))), none]) (st' := [.int ((nI (j)) - (nI (1))), .ref 4, .int (nI (j)), .ref 4]) (w' := mz_w A Q U T) rfl ?_
            refine ez_top (y := nI (j - 1)) (pk_sub (by omega)) ?_
            refine mr_ld ez_h76 rfl hE hA (k := j - 1) (by omega) ?_
            refine mr_st ez_h76 rfl hE hA (k := j) (x := row (j - 1)) (by omega) (fun A16 hA16 => ?_)
            refine ez_inc ez_h76 rfl rfl (v := nI (j - 1)) (zi_m (by omega)) rfl ?_
            refine ez_go ez_h76 2 (pc' := bif decide ((nI (0)) = (nI 0)) then 91 else 85) (L' := [some (.ref 0), some (.int (nI (b))), some (.int (nI (e))), some (.int (nI (0))), some (.int (pp)), some (.int (sm)), some (.int (nI (i))), some (.int (nI (x))), some (.int (nI (j - 1))), none]) (st' := []) (w' := mz_w A16 Q U T) rfl ?_
            refine ez_ifT (zt_eq (by omega)) ?_
            refine ez_go ez_h76 7 (pc' := 102) (L' := [some (.ref 0), some (.int (nI (b))), some (.int (nI (e))), some (.int (nI (0))), some (.int (pp)), some (.int (sm)), some (.int (nI (i))), some (.int (nI (x))), some (.int (nI (j - 1))), none]) (st' := [.int ((nI (j - 1)) - (nI (1))), .ref 4, .int (nI (x)), .ref 0]) (w' := mz_w A16 Q U T) rfl ?_
            refine ez_top (y := nI ((j - 1) - 1)) (pk_sub (by omega)) ?_
            refine mr_ld ez_h76 rfl hE hA16 (k := (j - 1) - 1) (by omega) ?_
            refine ez_cl ez_h76 rfl rfl ?_
            refine mr_less hE hA16 (zr_ok.set hw (k := j) (x := row (j - 1)) (hw.1 (j - 1) (by omega))).2 (x := x) (y := (va_up row j (row (j - 1))) ((j - 1) - 1)) hx ((zr_ok.set hw (k := j) (x := row (j - 1)) (hw.1 (j - 1) (by omega))).1 ((j - 1) - 1) (by omega)) Q U T (fun A17 hA17 => ?_)
            refine ez_go ez_h76 1 (pc' := bif decide ((zs_z (zs_b (ze_md E) (ze_ka E) x ((va_up row j (row (j - 1))) ((j - 1) - 1)) g)) = 0) then 113 else 109) (L' := [some (.ref 0), some (.int (nI (b))), some (.int (nI (e))), some (.int (nI (0))), some (.int (pp)), some (.int (sm)), some (.int (nI (i))), some (.int (nI (x))), some (.int (nI (j - 1))), none]) (st' := []) (w' := mz_w A17 Q U T) rfl ?_
            refine ez_ifF (zz_t hb) ?_
            refine ez_go ez_h76 6 (pc' := bif decide ((nI (1)) = (nI 0)) then 119 else 62) (L' := [some (.ref 0), some (.int (nI (b))), some (.int (nI (e))), some (.int (nI (0))), some (.int (pp)), some (.int (sm)), some (.int (nI (i))), some (.int (nI (x))), some (.int (nI (j - 1))), some (.int (nI (1)))]) (st' := []) (w' := mz_w A17 Q U T) rfl ?_
            refine ez_ifF (zt_ne (by omega) (by omega) (by omega)) ?_
            exact ez_E.le (ez_lc (ez_lc (ez_lc (ez_lc (ez_lc (ez_lc (ez_lc (ez_lc (ez_lc (ez_ln ez_l0)))))))))) (a7 b e i pp sm q1 _ Q U T post hA17 kk)
