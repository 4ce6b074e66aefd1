/-- a place by halves -/
theorem zu_half {E : ze_T} (hE : ze_ok E) {x : Nat} (hx : x < ze_n E) : ∀ (s lo hi : Nat) (row : Nat → Nat) (g : zs_G), hi ≤ lo + s → lo ≤ hi → hi ≤ ze_n E → zr_ok E row g →
    ∃ (lo' : Nat) (g' : zs_G), lo ≤ lo' ∧ lo' ≤ hi ∧ zr_ok E row g' ∧ zg_le E g g' ∧
      (∀ b pl : Nat, cr_G E 47 15 [some (.ref 5), some (.int (nI (b))), some (.int (nI (pl))), some (.int (nI (ze_pi E (x)))), some (.int (nI (lo))), some (.int (nI (hi))), none] row g 67 [some (.ref 5), some (.int (nI (b))), some (.int (nI (pl))), some (.int (nI (ze_pi E (x)))), some (.int (nI (lo'))), none, none] row g') ∧ (∀ b fr to pl : Nat, mr_G E 90 25 [some (.ref 0), some (.int (nI (b))), some (.int (nI (fr))), some (.int (nI (to))), some (.int (nI (pl))), some (.int (nI (x))), some (.int (nI (lo))), some (.int (nI (hi))), none] row g 73 [some (.ref 0), some (.int (nI (b))), some (.int (nI (fr))), some (.int (nI (to))), some (.int (nI (pl))), some (.int (nI (x))), some (.int (nI (lo'))), none, none] row g') := by
  have hn := hE.1
  intro s
  induction s with
  | zero =>
    intro lo hi row g h1 h2 h3 hw
    refine ⟨lo, g, Nat.le_refl _, h2, hw, zg_le.rf g, fun b pl => ?_, fun b fr to pl => ?_⟩
    · intro r q u bb post hr kk
      refine ez_go ez_h47 3 (pc' := bif decide ((nI (hi)) ≤ (nI (lo))) then 67 else 22) (L' := [some (.ref 5), some (.int (nI (b))), some (.int (nI (pl))), some (.int (nI (ze_pi E (x)))), some (.int (nI (lo))), some (.int (nI (hi))), none]) (st' := []) (w' := cz_w r q u bb) rfl ?_
      refine ez_ifT (zt_le (a := hi) (b := lo) (by omega) (by omega)) ?_
      exact ez_E.le (ez_lc (ez_lc (ez_lc (ez_lc (ez_lc (ez_ln (ez_lc ez_l0))))))) (kk _ hr)
    · intro A Q U T post hA kk
      refine ez_go ez_h90 3 (pc' := bif decide ((nI (hi)) ≤ (nI (lo))) then 73 else 32) (L' := [some (.ref 0), some (.int (nI (b))), some (.int (nI (fr))), some (.int (nI (to))), some (.int (nI (pl))), some (.int (nI (x))), some (.int (nI (lo))), some (.int (nI (hi))), none]) (st' := []) (w' := mz_w A Q U T) rfl ?_
      refine ez_ifT (zt_le (a := hi) (b := lo) (by omega) (by omega)) ?_
      exact ez_E.le (ez_lc (ez_lc (ez_lc (ez_lc (ez_lc (ez_lc (ez_lc (ez_ln (ez_lc ez_l0))))))))) (kk _ hA)
  | succ s ih =>
    intro lo hi row g h1 h2 h3 hw
    by_cases hl : hi ≤ lo
    · refine ⟨lo, g, Nat.le_refl _, h2, hw, zg_le.rf g, fun b pl => ?_, fun b fr to pl => ?_⟩
      · intro r q u bb post hr kk
        refine ez_go ez_h47 3 (pc' := bif decide ((nI (hi)) ≤ (nI (lo))) then 67 else 22) (L' := [some (.ref 5), some (.int (nI (b))), some (.int (nI (pl))), some (.int (nI (ze_pi E (x)))), some (.int (nI (lo))), some (.int (nI (hi))), none]) (st' := []) (w' := cz_w r q u bb) rfl ?_
        refine ez_ifT (zt_le (a := hi) (b := lo) (by omega) (by omega)) ?_
        exact ez_E.le (ez_lc (ez_lc (ez_lc (ez_lc (ez_lc (ez_ln (ez_lc ez_l0))))))) (kk _ hr)
      · intro A Q U T post hA kk
        refine ez_go ez_h90 3 (pc' := bif decide ((nI (hi)) ≤ (nI (lo))) then 73 else 32) (L' := [some (.ref 0), some (.int (nI (b))), some (.int (nI (fr))), some (.int (nI (to))), some (.int (nI (pl))), some (.int (nI (x))), some (.int (nI (lo))), some (.int (nI (hi))), none]) (st' := []) (w' := mz_w A Q U T) rfl ?_
        refine ez_ifT (zt_le (a := hi) (b := lo) (by omega) (by omega)) ?_
        exact ez_E.le (ez_lc (ez_lc (ez_lc (ez_lc (ez_lc (ez_lc (ez_lc (ez_ln (ez_lc ez_l0))))))))) (kk _ hA)
    · have hw1 := hw.go hx (hw.1 ((lo + hi) / 2) (by omega))
      have hg1 : zg_le E g _ := zg_le.go hw x (row ((lo + hi) / 2))
      cases hb : zs_b (ze_md E) (ze_ka E) x (row ((lo + hi) / 2)) g with
      | false =>
        obtain ⟨lo', g', a1, a2, a3, a4, a5, a6⟩ := ih ((lo + hi) / 2 + 1) hi row _ (by omega) (by omega) (by omega) hw1
        refine ⟨lo', g', by omega, by omega, a3, hg1.tr a4, fun b pl => ?_, fun b fr to pl => ?_⟩
        · intro r q u bb post hr kk
          refine ez_go ez_h47 3 (pc' := bif decide ((nI (hi)) ≤ (nI (lo))) then 67 else 22) (L' := [some (.ref 5), some (.int (nI (b))), some (.int (nI (pl))), some (.int (nI (ze_pi E (x)))), some (.int (nI (lo))), some (.int (nI (hi))), none]) (st' := []) (w' := cz_w r q u bb) rfl ?_
          refine ez_ifF (zt_nle (a := hi) (b := lo) (by omega) (by omega)) ?_
          refine ez_go ez_h47 3 (pc' := 27) (L' := [some (.ref 5), some (.int (nI (b))), some (.int (nI (pl))), some (.int (nI (ze_pi E (x)))), some (.int (nI (lo))), some (.int (nI (hi))), none]) (st' := [.int ((nI (lo)) + (nI (hi)))]) (w' := cz_w r q u bb) rfl ?_
          refine ez_top (y := nI (lo + hi)) (nI_add _ _) ?_
          refine ez_go ez_h47 2 (pc' := 29) (L' := [some (.ref 5), some (.int (nI (b))), some (.int (nI (pl))), some (.int (nI (ze_pi E (x)))), some (.int (nI (lo))), some (.int (nI (hi))), none]) (st' := [.int ((nI (lo + hi)) / (nI (2)))]) (w' := cz_w r q u bb) rfl ?_
          refine ez_top (y := nI ((lo + hi) / 2)) (pk_div (by omega) (by omega) (by omega)) ?_
          refine ez_go ez_h47 7 (pc' := 42) (L' := [some (.ref 5), some (.int (nI (b))), some (.int (nI (pl))), some (.int (nI (ze_pi E (x)))), some (.int (nI (lo))), some (.int (nI (hi))), some (.int (nI ((lo + hi) / 2)))]) (st' := [.int (nI ((lo + hi) / 2)), .ref 1, .int (nI (ze_pi E (x))), .ref 1]) (w' := cz_w r q u bb) rfl ?_
          refine ez_cl ez_h47 rfl rfl ?_
          refine cr_at hE hr (k := (lo + hi) / 2) (by omega) q u bb ?_
          refine ez_cl ez_h47 rfl rfl ?_
          refine cr_less hE hr hw.2 (x := x) (y := row ((lo + hi) / 2)) hx (hw.1 ((lo + hi) / 2) (by omega)) q u bb (fun r4 hr4 => ?_)
          refine ez_go ez_h47 1 (pc' := bif decide ((zs_z (zs_b (ze_md E) (ze_ka E) x (row ((lo + hi) / 2)) g)) = 0) then 58 else 51) (L' := [some (.ref 5), some (.int (nI (b))), some (.int (nI (pl))), some (.int (nI (ze_pi E (x)))), some (.int (nI (lo))), some (.int (nI (hi))), some (.int (nI ((lo + hi) / 2)))]) (st' := []) (w' := cz_w r4 q u bb) rfl ?_
          refine ez_ifT (zz_f hb) ?_
          refine ez_go ez_h47 3 (pc' := 62) (L' := [some (.ref 5), some (.int (nI (b))), some (.int (nI (pl))), some (.int (nI (ze_pi E (x)))), some (.int (nI (lo))), some (.int (nI (hi))), some (.int (nI ((lo + hi) / 2)))]) (st' := [.int ((nI ((lo + hi) / 2)) + (nI (1)))]) (w' := cz_w r4 q u bb) rfl ?_
          refine ez_top (y := nI (((lo + hi) / 2) + 1)) (nI_add _ _) ?_
          refine ez_go ez_h47 2 (pc' := 15) (L' := [some (.ref 5), some (.int (nI (b))), some (.int (nI (pl))), some (.int (nI (ze_pi E (x)))), some (.int (nI (((lo + hi) / 2) + 1))), some (.int (nI (hi))), some (.int (nI ((lo + hi) / 2)))]) (st' := []) (w' := cz_w r4 q u bb) rfl ?_
          exact ez_E.le (ez_lc (ez_lc (ez_lc (ez_lc (ez_lc (ez_lc (ez_ln ez_l0))))))) (a5 b pl _ q u bb post hr4 kk)
        · intro A Q U T post hA kk
          refine ez_go ez_h90 3 (pc' := bif decide ((nI (hi)) ≤ (nI (lo))) then 73 else 32) (L' := [some (.ref 0), some (.int (nI (b))), some (.int (nI (fr))), some (.int (nI (to))), some (.int (nI (pl))), some (.int (nI (x))), some (.int (nI (lo))), some (.int (nI (hi))), none]) (st' := []) (w' := mz_w A Q U T) rfl ?_
          refine ez_ifF (zt_nle (a := hi) (b := lo) (by omega) (by omega)) ?_
          refine ez_go ez_h90 3 (pc' := 37) (L' := [some (.ref 0), some (.int (nI (b))), some (.int (nI (fr))), some (.int (nI (to))), some (.int (nI (pl))), some (.int (nI (x))), some (.int (nI (lo))), some (.int (nI (hi))), none]) (st' := [.int ((nI (lo)) + (nI (hi)))]) (w' := mz_w A Q U T) rfl ?_
          refine ez_top (y := nI (lo + hi)) (nI_add _ _) ?_
          refine ez_go ez_h90 2 (pc' := 39) (L' := [some (.ref 0), some (.int (nI (b))), some (.int (nI (fr))), some (.int (nI (to))), some (.int (nI (pl))), some (.int (nI (x))), some (.int (nI (lo))), some (.int (nI (hi))), none]) (st' := [.int ((nI (lo + hi)) / (nI (2)))]) (w' := mz_w A Q U T) rfl ?_
          refine ez_top (y := nI ((lo + hi) / 2)) (pk_div (by omega) (by omega) (by omega)) ?_
          refine ez_go ez_h90 6 (pc' := 50) (L' := [some (.ref 0), some (.int (nI (b))), some (.int (nI (fr))), some (.int (nI (to))), some (.int (nI (pl))), some (.int (nI (x))), some (.int (nI (lo))), some (.int (nI (hi))), some (.int (nI ((lo + hi) / 2)))]) (st' := [.int (nI ((lo + hi) / 2)), .ref 4, .int (nI (x)), .ref 0]) (w' := mz_w A Q U T) rfl ?_
          refine mr_ld ez_h90 rfl hE hA (k := (lo + hi) / 2) (by omega) ?_
          refine ez_cl ez_h90 rfl rfl ?_
          refine mr_less hE hA hw.2 (x := x) (y := row ((lo + hi) / 2)) hx (hw.1 ((lo + hi) / 2) (by omega)) Q U T (fun A5 hA5 => ?_)
          refine ez_go ez_h90 1 (pc' := bif decide ((zs_z (zs_b (ze_md E) (ze_ka E) x (row ((lo + hi) / 2)) g)) = 0) then 64 else 57) (L' := [some (.ref 0), some (.int (nI (b))), some (.int (nI (fr))), some (.int (nI (to))), some (.int (nI (pl))), some (.int (nI (x))), some (.int (nI (lo))), some (.int (nI (hi))), some (.int (nI ((lo + hi) / 2)))]) (st' := []) (w' := mz_w A5 Q U T) rfl ?_
          refine ez_ifT (zz_f hb) ?_
          refine ez_go ez_h90 3 (pc' := 68) (L' := [some (.ref 0), some (.int (nI (b))), some (.int (nI (fr))), some (.int (nI (to))), some (.int (nI (pl))), some (.int (nI (x))), some (.int (nI (lo))), some (.int (nI (hi))), some (.int (nI ((lo + hi) / 2)))]) (st' := [.int ((nI ((lo + hi) / 2)) + (nI (1)))]) (w' := mz_w A5 Q U T) rfl ?_
          refine ez_top (y := nI (((lo + hi) / 2) + 1)) (nI_add _ _) ?_
          refine ez_go ez_h90 2 (pc' := 25) (L' := [some (.ref 0), some (.int (nI (b))), some (.int (nI (fr))), some (.int (nI (to))), some (.int (nI (pl))), some (.int (nI (x))), some (.int (nI (((lo + hi) / 2) + 1))), some (.int (nI (hi))), some (.int (nI ((lo + hi) / 2)))]) (st' := []) (w' := mz_w A5 Q U T) rfl ?_
          exact ez_E.le (ez_lc (ez_lc (ez_lc (ez_lc (ez_lc (ez_lc (ez_lc (ez_lc (ez_ln ez_l0))))))))) (a6 b fr to pl _ Q U T post hA5 kk)
      | true =>
        obtain ⟨lo', g', a1, a2, a3, a4, a5, a6⟩ := ih lo ((lo + hi) / 2) row _ (by omega) (by omega) (by omega) hw1
        refine ⟨lo', g', by omega, by omega, a3, hg1.tr a4, fun b pl => ?_, fun b fr to pl => ?_⟩
        · intro r q u bb post hr kk
          refine ez_go ez_h47 3 (pc' := bif decide ((nI (hi)) ≤ (nI (lo))) then 67 else 22) (L' := [some (.ref 5), some (.int (nI (b))), some (.int (nI (pl))), some (.int (nI (ze_pi E (x)))), some (.int (nI (lo))), some (.int (nI (hi))), none]) (st' := []) (w' := cz_w r q u bb) rfl ?_
          refine ez_ifF (zt_nle (a := hi) (b := lo) (by omega) (by omega)) ?_
          refine ez_go ez_h47 3 (pc' := 27) (L' := [some (.ref 5), some (.int (nI (b))), some (.int (nI (pl))), some (.int (nI (ze_pi E (x)))), some (.int (nI (lo))), some (.int (nI (hi))), none]) (st' := [.int ((nI (lo)) + (nI (hi)))]) (w' := cz_w r q u bb) rfl ?_
          refine ez_top (y := nI (lo + hi)) (nI_add _ _) ?_
          refine ez_go ez_h47 2 (pc' := 29) (L' := [some (.ref 5), some (.int (nI (b))), some (.int (nI (pl))), some (.int (nI (ze_pi E (x)))), some (.int (nI (lo))), some (.int (nI (hi))), none]) (st' := [.int ((nI (lo + hi)) / (nI (2)))]) (w' := cz_w r q u bb) rfl ?_
          refine ez_top (y := nI ((lo + hi) / 2)) (pk_div (by omega) (by omega) (by omega)) ?_
          refine ez_go ez_h47 7 (pc' := 42) (L' := [some (.ref 5), some (.int (nI (b))), some (.int (nI (pl))), some (.int (nI (ze_pi E (x)))), some (.int (nI (lo))), some (.int (nI (hi))), some (.int (nI ((lo + hi) / 2)))]) (st' := [.int (nI ((lo + hi) / 2)), .ref 1, .int (nI (ze_pi E (x))), .ref 1]) (w' := cz_w r q u bb) rfl ?_
          refine ez_cl ez_h47 rfl rfl ?_
          refine cr_at hE hr (k := (lo + hi) / 2) (by omega) q u bb ?_
          refine ez_cl ez_h47 rfl rfl ?_
          refine cr_less hE hr hw.2 (x := x) (y := row ((lo + hi) / 2)) hx (hw.1 ((lo + hi) / 2) (by omega)) q u bb (fun r6 hr6 => ?_)
          refine ez_go ez_h47 1 (pc' := bif decide ((zs_z (zs_b (ze_md E) (ze_ka E) x (row ((lo + hi) / 2)) g)) = 0) then 58 else 51) (L' := [some (.ref 5), some (.int (nI (b))), some (.int (nI (pl))), some (.int (nI (ze_pi E (x)))), some (.int (nI (lo))), some (.int (nI (hi))), some (.int (nI ((lo + hi) / 2)))]) (st' := []) (w' := cz_w r6 q u bb) rfl ?_
          refine ez_ifF (zz_t hb) ?_
          refine ez_go ez_h47 4 (pc' := 15) (L' := [some (.ref 5), some (.int (nI (b))), some (.int (nI (pl))), some (.int (nI (ze_pi E (x)))), some (.int (nI (lo))), some (.int (nI ((lo + hi) / 2))), some (.int (nI ((lo + hi) / 2)))]) (st' := []) (w' := cz_w r6 q u bb) rfl ?_
          exact ez_E.le (ez_lc (ez_lc (ez_lc (ez_lc (ez_lc (ez_lc (ez_ln ez_l0))))))) (a5 b pl _ q u bb post hr6 kk)
        · intro A Q U T post hA kk
          refine ez_go ez_h90 3 (pc' := bif decide ((nI (hi)) ≤ (nI (lo))) then 73 else 32) (L' := [some (.ref 0), some (.int (nI (b))), some (.int (nI (fr))), some (.int (nI (to))), some (.int (nI (pl))), some (.int (nI (x))), some (.int (nI (lo))), some (.int (nI (hi))), none]) (st' := []) (w' := mz_w A Q U T) rfl ?_
          refine ez_ifF (zt_nle (a := hi) (b := lo) (by omega) (by omega)) ?_
          refine ez_go ez_h90 3 (pc' := 37) (L' := [some (.ref 0), some (.int (nI (b))), some (.int (nI (fr))), some (.int (nI (to))), some (.int (nI (pl))), some (.int (nI (x))), some (.int (nI (lo))), some (.int (nI (hi))), none]) (st' := [.int ((nI (lo)) + (nI (hi)))]) (w' := mz_w A Q U T) rfl ?_
          refine ez_top (y := nI (lo + hi)) (nI_add _ _) ?_
          refine ez_go ez_h90 2 (pc' := 39) (L' := [some (.ref 0), some (.int (nI (b))), some (.int (nI (fr))), some (.int (nI (to))), some (.int (nI (pl))), some (.int (nI (x))), some (.int (nI (lo))), some (.int (nI (hi))), none]) (st' := [.int ((nI (lo + hi)) / (nI (2)))]) (w' := mz_w A Q U T) rfl ?_
          refine ez_top (y := nI ((lo + hi) / 2)) (pk_div (by omega) (by omega) (by omega)) ?_
          refine ez_go ez_h90 6 (pc' := 50) (L' := [some (.ref 0), some (.int (nI (b))), some (.int (nI (fr))), some (.int (nI (to))), some (.int (nI (pl))), some (.int (nI (x))), some (.int (nI (lo))), some (.int (nI (hi))), some (.int (nI ((lo + hi) / 2)))]) (st' := [.int (nI ((lo + hi) / 2)), .ref 4, .int (nI (x)), .ref 0]) (w' := mz_w A Q U T) rfl ?_
          refine mr_ld ez_h90 rfl hE hA (k := (lo + hi) / 2) (by omega) ?_
          refine ez_cl ez_h90 rfl rfl ?_
          refine mr_less hE hA hw.2 (x := x) (y := row ((lo + hi) / 2)) hx (hw.1 ((lo + hi) / 2) (by omega)) Q U T (fun A7 hA7 => ?_)
          refine ez_go ez_h90 1 (pc' := bif decide ((zs_z (zs_b (ze_md E) (ze_ka E) x (row ((lo + hi) / 2)) g)) = 0) then 64 else 57) (L' := [some (.ref 0), some (.int (nI (b))), some (.int (nI (fr))), some (.int (nI (to))), some (.int (nI (pl))), some (.int (nI (x))), some (.int (nI (lo))), some (.int (nI (hi))), some (.int (nI ((lo + hi) / 2)))]) (st' := []) (w' := mz_w A7 Q U T) rfl ?_
          refine ez_ifF (zz_t hb) ?_
          refine ez_go ez_h90 4 (pc' := 25) (L' := [some (.ref 0), some (.int (nI (b))), some (.int (nI (fr))), some (.int (nI (to))), some (.int (nI (pl))), some (.int (nI (x))), some (.int (nI (lo))), some (.int (nI ((lo + hi) / 2))), some (.int (nI ((lo + hi) / 2)))]) (st' := []) (w' := mz_w A7 Q U T) rfl ?_
          exact ez_E.le (ez_lc (ez_lc (ez_lc (ez_lc (ez_lc (ez_lc (ez_lc (ez_lc (ez_ln ez_l0))))))))) (a6 b fr to pl _ Q U T post hA7 kk)
/-- those from lo on one further -/
theorem zu_shift {E : ze_T} (hE : ze_ok E) {x : Nat} (hx : x < ze_n E) {lo : Nat} : ∀ (s j : Nat) (row : Nat → Nat) (g : zs_G), j ≤ lo + s → lo ≤ j → j < ze_n E → zr_ok E row g →
    ∃ (row' : Nat → Nat), zr_ok E row' g ∧ (∀ k, row' k = if lo < k ∧ k ≤ j then row (k - 1) else row k) ∧
      (∀ b pl : Nat, cr_G E 47 70 [some (.ref 5), some (.int (nI (b))), some (.int (nI (pl))), some (.int (nI (ze_pi E (x)))), some (.int (nI (lo))), none, some (.int (nI (j)))] row g 103 [some (.ref 5), some (.int (nI (b))), some (.int (nI (pl))), some (.int (nI (ze_pi E (x)))), some (.int (nI (lo))), none, none] row' g) ∧ (∀ b fr to pl : Nat, mr_G E 90 77 [some (.ref 0), some (.int (nI (b))), some (.int (nI (fr))), some (.int (nI (to))), some (.int (nI (pl))), some (.int (nI (x))), some (.int (nI (lo))), none, some (.int (nI (j)))] row g 106 [some (.ref 0), some (.int (nI (b))), some (.int (nI (fr))), some (.int (nI (to))), some (.int (nI (pl))), some (.int (nI (x))), some (.int (nI (lo))), none, none] row' g) := by
  have hn := hE.1
  intro s
  induction s with
  | zero =>
    intro j row g h1 h2 h3 hw
    refine ⟨row, hw, fun k => by rw [if_neg (by omega)], fun b pl => ?_, fun b fr to pl => ?_⟩
    · intro r q u bb post hr kk
      refine ez_go ez_h47 3 (pc' := bif decide ((nI (j)) ≤ (nI (lo))) then 103 else 77) (L' := [some (.ref 5), some (.int (nI (b))), some (.int (nI (pl))), some (.int (nI (ze_pi E (x)))), some (.int (nI (lo))), none, some (.int (nI (j)))]) (st' := []) (w' := cz_w r q u bb) rfl ?_
      refine ez_ifT (zt_le (a := j) (b := lo) (by omega) (by omega)) ?_
      exact ez_E.le (ez_lc (ez_lc (ez_lc (ez_lc (ez_lc (ez_lc (ez_ln ez_l0))))))) (kk _ hr)
    · intro A Q U T post hA kk
      refine ez_go ez_h90 3 (pc' := bif decide ((nI (j)) ≤ (nI (lo))) then 106 else 84) (L' := [some (.ref 0), some (.int (nI (b))), some (.int (nI (fr))), some (.int (nI (to))), some (.int (nI (pl))), some (.int (nI (x))), some (.int (nI (lo))), none, some (.int (nI (j)))]) (st' := []) (w' := mz_w A Q U T) rfl ?_
      refine ez_ifT (zt_le (a := j) (b := lo) (by omega) (by omega)) ?_
      exact ez_E.le (ez_lc (ez_lc (ez_lc (ez_lc (ez_lc (ez_lc (ez_lc (ez_lc (ez_ln ez_l0))))))))) (kk _ hA)
  | succ s ih =>
    intro j row g h1 h2 h3 hw
    by_cases hl : j ≤ lo
    · refine ⟨row, hw, fun k => by rw [if_neg (by omega)], fun b pl => ?_, fun b fr to pl => ?_⟩
      · intro r q u bb post hr kk
        refine ez_go ez_h47 3 (pc' := bif decide ((nI (j)) ≤ (nI (lo))) then 103 else 77) (L' := [some (.ref 5), some (.int (nI (b))), some (.int (nI (pl))), some (.int (nI (ze_pi E (x)))), some (.int (nI (lo))), none, some (.int (nI (j)))]) (st' := []) (w' := cz_w r q u bb) rfl ?_
        refine ez_ifT (zt_le (a := j) (b := lo) (by omega) (by omega)) ?_
        exact ez_E.le (ez_lc (ez_lc (ez_lc (ez_lc (ez_lc (ez_lc (ez_ln ez_l0))))))) (kk _ hr)
      · intro A Q U T post hA kk
        refine ez_go ez_h90 3 (pc' := bif decide ((nI (j)) ≤ (nI (lo))) then 106 else 84) (L' := [some (.ref 0), some (.int (nI (b))), some (.int (nI (fr))), some (.int (nI (to))), some (.int (nI (pl))), some (.int (nI (x))), some (.int (nI (lo))), none, some (.int (nI (j)))]) (st' := []) (w' := mz_w A Q U T) rfl ?_
        refine ez_ifT (zt_le (a := j) (b := lo) (by omega) (by omega)) ?_
        exact ez_E.le (ez_lc (ez_lc (ez_lc (ez_lc (ez_lc (ez_lc (ez_lc (ez_lc (ez_ln ez_l0))))))))) (kk _ hA)
    · obtain ⟨row', a1, a2, a3, a4⟩ := ih (j - 1) (va_up row j (row (j - 1))) g (by omega) (by omega) (by omega) (hw.set (hw.1 (j - 1) (by omega)))
      refine ⟨row', a1, fun k => ?_, fun b pl => ?_, fun b fr to pl => ?_⟩
      · rw [a2 k]
        by_cases c1 : lo < k ∧ k ≤ j - 1
        · rw [if_pos c1, if_pos (by omega), va_up_ne _ _ (by omega)]
        · rw [if_neg c1]
          by_cases c2 : k = j
          · rw [c2, va_up_self, if_pos (by omega)]
          · rw [va_up_ne _ _ c2, if_neg (by omega)]
      · intro r q u bb post hr kk
        refine ez_go ez_h47 3 (pc' := bif decide ((nI (j)) ≤ (nI (lo))) then 103 else 77) (L' := [some (.ref 5), some (.int (nI (b))), some (.int (nI (pl))), some (.int (nI (ze_pi E (x)))), some (.int (nI (lo))), none, some (.int (nI (j)))]) (st' := []) (w' := cz_w r q u bb) rfl ?_
        refine ez_ifF (zt_nle (a := j) (b := lo) (by omega) (by omega)) ?_
        refine ez_go ez_h47 8 (pc' := 91) (L' := [some (.ref 5), some (.int (nI (b))), some (.int (nI (pl))), some (.int (nI (ze_pi E (x)))), some (.int (nI (lo))), none, some (.int (nI (j)))]) (st' := [.int ((nI (j)) - (nI (1))), .ref 1, .int (nI (j)), .ref 1]) (w' := cz_w r q u bb) rfl ?_
        refine ez_top (y := nI (j - 1)) (pk_sub (by omega)) ?_
        refine ez_cl ez_h47 rfl rfl ?_
        refine cr_at hE hr (k := j - 1) (by omega) q u bb ?_
        refine ez_cl ez_h47 rfl rfl ?_
        refine cr_set hE hr (k := j) (x := row (j - 1)) (by omega) q u bb (fun r8 hr8 => ?_)
        refine ez_inc ez_h47 rfl rfl (v := nI (j - 1)) (zi_m (by omega)) rfl ?_
        refine ez_go ez_h47 1 (pc' := 70) (L' := [some (.ref 5), some (.int (nI (b))), some (.int (nI (pl))), some (.int (nI (ze_pi E (x)))), some (.int (nI (lo))), none, some (.int (nI (j - 1)))]) (st' := []) (w' := cz_w r8 q u bb) rfl ?_
        exact a3 b pl _ q u bb post hr8 kk
      · intro A Q U T post hA kk
        refine ez_go ez_h90 3 (pc' := bif decide ((nI (j)) ≤ (nI (lo))) then 106 else 84) (L' := [some (.ref 0), some (.int (nI (b))), some (.int (nI (fr))), some (.int (nI (to))), some (.int (nI (pl))), some (.int (nI (x))), some (.int (nI (lo))), none, some (.int (nI (j)))]) (st' := []) (w' := mz_w A Q U T) rfl ?_
        refine ez_ifF (zt_nle (a := j) (b := lo) (by omega) (by omega)) ?_
        refine ez_go ez_h90 8 (pc' := 98) (L' := [some (.ref 0), some (.int (nI (b))), some (.int (nI (fr))), some (.int (nI (to))), some (.int (nI (pl))), some (.int (nI (x))), some (.int (nI (lo))), none, some (.int (nI (j)))]) (st' := [.int ((nI (j)) - (nI (1))), .ref 4, .int (nI (j)), .ref 4]) (w' := mz_w A Q U T) rfl ?_
        refine ez_top (y := nI (j - 1)) (pk_sub (by omega)) ?_
        refine mr_ld ez_h90 rfl hE hA (k := j - 1) (by omega) ?_
        refine mr_st ez_h90 rfl hE hA (k := j) (x := row (j - 1)) (by omega) (fun A9 hA9 => ?_)
        refine ez_inc ez_h90 rfl rfl (v := nI (j - 1)) (zi_m (by omega)) rfl ?_
        refine ez_go ez_h90 1 (pc' := 77) (L' := [some (.ref 0), some (.int (nI (b))), some (.int (nI (fr))), some (.int (nI (to))), some (.int (nI (pl))), some (.int (nI (x))), some (.int (nI (lo))), none, some (.int (nI (j - 1)))]) (st' := []) (w' := mz_w A9 Q U T) rfl ?_
        exact a4 b fr to pl _ Q U T post hA9 kk
theorem zu_ins {E : ze_T} (hE : ze_ok E) {b pl : Nat} (hb : b ≤ pl) (hp : pl < ze_n E) {row : Nat → Nat} {g : zs_G} (hw : zr_ok E row g) :
    ∃ (row' : Nat → Nat) (g' : zs_G), zr_ok E row' g' ∧ zg_le E g g' ∧ zp_in row row' b (pl + 1) ∧
      cr_M E 47 [.ref 5, .int (nI b), .int (nI pl)] row g none row' g' ∧ (∀ fr to : Nat, mr_G E 90 9 [some (.ref 0), some (.int (nI (b))), some (.int (nI (fr))), some (.int (nI (to))), some (.int (nI (pl))), none, none, none, none] row g 115 [some (.ref 0), some (.int (nI (b))), some (.int (nI (fr))), some (.int (nI (to))), some (.int (nI (pl))), none, none, none, none] row' g') := by
  have hn := hE.1
  have hx : row pl < ze_n E := hw.1 _ hp
  obtain ⟨lo, g', a1, a2, a3, a4, a5, a6⟩ := zu_half hE hx pl b pl row g (by omega) hb (by omega) hw
  obtain ⟨row', b1, b2, b3, b4⟩ := zu_shift hE hx (lo := lo) pl pl row g' (by omega) a2 hp a3
  refine ⟨va_up row' lo (row pl), g', b1.set hx, a4, ⟨fun k k1 k2 => ?_, fun k hk => ?_⟩, ?_, fun fr to => ?_⟩
  · by_cases c1 : k = lo
    · exact ⟨pl, by omega, by omega, by rw [c1, va_up_self]⟩
    · rw [va_up_ne _ _ c1, b2 k]
      by_cases c2 : lo < k ∧ k ≤ pl
      · exact ⟨k - 1, by omega, by omega, by rw [if_pos c2]⟩
      · exact ⟨k, k1, k2, by rw [if_neg c2]⟩
  · rw [va_up_ne _ _ (by omega), b2 k, if_neg (by omega)]
  · refine cr_H.m (L := [some (.ref 5), some (.int (nI (b))), some (.int (nI (pl))), none, none, none, none]) (fun r q u bb post hr kk => ?_) rfl rfl rfl
    refine ez_go ez_h47 3 (pc' := 5) (L' := [some (.ref 5), some (.int (nI (b))), some (.int (nI (pl))), none, none, none, none]) (st' := [.int (nI (pl)), .ref 1]) (w' := cz_w r q u bb) rfl ?_
    refine ez_cl ez_h47 rfl rfl ?_
    refine cr_at hE hr (k := pl) (by omega) q u bb ?_
    refine ez_go ez_h47 5 (pc' := 15) (L' := [some (.ref 5), some (.int (nI (b))), some (.int (nI (pl))), some (.int (nI (ze_pi E (row pl)))), some (.int (nI (b))), some (.int (nI (pl))), none]) (st' := []) (w' := cz_w r q u bb) rfl ?_
    refine a5 b pl _ q u bb post hr (fun r8 hr8 => ?_)
    refine ez_go ez_h47 2 (pc' := 70) (L' := [some (.ref 5), some (.int (nI (b))), some (.int (nI (pl))), some (.int (nI (ze_pi E (row pl)))), some (.int (nI (lo))), none, some (.int (nI (pl)))]) (st' := []) (w' := cz_w r8 q u bb) rfl ?_
    refine b3 b pl _ q u bb post hr8 (fun r9 hr9 => ?_)
    refine ez_go ez_h47 4 (pc' := 110) (L' := [some (.ref 5), some (.int (nI (b))), some (.int (nI (pl))), some (.int (nI (ze_pi E (row pl)))), some (.int (nI (lo))), none, none]) (st' := [.int (nI (ze_pi E (row pl))), .int (nI (lo)), .ref 1]) (w' := cz_w r9 q u bb) rfl ?_
    refine ez_cl ez_h47 rfl rfl ?_
    refine cr_set hE hr9 (k := lo) (x := row pl) (by omega) q u bb (fun r10 hr10 => ?_)
    exact ez_vret rfl ez_h47 rfl rfl (kk _ hr10)
  · intro A Q U T post hA kk
    refine ez_go ez_h90 3 (pc' := 15) (L' := [some (.ref 0), some (.int (nI (b))), some (.int (nI (fr))), some (.int (nI (to))), some (.int (nI (pl))), none, none, none, none]) (st' := [.int (nI (pl)), .ref 4]) (w' := mz_w A Q U T) rfl ?_
    refine mr_ld ez_h90 rfl hE hA (k := pl) (by omega) ?_
    refine ez_go ez_h90 5 (pc' := 25) (L' := [some (.ref 0), some (.int (nI (b))), some (.int (nI (fr))), some (.int (nI (to))), some (.int (nI (pl))), some (.int (nI (row pl))), some (.int (nI (b))), some (.int (nI (pl))), none]) (st' := []) (w' := mz_w A Q U T) rfl ?_
    refine a6 b fr to pl _ Q U T post hA (fun A8 hA8 => ?_)
    refine ez_go ez_h90 2 (pc' := 77) (L' := [some (.ref 0), some (.int (nI (b))), some (.int (nI (fr))), some (.int (nI (to))), some (.int (nI (pl))), some (.int (nI (row pl))), some (.int (nI (lo))), none, some (.int (nI (pl)))]) (st' := []) (w' := mz_w A8 Q U T) rfl ?_
    refine b4 b fr to pl _ Q U T post hA8 (fun A9 hA9 => ?_)
    refine ez_go ez_h90 4 (pc' := 114) (L' := [some (.ref 0), some (.int (nI (b))), some (.int (nI (fr))), some (.int (nI (to))), some (.int (nI (pl))), some (.int (nI (row pl))), some (.int (nI (lo))), none, none]) (st' := [.int (nI (row pl)), .int (nI (lo)), .ref 4]) (w' := mz_w A9 Q U T) rfl ?_
    refine mr_st ez_h90 rfl hE hA9 (k := lo) (x := row pl) (by omega) (fun A11 hA11 => ?_)
    exact ez_E.le (ez_lc (ez_lc (ez_lc (ez_lc (ez_lc (ez_ln (ez_ln (ez_lc (ez_lc ez_l0))))))))) (kk _ hA11)
theorem zu_len {E : ze_T} (hE : ze_ok E) {b to : Nat} (ht : to ≤ ze_n E) : ∀ (s i : Nat) (row : Nat → Nat) (g : zs_G), to ≤ i + s → b ≤ i → i ≤ 600 → zr_ok E row g →
    ∃ (row' : Nat → Nat) (g' : zs_G), zr_ok E row' g' ∧ zg_le E g g' ∧ zp_in row row' b (max to i) ∧
      (∀ e : Nat, cr_G E 46 13 [some (.ref 5), some (.int (nI (b))), some (.int (nI (e))), some (.int (nI (ze_n E))), some (.int (nI (to))), some (.int (nI (i)))] row g 33 [some (.ref 5), some (.int (nI (b))), some (.int (nI (e))), some (.int (nI (ze_n E))), some (.int (nI (to))), none] row' g') ∧ (∀ e : Nat, mr_H E 90 3 [some (.ref 0), some (.int (nI (b))), some (.int (nI (e))), some (.int (nI (to))), some (.int (nI (i))), none, none, none, none] row g none row' g') := by
  have hn := hE.1
  intro s
  induction s with
  | zero =>
    intro i row g h1 h2 h3 hw
    refine ⟨row, g, hw, zg_le.rf g, zp_in.rf _ _ _, fun e => ?_, fun e => ?_⟩
    · intro r q u bb post hr kk
      refine ez_go ez_h46 3 (pc' := bif decide ((nI (to)) ≤ (nI (i))) then 33 else 20) (L' := [some (.ref 5), some (.int (nI (b))), some (.int (nI (e))), some (.int (nI (ze_n E))), some (.int (nI (to))), some (.int (nI (i)))]) (st' := []) (w' := cz_w r q u bb) rfl ?_
      refine ez_ifT (zt_le (a := to) (b := i) (by omega) (by omega)) ?_
      exact ez_E.le (ez_lc (ez_lc (ez_lc (ez_lc (ez_lc (ez_ln ez_l0)))))) (kk _ hr)
    · intro A Q U T post hA kk
      refine ez_go ez_h90 3 (pc' := bif decide ((nI (to)) ≤ (nI (i))) then 121 else 9) (L' := [some (.ref 0), some (.int (nI (b))), some (.int (nI (e))), some (.int (nI (to))), some (.int (nI (i))), none, none, none, none]) (st' := []) (w' := mz_w A Q U T) rfl ?_
      refine ez_ifT (zt_le (a := to) (b := i) (by omega) (by omega)) ?_
      exact ez_vret rfl ez_h90 rfl rfl (kk _ hA)
  | succ s ih =>
    intro i row g h1 h2 h3 hw
    by_cases hi : to ≤ i
    · refine ⟨row, g, hw, zg_le.rf g, zp_in.rf _ _ _, fun e => ?_, fun e => ?_⟩
      · intro r q u bb post hr kk
        refine ez_go ez_h46 3 (pc' := bif decide ((nI (to)) ≤ (nI (i))) then 33 else 20) (L' := [some (.ref 5), some (.int (nI (b))), some (.int (nI (e))), some (.int (nI (ze_n E))), some (.int (nI (to))), some (.int (nI (i)))]) (st' := []) (w' := cz_w r q u bb) rfl ?_
        refine ez_ifT (zt_le (a := to) (b := i) (by omega) (by omega)) ?_
        exact ez_E.le (ez_lc (ez_lc (ez_lc (ez_lc (ez_lc (ez_ln ez_l0)))))) (kk _ hr)
      · intro A Q U T post hA kk
        refine ez_go ez_h90 3 (pc' := bif decide ((nI (to)) ≤ (nI (i))) then 121 else 9) (L' := [some (.ref 0), some (.int (nI (b))), some (.int (nI (e))), some (.int (nI (to))), some (.int (nI (i))), none, none, none, none]) (st' := []) (w' := mz_w A Q U T) rfl ?_
        refine ez_ifT (zt_le (a := to) (b := i) (by omega) (by omega)) ?_
        exact ez_vret rfl ez_h90 rfl rfl (kk _ hA)
    · obtain ⟨row1, g1, a1, a2, a3, a4, a5⟩ := zu_ins hE (b := b) (pl := i) h2 (by omega) hw
      obtain ⟨row', g', b1, b2, b3, b4, b5⟩ := ih (i + 1) row1 g1 (by omega) (by omega) (by omega) a1
      refine ⟨row', g', b1, a2.tr b2, (a3.wide (Nat.le_refl _) (by omega)).tr (b3.wide (Nat.le_refl _) (by omega)), fun e => ?_, fun e => ?_⟩
      · intro r q u bb post hr kk
        refine ez_go ez_h46 3 (pc' := bif decide ((nI (to)) ≤ (nI (i))) then 33 else 20) (L' := [some (.ref 5), some (.int (nI (b))), some (.int (nI (e))), some (.int (nI (ze_n E))), some (.int (nI (to))), some (.int (nI (i)))]) (st' := []) (w' := cz_w r q u bb) rfl ?_
        refine ez_ifF (zt_nle (a := to) (b := i) (by omega) (by omega)) ?_
        refine ez_go ez_h46 3 (pc' := 24) (L' := [some (.ref 5), some (.int (nI (b))), some (.int (nI (e))), some (.int (nI (ze_n E))), some (.int (nI (to))), some (.int (nI (i)))]) (st' := [.int (nI (i)), .int (nI (b)), .ref 5]) (w' := cz_w r q u bb) rfl ?_
        refine ez_cl ez_h46 rfl rfl ?_
        refine a4 _ q u bb _ hr (fun r9 hr9 => ?_)
        refine ez_inc ez_h46 rfl rfl (v := nI (i + 1)) (zi_1 _) rfl ?_
        refine ez_go ez_h46 1 (pc' := 13) (L' := [some (.ref 5), some (.int (nI (b))), some (.int (nI (e))), some (.int (nI (ze_n E))), some (.int (nI (to))), some (.int (nI (i + 1)))]) (st' := []) (w' := cz_w r9 q u bb) rfl ?_
        exact b4 e _ q u bb post hr9 kk
      · intro A Q U T post hA kk
        refine ez_go ez_h90 3 (pc' := bif decide ((nI (to)) ≤ (nI (i))) then 121 else 9) (L' := [some (.ref 0), some (.int (nI (b))), some (.int (nI (e))), some (.int (nI (to))), some (.int (nI (i))), none, none, none, none]) (st' := []) (w' := mz_w A Q U T) rfl ?_
        refine ez_ifF (zt_nle (a := to) (b := i) (by omega) (by omega)) ?_
        refine a5 e to _ Q U T post hA (fun A9 hA9 => ?_)
        refine ez_inc ez_h90 rfl rfl (v := nI (i + 1)) (zi_1 _) rfl ?_
        refine ez_go ez_h90 1 (pc' := 3) (L' := [some (.ref 0), some (.int (nI (b))), some (.int (nI (e))), some (.int (nI (to))), some (.int (nI (i + 1))), none, none, none, none]) (st' := []) (w' := mz_w A9 Q U T) rfl ?_
        exact b5 e _ Q U T post hA9 kk
/-- a RUN becomes one of 16, or of all that are left -/
theorem zu_lengthen {E : ze_T} (hE : ze_ok E) {b e : Nat} (hb : b ≤ e) (he : e ≤ ze_n E) {row : Nat → Nat} {g : zs_G} (hw : zr_ok E row g) :
    ∃ (row' : Nat → Nat) (g' : zs_G), zr_ok E row' g' ∧ zg_le E g g' ∧ zp_in row row' b (ze_n E) ∧
      cr_M E 46 [.ref 5, .int (nI b), .int (nI e), .int (nI (ze_n E))] row g (some (.int (nI (max e (min (b + 16) (ze_n E)))))) row' g' ∧
      (e < b + 16 → mr_M E 90 [.ref 0, .int (nI b), .int (nI e), .int (nI (min (b + 16) (ze_n E)))] row g none row' g') ∧ (b + 16 ≤ e → row' = row ∧ g' = g) := by
  have hn := hE.1
  by_cases h16 : b + 16 ≤ e
  · refine ⟨row, g, hw, zg_le.rf g, zp_in.rf _ _ _, ?_, fun z => by omega, fun _ => ⟨rfl, rfl⟩⟩
    refine cr_H.m (L := [some (.ref 5), some (.int (nI (b))), some (.int (nI (e))), some (.int (nI (ze_n E))), none, none]) (fun r q u bb post hr kk => ?_) rfl rfl rfl
    refine ez_go ez_h46 3 (pc' := 4) (L' := [some (.ref 5), some (.int (nI (b))), some (.int (nI (e))), some (.int (nI (ze_n E))), none, none]) (st' := [.int ((nI (b)) + (nI (16)))]) (w' := cz_w r q u bb) rfl ?_
    refine ez_top (y := nI (b + 16)) (nI_add _ _) ?_
    refine ez_go ez_h46 1 (pc' := 5) (L' := [some (.ref 5), some (.int (nI (b))), some (.int (nI (e))), some (.int (nI (ze_n E))), none, none]) (st' := [.int (nI (ze_n E)), .int (nI (b + 16))]) (w' := cz_w r q u bb) rfl ?_
    refine ez_min ez_h46 rfl rfl (by omega) (by omega) ?_
    refine ez_go ez_h46 6 (pc' := bif decide ((nI (min (b + 16) (ze_n E))) ≤ (nI (e))) then 33 else 20) (L' := [some (.ref 5), some (.int (nI (b))), some (.int (nI (e))), some (.int (nI (ze_n E))), some (.int (nI (min (b + 16) (ze_n E)))), some (.int (nI (e)))]) (st' := []) (w' := cz_w r q u bb) rfl ?_
    refine ez_ifT (zt_le (a := min (b + 16) (ze_n E)) (b := e) (by omega) (by omega)) ?_
    refine ez_go ez_h46 2 (pc' := 36) (L' := [some (.ref 5), some (.int (nI (b))), some (.int (nI (e))), some (.int (nI (ze_n E))), some (.int (nI (min (b + 16) (ze_n E)))), some (.int (nI (e)))]) (st' := [.int (nI (min (b + 16) (ze_n E))), .int (nI (e))]) (w' := cz_w r q u bb) rfl ?_
    refine ez_max ez_h46 rfl rfl (by omega) (by omega) ?_
    exact ez_iret rfl ez_h46 rfl rfl (kk _ hr)
  · obtain ⟨row', g', a1, a2, a3, a4, a5⟩ := zu_len hE (b := b) (to := min (b + 16) (ze_n E)) (by omega) 600 e row g (by omega) hb (by omega) hw
    refine ⟨row', g', a1, a2, a3.wide (Nat.le_refl _) (by omega), ?_, fun _ => ?_, fun z => by omega⟩
    · refine cr_H.m (L := [some (.ref 5), some (.int (nI (b))), some (.int (nI (e))), some (.int (nI (ze_n E))), none, none]) (fun r q u bb post hr kk => ?_) rfl rfl rfl
      refine ez_go ez_h46 3 (pc' := 4) (L' := [some (.ref 5), some (.int (nI (b))), some (.int (nI (e))), some (.int (nI (ze_n E))), none, none]) (st' := [.int ((nI (b)) + (nI (16)))]) (w' := cz_w r q u bb) rfl ?_
      refine ez_top (y := nI (b + 16)) (nI_add _ _) ?_
      refine ez_go ez_h46 1 (pc' := 5) (L' := [some (.ref 5), some (.int (nI (b))), some (.int (nI (e))), some (.int (nI (ze_n E))), none, none]) (st' := [.int (nI (ze_n E)), .int (nI (b + 16))]) (w' := cz_w r q u bb) rfl ?_
      refine ez_min ez_h46 rfl rfl (by omega) (by omega) ?_
      refine ez_go ez_h46 3 (pc' := 13) (L' := [some (.ref 5), some (.int (nI (b))), some (.int (nI (e))), some (.int (nI (ze_n E))), some (.int (nI (min (b + 16) (ze_n E)))), some (.int (nI (e)))]) (st' := []) (w' := cz_w r q u bb) rfl ?_
      refine a4 e _ q u bb post hr (fun r8 hr8 => ?_)
      refine ez_go ez_h46 2 (pc' := 36) (L' := [some (.ref 5), some (.int (nI (b))), some (.int (nI (e))), some (.int (nI (ze_n E))), some (.int (nI (min (b + 16) (ze_n E)))), none]) (st' := [.int (nI (min (b + 16) (ze_n E))), .int (nI (e))]) (w' := cz_w r8 q u bb) rfl ?_
      refine ez_max ez_h46 rfl rfl (by omega) (by omega) ?_
      exact ez_iret rfl ez_h46 rfl rfl (kk _ hr8)
    · refine mr_H.m (L := [some (.ref 0), some (.int (nI (b))), some (.int (nI (e))), some (.int (nI (min (b + 16) (ze_n E)))), none, none, none, none, none]) (fun A Q U T post hA kk => ?_) rfl rfl rfl
      refine ez_go ez_h90 2 (pc' := 3) (L' := [some (.ref 0), some (.int (nI (b))), some (.int (nI (e))), some (.int (nI (min (b + 16) (ze_n E)))), some (.int (nI (e))), none, none, none, none]) (st' := []) (w' := mz_w A Q U T) rfl ?_
      exact a5 e _ Q U T post hA kk
