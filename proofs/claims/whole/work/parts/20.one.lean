/-- one is inserted -/
theorem zi_one {E : ze_T} (hE : ze_ok E) (gd : Bool) {lo i : Nat} (h1 : lo < i) (h2 : i < ze_n E) {row : Nat → Nat} {g : zs_G} (hw : zr_ok E row g) (hs : gd = false → 1 ≤ lo ∧ zs_K (ze_md E) (ze_ka E) g (row (lo - 1)) (row i)) :
    ∃ (row' : Nat → Nat) (g' : zs_G) (d : Nat), d ≤ i ∧ zr_ok E row' g' ∧ zg_le E g g' ∧ zp_in row row' lo (i + 1) ∧
      (∀ lw : Nat, lw ≤ lo → (gd = true → lw = lo) → (gd = false → lw < lo) → cr_M E 7 [.ref 2, .int (nI i), .int (nI lw)] row g (some (.int (nI d))) row' g') ∧
      (∀ (b e S : Nat) (pp : Int32), (gd = true → b = lo) → mr_G E 76 28 [some (.ref 0), some (.int (nI (b))), some (.int (nI (e))), some (.int (nI (bif gd then 1 else 0))), some (.int (pp)), some (.int (nI (S))), some (.int (nI (i))), none, none, none] row g 138 [some (.ref 0), some (.int (nI (b))), some (.int (nI (e))), some (.int (nI (bif gd then 1 else 0))), some (.int (pp)), some (.int (nI (S + d))), some (.int (nI (i))), none, none, none] row' g') := by
  have hn := hE.1
  have hxi : row i < ze_n E := hw.1 i h2
  have hw1 := hw.go hxi (hw.1 (i - 1) (by omega))
  have hg1 : zg_le E g _ := zg_le.go hw (row i) (row (i - 1))
  cases hb : zs_b (ze_md E) (ze_ka E) (row i) (row (i - 1)) g with
  | false =>
    refine ⟨row, zs_g (ze_md E) (row i) (row (i - 1)) g, 0, Nat.zero_le _, hw1, hg1, zp_in.rf _ _ _, fun lw q1 q2 q3 => ?_, fun b e S pp q1 => ?_⟩
    · intro r q u b post hr kk
      refine ez_m.of (L := [some (.ref 2), some (.int (nI (i))), some (.int (nI (lw))), none, none]) rfl rfl rfl ?_
      refine ez_go ez_h7 3 (pc' := 5) (L' := [some (.ref 2), some (.int (nI (i))), some (.int (nI (lw))), none, none]) (st' := [.int (nI (i)), .ref 1]) (w' := cz_w r q u b) rfl ?_
      refine ez_cl ez_h7 rfl rfl ?_
      refine cr_at hE hr (k := i) (by omega) q u b ?_
      refine ez_go ez_h7 9 (pc' := 21) (L' := [some (.ref 2), some (.int (nI (i))), some (.int (nI (lw))), some (.int (nI (ze_pi E (row i)))), none]) (st' := [.int ((nI (i)) - (nI (1))), .ref 1, .int (nI (ze_pi E (row i))), .ref 1]) (w' := cz_w r q u b) rfl ?_
      refine ez_top (y := nI (i - 1)) (pk_sub (by omega)) ?_
      refine ez_cl ez_h7 rfl rfl ?_
      refine cr_at hE hr (k := i - 1) (by omega) q u b ?_
      refine ez_cl ez_h7 rfl rfl ?_
      refine cr_less hE hr hw.2 (x := row i) (y := row (i - 1)) (hw.1 i (by omega)) (hw.1 (i - 1) (by omega)) q u b (fun r4 hr4 => ?_)
      refine ez_go ez_h7 1 (pc' := bif decide (¬ (zs_z (zs_b (ze_md E) (ze_ka E) (row i) (row (i - 1)) g)) = 0) then 32 else 30) (L' := [some (.ref 2), some (.int (nI (i))), some (.int (nI (lw))), some (.int (nI (ze_pi E (row i)))), none]) (st' := []) (w' := cz_w r4 q u b) rfl ?_
      refine ez_ifF (fun z => z (zz_f hb)) ?_
      refine ez_go ez_h7 1 (pc' := 31) (L' := [some (.ref 2), some (.int (nI (i))), some (.int (nI (lw))), some (.int (nI (ze_pi E (row i)))), none]) (st' := [.int (nI (0))]) (w' := cz_w r4 q u b) rfl ?_
      exact ez_iret rfl ez_h7 rfl rfl (kk _ hr4)
    · intro A Q U T post hA kk
      refine ez_go ez_h76 5 (pc' := 35) (L' := [some (.ref 0), some (.int (nI (b))), some (.int (nI (e))), some (.int (nI (bif gd then 1 else 0))), some (.int (pp)), some (.int (nI (S))), some (.int (nI (i))), none, none, none]) (st' := [.int ((nI (i)) - (nI (1))), .int (nI (i)), .ref 0]) (w' := mz_w A Q U T) rfl ?_
      refine ez_top (y := nI (i - 1)) (pk_sub (by omega)) ?_
      refine ez_cl ez_h76 rfl rfl ?_
      refine mr_lessAt hE hA hw (i := i) (j := i - 1) (by omega) (by omega) Q U T (fun A5 hA5 => ?_)
      refine ez_go ez_h76 1 (pc' := bif decide ((zs_z (zs_b (ze_md E) (ze_ka E) (row i) (row (i - 1)) g)) = 0) then 138 else 41) (L' := [some (.ref 0), some (.int (nI (b))), some (.int (nI (e))), some (.int (nI (bif gd then 1 else 0))), some (.int (pp)), some (.int (nI (S))), some (.int (nI (i))), none, none, none]) (st' := []) (w' := mz_w A5 Q U T) rfl ?_
      refine ez_ifT (zz_f hb) ?_
      exact kk _ hA5
  | true =>
    have hs' : gd = false → 1 ≤ lo ∧ zs_K (ze_md E) (ze_ka E) (zs_g (ze_md E) (row i) (row (i - 1)) g) (row (lo - 1)) (row i) := fun z => ⟨(hs z).1, hg1 _ _ (hw.1 (lo - 1) (by omega)) (hs z).2⟩
    obtain ⟨row', g', j', a1, a2, a3, a4, a5, a6, a7⟩ := zi_down hE gd lo (row i) hxi i row _ h1 h2 hw1 hs'
    refine ⟨va_up row' j' (row i), g', i - j', by omega, a3.set hxi, hg1.tr a4, ⟨fun k k1 k2 => ?_, fun k hk => ?_⟩, fun lw q1 q2 q3 => ?_, fun b e S pp q1 => ?_⟩
    · by_cases c1 : k = j'
      · exact ⟨i, by omega, by omega, by rw [c1, va_up_self]⟩
      · rw [va_up_ne _ _ c1, a5 k]
        by_cases c2 : j' < k ∧ k ≤ i
        · exact ⟨k - 1, by omega, by omega, by rw [if_pos c2]⟩
        · exact ⟨k, k1, k2, by rw [if_neg c2]⟩
    · rw [va_up_ne _ _ (by omega), a5 k, if_neg (by omega)]
    · intro r q u b post hr kk
      refine ez_m.of (L := [some (.ref 2), some (.int (nI (i))), some (.int (nI (lw))), none, none]) rfl rfl rfl ?_
      refine ez_go ez_h7 3 (pc' := 5) (L' := [some (.ref 2), some (.int (nI (i))), some (.int (nI (lw))), none, none]) (st' := [.int (nI (i)), .ref 1]) (w' := cz_w r q u b) rfl ?_
      refine ez_cl ez_h7 rfl rfl ?_
      refine cr_at hE hr (k := i) (by omega) q u b ?_
      refine ez_go ez_h7 9 (pc' := 21) (L' := [some (.ref 2), some (.int (nI (i))), some (.int (nI (lw))), some (.int (nI (ze_pi E (row i)))), none]) (st' := [.int ((nI (i)) - (nI (1))), .ref 1, .int (nI (ze_pi E (row i))), .ref 1]) (w' := cz_w r q u b) rfl ?_
      refine ez_top (y := nI (i - 1)) (pk_sub (by omega)) ?_
      refine ez_cl ez_h7 rfl rfl ?_
      refine cr_at hE hr (k := i - 1) (by omega) q u b ?_
      refine ez_cl ez_h7 rfl rfl ?_
      refine cr_less hE hr hw.2 (x := row i) (y := row (i - 1)) (hw.1 i (by omega)) (hw.1 (i - 1) (by omega)) q u b (fun r6 hr6 => ?_)
      refine ez_go ez_h7 1 (pc' := bif decide (¬ (zs_z (zs_b (ze_md E) (ze_ka E) (row i) (row (i - 1)) g)) = 0) then 32 else 30) (L' := [some (.ref 2), some (.int (nI (i))), some (.int (nI (lw))), some (.int (nI (ze_pi E (row i)))), none]) (st' := []) (w' := cz_w r6 q u b) rfl ?_
      refine ez_ifT (zz_t hb) ?_
      refine ez_go ez_h7 2 (pc' := 35) (L' := [some (.ref 2), some (.int (nI (i))), some (.int (nI (lw))), some (.int (nI (ze_pi E (row i)))), some (.int (nI (i)))]) (st' := []) (w' := cz_w r6 q u b) rfl ?_
      refine a6 i lw q1 q2 q3 _ q u b post hr6 (fun r9 hr9 => ?_)
      refine ez_go ez_h7 4 (pc' := 93) (L' := [some (.ref 2), some (.int (nI (i))), some (.int (nI (lw))), some (.int (nI (ze_pi E (row i)))), some (.int (nI (j')))]) (st' := [.int (nI (ze_pi E (row i))), .int (nI (j')), .ref 1]) (w' := cz_w r9 q u b) rfl ?_
      refine ez_cl ez_h7 rfl rfl ?_
      refine cr_set hE hr9 (k := j') (x := row i) (by omega) q u b (fun r7 hr7 => ?_)
      refine ez_go ez_h7 3 (pc' := 100) (L' := [some (.ref 2), some (.int (nI (i))), some (.int (nI (lw))), some (.int (nI (ze_pi E (row i)))), some (.int (nI (j')))]) (st' := [.int ((nI (i)) - (nI (j')))]) (w' := cz_w r7 q u b) rfl ?_
      refine ez_top (y := nI (i - j')) (pk_sub (by omega)) ?_
      exact ez_iret rfl ez_h7 rfl rfl (kk _ hr7)
    · intro A Q U T post hA kk
      refine ez_go ez_h76 5 (pc' := 35) (L' := [some (.ref 0), some (.int (nI (b))), some (.int (nI (e))), some (.int (nI (bif gd then 1 else 0))), some (.int (pp)), some (.int (nI (S))), some (.int (nI (i))), none, none, none]) (st' := [.int ((nI (i)) - (nI (1))), .int (nI (i)), .ref 0]) (w' := mz_w A Q U T) rfl ?_
      refine ez_top (y := nI (i - 1)) (pk_sub (by omega)) ?_
      refine ez_cl ez_h76 rfl rfl ?_
      refine mr_lessAt hE hA hw (i := i) (j := i - 1) (by omega) (by omega) Q U T (fun A8 hA8 => ?_)
      refine ez_go ez_h76 1 (pc' := bif decide ((zs_z (zs_b (ze_md E) (ze_ka E) (row i) (row (i - 1)) g)) = 0) then 138 else 41) (L' := [some (.ref 0), some (.int (nI (b))), some (.int (nI (e))), some (.int (nI (bif gd then 1 else 0))), some (.int (pp)), some (.int (nI (S))), some (.int (nI (i))), none, none, none]) (st' := []) (w' := mz_w A8 Q U T) rfl ?_
      refine ez_ifF (zz_t hb) ?_
      refine ez_go ez_h76 3 (pc' := 47) (L' := [some (.ref 0), some (.int (nI (b))), some (.int (nI (e))), some (.int (nI (bif gd then 1 else 0))), some (.int (pp)), some (.int (nI (S))), some (.int (nI (i))), none, none, none]) (st' := [.int (nI (i)), .ref 4]) (w' := mz_w A8 Q U T) rfl ?_
      refine mr_ld ez_h76 rfl hE hA8 (k := i) (by omega) ?_
      refine ez_go ez_h76 7 (pc' := bif decide ((nI (1)) = (nI 0)) then 119 else 62) (L' := [some (.ref 0), some (.int (nI (b))), some (.int (nI (e))), some (.int (nI (bif gd then 1 else 0))), some (.int (pp)), some (.int (nI (S))), some (.int (nI (i))), some (.int (nI (row i))), some (.int (nI (i))), some (.int (nI (1)))]) (st' := []) (w' := mz_w A8 Q U T) rfl ?_
      refine ez_ifF (zt_ne (by omega) (by omega) (by omega)) ?_
      refine ez_E.le (ez_lc (ez_lc (ez_lc (ez_lc (ez_lc (ez_lc (ez_lc (ez_lc (ez_lc (ez_ln ez_l0)))))))))) (a7 b e i pp (nI S) q1 _ Q U T post hA8 (fun A9 hA9 => ?_))
      refine ez_go ez_h76 4 (pc' := 127) (L' := [some (.ref 0), some (.int (nI (b))), some (.int (nI (e))), some (.int (nI (bif gd then 1 else 0))), some (.int (pp)), some (.int (nI (S))), some (.int (nI (i))), some (.int (nI (row i))), some (.int (nI (j'))), none]) (st' := [.int (nI (row i)), .int (nI (j')), .ref 4]) (w' := mz_w A9 Q U T) rfl ?_
      refine mr_st ez_h76 rfl hE hA9 (k := j') (x := row i) (by omega) (fun A9 hA9 => ?_)
      refine ez_go ez_h76 3 (pc' := 133) (L' := [some (.ref 0), some (.int (nI (b))), some (.int (nI (e))), some (.int (nI (bif gd then 1 else 0))), some (.int (pp)), some (.int (nI (S))), some (.int (nI (i))), some (.int (nI (row i))), some (.int (nI (j'))), none]) (st' := [.int ((nI (S)) + (nI (i)))]) (w' := mz_w A9 Q U T) rfl ?_
      refine ez_top (y := nI (S + i)) (nI_add _ _) ?_
      refine ez_go ez_h76 2 (pc' := 136) (L' := [some (.ref 0), some (.int (nI (b))), some (.int (nI (e))), some (.int (nI (bif gd then 1 else 0))), some (.int (pp)), some (.int (nI (S))), some (.int (nI (i))), some (.int (nI (row i))), some (.int (nI (j'))), none]) (st' := [.int ((nI (S + i)) - (nI (j')))]) (w' := mz_w A9 Q U T) rfl ?_
      refine ez_top (y := nI ((S + i) - j')) (pk_sub (by omega)) ?_
      refine ez_go ez_h76 1 (pc' := 138) (L' := [some (.ref 0), some (.int (nI (b))), some (.int (nI (e))), some (.int (nI (bif gd then 1 else 0))), some (.int (pp)), some (.int (nI ((S + i) - j'))), some (.int (nI (i))), some (.int (nI (row i))), some (.int (nI (j'))), none]) (st' := []) (w' := mz_w A9 Q U T) rfl ?_
      rw [show S + i - j' = S + (i - j') by omega]
      exact ez_E.le (ez_lc (ez_lc (ez_lc (ez_lc (ez_lc (ez_lc (ez_lc (ez_ln (ez_ln (ez_lc ez_l0)))))))))) (kk _ hA9)
