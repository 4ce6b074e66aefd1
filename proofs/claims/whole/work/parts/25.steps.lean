theorem zt_mv {row : Nat → Nat} {n j c x : Nat} (hj : j < n) (hc : c < n) (hne : c ≠ j) : zp_in (va_up row j x) (va_up (va_up row j (row c)) c x) 0 n := by
  have h := zh_mv (row := row) (b := 0) (m := n) (i := j) (c := c) (x := x) hj hc hne
  rw [Nat.zero_add, Nat.zero_add, Nat.zero_add] at h
  exact h
theorem zt_down {E : ze_T} (hE : ze_ok E) {gp x : Nat} (hx : x < ze_n E) (hg : 1 ≤ gp) (hg2 : gp ≤ 301) : ∀ (j : Nat) (row : Nat → Nat) (g : zs_G), j < ze_n E → zr_ok E row g →
    ∃ (row' : Nat → Nat) (g' : zs_G) (j' : Nat), j' < ze_n E ∧ zr_ok E row' g' ∧ zg_le E g g' ∧ zp_in (va_up row j x) (va_up row' j' x) 0 (ze_n E) ∧
      (∀ pl : Nat, cr_G E 57 12 [some (.ref 6), some (.int (nI (pl))), some (.int (nI (gp))), some (.int (nI (ze_pi E (x)))), some (.int (nI (j)))] row g 69 [some (.ref 6), some (.int (nI (pl))), some (.int (nI (gp))), some (.int (nI (ze_pi E (x)))), some (.int (nI (j')))] row' g') ∧ (∀ k pl : Nat, mr_G E 96 34 [some (.ref 0), some (.int (nI (k))), some (.int (nI (gp))), some (.int (nI (pl))), some (.int (nI (x))), some (.int (nI (j)))] row g 83 [some (.ref 0), some (.int (nI (k))), some (.int (nI (gp))), some (.int (nI (pl))), some (.int (nI (x))), some (.int (nI (j')))] row' g') := by
  have hn := hE.1
  intro j
  induction j using Nat.strongRecOn with
  | _ j ih =>
    intro row g h1 hw
    by_cases hj : j < gp
    · refine ⟨row, g, j, h1, hw, zg_le.rf g, zp_in.rf _ _ _, fun pl => ?_, fun k pl => ?_⟩
      · intro r q u bb post hr kk
        refine ez_go ez_h57 3 (pc' := bif decide ((nI (j)) < (nI (gp))) then 69 else 18) (L' := [some (.ref 6), some (.int (nI (pl))), some (.int (nI (gp))), some (.int (nI (ze_pi E (x)))), some (.int (nI (j)))]) (st' := []) (w' := cz_w r q u bb) rfl ?_
        refine ez_ifT (zt_lt (a := j) (b := gp) (by omega) (by omega)) ?_
        exact kk _ hr
      · intro A Q U T post hA kk
        refine ez_go ez_h96 3 (pc' := bif decide ((nI (j)) < (nI (gp))) then 83 else 40) (L' := [some (.ref 0), some (.int (nI (k))), some (.int (nI (gp))), some (.int (nI (pl))), some (.int (nI (x))), some (.int (nI (j)))]) (st' := []) (w' := mz_w A Q U T) rfl ?_
        refine ez_ifT (zt_lt (a := j) (b := gp) (by omega) (by omega)) ?_
        exact kk _ hA
    · have hw1 := hw.go hx (hw.1 (j - gp) (by omega))
      have hg1 : zg_le E g _ := zg_le.go hw x (row (j - gp))
      cases hb : zs_b (ze_md E) (ze_ka E) x (row (j - gp)) g with
      | false =>
        refine ⟨row, _, j, h1, hw1, hg1, zp_in.rf _ _ _, fun pl => ?_, fun k pl => ?_⟩
        · intro r q u bb post hr kk
          refine ez_go ez_h57 3 (pc' := bif decide ((nI (j)) < (nI (gp))) then 69 else 18) (L' := [some (.ref 6), some (.int (nI (pl))), some (.int (nI (gp))), some (.int (nI (ze_pi E (x)))), some (.int (nI (j)))]) (st' := []) (w' := cz_w r q u bb) rfl ?_
          refine ez_ifF (zt_nlt (a := j) (b := gp) (by omega) (by omega)) ?_
          refine ez_go ez_h57 8 (pc' := 31) (L' := [some (.ref 6), some (.int (nI (pl))), some (.int (nI (gp))), some (.int (nI (ze_pi E (x)))), some (.int (nI (j)))]) (st' := [.int ((nI (j)) - (nI (gp))), .ref 1, .int (nI (ze_pi E (x))), .ref 1]) (w' := cz_w r q u bb) rfl ?_
          refine ez_top (y := nI (j - gp)) (pk_sub (by omega)) ?_
          refine ez_cl ez_h57 rfl rfl ?_
          refine cr_at hE hr (k := j - gp) (by omega) q u bb ?_
          refine ez_cl ez_h57 rfl rfl ?_
          refine cr_less hE hr hw.2 (x := x) (y := row (j - gp)) hx (hw.1 (j - gp) (by omega)) q u bb (fun r4 hr4 => ?_)
          refine ez_go ez_h57 1 (pc' := bif decide ((zs_z (zs_b (ze_md E) (ze_ka E) x (row (j - gp)) g)) = 0) then 69 else 40) (L' := [some (.ref 6), some (.int (nI (pl))), some (.int (nI (gp))), some (.int (nI (ze_pi E (x)))), some (.int (nI (j)))]) (st' := []) (w' := cz_w r4 q u bb) rfl ?_
          refine ez_ifT (zz_f hb) ?_
          exact kk _ hr4
        · intro A Q U T post hA kk
          refine ez_go ez_h96 3 (pc' := bif decide ((nI (j)) < (nI (gp))) then 83 else 40) (L' := [some (.ref 0), some (.int (nI (k))), some (.int (nI (gp))), some (.int (nI (pl))), some (.int (nI (x))), some (.int (nI (j)))]) (st' := []) (w' := mz_w A Q U T) rfl ?_
          refine ez_ifF (zt_nlt (a := j) (b := gp) (by omega) (by omega)) ?_
          refine ez_go ez_h96 7 (pc' := 51) (L' := [some (.ref 0), some (.int (nI (k))), some (.int (nI (gp))), some (.int (nI (pl))), some (.int (nI (x))), some (.int (nI (j)))]) (st' := [.int ((nI (j)) - (nI (gp))), .ref 4, .int (nI (x)), .ref 0]) (w' := mz_w A Q U T) rfl ?_
          refine ez_top (y := nI (j - gp)) (pk_sub (by omega)) ?_
          refine mr_ld ez_h96 rfl hE hA (k := j - gp) (by omega) ?_
          refine ez_cl ez_h96 rfl rfl ?_
          refine mr_less hE hA hw.2 (x := x) (y := row (j - gp)) hx (hw.1 (j - gp) (by omega)) Q U T (fun A5 hA5 => ?_)
          refine ez_go ez_h96 1 (pc' := bif decide ((zs_z (zs_b (ze_md E) (ze_ka E) x (row (j - gp)) g)) = 0) then 83 else 58) (L' := [some (.ref 0), some (.int (nI (k))), some (.int (nI (gp))), some (.int (nI (pl))), some (.int (nI (x))), some (.int (nI (j)))]) (st' := []) (w' := mz_w A5 Q U T) rfl ?_
          refine ez_ifT (zz_f hb) ?_
          exact kk _ hA5
      | true =>
        obtain ⟨row', g', j', a1, a2, a3, a4, a5, a6⟩ := ih (j - gp) (by omega) (va_up row j (row (j - gp))) _ (by omega) (hw1.set (hw.1 (j - gp) (by omega)))
        refine ⟨row', g', j', a1, a2, hg1.tr a3, (zt_mv h1 (by omega) (by omega)).tr a4, fun pl => ?_, fun k pl => ?_⟩
        · intro r q u bb post hr kk
          refine ez_go ez_h57 3 (pc' := bif decide ((nI (j)) < (nI (gp))) then 69 else 18) (L' := [some (.ref 6), some (.int (nI (pl))), some (.int (nI (gp))), some (.int (nI (ze_pi E (x)))), some (.int (nI (j)))]) (st' := []) (w' := cz_w r q u bb) rfl ?_
          refine ez_ifF (zt_nlt (a := j) (b := gp) (by omega) (by omega)) ?_
          refine ez_go ez_h57 8 (pc' := 31) (L' := [some (.ref 6), some (.int (nI (pl))), some (.int (nI (gp))), some (.int (nI (ze_pi E (x)))), some (.int (nI (j)))]) (st' := [.int ((nI (j)) - (nI (gp))), .ref 1, .int (nI (ze_pi E (x))), .ref 1]) (w' := cz_w r q u bb) rfl ?_
          refine ez_top (y := nI (j - gp)) (pk_sub (by omega)) ?_
          refine ez_cl ez_h57 rfl rfl ?_
          refine cr_at hE hr (k := j - gp) (by omega) q u bb ?_
          refine ez_cl ez_h57 rfl rfl ?_
          refine cr_less hE hr hw.2 (x := x) (y := row (j - gp)) hx (hw.1 (j - gp) (by omega)) q u bb (fun r6 hr6 => ?_)
          refine ez_go ez_h57 1 (pc' := bif decide ((zs_z (zs_b (ze_md E) (ze_ka E) x (row (j - gp)) g)) = 0) then 69 else 40) (L' := [some (.ref 6), some (.int (nI (pl))), some (.int (nI (gp))), some (.int (nI (ze_pi E (x)))), some (.int (nI (j)))]) (st' := []) (w' := cz_w r6 q u bb) rfl ?_
          refine ez_ifF (zz_t hb) ?_
          refine ez_go ez_h57 8 (pc' := 54) (L' := [some (.ref 6), some (.int (nI (pl))), some (.int (nI (gp))), some (.int (nI (ze_pi E (x)))), some (.int (nI (j)))]) (st' := [.int ((nI (j)) - (nI (gp))), .ref 1, .int (nI (j)), .ref 1]) (w' := cz_w r6 q u bb) rfl ?_
          refine ez_top (y := nI (j - gp)) (pk_sub (by omega)) ?_
          refine ez_cl ez_h57 rfl rfl ?_
          refine cr_at hE hr6 (k := j - gp) (by omega) q u bb ?_
          refine ez_cl ez_h57 rfl rfl ?_
          refine cr_set hE hr6 (k := j) (x := row (j - gp)) (by omega) q u bb (fun r7 hr7 => ?_)
          refine ez_go ez_h57 3 (pc' := 64) (L' := [some (.ref 6), some (.int (nI (pl))), some (.int (nI (gp))), some (.int (nI (ze_pi E (x)))), some (.int (nI (j)))]) (st' := [.int ((nI (j)) - (nI (gp)))]) (w' := cz_w r7 q u bb) rfl ?_
          refine ez_top (y := nI (j - gp)) (pk_sub (by omega)) ?_
          refine ez_go ez_h57 2 (pc' := 12) (L' := [some (.ref 6), some (.int (nI (pl))), some (.int (nI (gp))), some (.int (nI (ze_pi E (x)))), some (.int (nI (j - gp)))]) (st' := []) (w' := cz_w r7 q u bb) rfl ?_
          exact a5 pl _ q u bb post hr7 kk
        · intro A Q U T post hA kk
          refine ez_go ez_h96 3 (pc' := bif decide ((nI (j)) < (nI (gp))) then 83 else 40) (L' := [some (.ref 0), some (.int (nI (k))), some (.int (nI (gp))), some (.int (nI (pl))), some (.int (nI (x))), some (.int (nI (j)))]) (st' := []) (w' := mz_w A Q U T) rfl ?_
          refine ez_ifF (zt_nlt (a := j) (b := gp) (by omega) (by omega)) ?_
          refine ez_go ez_h96 7 (pc' := 51) (L' := [some (.ref 0), some (.int (nI (k))), some (.int (nI (gp))), some (.int (nI (pl))), some (.int (nI (x))), some (.int (nI (j)))]) (st' := [.int ((nI (j)) - (nI (gp))), .ref 4, .int (nI (x)), .ref 0]) (w' := mz_w A Q U T) rfl ?_
          refine ez_top (y := nI (j - gp)) (pk_sub (by omega)) ?_
          refine mr_ld ez_h96 rfl hE hA (k := j - gp) (by omega) ?_
          refine ez_cl ez_h96 rfl rfl ?_
          refine mr_less hE hA hw.2 (x := x) (y := row (j - gp)) hx (hw.1 (j - gp) (by omega)) Q U T (fun A8 hA8 => ?_)
          refine ez_go ez_h96 1 (pc' := bif decide ((zs_z (zs_b (ze_md E) (ze_ka E) x (row (j - gp)) g)) = 0) then 83 else 58) (L' := [some (.ref 0), some (.int (nI (k))), some (.int (nI (gp))), some (.int (nI (pl))), some (.int (nI (x))), some (.int (nI (j)))]) (st' := []) (w' := mz_w A8 Q U T) rfl ?_
          refine ez_ifF (zz_t hb) ?_
          refine ez_go ez_h96 8 (pc' := 72) (L' := [some (.ref 0), some (.int (nI (k))), some (.int (nI (gp))), some (.int (nI (pl))), some (.int (nI (x))), some (.int (nI (j)))]) (st' := [.int ((nI (j)) - (nI (gp))), .ref 4, .int (nI (j)), .ref 4]) (w' := mz_w A8 Q U T) rfl ?_
          refine ez_top (y := nI (j - gp)) (pk_sub (by omega)) ?_
          refine mr_ld ez_h96 rfl hE hA8 (k := j - gp) (by omega) ?_
          refine mr_st ez_h96 rfl hE hA8 (k := j) (x := row (j - gp)) (by omega) (fun A9 hA9 => ?_)
          refine ez_go ez_h96 3 (pc' := 78) (L' := [some (.ref 0), some (.int (nI (k))), some (.int (nI (gp))), some (.int (nI (pl))), some (.int (nI (x))), some (.int (nI (j)))]) (st' := [.int ((nI (j)) - (nI (gp)))]) (w' := mz_w A9 Q U T) rfl ?_
          refine ez_top (y := nI (j - gp)) (pk_sub (by omega)) ?_
          refine ez_go ez_h96 2 (pc' := 34) (L' := [some (.ref 0), some (.int (nI (k))), some (.int (nI (gp))), some (.int (nI (pl))), some (.int (nI (x))), some (.int (nI (j - gp)))]) (st' := []) (w' := mz_w A9 Q U T) rfl ?_
          exact a6 k pl _ Q U T post hA9 kk
theorem zt_one {E : ze_T} (hE : ze_ok E) {gp pl : Nat} (hg : 1 ≤ gp) (hg2 : gp ≤ 301) (hp : pl < ze_n E) {row : Nat → Nat} {g : zs_G} (hw : zr_ok E row g) :
    ∃ (row' : Nat → Nat) (g' : zs_G), zr_ok E row' g' ∧ zg_le E g g' ∧ zp_in row row' 0 (ze_n E) ∧
      cr_M E 57 [.ref 6, .int (nI pl), .int (nI gp)] row g none row' g' ∧ (∀ k : Nat, mr_G E 96 23 [some (.ref 0), some (.int (nI (k))), some (.int (nI (gp))), some (.int (nI (pl))), none, none] row g 92 [some (.ref 0), some (.int (nI (k))), some (.int (nI (gp))), some (.int (nI (pl))), none, none] row' g') := by
  have hn := hE.1
  have hx : row pl < ze_n E := hw.1 _ hp
  obtain ⟨row', g', j', a1, a2, a3, a4, a5, a6⟩ := zt_down hE hx hg hg2 pl row g hp hw
  rw [va_up_id] at a4
  refine ⟨va_up row' j' (row pl), g', a2.set hx, a3, a4, ?_, fun k => ?_⟩
  · refine cr_H.m (L := [some (.ref 6), some (.int (nI (pl))), some (.int (nI (gp))), none, none]) (fun r q u bb post hr kk => ?_) rfl rfl rfl
    refine ez_go ez_h57 3 (pc' := 5) (L' := [some (.ref 6), some (.int (nI (pl))), some (.int (nI (gp))), none, none]) (st' := [.int (nI (pl)), .ref 1]) (w' := cz_w r q u bb) rfl ?_
    refine ez_cl ez_h57 rfl rfl ?_
    refine cr_at hE hr (k := pl) (by omega) q u bb ?_
    refine ez_go ez_h57 3 (pc' := 12) (L' := [some (.ref 6), some (.int (nI (pl))), some (.int (nI (gp))), some (.int (nI (ze_pi E (row pl)))), some (.int (nI (pl)))]) (st' := []) (w' := cz_w r q u bb) rfl ?_
    refine a5 pl _ q u bb post hr (fun r8 hr8 => ?_)
    refine ez_go ez_h57 4 (pc' := 76) (L' := [some (.ref 6), some (.int (nI (pl))), some (.int (nI (gp))), some (.int (nI (ze_pi E (row pl)))), some (.int (nI (j')))]) (st' := [.int (nI (ze_pi E (row pl))), .int (nI (j')), .ref 1]) (w' := cz_w r8 q u bb) rfl ?_
    refine ez_cl ez_h57 rfl rfl ?_
    refine cr_set hE hr8 (k := j') (x := row pl) (by omega) q u bb (fun r10 hr10 => ?_)
    exact ez_vret rfl ez_h57 rfl rfl (kk _ hr10)
  · intro A Q U T post hA kk
    refine ez_go ez_h96 3 (pc' := 28) (L' := [some (.ref 0), some (.int (nI (k))), some (.int (nI (gp))), some (.int (nI (pl))), none, none]) (st' := [.int (nI (pl)), .ref 4]) (w' := mz_w A Q U T) rfl ?_
    refine mr_ld ez_h96 rfl hE hA (k := pl) (by omega) ?_
    refine ez_go ez_h96 3 (pc' := 34) (L' := [some (.ref 0), some (.int (nI (k))), some (.int (nI (gp))), some (.int (nI (pl))), some (.int (nI (row pl))), some (.int (nI (pl)))]) (st' := []) (w' := mz_w A Q U T) rfl ?_
    refine a6 k pl _ Q U T post hA (fun A8 hA8 => ?_)
    refine ez_go ez_h96 4 (pc' := 91) (L' := [some (.ref 0), some (.int (nI (k))), some (.int (nI (gp))), some (.int (nI (pl))), some (.int (nI (row pl))), some (.int (nI (j')))]) (st' := [.int (nI (row pl)), .int (nI (j')), .ref 4]) (w' := mz_w A8 Q U T) rfl ?_
    refine mr_st ez_h96 rfl hE hA8 (k := j') (x := row pl) (by omega) (fun A11 hA11 => ?_)
    exact ez_E.le (ez_lc (ez_lc (ez_lc (ez_lc (ez_ln (ez_ln ez_l0)))))) (kk _ hA11)
/-- the class's pass with a gap: stepDown for each place from i on -/
def zt_P (E : ze_T) (gp : Nat) : Nat → Nat → (Nat → Nat) → zs_G → (Nat → Nat) → zs_G → Prop
  | 0, i, row, g, row', g' => ze_n E ≤ i ∧ row' = row ∧ g' = g
  | m + 1, i, row, g, row', g' => (ze_n E ≤ i ∧ row' = row ∧ g' = g) ∨ (i < ze_n E ∧ ∃ (row1 : Nat → Nat) (g1 : zs_G), cr_M E 57 [.ref 6, .int (nI i), .int (nI gp)] row g none row1 g1 ∧ zt_P E gp m (i + 1) row1 g1 row' g')
theorem zt_pass {E : ze_T} (hE : ze_ok E) {gp : Nat} (hg : 1 ≤ gp) (hg2 : gp ≤ 301) : ∀ (m i : Nat) (row : Nat → Nat) (g : zs_G), ze_n E ≤ i + m → i ≤ 700 → zr_ok E row g →
    ∃ (row' : Nat → Nat) (g' : zs_G), zr_ok E row' g' ∧ zg_le E g g' ∧ zp_in row row' 0 (ze_n E) ∧ zt_P E gp m i row g row' g' ∧
      (∀ k : Nat, mr_G E 96 15 [some (.ref 0), some (.int (nI (k))), some (.int (nI (gp))), some (.int (nI (i))), none, none] row g 98 [some (.ref 0), some (.int (nI (k))), none, none, none, none] row' g') := by
  have hn := hE.1
  intro m
  induction m with
  | zero =>
    intro i row g h1 h2 hw
    refine ⟨row, g, hw, zg_le.rf g, zp_in.rf _ _ _, ⟨h1, rfl, rfl⟩, fun k => ?_⟩
    intro A Q U T post hA kk
    refine ez_go ez_h96 3 (pc' := 20) (L' := [some (.ref 0), some (.int (nI (k))), some (.int (nI (gp))), some (.int (nI (i))), none, none]) (st' := [.int (A.1), .int (nI (i))]) (w' := mz_w A Q U T) rfl ?_
    refine ez_top (y := nI (ze_n E)) (hA.1) ?_
    refine ez_go ez_h96 1 (pc' := bif decide ((nI (ze_n E)) ≤ (nI (i))) then 98 else 23) (L' := [some (.ref 0), some (.int (nI (k))), some (.int (nI (gp))), some (.int (nI (i))), none, none]) (st' := []) (w' := mz_w A Q U T) rfl ?_
    refine ez_ifT (zt_le (a := ze_n E) (b := i) (by omega) (by omega)) ?_
    exact ez_E.le (ez_lc (ez_lc (ez_ln (ez_ln (ez_lc (ez_lc ez_l0)))))) (kk _ hA)
  | succ m ih =>
    intro i row g h1 h2 hw
    by_cases hi : ze_n E ≤ i
    · refine ⟨row, g, hw, zg_le.rf g, zp_in.rf _ _ _, Or.inl ⟨hi, rfl, rfl⟩, fun k => ?_⟩
      intro A Q U T post hA kk
      refine ez_go ez_h96 3 (pc' := 20) (L' := [some (.ref 0), some (.int (nI (k))), some (.int (nI (gp))), some (.int (nI (i))), none, none]) (st' := [.int (A.1), .int (nI (i))]) (w' := mz_w A Q U T) rfl ?_
      refine ez_top (y := nI (ze_n E)) (hA.1) ?_
      refine ez_go ez_h96 1 (pc' := bif decide ((nI (ze_n E)) ≤ (nI (i))) then 98 else 23) (L' := [some (.ref 0), some (.int (nI (k))), some (.int (nI (gp))), some (.int (nI (i))), none, none]) (st' := []) (w' := mz_w A Q U T) rfl ?_
      refine ez_ifT (zt_le (a := ze_n E) (b := i) (by omega) (by omega)) ?_
      exact ez_E.le (ez_lc (ez_lc (ez_ln (ez_ln (ez_lc (ez_lc ez_l0)))))) (kk _ hA)
    · obtain ⟨row1, g1, a1, a2, a3, a4, a5⟩ := zt_one hE hg hg2 (pl := i) (by omega) hw
      obtain ⟨row', g', b1, b2, b3, b4, b5⟩ := ih (i + 1) row1 g1 (by omega) (by omega) a1
      refine ⟨row', g', b1, a2.tr b2, a3.tr b3, Or.inr ⟨by omega, row1, g1, a4, b4⟩, fun k => ?_⟩
      intro A Q U T post hA kk
      refine ez_go ez_h96 3 (pc' := 20) (L' := [some (.ref 0), some (.int (nI (k))), some (.int (nI (gp))), some (.int (nI (i))), none, none]) (st' := [.int (A.1), .int (nI (i))]) (w' := mz_w A Q U T) rfl ?_
      refine ez_top (y := nI (ze_n E)) (hA.1) ?_
      refine ez_go ez_h96 1 (pc' := bif decide ((nI (ze_n E)) ≤ (nI (i))) then 98 else 23) (L' := [some (.ref 0), some (.int (nI (k))), some (.int (nI (gp))), some (.int (nI (i))), none, none]) (st' := []) (w' := mz_w A Q U T) rfl ?_
      refine ez_ifF (zt_nle (a := ze_n E) (b := i) (by omega) (by omega)) ?_
      refine a5 k _ Q U T post hA (fun A9 hA9 => ?_)
      refine ez_inc ez_h96 rfl rfl (v := nI (i + 1)) (zi_1 _) rfl ?_
      refine ez_go ez_h96 1 (pc' := 15) (L' := [some (.ref 0), some (.int (nI (k))), some (.int (nI (gp))), some (.int (nI (i + 1))), none, none]) (st' := []) (w' := mz_w A9 Q U T) rfl ?_
      exact b5 k _ Q U T post hA9 kk
theorem lf_gap0 (A : mz_A) (Q : mz_Q) (U : mz_U) (T : mz_T) {post : Option Value → ez_W → Prop} (h : post (some (.int (nI 301))) (mz_w A Q U T)) : ez_m 95 [.int (nI 0)] (mz_w A Q U T) post := by
  refine ez_m.of (L := [some (.int (nI 0))]) rfl rfl rfl ?_
  refine ez_go ez_h95 2 (pc' := bif decide (¬ (nI (0)) = 0) then 10 else 4) (L' := [some (.int (nI (0)))]) (st' := []) (w' := mz_w A Q U T) rfl ?_
  refine ez_ifF (by decide) ?_
  refine ez_go ez_h95 2 (pc' := 61) (L' := [some (.int (nI (0)))]) (st' := [.int (nI (301))]) (w' := mz_w A Q U T) rfl ?_
  exact ez_iret rfl ez_h95 rfl rfl h
theorem lf_gap1 (A : mz_A) (Q : mz_Q) (U : mz_U) (T : mz_T) {post : Option Value → ez_W → Prop} (h : post (some (.int (nI 132))) (mz_w A Q U T)) : ez_m 95 [.int (nI 1)] (mz_w A Q U T) post := by
  refine ez_m.of (L := [some (.int (nI 1))]) rfl rfl rfl ?_
  refine ez_go ez_h95 2 (pc' := bif decide (¬ (nI (1)) = 0) then 10 else 4) (L' := [some (.int (nI (1)))]) (st' := []) (w' := mz_w A Q U T) rfl ?_
  refine ez_ifT (by decide) ?_
  refine ez_go ez_h95 3 (pc' := bif decide (¬ (nI (1)) = (nI (1))) then 21 else 15) (L' := [some (.int (nI (1)))]) (st' := []) (w' := mz_w A Q U T) rfl ?_
  refine ez_ifF (by decide) ?_
  refine ez_go ez_h95 2 (pc' := 61) (L' := [some (.int (nI (1)))]) (st' := [.int (nI (132))]) (w' := mz_w A Q U T) rfl ?_
  exact ez_iret rfl ez_h95 rfl rfl h
theorem lf_gap2 (A : mz_A) (Q : mz_Q) (U : mz_U) (T : mz_T) {post : Option Value → ez_W → Prop} (h : post (some (.int (nI 57))) (mz_w A Q U T)) : ez_m 95 [.int (nI 2)] (mz_w A Q U T) post := by
  refine ez_m.of (L := [some (.int (nI 2))]) rfl rfl rfl ?_
  refine ez_go ez_h95 2 (pc' := bif decide (¬ (nI (2)) = 0) then 10 else 4) (L' := [some (.int (nI (2)))]) (st' := []) (w' := mz_w A Q U T) rfl ?_
  refine ez_ifT (by decide) ?_
  refine ez_go ez_h95 3 (pc' := bif decide (¬ (nI (2)) = (nI (1))) then 21 else 15) (L' := [some (.int (nI (2)))]) (st' := []) (w' := mz_w A Q U T) rfl ?_
  refine ez_ifT (by decide) ?_
  refine ez_go ez_h95 3 (pc' := bif decide (¬ (nI (2)) = (nI (2))) then 31 else 26) (L' := [some (.int (nI (2)))]) (st' := []) (w' := mz_w A Q U T) rfl ?_
  refine ez_ifF (by decide) ?_
  refine ez_go ez_h95 2 (pc' := 61) (L' := [some (.int (nI (2)))]) (st' := [.int (nI (57))]) (w' := mz_w A Q U T) rfl ?_
  exact ez_iret rfl ez_h95 rfl rfl h
theorem lf_gap3 (A : mz_A) (Q : mz_Q) (U : mz_U) (T : mz_T) {post : Option Value → ez_W → Prop} (h : post (some (.int (nI 23))) (mz_w A Q U T)) : ez_m 95 [.int (nI 3)] (mz_w A Q U T) post := by
  refine ez_m.of (L := [some (.int (nI 3))]) rfl rfl rfl ?_
  refine ez_go ez_h95 2 (pc' := bif decide (¬ (nI (3)) = 0) then 10 else 4) (L' := [some (.int (nI (3)))]) (st' := []) (w' := mz_w A Q U T) rfl ?_
  refine ez_ifT (by decide) ?_
  refine ez_go ez_h95 3 (pc' := bif decide (¬ (nI (3)) = (nI (1))) then 21 else 15) (L' := [some (.int (nI (3)))]) (st' := []) (w' := mz_w A Q U T) rfl ?_
  refine ez_ifT (by decide) ?_
  refine ez_go ez_h95 3 (pc' := bif decide (¬ (nI (3)) = (nI (2))) then 31 else 26) (L' := [some (.int (nI (3)))]) (st' := []) (w' := mz_w A Q U T) rfl ?_
  refine ez_ifT (by decide) ?_
  refine ez_go ez_h95 3 (pc' := bif decide (¬ (nI (3)) = (nI (3))) then 41 else 36) (L' := [some (.int (nI (3)))]) (st' := []) (w' := mz_w A Q U T) rfl ?_
  refine ez_ifF (by decide) ?_
  refine ez_go ez_h95 2 (pc' := 61) (L' := [some (.int (nI (3)))]) (st' := [.int (nI (23))]) (w' := mz_w A Q U T) rfl ?_
  exact ez_iret rfl ez_h95 rfl rfl h
theorem lf_gap4 (A : mz_A) (Q : mz_Q) (U : mz_U) (T : mz_T) {post : Option Value → ez_W → Prop} (h : post (some (.int (nI 10))) (mz_w A Q U T)) : ez_m 95 [.int (nI 4)] (mz_w A Q U T) post := by
  refine ez_m.of (L := [some (.int (nI 4))]) rfl rfl rfl ?_
  refine ez_go ez_h95 2 (pc' := bif decide (¬ (nI (4)) = 0) then 10 else 4) (L' := [some (.int (nI (4)))]) (st' := []) (w' := mz_w A Q U T) rfl ?_
  refine ez_ifT (by decide) ?_
  refine ez_go ez_h95 3 (pc' := bif decide (¬ (nI (4)) = (nI (1))) then 21 else 15) (L' := [some (.int (nI (4)))]) (st' := []) (w' := mz_w A Q U T) rfl ?_
  refine ez_ifT (by decide) ?_
  refine ez_go ez_h95 3 (pc' := bif decide (¬ (nI (4)) = (nI (2))) then 31 else 26) (L' := [some (.int (nI (4)))]) (st' := []) (w' := mz_w A Q U T) rfl ?_
  refine ez_ifT (by decide) ?_
  refine ez_go ez_h95 3 (pc' := bif decide (¬ (nI (4)) = (nI (3))) then 41 else 36) (L' := [some (.int (nI (4)))]) (st' := []) (w' := mz_w A Q U T) rfl ?_
  refine ez_ifT (by decide) ?_
  refine ez_go ez_h95 3 (pc' := bif decide (¬ (nI (4)) = (nI (4))) then 51 else 46) (L' := [some (.int (nI (4)))]) (st' := []) (w' := mz_w A Q U T) rfl ?_
  refine ez_ifF (by decide) ?_
  refine ez_go ez_h95 2 (pc' := 61) (L' := [some (.int (nI (4)))]) (st' := [.int (nI (10))]) (w' := mz_w A Q U T) rfl ?_
  exact ez_iret rfl ez_h95 rfl rfl h
theorem lf_gap5 (A : mz_A) (Q : mz_Q) (U : mz_U) (T : mz_T) {post : Option Value → ez_W → Prop} (h : post (some (.int (nI 4))) (mz_w A Q U T)) : ez_m 95 [.int (nI 5)] (mz_w A Q U T) post := by
  refine ez_m.of (L := [some (.int (nI 5))]) rfl rfl rfl ?_
  refine ez_go ez_h95 2 (pc' := bif decide (¬ (nI (5)) = 0) then 10 else 4) (L' := [some (.int (nI (5)))]) (st' := []) (w' := mz_w A Q U T) rfl ?_
  refine ez_ifT (by decide) ?_
  refine ez_go ez_h95 3 (pc' := bif decide (¬ (nI (5)) = (nI (1))) then 21 else 15) (L' := [some (.int (nI (5)))]) (st' := []) (w' := mz_w A Q U T) rfl ?_
  refine ez_ifT (by decide) ?_
  refine ez_go ez_h95 3 (pc' := bif decide (¬ (nI (5)) = (nI (2))) then 31 else 26) (L' := [some (.int (nI (5)))]) (st' := []) (w' := mz_w A Q U T) rfl ?_
  refine ez_ifT (by decide) ?_
  refine ez_go ez_h95 3 (pc' := bif decide (¬ (nI (5)) = (nI (3))) then 41 else 36) (L' := [some (.int (nI (5)))]) (st' := []) (w' := mz_w A Q U T) rfl ?_
  refine ez_ifT (by decide) ?_
  refine ez_go ez_h95 3 (pc' := bif decide (¬ (nI (5)) = (nI (4))) then 51 else 46) (L' := [some (.int (nI (5)))]) (st' := []) (w' := mz_w A Q U T) rfl ?_
  refine ez_ifT (by decide) ?_
  refine ez_go ez_h95 3 (pc' := bif decide (¬ (nI (5)) = (nI (5))) then 60 else 56) (L' := [some (.int (nI (5)))]) (st' := []) (w' := mz_w A Q U T) rfl ?_
  refine ez_ifF (by decide) ?_
  refine ez_go ez_h95 2 (pc' := 61) (L' := [some (.int (nI (5)))]) (st' := [.int (nI (4))]) (w' := mz_w A Q U T) rfl ?_
  exact ez_iret rfl ez_h95 rfl rfl h
theorem lf_gap6 (A : mz_A) (Q : mz_Q) (U : mz_U) (T : mz_T) {post : Option Value → ez_W → Prop} (h : post (some (.int (nI 1))) (mz_w A Q U T)) : ez_m 95 [.int (nI 6)] (mz_w A Q U T) post := by
  refine ez_m.of (L := [some (.int (nI 6))]) rfl rfl rfl ?_
  refine ez_go ez_h95 2 (pc' := bif decide (¬ (nI (6)) = 0) then 10 else 4) (L' := [some (.int (nI (6)))]) (st' := []) (w' := mz_w A Q U T) rfl ?_
  refine ez_ifT (by decide) ?_
  refine ez_go ez_h95 3 (pc' := bif decide (¬ (nI (6)) = (nI (1))) then 21 else 15) (L' := [some (.int (nI (6)))]) (st' := []) (w' := mz_w A Q U T) rfl ?_
  refine ez_ifT (by decide) ?_
  refine ez_go ez_h95 3 (pc' := bif decide (¬ (nI (6)) = (nI (2))) then 31 else 26) (L' := [some (.int (nI (6)))]) (st' := []) (w' := mz_w A Q U T) rfl ?_
  refine ez_ifT (by decide) ?_
  refine ez_go ez_h95 3 (pc' := bif decide (¬ (nI (6)) = (nI (3))) then 41 else 36) (L' := [some (.int (nI (6)))]) (st' := []) (w' := mz_w A Q U T) rfl ?_
  refine ez_ifT (by decide) ?_
  refine ez_go ez_h95 3 (pc' := bif decide (¬ (nI (6)) = (nI (4))) then 51 else 46) (L' := [some (.int (nI (6)))]) (st' := []) (w' := mz_w A Q U T) rfl ?_
  refine ez_ifT (by decide) ?_
  refine ez_go ez_h95 3 (pc' := bif decide (¬ (nI (6)) = (nI (5))) then 60 else 56) (L' := [some (.int (nI (6)))]) (st' := []) (w' := mz_w A Q U T) rfl ?_
  refine ez_ifT (by decide) ?_
  refine ez_go ez_h95 1 (pc' := 61) (L' := [some (.int (nI (6)))]) (st' := [.int (nI (1))]) (w' := mz_w A Q U T) rfl ?_
  exact ez_iret rfl ez_h95 rfl rfl h
/-- STEPS: the class's seven passes, the reference's method -/
theorem zt_steps {E : ze_T} (hE : ze_ok E) {row : Nat → Nat} {g : zs_G} (hw : zr_ok E row g) :
    ∃ (row' : Nat → Nat) (g' : zs_G), zr_ok E row' g' ∧ zg_le E g g' ∧ zp_in row row' 0 (ze_n E) ∧
      (∃ (R : Nat → Nat → Nat) (G : Nat → zs_G), R 0 = row ∧ G 0 = g ∧ R 7 = row' ∧ G 7 = g' ∧ ∀ k gp, ([301, 132, 57, 23, 10, 4, 1] : List Nat)[k]? = some gp → zt_P E gp 600 gp (R k) (G k) (R (k + 1)) (G (k + 1))) ∧
      mr_M E 96 [.ref 0] row g none row' g' := by
  have hn := hE.1
  obtain ⟨w0, v0, a0, b0, c0, d0, e0⟩ := zt_pass hE (gp := 301) (by omega) (by omega) 600 301 row g (by omega) (by omega) hw
  obtain ⟨w1, v1, a1, b1, c1, d1, e1⟩ := zt_pass hE (gp := 132) (by omega) (by omega) 600 132 w0 v0 (by omega) (by omega) a0
  obtain ⟨w2, v2, a2, b2, c2, d2, e2⟩ := zt_pass hE (gp := 57) (by omega) (by omega) 600 57 w1 v1 (by omega) (by omega) a1
  obtain ⟨w3, v3, a3, b3, c3, d3, e3⟩ := zt_pass hE (gp := 23) (by omega) (by omega) 600 23 w2 v2 (by omega) (by omega) a2
  obtain ⟨w4, v4, a4, b4, c4, d4, e4⟩ := zt_pass hE (gp := 10) (by omega) (by omega) 600 10 w3 v3 (by omega) (by omega) a3
  obtain ⟨w5, v5, a5, b5, c5, d5, e5⟩ := zt_pass hE (gp := 4) (by omega) (by omega) 600 4 w4 v4 (by omega) (by omega) a4
  obtain ⟨w6, v6, a6, b6, c6, d6, e6⟩ := zt_pass hE (gp := 1) (by omega) (by omega) 600 1 w5 v5 (by omega) (by omega) a5
  refine ⟨w6, v6, a6, (((((b0.tr b1).tr b2).tr b3).tr b4).tr b5).tr b6, (((((c0.tr c1).tr c2).tr c3).tr c4).tr c5).tr c6, ?_, ?_⟩
  · refine ⟨fun k => match k with
      | 0 => row
      | 1 => w0
      | 2 => w1
      | 3 => w2
      | 4 => w3
      | 5 => w4
      | 6 => w5
      | _ => w6, fun k => match k with
      | 0 => g
      | 1 => v0
      | 2 => v1
      | 3 => v2
      | 4 => v3
      | 5 => v4
      | 6 => v5
      | _ => v6, rfl, rfl, rfl, rfl, fun k gp hk => ?_⟩
    match k, hk with
    | 0, hk => cases hk; exact d0
    | 1, hk => cases hk; exact d1
    | 2, hk => cases hk; exact d2
    | 3, hk => cases hk; exact d3
    | 4, hk => cases hk; exact d4
    | 5, hk => cases hk; exact d5
    | 6, hk => cases hk; exact d6
    | k + 7, hk => simp at hk
  · refine mr_H.m (L := [some (.ref 0), none, none, none, none, none]) (fun A Q U T post hA kk => ?_) rfl rfl rfl
    refine ez_go ez_h96 5 (pc' := bif decide ((nI (7)) ≤ (nI (0))) then 104 else 8) (L' := [some (.ref 0), some (.int (nI (0))), none, none, none, none]) (st' := []) (w' := mz_w A Q U T) rfl ?_
    refine ez_ifF (zt_nle (a := 7) (b := 0) (by omega) (by omega)) ?_
    refine ez_go ez_h96 1 (pc' := 9) (L' := [some (.ref 0), some (.int (nI (0))), none, none, none, none]) (st' := [.int (nI (0))]) (w' := mz_w A Q U T) rfl ?_
    refine ez_cs ez_h96 rfl rfl ?_
    refine lf_gap0 A Q U T ?_
    refine ez_go ez_h96 3 (pc' := 15) (L' := [some (.ref 0), some (.int (nI (0))), some (.int (nI (301))), some (.int (nI (301))), none, none]) (st' := []) (w' := mz_w A Q U T) rfl ?_
    refine e0 0 _ Q U T post hA (fun A100 hA100 => ?_)
    refine ez_inc ez_h96 rfl rfl (v := nI 1) (zi_1 _) rfl ?_
    refine ez_go ez_h96 4 (pc' := bif decide ((nI (7)) ≤ (nI (1))) then 104 else 8) (L' := [some (.ref 0), some (.int (nI (1))), none, none, none, none]) (st' := []) (w' := mz_w A100 Q U T) rfl ?_
    refine ez_ifF (zt_nle (a := 7) (b := 1) (by omega) (by omega)) ?_
    refine ez_go ez_h96 1 (pc' := 9) (L' := [some (.ref 0), some (.int (nI (1))), none, none, none, none]) (st' := [.int (nI (1))]) (w' := mz_w A100 Q U T) rfl ?_
    refine ez_cs ez_h96 rfl rfl ?_
    refine lf_gap1 A100 Q U T ?_
    refine ez_go ez_h96 3 (pc' := 15) (L' := [some (.ref 0), some (.int (nI (1))), some (.int (nI (132))), some (.int (nI (132))), none, none]) (st' := []) (w' := mz_w A100 Q U T) rfl ?_
    refine e1 1 _ Q U T post hA100 (fun A101 hA101 => ?_)
    refine ez_inc ez_h96 rfl rfl (v := nI 2) (zi_1 _) rfl ?_
    refine ez_go ez_h96 4 (pc' := bif decide ((nI (7)) ≤ (nI (2))) then 104 else 8) (L' := [some (.ref 0), some (.int (nI (2))), none, none, none, none]) (st' := []) (w' := mz_w A101 Q U T) rfl ?_
    refine ez_ifF (zt_nle (a := 7) (b := 2) (by omega) (by omega)) ?_
    refine ez_go ez_h96 1 (pc' := 9) (L' := [some (.ref 0), some (.int (nI (2))), none, none, none, none]) (st' := [.int (nI (2))]) (w' := mz_w A101 Q U T) rfl ?_
    refine ez_cs ez_h96 rfl rfl ?_
    refine lf_gap2 A101 Q U T ?_
    refine ez_go ez_h96 3 (pc' := 15) (L' := [some (.ref 0), some (.int (nI (2))), some (.int (nI (57))), some (.int (nI (57))), none, none]) (st' := []) (w' := mz_w A101 Q U T) rfl ?_
    refine e2 2 _ Q U T post hA101 (fun A102 hA102 => ?_)
    refine ez_inc ez_h96 rfl rfl (v := nI 3) (zi_1 _) rfl ?_
    refine ez_go ez_h96 4 (pc' := bif decide ((nI (7)) ≤ (nI (3))) then 104 else 8) (L' := [some (.ref 0), some (.int (nI (3))), none, none, none, none]) (st' := []) (w' := mz_w A102 Q U T) rfl ?_
    refine ez_ifF (zt_nle (a := 7) (b := 3) (by omega) (by omega)) ?_
    refine ez_go ez_h96 1 (pc' := 9) (L' := [some (.ref 0), some (.int (nI (3))), none, none, none, none]) (st' := [.int (nI (3))]) (w' := mz_w A102 Q U T) rfl ?_
    refine ez_cs ez_h96 rfl rfl ?_
    refine lf_gap3 A102 Q U T ?_
    refine ez_go ez_h96 3 (pc' := 15) (L' := [some (.ref 0), some (.int (nI (3))), some (.int (nI (23))), some (.int (nI (23))), none, none]) (st' := []) (w' := mz_w A102 Q U T) rfl ?_
    refine e3 3 _ Q U T post hA102 (fun A103 hA103 => ?_)
    refine ez_inc ez_h96 rfl rfl (v := nI 4) (zi_1 _) rfl ?_
    refine ez_go ez_h96 4 (pc' := bif decide ((nI (7)) ≤ (nI (4))) then 104 else 8) (L' := [some (.ref 0), some (.int (nI (4))), none, none, none, none]) (st' := []) (w' := mz_w A103 Q U T) rfl ?_
    refine ez_ifF (zt_nle (a := 7) (b := 4) (by omega) (by omega)) ?_
    refine ez_go ez_h96 1 (pc' := 9) (L' := [some (.ref 0), some (.int (nI (4))), none, none, none, none]) (st' := [.int (nI (4))]) (w' := mz_w A103 Q U T) rfl ?_
    refine ez_cs ez_h96 rfl rfl ?_
    refine lf_gap4 A103 Q U T ?_
    refine ez_go ez_h96 3 (pc' := 15) (L' := [some (.ref 0), some (.int (nI (4))), some (.int (nI (10))), some (.int (nI (10))), none, none]) (st' := []) (w' := mz_w A103 Q U T) rfl ?_
    refine e4 4 _ Q U T post hA103 (fun A104 hA104 => ?_)
    refine ez_inc ez_h96 rfl rfl (v := nI 5) (zi_1 _) rfl ?_
    refine ez_go ez_h96 4 (pc' := bif decide ((nI (7)) ≤ (nI (5))) then 104 else 8) (L' := [some (.ref 0), some (.int (nI (5))), none, none, none, none]) (st' := []) (w' := mz_w A104 Q U T) rfl ?_
    refine ez_ifF (zt_nle (a := 7) (b := 5) (by omega) (by omega)) ?_
    refine ez_go ez_h96 1 (pc' := 9) (L' := [some (.ref 0), some (.int (nI (5))), none, none, none, none]) (st' := [.int (nI (5))]) (w' := mz_w A104 Q U T) rfl ?_
    refine ez_cs ez_h96 rfl rfl ?_
    refine lf_gap5 A104 Q U T ?_
    refine ez_go ez_h96 3 (pc' := 15) (L' := [some (.ref 0), some (.int (nI (5))), some (.int (nI (4))), some (.int (nI (4))), none, none]) (st' := []) (w' := mz_w A104 Q U T) rfl ?_
    refine e5 5 _ Q U T post hA104 (fun A105 hA105 => ?_)
    refine ez_inc ez_h96 rfl rfl (v := nI 6) (zi_1 _) rfl ?_
    refine ez_go ez_h96 4 (pc' := bif decide ((nI (7)) ≤ (nI (6))) then 104 else 8) (L' := [some (.ref 0), some (.int (nI (6))), none, none, none, none]) (st' := []) (w' := mz_w A105 Q U T) rfl ?_
    refine ez_ifF (zt_nle (a := 7) (b := 6) (by omega) (by omega)) ?_
    refine ez_go ez_h96 1 (pc' := 9) (L' := [some (.ref 0), some (.int (nI (6))), none, none, none, none]) (st' := [.int (nI (6))]) (w' := mz_w A105 Q U T) rfl ?_
    refine ez_cs ez_h96 rfl rfl ?_
    refine lf_gap6 A105 Q U T ?_
    refine ez_go ez_h96 3 (pc' := 15) (L' := [some (.ref 0), some (.int (nI (6))), some (.int (nI (1))), some (.int (nI (1))), none, none]) (st' := []) (w' := mz_w A105 Q U T) rfl ?_
    refine e6 6 _ Q U T post hA105 (fun A106 hA106 => ?_)
    refine ez_inc ez_h96 rfl rfl (v := nI 7) (zi_1 _) rfl ?_
    refine ez_go ez_h96 4 (pc' := bif decide ((nI (7)) ≤ (nI (7))) then 104 else 8) (L' := [some (.ref 0), some (.int (nI (7))), none, none, none, none]) (st' := []) (w' := mz_w A106 Q U T) rfl ?_
    refine ez_ifT (zt_le (a := 7) (b := 7) (by omega) (by omega)) ?_
    exact ez_vret rfl ez_h96 rfl rfl (kk _ hA106)
