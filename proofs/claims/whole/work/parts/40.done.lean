/-- after PARTED: done, or two ranges are left -/
theorem zq_done {E : ze_T} (hE : ze_ok E) {b e m bud : Nat} {was : Bool} (hb : b ≤ m) (hm : m + 1 < e) (hs : b + 24 ≤ e) (he : e ≤ ze_n E) (hbud : 1 ≤ bud) (hbud2 : bud ≤ 64) {row : Nat → Nat} {g : zs_G} (hw : zr_ok E row g) (hS : zs_S E row g (m + 1) e) :
    ∃ (row' : Nat → Nat) (g' : zs_G) (res : Bool) (bud' : Nat) (f : Int64), zr_ok E row' g' ∧ zg_le E g g' ∧ zp_in row row' b e ∧ (res = false → zs_S E row' g' (m + 1) e ∧ 1 ≤ bud' ∧ (bud' = bud ∧ (e - b) / 8 ≤ m - b ∧ (e - b) / 8 ≤ e - m - 1 ∨ bud' + 1 = bud)) ∧
      (∀ (r : cz_Row) (wtg fst : Int32) (fls prt : Int64) (wf wt wb : Nat → Int32) (u : cz_Rn) (bb : cz_Bn) (post : Option Value → ez_W → Prop), cr_R E row g r → (∀ (r' : cz_Row) (fl' : Int64), cr_R E row' g' r' → fl' = fls + f → post (some (.int (zs_z res))) (cz_w r' (wtg, nI b, nI e, nI bud', fst, nI m, zs_z was, fl', prt, wf, wt, wb) u bb)) → ez_m 24 [.ref 4, .int (nI ((e - b) / 8))] (cz_w r (wtg, nI b, nI e, nI bud, fst, nI m, zs_z was, fls, prt, wf, wt, wb) u bb) post) ∧
      (∀ (A : mz_A) (mfls mfn mprt : Int64) (mwtg : Int32) (mwf mwt mwb : Nat → Int32) (U : mz_U) (T : mz_T) (post : Option Value → ez_W → Prop), mr_R E row g A → (res = true → ∀ (A' : mz_A) (m1 m2 : Int64), mr_R E row' g' A' → m1 = mfls + f → m2 = mfn + f → post none (mz_w A' (m1, m2, mprt, mwtg, zs_z was, mwf, mwt, mwb) U T)) →
        (res = false → ∀ (A' : mz_A) (m1 m2 : Int64), mr_R E row' g' A' → m1 = mfls + f → m2 = mfn + f → ez_E 87 190 [some (.ref 0), some (.int (nI (b))), some (.int (nI (e))), none, none, some (.int (nI (m))), none, some (.int (nI (bud')))] [] (mz_w A' (m1, m2, mprt, mwtg, zs_z was, mwf, mwt, mwb) U T) post) →
        ez_E 87 77 [some (.ref 0), some (.int (nI (b))), some (.int (nI (e))), some (.int (nI (bud))), some (.int (nI (e - b))), some (.int (nI (m))), none, none] [] (mz_w A (mfls, mfn, mprt, mwtg, zs_z was, mwf, mwt, mwb) U T) post) := by
  have hn := hE.1
  by_cases h1 : m - b < (e - b) / 8
  · skip
    by_cases hb1 : bud = 1
    · obtain ⟨row1, g1, o1, l1, p1, c1, m1⟩ := zh_heap hE (b := b) (e := e) (by omega) (by omega) hw
      refine ⟨row1, g1, true, bud - 1, 1, o1, l1, p1, (fun z => by cases z), ?_, ?_⟩
      · intro r wtg fst fls prt wf wt wb u bb post hr kk
        refine ez_m.of (L := [some (.ref 4), some (.int (nI ((e - b) / 8))), none, none]) rfl rfl rfl ?_
        refine ez_go ez_h24 5 (pc' := 9) (L' := [some (.ref 4), some (.int (nI ((e - b) / 8))), none, none]) (st' := [.int ((nI (m)) - (nI (b)))]) (w' := cz_w r (wtg, nI (b), nI (e), nI (bud), fst, nI (m), zs_z was, fls, prt, wf, wt, wb) u bb) rfl ?_
        refine ez_top (y := nI (m - b)) (pk_sub (by omega)) ?_
        refine ez_go ez_h24 6 (pc' := 19) (L' := [some (.ref 4), some (.int (nI ((e - b) / 8))), some (.int (nI (m - b))), none]) (st' := [.int ((nI (e)) - (nI (m)))]) (w' := cz_w r (wtg, nI (b), nI (e), nI (bud), fst, nI (m), zs_z was, fls, prt, wf, wt, wb) u bb) rfl ?_
        refine ez_top (y := nI (e - m)) (pk_sub (by omega)) ?_
        refine ez_go ez_h24 2 (pc' := 21) (L' := [some (.ref 4), some (.int (nI ((e - b) / 8))), some (.int (nI (m - b))), none]) (st' := [.int ((nI (e - m)) - (nI (1)))]) (w' := cz_w r (wtg, nI (b), nI (e), nI (bud), fst, nI (m), zs_z was, fls, prt, wf, wt, wb) u bb) rfl ?_
        refine ez_top (y := nI ((e - m) - 1)) (pk_sub (by omega)) ?_
        refine ez_go ez_h24 4 (pc' := bif decide ((nI (m - b)) < (nI ((e - b) / 8))) then 83 else 27) (L' := [some (.ref 4), some (.int (nI ((e - b) / 8))), some (.int (nI (m - b))), some (.int (nI ((e - m) - 1)))]) (st' := []) (w' := cz_w r (wtg, nI (b), nI (e), nI (bud), fst, nI (m), zs_z was, fls, prt, wf, wt, wb) u bb) rfl ?_
        refine ez_ifT (zt_lt (a := m - b) (b := (e - b) / 8) (by omega) (by omega)) ?_
        refine ez_go ez_h24 5 (pc' := 90) (L' := [some (.ref 4), some (.int (nI ((e - b) / 8))), some (.int (nI (m - b))), some (.int (nI ((e - m) - 1)))]) (st' := [.int ((nI (bud)) - (nI (1))), .ref 4]) (w' := cz_w r (wtg, nI (b), nI (e), nI (bud), fst, nI (m), zs_z was, fls, prt, wf, wt, wb) u bb) rfl ?_
        refine ez_top (y := nI (bud - 1)) (pk_sub (by omega)) ?_
        refine ez_go ez_h24 4 (pc' := bif decide (¬ (nI (bud - 1)) = (nI 0)) then 127 else 100) (L' := [some (.ref 4), some (.int (nI ((e - b) / 8))), some (.int (nI (m - b))), some (.int (nI ((e - m) - 1)))]) (st' := []) (w' := cz_w r (wtg, nI (b), nI (e), nI (bud - 1), fst, nI (m), zs_z was, fls, prt, wf, wt, wb) u bb) rfl ?_
        refine ez_ifF (fun z => z (zt_eq (by omega))) ?_
        refine ez_go ez_h24 12 (pc' := 122) (L' := [some (.ref 4), some (.int (nI ((e - b) / 8))), some (.int (nI (m - b))), some (.int (nI ((e - m) - 1)))]) (st' := [.int (nI (e)), .int (nI (b)), .ref 3]) (w' := cz_w r (wtg, nI (b), nI (e), nI (bud - 1), fst, nI (m), zs_z was, fls + 1, prt, wf, wt, wb) u bb) rfl ?_
        refine ez_cl ez_h24 rfl rfl ?_
        refine c1 _ (wtg, nI (b), nI (e), nI (bud - 1), fst, nI (m), zs_z was, fls + 1, prt, wf, wt, wb) u bb _ hr (fun r88 hr88 => ?_)
        refine ez_go ez_h24 1 (pc' := 126) (L' := [some (.ref 4), some (.int (nI ((e - b) / 8))), some (.int (nI (m - b))), some (.int (nI ((e - m) - 1)))]) (st' := [.int (nI (1))]) (w' := cz_w r88 (wtg, nI (b), nI (e), nI (bud - 1), fst, nI (m), zs_z was, fls + 1, prt, wf, wt, wb) u bb) rfl ?_
        exact ez_zret rfl ez_h24 rfl rfl (by decide) (kk _ _ hr88 rfl)
      · intro A mfls mfn mprt mwtg mwf mwt mwb U T post hA kT kF
        refine ez_go ez_h87 8 (pc' := 90) (L' := [some (.ref 0), some (.int (nI (b))), some (.int (nI (e))), some (.int (nI (bud))), some (.int (nI (e - b))), some (.int (nI (m))), some (.int (zs_z was)), some (.int (nI (bud)))]) (st' := [.int ((nI (m)) - (nI (b)))]) (w' := mz_w A (mfls, mfn, mprt, mwtg, zs_z was, mwf, mwt, mwb) U T) rfl ?_
        refine ez_top (y := nI (m - b)) (pk_sub (by omega)) ?_
        refine ez_go ez_h87 3 (pc' := 95) (L' := [some (.ref 0), some (.int (nI (b))), some (.int (nI (e))), some (.int (nI (bud))), some (.int (nI (e - b))), some (.int (nI (m))), some (.int (zs_z was)), some (.int (nI (bud)))]) (st' := [.int ((nI (e - b)) / (nI (8))), .int (nI (m - b))]) (w' := mz_w A (mfls, mfn, mprt, mwtg, zs_z was, mwf, mwt, mwb) U T) rfl ?_
        refine ez_top (y := nI ((e - b) / 8)) (pk_div (by omega) (by omega) (by omega)) ?_
        refine ez_go ez_h87 1 (pc' := bif decide ((nI (m - b)) < (nI ((e - b) / 8))) then 112 else 98) (L' := [some (.ref 0), some (.int (nI (b))), some (.int (nI (e))), some (.int (nI (bud))), some (.int (nI (e - b))), some (.int (nI (m))), some (.int (zs_z was)), some (.int (nI (bud)))]) (st' := []) (w' := mz_w A (mfls, mfn, mprt, mwtg, zs_z was, mwf, mwt, mwb) U T) rfl ?_
        refine ez_ifT (zt_lt (a := m - b) (b := (e - b) / 8) (by omega) (by omega)) ?_
        refine ez_inc ez_h87 rfl rfl (v := nI (bud - 1)) (zi_m (by omega)) rfl ?_
        refine ez_go ez_h87 2 (pc' := bif decide (¬ (nI (bud - 1)) = (nI 0)) then 147 else 120) (L' := [some (.ref 0), some (.int (nI (b))), some (.int (nI (e))), some (.int (nI (bud))), some (.int (nI (e - b))), some (.int (nI (m))), some (.int (zs_z was)), some (.int (nI (bud - 1)))]) (st' := []) (w' := mz_w A (mfls, mfn, mprt, mwtg, zs_z was, mwf, mwt, mwb) U T) rfl ?_
        refine ez_ifF (fun z => z (zt_eq (by omega))) ?_
        refine ez_go ez_h87 15 (pc' := 143) (L' := [some (.ref 0), some (.int (nI (b))), some (.int (nI (e))), some (.int (nI (bud))), some (.int (nI (e - b))), some (.int (nI (m))), some (.int (zs_z was)), some (.int (nI (bud - 1)))]) (st' := [.int (nI (e)), .int (nI (b)), .ref 0]) (w' := mz_w A (mfls + 1, mfn + 1, mprt, mwtg, zs_z was, mwf, mwt, mwb) U T) rfl ?_
        refine ez_cl ez_h87 rfl rfl ?_
        refine m1 _ (mfls + 1, mfn + 1, mprt, mwtg, zs_z was, mwf, mwt, mwb) U T _ hA (fun A89 hA89 => ?_)
        exact ez_vret rfl ez_h87 rfl rfl (kT rfl _ _ _ hA89 rfl rfl)
    · have hw1 : zr_ok E (zb_r row b m) g := hw.pin (by omega) (zb_r.in row b m)
      have hw2 : zr_ok E (zb_r (zb_r row b m) (m + 1) e) g := hw1.pin (by omega) (zb_r.in _ (m + 1) e)
      refine ⟨zb_r (zb_r row b m) (m + 1) e, g, false, bud - 1, 0, hw2, zg_le.rf g, ((zb_r.in row b m).wide (by omega) (by omega)).tr ((zb_r.in _ (m + 1) e).wide (by omega) (by omega)), fun _ => ⟨(hS.off (by omega) he hw (zg_le.rf g) (zb_r.in row b m)).go he hw1 (zg_le.rf g) (zb_r.in _ (m + 1) e), by omega, Or.inr (by omega)⟩, ?_, ?_⟩
      · intro r wtg fst fls prt wf wt wb u bb post hr kk
        refine ez_m.of (L := [some (.ref 4), some (.int (nI ((e - b) / 8))), none, none]) rfl rfl rfl ?_
        refine ez_go ez_h24 5 (pc' := 9) (L' := [some (.ref 4), some (.int (nI ((e - b) / 8))), none, none]) (st' := [.int ((nI (m)) - (nI (b)))]) (w' := cz_w r (wtg, nI (b), nI (e), nI (bud), fst, nI (m), zs_z was, fls, prt, wf, wt, wb) u bb) rfl ?_
        refine ez_top (y := nI (m - b)) (pk_sub (by omega)) ?_
        refine ez_go ez_h24 6 (pc' := 19) (L' := [some (.ref 4), some (.int (nI ((e - b) / 8))), some (.int (nI (m - b))), none]) (st' := [.int ((nI (e)) - (nI (m)))]) (w' := cz_w r (wtg, nI (b), nI (e), nI (bud), fst, nI (m), zs_z was, fls, prt, wf, wt, wb) u bb) rfl ?_
        refine ez_top (y := nI (e - m)) (pk_sub (by omega)) ?_
        refine ez_go ez_h24 2 (pc' := 21) (L' := [some (.ref 4), some (.int (nI ((e - b) / 8))), some (.int (nI (m - b))), none]) (st' := [.int ((nI (e - m)) - (nI (1)))]) (w' := cz_w r (wtg, nI (b), nI (e), nI (bud), fst, nI (m), zs_z was, fls, prt, wf, wt, wb) u bb) rfl ?_
        refine ez_top (y := nI ((e - m) - 1)) (pk_sub (by omega)) ?_
        refine ez_go ez_h24 4 (pc' := bif decide ((nI (m - b)) < (nI ((e - b) / 8))) then 83 else 27) (L' := [some (.ref 4), some (.int (nI ((e - b) / 8))), some (.int (nI (m - b))), some (.int (nI ((e - m) - 1)))]) (st' := []) (w' := cz_w r (wtg, nI (b), nI (e), nI (bud), fst, nI (m), zs_z was, fls, prt, wf, wt, wb) u bb) rfl ?_
        refine ez_ifT (zt_lt (a := m - b) (b := (e - b) / 8) (by omega) (by omega)) ?_
        refine ez_go ez_h24 5 (pc' := 90) (L' := [some (.ref 4), some (.int (nI ((e - b) / 8))), some (.int (nI (m - b))), some (.int (nI ((e - m) - 1)))]) (st' := [.int ((nI (bud)) - (nI (1))), .ref 4]) (w' := cz_w r (wtg, nI (b), nI (e), nI (bud), fst, nI (m), zs_z was, fls, prt, wf, wt, wb) u bb) rfl ?_
        refine ez_top (y := nI (bud - 1)) (pk_sub (by omega)) ?_
        refine ez_go ez_h24 4 (pc' := bif decide (¬ (nI (bud - 1)) = (nI 0)) then 127 else 100) (L' := [some (.ref 4), some (.int (nI ((e - b) / 8))), some (.int (nI (m - b))), some (.int (nI ((e - m) - 1)))]) (st' := []) (w' := cz_w r (wtg, nI (b), nI (e), nI (bud - 1), fst, nI (m), zs_z was, fls, prt, wf, wt, wb) u bb) rfl ?_
        refine ez_ifT (zt_ne (by omega) (by omega) (by omega)) ?_
        refine ez_go ez_h24 5 (pc' := 136) (L' := [some (.ref 4), some (.int (nI ((e - b) / 8))), some (.int (nI (m - b))), some (.int (nI ((e - m) - 1)))]) (st' := [.int (nI (m)), .int (nI (b)), .ref 4]) (w' := cz_w r (wtg, nI (b), nI (e), nI (bud - 1), fst, nI (m), zs_z was, fls, prt, wf, wt, wb) u bb) rfl ?_
        refine ez_cl ez_h24 rfl rfl ?_
        refine (zb_class hE (b := b) (e := m) (by omega) (by omega) hw) _ (wtg, nI (b), nI (e), nI (bud - 1), fst, nI (m), zs_z was, fls, prt, wf, wt, wb) u bb _ hr (fun r90 hr90 => ?_)
        refine ez_go ez_h24 5 (pc' := 146) (L' := [some (.ref 4), some (.int (nI ((e - b) / 8))), some (.int (nI (m - b))), some (.int (nI ((e - m) - 1)))]) (st' := [.int ((nI (m)) + (nI (1))), .ref 4]) (w' := cz_w r90 (wtg, nI (b), nI (e), nI (bud - 1), fst, nI (m), zs_z was, fls, prt, wf, wt, wb) u bb) rfl ?_
        refine ez_top (y := nI (m + 1)) (nI_add _ _) ?_
        refine ez_go ez_h24 2 (pc' := 150) (L' := [some (.ref 4), some (.int (nI ((e - b) / 8))), some (.int (nI (m - b))), some (.int (nI ((e - m) - 1)))]) (st' := [.int (nI (e)), .int (nI (m + 1)), .ref 4]) (w' := cz_w r90 (wtg, nI (b), nI (e), nI (bud - 1), fst, nI (m), zs_z was, fls, prt, wf, wt, wb) u bb) rfl ?_
        refine ez_cl ez_h24 rfl rfl ?_
        refine (zb_class hE (b := m + 1) (e := e) (by omega) (by omega) hw1) _ (wtg, nI (b), nI (e), nI (bud - 1), fst, nI (m), zs_z was, fls, prt, wf, wt, wb) u bb _ hr90 (fun r91 hr91 => ?_)
        refine ez_go ez_h24 1 (pc' := 154) (L' := [some (.ref 4), some (.int (nI ((e - b) / 8))), some (.int (nI (m - b))), some (.int (nI ((e - m) - 1)))]) (st' := [.int (nI (0))]) (w' := cz_w r91 (wtg, nI (b), nI (e), nI (bud - 1), fst, nI (m), zs_z was, fls, prt, wf, wt, wb) u bb) rfl ?_
        exact ez_zret rfl ez_h24 rfl rfl (by decide) (kk _ _ hr91 (Int64.add_zero _).symm)
      · intro A mfls mfn mprt mwtg mwf mwt mwb U T post hA kT kF
        refine ez_go ez_h87 8 (pc' := 90) (L' := [some (.ref 0), some (.int (nI (b))), some (.int (nI (e))), some (.int (nI (bud))), some (.int (nI (e - b))), some (.int (nI (m))), some (.int (zs_z was)), some (.int (nI (bud)))]) (st' := [.int ((nI (m)) - (nI (b)))]) (w' := mz_w A (mfls, mfn, mprt, mwtg, zs_z was, mwf, mwt, mwb) U T) rfl ?_
        refine ez_top (y := nI (m - b)) (pk_sub (by omega)) ?_
        refine ez_go ez_h87 3 (pc' := 95) (L' := [some (.ref 0), some (.int (nI (b))), some (.int (nI (e))), some (.int (nI (bud))), some (.int (nI (e - b))), some (.int (nI (m))), some (.int (zs_z was)), some (.int (nI (bud)))]) (st' := [.int ((nI (e - b)) / (nI (8))), .int (nI (m - b))]) (w' := mz_w A (mfls, mfn, mprt, mwtg, zs_z was, mwf, mwt, mwb) U T) rfl ?_
        refine ez_top (y := nI ((e - b) / 8)) (pk_div (by omega) (by omega) (by omega)) ?_
        refine ez_go ez_h87 1 (pc' := bif decide ((nI (m - b)) < (nI ((e - b) / 8))) then 112 else 98) (L' := [some (.ref 0), some (.int (nI (b))), some (.int (nI (e))), some (.int (nI (bud))), some (.int (nI (e - b))), some (.int (nI (m))), some (.int (zs_z was)), some (.int (nI (bud)))]) (st' := []) (w' := mz_w A (mfls, mfn, mprt, mwtg, zs_z was, mwf, mwt, mwb) U T) rfl ?_
        refine ez_ifT (zt_lt (a := m - b) (b := (e - b) / 8) (by omega) (by omega)) ?_
        refine ez_inc ez_h87 rfl rfl (v := nI (bud - 1)) (zi_m (by omega)) rfl ?_
        refine ez_go ez_h87 2 (pc' := bif decide (¬ (nI (bud - 1)) = (nI 0)) then 147 else 120) (L' := [some (.ref 0), some (.int (nI (b))), some (.int (nI (e))), some (.int (nI (bud))), some (.int (nI (e - b))), some (.int (nI (m))), some (.int (zs_z was)), some (.int (nI (bud - 1)))]) (st' := []) (w' := mz_w A (mfls, mfn, mprt, mwtg, zs_z was, mwf, mwt, mwb) U T) rfl ?_
        refine ez_ifT (zt_ne (by omega) (by omega) (by omega)) ?_
        refine ez_go ez_h87 4 (pc' := 152) (L' := [some (.ref 0), some (.int (nI (b))), some (.int (nI (e))), some (.int (nI (bud))), some (.int (nI (e - b))), some (.int (nI (m))), some (.int (zs_z was)), some (.int (nI (bud - 1)))]) (st' := [.int (nI (e)), .int (nI (m)), .int (nI (b)), .ref 0]) (w' := mz_w A (mfls, mfn, mprt, mwtg, zs_z was, mwf, mwt, mwb) U T) rfl ?_
        refine ez_cl ez_h87 rfl rfl ?_
        refine (zb_ref hE (b := b) (m := m) (e := e) (by omega) (by omega) (by omega) hw) _ (mfls, mfn, mprt, mwtg, zs_z was, mwf, mwt, mwb) U T _ hA (fun A92 hA92 => ?_)
        refine ez_go ez_h87 1 (pc' := 190) (L' := [some (.ref 0), some (.int (nI (b))), some (.int (nI (e))), some (.int (nI (bud))), some (.int (nI (e - b))), some (.int (nI (m))), some (.int (zs_z was)), some (.int (nI (bud - 1)))]) (st' := []) (w' := mz_w A92 (mfls, mfn, mprt, mwtg, zs_z was, mwf, mwt, mwb) U T) rfl ?_
        exact ez_E.le (ez_lc (ez_lc (ez_lc (ez_ln (ez_ln (ez_lc (ez_ln (ez_lc ez_l0)))))))) (kF rfl _ _ _ hA92 (Int64.add_zero _).symm (Int64.add_zero _).symm)
  by_cases h2 : e - m - 1 < (e - b) / 8
  · skip
    by_cases hb1 : bud = 1
    · obtain ⟨row1, g1, o1, l1, p1, c1, m1⟩ := zh_heap hE (b := b) (e := e) (by omega) (by omega) hw
      refine ⟨row1, g1, true, bud - 1, 1, o1, l1, p1, (fun z => by cases z), ?_, ?_⟩
      · intro r wtg fst fls prt wf wt wb u bb post hr kk
        refine ez_m.of (L := [some (.ref 4), some (.int (nI ((e - b) / 8))), none, none]) rfl rfl rfl ?_
        refine ez_go ez_h24 5 (pc' := 9) (L' := [some (.ref 4), some (.int (nI ((e - b) / 8))), none, none]) (st' := [.int ((nI (m)) - (nI (b)))]) (w' := cz_w r (wtg, nI (b), nI (e), nI (bud), fst, nI (m), zs_z was, fls, prt, wf, wt, wb) u bb) rfl ?_
        refine ez_top (y := nI (m - b)) (pk_sub (by omega)) ?_
        refine ez_go ez_h24 6 (pc' := 19) (L' := [some (.ref 4), some (.int (nI ((e - b) / 8))), some (.int (nI (m - b))), none]) (st' := [.int ((nI (e)) - (nI (m)))]) (w' := cz_w r (wtg, nI (b), nI (e), nI (bud), fst, nI (m), zs_z was, fls, prt, wf, wt, wb) u bb) rfl ?_
        refine ez_top (y := nI (e - m)) (pk_sub (by omega)) ?_
        refine ez_go ez_h24 2 (pc' := 21) (L' := [some (.ref 4), some (.int (nI ((e - b) / 8))), some (.int (nI (m - b))), none]) (st' := [.int ((nI (e - m)) - (nI (1)))]) (w' := cz_w r (wtg, nI (b), nI (e), nI (bud), fst, nI (m), zs_z was, fls, prt, wf, wt, wb) u bb) rfl ?_
        refine ez_top (y := nI ((e - m) - 1)) (pk_sub (by omega)) ?_
        refine ez_go ez_h24 4 (pc' := bif decide ((nI (m - b)) < (nI ((e - b) / 8))) then 83 else 27) (L' := [some (.ref 4), some (.int (nI ((e - b) / 8))), some (.int (nI (m - b))), some (.int (nI ((e - m) - 1)))]) (st' := []) (w' := cz_w r (wtg, nI (b), nI (e), nI (bud), fst, nI (m), zs_z was, fls, prt, wf, wt, wb) u bb) rfl ?_
        refine ez_ifF (zt_nlt (a := m - b) (b := (e - b) / 8) (by omega) (by omega)) ?_
        refine ez_go ez_h24 3 (pc' := bif decide ((nI ((e - m) - 1)) < (nI ((e - b) / 8))) then 83 else 32) (L' := [some (.ref 4), some (.int (nI ((e - b) / 8))), some (.int (nI (m - b))), some (.int (nI ((e - m) - 1)))]) (st' := []) (w' := cz_w r (wtg, nI (b), nI (e), nI (bud), fst, nI (m), zs_z was, fls, prt, wf, wt, wb) u bb) rfl ?_
        refine ez_ifT (zt_lt (a := (e - m) - 1) (b := (e - b) / 8) (by omega) (by omega)) ?_
        refine ez_go ez_h24 5 (pc' := 90) (L' := [some (.ref 4), some (.int (nI ((e - b) / 8))), some (.int (nI (m - b))), some (.int (nI ((e - m) - 1)))]) (st' := [.int ((nI (bud)) - (nI (1))), .ref 4]) (w' := cz_w r (wtg, nI (b), nI (e), nI (bud), fst, nI (m), zs_z was, fls, prt, wf, wt, wb) u bb) rfl ?_
        refine ez_top (y := nI (bud - 1)) (pk_sub (by omega)) ?_
        refine ez_go ez_h24 4 (pc' := bif decide (¬ (nI (bud - 1)) = (nI 0)) then 127 else 100) (L' := [some (.ref 4), some (.int (nI ((e - b) / 8))), some (.int (nI (m - b))), some (.int (nI ((e - m) - 1)))]) (st' := []) (w' := cz_w r (wtg, nI (b), nI (e), nI (bud - 1), fst, nI (m), zs_z was, fls, prt, wf, wt, wb) u bb) rfl ?_
        refine ez_ifF (fun z => z (zt_eq (by omega))) ?_
        refine ez_go ez_h24 12 (pc' := 122) (L' := [some (.ref 4), some (.int (nI ((e - b) / 8))), some (.int (nI (m - b))), some (.int (nI ((e - m) - 1)))]) (st' := [.int (nI (e)), .int (nI (b)), .ref 3]) (w' := cz_w r (wtg, nI (b), nI (e), nI (bud - 1), fst, nI (m), zs_z was, fls + 1, prt, wf, wt, wb) u bb) rfl ?_
        refine ez_cl ez_h24 rfl rfl ?_
        refine c1 _ (wtg, nI (b), nI (e), nI (bud - 1), fst, nI (m), zs_z was, fls + 1, prt, wf, wt, wb) u bb _ hr (fun r93 hr93 => ?_)
        refine ez_go ez_h24 1 (pc' := 126) (L' := [some (.ref 4), some (.int (nI ((e - b) / 8))), some (.int (nI (m - b))), some (.int (nI ((e - m) - 1)))]) (st' := [.int (nI (1))]) (w' := cz_w r93 (wtg, nI (b), nI (e), nI (bud - 1), fst, nI (m), zs_z was, fls + 1, prt, wf, wt, wb) u bb) rfl ?_
        exact ez_zret rfl ez_h24 rfl rfl (by decide) (kk _ _ hr93 rfl)
      · intro A mfls mfn mprt mwtg mwf mwt mwb U T post hA kT kF
        refine ez_go ez_h87 8 (pc' := 90) (L' := [some (.ref 0), some (.int (nI (b))), some (.int (nI (e))), some (.int (nI (bud))), some (.int (nI (e - b))), some (.int (nI (m))), some (.int (zs_z was)), some (.int (nI (bud)))]) (st' := [.int ((nI (m)) - (nI (b)))]) (w' := mz_w A (mfls, mfn, mprt, mwtg, zs_z was, mwf, mwt, mwb) U T) rfl ?_
        refine ez_top (y := nI (m - b)) (pk_sub (by omega)) ?_
        refine ez_go ez_h87 3 (pc' := 95) (L' := [some (.ref 0), some (.int (nI (b))), some (.int (nI (e))), some (.int (nI (bud))), some (.int (nI (e - b))), some (.int (nI (m))), some (.int (zs_z was)), some (.int (nI (bud)))]) (st' := [.int ((nI (e - b)) / (nI (8))), .int (nI (m - b))]) (w' := mz_w A (mfls, mfn, mprt, mwtg, zs_z was, mwf, mwt, mwb) U T) rfl ?_
        refine ez_top (y := nI ((e - b) / 8)) (pk_div (by omega) (by omega) (by omega)) ?_
        refine ez_go ez_h87 1 (pc' := bif decide ((nI (m - b)) < (nI ((e - b) / 8))) then 112 else 98) (L' := [some (.ref 0), some (.int (nI (b))), some (.int (nI (e))), some (.int (nI (bud))), some (.int (nI (e - b))), some (.int (nI (m))), some (.int (zs_z was)), some (.int (nI (bud)))]) (st' := []) (w' := mz_w A (mfls, mfn, mprt, mwtg, zs_z was, mwf, mwt, mwb) U T) rfl ?_
        refine ez_ifF (zt_nlt (a := m - b) (b := (e - b) / 8) (by omega) (by omega)) ?_
        refine ez_go ez_h87 3 (pc' := 102) (L' := [some (.ref 0), some (.int (nI (b))), some (.int (nI (e))), some (.int (nI (bud))), some (.int (nI (e - b))), some (.int (nI (m))), some (.int (zs_z was)), some (.int (nI (bud)))]) (st' := [.int ((nI (e)) - (nI (m)))]) (w' := mz_w A (mfls, mfn, mprt, mwtg, zs_z was, mwf, mwt, mwb) U T) rfl ?_
        refine ez_top (y := nI (e - m)) (pk_sub (by omega)) ?_
        refine ez_go ez_h87 2 (pc' := 104) (L' := [some (.ref 0), some (.int (nI (b))), some (.int (nI (e))), some (.int (nI (bud))), some (.int (nI (e - b))), some (.int (nI (m))), some (.int (zs_z was)), some (.int (nI (bud)))]) (st' := [.int ((nI (e - m)) - (nI (1)))]) (w' := mz_w A (mfls, mfn, mprt, mwtg, zs_z was, mwf, mwt, mwb) U T) rfl ?_
        refine ez_top (y := nI ((e - m) - 1)) (pk_sub (by omega)) ?_
        refine ez_go ez_h87 3 (pc' := 109) (L' := [some (.ref 0), some (.int (nI (b))), some (.int (nI (e))), some (.int (nI (bud))), some (.int (nI (e - b))), some (.int (nI (m))), some (.int (zs_z was)), some (.int (nI (bud)))]) (st' := [.int ((nI (e - b)) / (nI (8))), .int (nI ((e - m) - 1))]) (w' := mz_w A (mfls, mfn, mprt, mwtg, zs_z was, mwf, mwt, mwb) U T) rfl ?_
        refine ez_top (y := nI ((e - b) / 8)) (pk_div (by omega) (by omega) (by omega)) ?_
        refine ez_go ez_h87 1 (pc' := bif decide ((nI ((e - b) / 8)) ≤ (nI ((e - m) - 1))) then 158 else 112) (L' := [some (.ref 0), some (.int (nI (b))), some (.int (nI (e))), some (.int (nI (bud))), some (.int (nI (e - b))), some (.int (nI (m))), some (.int (zs_z was)), some (.int (nI (bud)))]) (st' := []) (w' := mz_w A (mfls, mfn, mprt, mwtg, zs_z was, mwf, mwt, mwb) U T) rfl ?_
        refine ez_ifF (zt_nle (a := (e - b) / 8) (b := (e - m) - 1) (by omega) (by omega)) ?_
        refine ez_inc ez_h87 rfl rfl (v := nI (bud - 1)) (zi_m (by omega)) rfl ?_
        refine ez_go ez_h87 2 (pc' := bif decide (¬ (nI (bud - 1)) = (nI 0)) then 147 else 120) (L' := [some (.ref 0), some (.int (nI (b))), some (.int (nI (e))), some (.int (nI (bud))), some (.int (nI (e - b))), some (.int (nI (m))), some (.int (zs_z was)), some (.int (nI (bud - 1)))]) (st' := []) (w' := mz_w A (mfls, mfn, mprt, mwtg, zs_z was, mwf, mwt, mwb) U T) rfl ?_
        refine ez_ifF (fun z => z (zt_eq (by omega))) ?_
        refine ez_go ez_h87 15 (pc' := 143) (L' := [some (.ref 0), some (.int (nI (b))), some (.int (nI (e))), some (.int (nI (bud))), some (.int (nI (e - b))), some (.int (nI (m))), some (.int (zs_z was)), some (.int (nI (bud - 1)))]) (st' := [.int (nI (e)), .int (nI (b)), .ref 0]) (w' := mz_w A (mfls + 1, mfn + 1, mprt, mwtg, zs_z was, mwf, mwt, mwb) U T) rfl ?_
        refine ez_cl ez_h87 rfl rfl ?_
        refine m1 _ (mfls + 1, mfn + 1, mprt, mwtg, zs_z was, mwf, mwt, mwb) U T _ hA (fun A94 hA94 => ?_)
        exact ez_vret rfl ez_h87 rfl rfl (kT rfl _ _ _ hA94 rfl rfl)
    · have hw1 : zr_ok E (zb_r row b m) g := hw.pin (by omega) (zb_r.in row b m)
      have hw2 : zr_ok E (zb_r (zb_r row b m) (m + 1) e) g := hw1.pin (by omega) (zb_r.in _ (m + 1) e)
      refine ⟨zb_r (zb_r row b m) (m + 1) e, g, false, bud - 1, 0, hw2, zg_le.rf g, ((zb_r.in row b m).wide (by omega) (by omega)).tr ((zb_r.in _ (m + 1) e).wide (by omega) (by omega)), fun _ => ⟨(hS.off (by omega) he hw (zg_le.rf g) (zb_r.in row b m)).go he hw1 (zg_le.rf g) (zb_r.in _ (m + 1) e), by omega, Or.inr (by omega)⟩, ?_, ?_⟩
      · intro r wtg fst fls prt wf wt wb u bb post hr kk
        refine ez_m.of (L := [some (.ref 4), some (.int (nI ((e - b) / 8))), none, none]) rfl rfl rfl ?_
        refine ez_go ez_h24 5 (pc' := 9) (L' := [some (.ref 4), some (.int (nI ((e - b) / 8))), none, none]) (st' := [.int ((nI (m)) - (nI (b)))]) (w' := cz_w r (wtg, nI (b), nI (e), nI (bud), fst, nI (m), zs_z was, fls, prt, wf, wt, wb) u bb) rfl ?_
        refine ez_top (y := nI (m - b)) (pk_sub (by omega)) ?_
        refine ez_go ez_h24 6 (pc' := 19) (L' := [some (.ref 4), some (.int (nI ((e - b) / 8))), some (.int (nI (m - b))), none]) (st' := [.int ((nI (e)) - (nI (m)))]) (w' := cz_w r (wtg, nI (b), nI (e), nI (bud), fst, nI (m), zs_z was, fls, prt, wf, wt, wb) u bb) rfl ?_
        refine ez_top (y := nI (e - m)) (pk_sub (by omega)) ?_
        refine ez_go ez_h24 2 (pc' := 21) (L' := [some (.ref 4), some (.int (nI ((e - b) / 8))), some (.int (nI (m - b))), none]) (st' := [.int ((nI (e - m)) - (nI (1)))]) (w' := cz_w r (wtg, nI (b), nI (e), nI (bud), fst, nI (m), zs_z was, fls, prt, wf, wt, wb) u bb) rfl ?_
        refine ez_top (y := nI ((e - m) - 1)) (pk_sub (by omega)) ?_
        refine ez_go ez_h24 4 (pc' := bif decide ((nI (m - b)) < (nI ((e - b) / 8))) then 83 else 27) (L' := [some (.ref 4), some (.int (nI ((e - b) / 8))), some (.int (nI (m - b))), some (.int (nI ((e - m) - 1)))]) (st' := []) (w' := cz_w r (wtg, nI (b), nI (e), nI (bud), fst, nI (m), zs_z was, fls, prt, wf, wt, wb) u bb) rfl ?_
        refine ez_ifF (zt_nlt (a := m - b) (b := (e - b) / 8) (by omega) (by omega)) ?_
        refine ez_go ez_h24 3 (pc' := bif decide ((nI ((e - m) - 1)) < (nI ((e - b) / 8))) then 83 else 32) (L' := [some (.ref 4), some (.int (nI ((e - b) / 8))), some (.int (nI (m - b))), some (.int (nI ((e - m) - 1)))]) (st' := []) (w' := cz_w r (wtg, nI (b), nI (e), nI (bud), fst, nI (m), zs_z was, fls, prt, wf, wt, wb) u bb) rfl ?_
        refine ez_ifT (zt_lt (a := (e - m) - 1) (b := (e - b) / 8) (by omega) (by omega)) ?_
        refine ez_go ez_h24 5 (pc' := 90) (L' := [some (.ref 4), some (.int (nI ((e - b) / 8))), some (.int (nI (m - b))), some (.int (nI ((e - m) - 1)))]) (st' := [.int ((nI (bud)) - (nI (1))), .ref 4]) (w' := cz_w r (wtg, nI (b), nI (e), nI (bud), fst, nI (m), zs_z was, fls, prt, wf, wt, wb) u bb) rfl ?_
        refine ez_top (y := nI (bud - 1)) (pk_sub (by omega)) ?_
        refine ez_go ez_h24 4 (pc' := bif decide (¬ (nI (bud - 1)) = (nI 0)) then 127 else 100) (L' := [some (.ref 4), some (.int (nI ((e - b) / 8))), some (.int (nI (m - b))), some (.int (nI ((e - m) - 1)))]) (st' := []) (w' := cz_w r (wtg, nI (b), nI (e), nI (bud - 1), fst, nI (m), zs_z was, fls, prt, wf, wt, wb) u bb) rfl ?_
        refine ez_ifT (zt_ne (by omega) (by omega) (by omega)) ?_
        refine ez_go ez_h24 5 (pc' := 136) (L' := [some (.ref 4), some (.int (nI ((e - b) / 8))), some (.int (nI (m - b))), some (.int (nI ((e - m) - 1)))]) (st' := [.int (nI (m)), .int (nI (b)), .ref 4]) (w' := cz_w r (wtg, nI (b), nI (e), nI (bud - 1), fst, nI (m), zs_z was, fls, prt, wf, wt, wb) u bb) rfl ?_
        refine ez_cl ez_h24 rfl rfl ?_
        refine (zb_class hE (b := b) (e := m) (by omega) (by omega) hw) _ (wtg, nI (b), nI (e), nI (bud - 1), fst, nI (m), zs_z was, fls, prt, wf, wt, wb) u bb _ hr (fun r95 hr95 => ?_)
        refine ez_go ez_h24 5 (pc' := 146) (L' := [some (.ref 4), some (.int (nI ((e - b) / 8))), some (.int (nI (m - b))), some (.int (nI ((e - m) - 1)))]) (st' := [.int ((nI (m)) + (nI (1))), .ref 4]) (w' := cz_w r95 (wtg, nI (b), nI (e), nI (bud - 1), fst, nI (m), zs_z was, fls, prt, wf, wt, wb) u bb) rfl ?_
        refine ez_top (y := nI (m + 1)) (nI_add _ _) ?_
        refine ez_go ez_h24 2 (pc' := 150) (L' := [some (.ref 4), some (.int (nI ((e - b) / 8))), some (.int (nI (m - b))), some (.int (nI ((e - m) - 1)))]) (st' := [.int (nI (e)), .int (nI (m + 1)), .ref 4]) (w' := cz_w r95 (wtg, nI (b), nI (e), nI (bud - 1), fst, nI (m), zs_z was, fls, prt, wf, wt, wb) u bb) rfl ?_
        refine ez_cl ez_h24 rfl rfl ?_
        refine (zb_class hE (b := m + 1) (e := e) (by omega) (by omega) hw1) _ (wtg, nI (b), nI (e), nI (bud - 1), fst, nI (m), zs_z was, fls, prt, wf, wt, wb) u bb _ hr95 (fun r96 hr96 => ?_)
        refine ez_go ez_h24 1 (pc' := 154) (L' := [some (.ref 4), some (.int (nI ((e - b) / 8))), some (.int (nI (m - b))), some (.int (nI ((e - m) - 1)))]) (st' := [.int (nI (0))]) (w' := cz_w r96 (wtg, nI (b), nI (e), nI (bud - 1), fst, nI (m), zs_z was, fls, prt, wf, wt, wb) u bb) rfl ?_
        exact ez_zret rfl ez_h24 rfl rfl (by decide) (kk _ _ hr96 (Int64.add_zero _).symm)
      · intro A mfls mfn mprt mwtg mwf mwt mwb U T post hA kT kF
        refine ez_go ez_h87 8 (pc' := 90) (L' := [some (.ref 0), some (.int (nI (b))), some (.int (nI (e))), some (.int (nI (bud))), some (.int (nI (e - b))), some (.int (nI (m))), some (.int (zs_z was)), some (.int (nI (bud)))]) (st' := [.int ((nI (m)) - (nI (b)))]) (w' := mz_w A (mfls, mfn, mprt, mwtg, zs_z was, mwf, mwt, mwb) U T) rfl ?_
        refine ez_top (y := nI (m - b)) (pk_sub (by omega)) ?_
        refine ez_go ez_h87 3 (pc' := 95) (L' := [some (.ref 0), some (.int (nI (b))), some (.int (nI (e))), some (.int (nI (bud))), some (.int (nI (e - b))), some (.int (nI (m))), some (.int (zs_z was)), some (.int (nI (bud)))]) (st' := [.int ((nI (e - b)) / (nI (8))), .int (nI (m - b))]) (w' := mz_w A (mfls, mfn, mprt, mwtg, zs_z was, mwf, mwt, mwb) U T) rfl ?_
        refine ez_top (y := nI ((e - b) / 8)) (pk_div (by omega) (by omega) (by omega)) ?_
        refine ez_go ez_h87 1 (pc' := bif decide ((nI (m - b)) < (nI ((e - b) / 8))) then 112 else 98) (L' := [some (.ref 0), some (.int (nI (b))), some (.int (nI (e))), some (.int (nI (bud))), some (.int (nI (e - b))), some (.int (nI (m))), some (.int (zs_z was)), some (.int (nI (bud)))]) (st' := []) (w' := mz_w A (mfls, mfn, mprt, mwtg, zs_z was, mwf, mwt, mwb) U T) rfl ?_
        refine ez_ifF (zt_nlt (a := m - b) (b := (e - b) / 8) (by omega) (by omega)) ?_
        refine ez_go ez_h87 3 (pc' := 102) (L' := [some (.ref 0), some (.int (nI (b))), some (.int (nI (e))), some (.int (nI (bud))), some (.int (nI (e - b))), some (.int (nI (m))), some (.int (zs_z was)), some (.int (nI (bud)))]) (st' := [.int ((nI (e)) - (nI (m)))]) (w' := mz_w A (mfls, mfn, mprt, mwtg, zs_z was, mwf, mwt, mwb) U T) rfl ?_
        refine ez_top (y := nI (e - m)) (pk_sub (by omega)) ?_
        refine ez_go ez_h87 2 (pc' := 104) (L' := [some (.ref 0), some (.int (nI (b))), some (.int (nI (e))), some (.int (nI (bud))), some (.int (nI (e - b))), some (.int (nI (m))), some (.int (zs_z was)), some (.int (nI (bud)))]) (st' := [.int ((nI (e - m)) - (nI (1)))]) (w' := mz_w A (mfls, mfn, mprt, mwtg, zs_z was, mwf, mwt, mwb) U T) rfl ?_
        refine ez_top (y := nI ((e - m) - 1)) (pk_sub (by omega)) ?_
        refine ez_go ez_h87 3 (pc' := 109) (L' := [some (.ref 0), some (.int (nI (b))), some (.int (nI (e))), some (.int (nI (bud))), some (.int (nI (e - b))), some (.int (nI (m))), some (.int (zs_z was)), some (.int (nI (bud)))]) (st' := [.int ((nI (e - b)) / (nI (8))), .int (nI ((e - m) - 1))]) (w' := mz_w A (mfls, mfn, mprt, mwtg, zs_z was, mwf, mwt, mwb) U T) rfl ?_
        refine ez_top (y := nI ((e - b) / 8)) (pk_div (by omega) (by omega) (by omega)) ?_
        refine ez_go ez_h87 1 (pc' := bif decide ((nI ((e - b) / 8)) ≤ (nI ((e - m) - 1))) then 158 else 112) (L' := [some (.ref 0), some (.int (nI (b))), some (.int (nI (e))), some (.int (nI (bud))), some (.int (nI (e - b))), some (.int (nI (m))), some (.int (zs_z was)), some (.int (nI (bud)))]) (st' := []) (w' := mz_w A (mfls, mfn, mprt, mwtg, zs_z was, mwf, mwt, mwb) U T) rfl ?_
        refine ez_ifF (zt_nle (a := (e - b) / 8) (b := (e - m) - 1) (by omega) (by omega)) ?_
        refine ez_inc ez_h87 rfl rfl (v := nI (bud - 1)) (zi_m (by omega)) rfl ?_
        refine ez_go ez_h87 2 (pc' := bif decide (¬ (nI (bud - 1)) = (nI 0)) then 147 else 120) (L' := [some (.ref 0), some (.int (nI (b))), some (.int (nI (e))), some (.int (nI (bud))), some (.int (nI (e - b))), some (.int (nI (m))), some (.int (zs_z was)), some (.int (nI (bud - 1)))]) (st' := []) (w' := mz_w A (mfls, mfn, mprt, mwtg, zs_z was, mwf, mwt, mwb) U T) rfl ?_
        refine ez_ifT (zt_ne (by omega) (by omega) (by omega)) ?_
        refine ez_go ez_h87 4 (pc' := 152) (L' := [some (.ref 0), some (.int (nI (b))), some (.int (nI (e))), some (.int (nI (bud))), some (.int (nI (e - b))), some (.int (nI (m))), some (.int (zs_z was)), some (.int (nI (bud - 1)))]) (st' := [.int (nI (e)), .int (nI (m)), .int (nI (b)), .ref 0]) (w' := mz_w A (mfls, mfn, mprt, mwtg, zs_z was, mwf, mwt, mwb) U T) rfl ?_
        refine ez_cl ez_h87 rfl rfl ?_
        refine (zb_ref hE (b := b) (m := m) (e := e) (by omega) (by omega) (by omega) hw) _ (mfls, mfn, mprt, mwtg, zs_z was, mwf, mwt, mwb) U T _ hA (fun A97 hA97 => ?_)
        refine ez_go ez_h87 1 (pc' := 190) (L' := [some (.ref 0), some (.int (nI (b))), some (.int (nI (e))), some (.int (nI (bud))), some (.int (nI (e - b))), some (.int (nI (m))), some (.int (zs_z was)), some (.int (nI (bud - 1)))]) (st' := []) (w' := mz_w A97 (mfls, mfn, mprt, mwtg, zs_z was, mwf, mwt, mwb) U T) rfl ?_
        exact ez_E.le (ez_lc (ez_lc (ez_lc (ez_ln (ez_ln (ez_lc (ez_ln (ez_lc ez_l0)))))))) (kF rfl _ _ _ hA97 (Int64.add_zero _).symm (Int64.add_zero _).symm)
  cases was with
  | false =>
    refine ⟨row, g, false, bud, 0, hw, zg_le.rf g, zp_in.rf _ _ _, fun _ => ⟨hS, hbud, Or.inl ⟨rfl, by omega, by omega⟩⟩, ?_, ?_⟩
    · intro r wtg fst fls prt wf wt wb u bb post hr kk
      refine ez_m.of (L := [some (.ref 4), some (.int (nI ((e - b) / 8))), none, none]) rfl rfl rfl ?_
      refine ez_go ez_h24 5 (pc' := 9) (L' := [some (.ref 4), some (.int (nI ((e - b) / 8))), none, none]) (st' := [.int ((nI (m)) - (nI (b)))]) (w' := cz_w r (wtg, nI (b), nI (e), nI (bud), fst, nI (m), zs_z false, fls, prt, wf, wt, wb) u bb) rfl ?_
      refine ez_top (y := nI (m - b)) (pk_sub (by omega)) ?_
      refine ez_go ez_h24 6 (pc' := 19) (L' := [some (.ref 4), some (.int (nI ((e - b) / 8))), some (.int (nI (m - b))), none]) (st' := [.int ((nI (e)) - (nI (m)))]) (w' := cz_w r (wtg, nI (b), nI (e), nI (bud), fst, nI (m), zs_z false, fls, prt, wf, wt, wb) u bb) rfl ?_
      refine ez_top (y := nI (e - m)) (pk_sub (by omega)) ?_
      refine ez_go ez_h24 2 (pc' := 21) (L' := [some (.ref 4), some (.int (nI ((e - b) / 8))), some (.int (nI (m - b))), none]) (st' := [.int ((nI (e - m)) - (nI (1)))]) (w' := cz_w r (wtg, nI (b), nI (e), nI (bud), fst, nI (m), zs_z false, fls, prt, wf, wt, wb) u bb) rfl ?_
      refine ez_top (y := nI ((e - m) - 1)) (pk_sub (by omega)) ?_
      refine ez_go ez_h24 4 (pc' := bif decide ((nI (m - b)) < (nI ((e - b) / 8))) then 83 else 27) (L' := [some (.ref 4), some (.int (nI ((e - b) / 8))), some (.int (nI (m - b))), some (.int (nI ((e - m) - 1)))]) (st' := []) (w' := cz_w r (wtg, nI (b), nI (e), nI (bud), fst, nI (m), zs_z false, fls, prt, wf, wt, wb) u bb) rfl ?_
      refine ez_ifF (zt_nlt (a := m - b) (b := (e - b) / 8) (by omega) (by omega)) ?_
      refine ez_go ez_h24 3 (pc' := bif decide ((nI ((e - m) - 1)) < (nI ((e - b) / 8))) then 83 else 32) (L' := [some (.ref 4), some (.int (nI ((e - b) / 8))), some (.int (nI (m - b))), some (.int (nI ((e - m) - 1)))]) (st' := []) (w' := cz_w r (wtg, nI (b), nI (e), nI (bud), fst, nI (m), zs_z false, fls, prt, wf, wt, wb) u bb) rfl ?_
      refine ez_ifF (zt_nlt (a := (e - m) - 1) (b := (e - b) / 8) (by omega) (by omega)) ?_
      refine ez_go ez_h24 3 (pc' := bif decide ((zs_z false) = 0) then 81 else 39) (L' := [some (.ref 4), some (.int (nI ((e - b) / 8))), some (.int (nI (m - b))), some (.int (nI ((e - m) - 1)))]) (st' := []) (w' := cz_w r (wtg, nI (b), nI (e), nI (bud), fst, nI (m), zs_z false, fls, prt, wf, wt, wb) u bb) rfl ?_
      refine ez_ifT (zz_f rfl) ?_
      refine ez_go ez_h24 1 (pc' := 82) (L' := [some (.ref 4), some (.int (nI ((e - b) / 8))), some (.int (nI (m - b))), some (.int (nI ((e - m) - 1)))]) (st' := [.int (nI (0))]) (w' := cz_w r (wtg, nI (b), nI (e), nI (bud), fst, nI (m), zs_z false, fls, prt, wf, wt, wb) u bb) rfl ?_
      exact ez_zret rfl ez_h24 rfl rfl (by decide) (kk _ _ hr (Int64.add_zero _).symm)
    · intro A mfls mfn mprt mwtg mwf mwt mwb U T post hA kT kF
      refine ez_go ez_h87 8 (pc' := 90) (L' := [some (.ref 0), some (.int (nI (b))), some (.int (nI (e))), some (.int (nI (bud))), some (.int (nI (e - b))), some (.int (nI (m))), some (.int (zs_z false)), some (.int (nI (bud)))]) (st' := [.int ((nI (m)) - (nI (b)))]) (w' := mz_w A (mfls, mfn, mprt, mwtg, zs_z false, mwf, mwt, mwb) U T) rfl ?_
      refine ez_top (y := nI (m - b)) (pk_sub (by omega)) ?_
      refine ez_go ez_h87 3 (pc' := 95) (L' := [some (.ref 0), some (.int (nI (b))), some (.int (nI (e))), some (.int (nI (bud))), some (.int (nI (e - b))), some (.int (nI (m))), some (.int (zs_z false)), some (.int (nI (bud)))]) (st' := [.int ((nI (e - b)) / (nI (8))), .int (nI (m - b))]) (w' := mz_w A (mfls, mfn, mprt, mwtg, zs_z false, mwf, mwt, mwb) U T) rfl ?_
      refine ez_top (y := nI ((e - b) / 8)) (pk_div (by omega) (by omega) (by omega)) ?_
      refine ez_go ez_h87 1 (pc' := bif decide ((nI (m - b)) < (nI ((e - b) / 8))) then 112 else 98) (L' := [some (.ref 0), some (.int (nI (b))), some (.int (nI (e))), some (.int (nI (bud))), some (.int (nI (e - b))), some (.int (nI (m))), some (.int (zs_z false)), some (.int (nI (bud)))]) (st' := []) (w' := mz_w A (mfls, mfn, mprt, mwtg, zs_z false, mwf, mwt, mwb) U T) rfl ?_
      refine ez_ifF (zt_nlt (a := m - b) (b := (e - b) / 8) (by omega) (by omega)) ?_
      refine ez_go ez_h87 3 (pc' := 102) (L' := [some (.ref 0), some (.int (nI (b))), some (.int (nI (e))), some (.int (nI (bud))), some (.int (nI (e - b))), some (.int (nI (m))), some (.int (zs_z false)), some (.int (nI (bud)))]) (st' := [.int ((nI (e)) - (nI (m)))]) (w' := mz_w A (mfls, mfn, mprt, mwtg, zs_z false, mwf, mwt, mwb) U T) rfl ?_
      refine ez_top (y := nI (e - m)) (pk_sub (by omega)) ?_
      refine ez_go ez_h87 2 (pc' := 104) (L' := [some (.ref 0), some (.int (nI (b))), some (.int (nI (e))), some (.int (nI (bud))), some (.int (nI (e - b))), some (.int (nI (m))), some (.int (zs_z false)), some (.int (nI (bud)))]) (st' := [.int ((nI (e - m)) - (nI (1)))]) (w' := mz_w A (mfls, mfn, mprt, mwtg, zs_z false, mwf, mwt, mwb) U T) rfl ?_
      refine ez_top (y := nI ((e - m) - 1)) (pk_sub (by omega)) ?_
      refine ez_go ez_h87 3 (pc' := 109) (L' := [some (.ref 0), some (.int (nI (b))), some (.int (nI (e))), some (.int (nI (bud))), some (.int (nI (e - b))), some (.int (nI (m))), some (.int (zs_z false)), some (.int (nI (bud)))]) (st' := [.int ((nI (e - b)) / (nI (8))), .int (nI ((e - m) - 1))]) (w' := mz_w A (mfls, mfn, mprt, mwtg, zs_z false, mwf, mwt, mwb) U T) rfl ?_
      refine ez_top (y := nI ((e - b) / 8)) (pk_div (by omega) (by omega) (by omega)) ?_
      refine ez_go ez_h87 1 (pc' := bif decide ((nI ((e - b) / 8)) ≤ (nI ((e - m) - 1))) then 158 else 112) (L' := [some (.ref 0), some (.int (nI (b))), some (.int (nI (e))), some (.int (nI (bud))), some (.int (nI (e - b))), some (.int (nI (m))), some (.int (zs_z false)), some (.int (nI (bud)))]) (st' := []) (w' := mz_w A (mfls, mfn, mprt, mwtg, zs_z false, mwf, mwt, mwb) U T) rfl ?_
      refine ez_ifT (zt_le (a := (e - b) / 8) (b := (e - m) - 1) (by omega) (by omega)) ?_
      refine ez_go ez_h87 2 (pc' := bif decide ((zs_z false) = 0) then 190 else 163) (L' := [some (.ref 0), some (.int (nI (b))), some (.int (nI (e))), some (.int (nI (bud))), some (.int (nI (e - b))), some (.int (nI (m))), some (.int (zs_z false)), some (.int (nI (bud)))]) (st' := []) (w' := mz_w A (mfls, mfn, mprt, mwtg, zs_z false, mwf, mwt, mwb) U T) rfl ?_
      refine ez_ifT (zz_f rfl) ?_
      exact ez_E.le (ez_lc (ez_lc (ez_lc (ez_ln (ez_ln (ez_lc (ez_ln (ez_lc ez_l0)))))))) (kF rfl _ _ _ hA (Int64.add_zero _).symm (Int64.add_zero _).symm)
  | true =>
    obtain ⟨row1, g1, res1, o1, l1, p1, c1, m1⟩ := zi_partly hE (b := b) (e := m) (by omega) (by omega) hw
    have hS1 : zs_S E row1 g1 (m + 1) e := hS.off (by omega) he hw l1 p1
    cases res1 with
    | false =>
      refine ⟨row1, g1, false, bud, 0, o1, l1, p1.wide (by omega) (by omega), fun _ => ⟨hS1, hbud, Or.inl ⟨rfl, by omega, by omega⟩⟩, ?_, ?_⟩
      · intro r wtg fst fls prt wf wt wb u bb post hr kk
        refine ez_m.of (L := [some (.ref 4), some (.int (nI ((e - b) / 8))), none, none]) rfl rfl rfl ?_
        refine ez_go ez_h24 5 (pc' := 9) (L' := [some (.ref 4), some (.int (nI ((e - b) / 8))), none, none]) (st' := [.int ((nI (m)) - (nI (b)))]) (w' := cz_w r (wtg, nI (b), nI (e), nI (bud), fst, nI (m), zs_z true, fls, prt, wf, wt, wb) u bb) rfl ?_
        refine ez_top (y := nI (m - b)) (pk_sub (by omega)) ?_
        refine ez_go ez_h24 6 (pc' := 19) (L' := [some (.ref 4), some (.int (nI ((e - b) / 8))), some (.int (nI (m - b))), none]) (st' := [.int ((nI (e)) - (nI (m)))]) (w' := cz_w r (wtg, nI (b), nI (e), nI (bud), fst, nI (m), zs_z true, fls, prt, wf, wt, wb) u bb) rfl ?_
        refine ez_top (y := nI (e - m)) (pk_sub (by omega)) ?_
        refine ez_go ez_h24 2 (pc' := 21) (L' := [some (.ref 4), some (.int (nI ((e - b) / 8))), some (.int (nI (m - b))), none]) (st' := [.int ((nI (e - m)) - (nI (1)))]) (w' := cz_w r (wtg, nI (b), nI (e), nI (bud), fst, nI (m), zs_z true, fls, prt, wf, wt, wb) u bb) rfl ?_
        refine ez_top (y := nI ((e - m) - 1)) (pk_sub (by omega)) ?_
        refine ez_go ez_h24 4 (pc' := bif decide ((nI (m - b)) < (nI ((e - b) / 8))) then 83 else 27) (L' := [some (.ref 4), some (.int (nI ((e - b) / 8))), some (.int (nI (m - b))), some (.int (nI ((e - m) - 1)))]) (st' := []) (w' := cz_w r (wtg, nI (b), nI (e), nI (bud), fst, nI (m), zs_z true, fls, prt, wf, wt, wb) u bb) rfl ?_
        refine ez_ifF (zt_nlt (a := m - b) (b := (e - b) / 8) (by omega) (by omega)) ?_
        refine ez_go ez_h24 3 (pc' := bif decide ((nI ((e - m) - 1)) < (nI ((e - b) / 8))) then 83 else 32) (L' := [some (.ref 4), some (.int (nI ((e - b) / 8))), some (.int (nI (m - b))), some (.int (nI ((e - m) - 1)))]) (st' := []) (w' := cz_w r (wtg, nI (b), nI (e), nI (bud), fst, nI (m), zs_z true, fls, prt, wf, wt, wb) u bb) rfl ?_
        refine ez_ifF (zt_nlt (a := (e - m) - 1) (b := (e - b) / 8) (by omega) (by omega)) ?_
        refine ez_go ez_h24 3 (pc' := bif decide ((zs_z true) = 0) then 81 else 39) (L' := [some (.ref 4), some (.int (nI ((e - b) / 8))), some (.int (nI (m - b))), some (.int (nI ((e - m) - 1)))]) (st' := []) (w' := cz_w r (wtg, nI (b), nI (e), nI (bud), fst, nI (m), zs_z true, fls, prt, wf, wt, wb) u bb) rfl ?_
        refine ez_ifF (zz_t rfl) ?_
        refine ez_go ez_h24 6 (pc' := 51) (L' := [some (.ref 4), some (.int (nI ((e - b) / 8))), some (.int (nI (m - b))), some (.int (nI ((e - m) - 1)))]) (st' := [.int (nI (m)), .int (nI (b)), .ref 2]) (w' := cz_w r (wtg, nI (b), nI (e), nI (bud), fst, nI (m), zs_z true, fls, prt, wf, wt, wb) u bb) rfl ?_
        refine ez_cl ez_h24 rfl rfl ?_
        refine c1 _ (wtg, nI (b), nI (e), nI (bud), fst, nI (m), zs_z true, fls, prt, wf, wt, wb) u bb _ hr (fun r98 hr98 => ?_)
        refine ez_go ez_h24 1 (pc' := bif decide ((zs_z false) = 0) then 81 else 57) (L' := [some (.ref 4), some (.int (nI ((e - b) / 8))), some (.int (nI (m - b))), some (.int (nI ((e - m) - 1)))]) (st' := []) (w' := cz_w r98 (wtg, nI (b), nI (e), nI (bud), fst, nI (m), zs_z true, fls, prt, wf, wt, wb) u bb) rfl ?_
        refine ez_ifT (zz_f rfl) ?_
        refine ez_go ez_h24 1 (pc' := 82) (L' := [some (.ref 4), some (.int (nI ((e - b) / 8))), some (.int (nI (m - b))), some (.int (nI ((e - m) - 1)))]) (st' := [.int (nI (0))]) (w' := cz_w r98 (wtg, nI (b), nI (e), nI (bud), fst, nI (m), zs_z true, fls, prt, wf, wt, wb) u bb) rfl ?_
        exact ez_zret rfl ez_h24 rfl rfl (by decide) (kk _ _ hr98 (Int64.add_zero _).symm)
      · intro A mfls mfn mprt mwtg mwf mwt mwb U T post hA kT kF
        refine ez_go ez_h87 8 (pc' := 90) (L' := [some (.ref 0), some (.int (nI (b))), some (.int (nI (e))), some (.int (nI (bud))), some (.int (nI (e - b))), some (.int (nI (m))), some (.int (zs_z true)), some (.int (nI (bud)))]) (st' := [.int ((nI (m)) - (nI (b)))]) (w' := mz_w A (mfls, mfn, mprt, mwtg, zs_z true, mwf, mwt, mwb) U T) rfl ?_
        refine ez_top (y := nI (m - b)) (pk_sub (by omega)) ?_
        refine ez_go ez_h87 3 (pc' := 95) (L' := [some (.ref 0), some (.int (nI (b))), some (.int (nI (e))), some (.int (nI (bud))), some (.int (nI (e - b))), some (.int (nI (m))), some (.int (zs_z true)), some (.int (nI (bud)))]) (st' := [.int ((nI (e - b)) / (nI (8))), .int (nI (m - b))]) (w' := mz_w A (mfls, mfn, mprt, mwtg, zs_z true, mwf, mwt, mwb) U T) rfl ?_
        refine ez_top (y := nI ((e - b) / 8)) (pk_div (by omega) (by omega) (by omega)) ?_
        refine ez_go ez_h87 1 (pc' := bif decide ((nI (m - b)) < (nI ((e - b) / 8))) then 112 else 98) (L' := [some (.ref 0), some (.int (nI (b))), some (.int (nI (e))), some (.int (nI (bud))), some (.int (nI (e - b))), some (.int (nI (m))), some (.int (zs_z true)), some (.int (nI (bud)))]) (st' := []) (w' := mz_w A (mfls, mfn, mprt, mwtg, zs_z true, mwf, mwt, mwb) U T) rfl ?_
        refine ez_ifF (zt_nlt (a := m - b) (b := (e - b) / 8) (by omega) (by omega)) ?_
        refine ez_go ez_h87 3 (pc' := 102) (L' := [some (.ref 0), some (.int (nI (b))), some (.int (nI (e))), some (.int (nI (bud))), some (.int (nI (e - b))), some (.int (nI (m))), some (.int (zs_z true)), some (.int (nI (bud)))]) (st' := [.int ((nI (e)) - (nI (m)))]) (w' := mz_w A (mfls, mfn, mprt, mwtg, zs_z true, mwf, mwt, mwb) U T) rfl ?_
        refine ez_top (y := nI (e - m)) (pk_sub (by omega)) ?_
        refine ez_go ez_h87 2 (pc' := 104) (L' := [some (.ref 0), some (.int (nI (b))), some (.int (nI (e))), some (.int (nI (bud))), some (.int (nI (e - b))), some (.int (nI (m))), some (.int (zs_z true)), some (.int (nI (bud)))]) (st' := [.int ((nI (e - m)) - (nI (1)))]) (w' := mz_w A (mfls, mfn, mprt, mwtg, zs_z true, mwf, mwt, mwb) U T) rfl ?_
        refine ez_top (y := nI ((e - m) - 1)) (pk_sub (by omega)) ?_
        refine ez_go ez_h87 3 (pc' := 109) (L' := [some (.ref 0), some (.int (nI (b))), some (.int (nI (e))), some (.int (nI (bud))), some (.int (nI (e - b))), some (.int (nI (m))), some (.int (zs_z true)), some (.int (nI (bud)))]) (st' := [.int ((nI (e - b)) / (nI (8))), .int (nI ((e - m) - 1))]) (w' := mz_w A (mfls, mfn, mprt, mwtg, zs_z true, mwf, mwt, mwb) U T) rfl ?_
        refine ez_top (y := nI ((e - b) / 8)) (pk_div (by omega) (by omega) (by omega)) ?_
        refine ez_go ez_h87 1 (pc' := bif decide ((nI ((e - b) / 8)) ≤ (nI ((e - m) - 1))) then 158 else 112) (L' := [some (.ref 0), some (.int (nI (b))), some (.int (nI (e))), some (.int (nI (bud))), some (.int (nI (e - b))), some (.int (nI (m))), some (.int (zs_z true)), some (.int (nI (bud)))]) (st' := []) (w' := mz_w A (mfls, mfn, mprt, mwtg, zs_z true, mwf, mwt, mwb) U T) rfl ?_
        refine ez_ifT (zt_le (a := (e - b) / 8) (b := (e - m) - 1) (by omega) (by omega)) ?_
        refine ez_go ez_h87 2 (pc' := bif decide ((zs_z true) = 0) then 190 else 163) (L' := [some (.ref 0), some (.int (nI (b))), some (.int (nI (e))), some (.int (nI (bud))), some (.int (nI (e - b))), some (.int (nI (m))), some (.int (zs_z true)), some (.int (nI (bud)))]) (st' := []) (w' := mz_w A (mfls, mfn, mprt, mwtg, zs_z true, mwf, mwt, mwb) U T) rfl ?_
        refine ez_ifF (zz_t rfl) ?_
        refine ez_go ez_h87 5 (pc' := 169) (L' := [some (.ref 0), some (.int (nI (b))), some (.int (nI (e))), some (.int (nI (bud))), some (.int (nI (e - b))), some (.int (nI (m))), some (.int (zs_z true)), some (.int (nI (bud)))]) (st' := [.int (nI (1)), .int (nI (1)), .int (nI (m)), .int (nI (b)), .ref 0]) (w' := mz_w A (mfls, mfn, mprt, mwtg, zs_z true, mwf, mwt, mwb) U T) rfl ?_
        refine ez_cl ez_h87 rfl rfl ?_
        refine m1 _ (mfls, mfn, mprt, mwtg, zs_z true, mwf, mwt, mwb) U T _ hA (fun A99 hA99 => ?_)
        refine ez_go ez_h87 1 (pc' := bif decide ((zs_z false) = 0) then 190 else 175) (L' := [some (.ref 0), some (.int (nI (b))), some (.int (nI (e))), some (.int (nI (bud))), some (.int (nI (e - b))), some (.int (nI (m))), some (.int (zs_z true)), some (.int (nI (bud)))]) (st' := []) (w' := mz_w A99 (mfls, mfn, mprt, mwtg, zs_z true, mwf, mwt, mwb) U T) rfl ?_
        refine ez_ifT (zz_f rfl) ?_
        exact ez_E.le (ez_lc (ez_lc (ez_lc (ez_ln (ez_ln (ez_lc (ez_ln (ez_lc ez_l0)))))))) (kF rfl _ _ _ hA99 (Int64.add_zero _).symm (Int64.add_zero _).symm)
    | true =>
      obtain ⟨row2, g2, res2, o2, l2, p2, c2, m2⟩ := zi_partly hE (b := m + 1) (e := e) (by omega) (by omega) o1
      have hS2 : zs_S E row2 g2 (m + 1) e := hS1.go he o1 l2 p2
      have hp2 : zp_in row row2 b e := (p1.wide (by omega) (by omega)).tr (p2.wide (by omega) (by omega))
      cases res2 with
      | false =>
        refine ⟨row2, g2, false, bud, 0, o2, l1.tr l2, hp2, fun _ => ⟨hS2, hbud, Or.inl ⟨rfl, by omega, by omega⟩⟩, ?_, ?_⟩
        · intro r wtg fst fls prt wf wt wb u bb post hr kk
          refine ez_m.of (L := [some (.ref 4), some (.int (nI ((e - b) / 8))), none, none]) rfl rfl rfl ?_
          refine ez_go ez_h24 5 (pc' := 9) (L' := [some (.ref 4), some (.int (nI ((e - b) / 8))), none, none]) (st' := [.int ((nI (m)) - (nI (b)))]) (w' := cz_w r (wtg, nI (b), nI (e), nI (bud), fst, nI (m), zs_z true, fls, prt, wf, wt, wb) u bb) rfl ?_
          refine ez_top (y := nI (m - b)) (pk_sub (by omega)) ?_
          refine ez_go ez_h24 6 (pc' := 19) (L' := [some (.ref 4), some (.int (nI ((e - b) / 8))), some (.int (nI (m - b))), none]) (st' := [.int ((nI (e)) - (nI (m)))]) (w' := cz_w r (wtg, nI (b), nI (e), nI (bud), fst, nI (m), zs_z true, fls, prt, wf, wt, wb) u bb) rfl ?_
          refine ez_top (y := nI (e - m)) (pk_sub (by omega)) ?_
          refine ez_go ez_h24 2 (pc' := 21) (L' := [some (.ref 4), some (.int (nI ((e - b) / 8))), some (.int (nI (m - b))), none]) (st' := [.int ((nI (e - m)) - (nI (1)))]) (w' := cz_w r (wtg, nI (b), nI (e), nI (bud), fst, nI (m), zs_z true, fls, prt, wf, wt, wb) u bb) rfl ?_
          refine ez_top (y := nI ((e - m) - 1)) (pk_sub (by omega)) ?_
          refine ez_go ez_h24 4 (pc' := bif decide ((nI (m - b)) < (nI ((e - b) / 8))) then 83 else 27) (L' := [some (.ref 4), some (.int (nI ((e - b) / 8))), some (.int (nI (m - b))), some (.int (nI ((e - m) - 1)))]) (st' := []) (w' := cz_w r (wtg, nI (b), nI (e), nI (bud), fst, nI (m), zs_z true, fls, prt, wf, wt, wb) u bb) rfl ?_
          refine ez_ifF (zt_nlt (a := m - b) (b := (e - b) / 8) (by omega) (by omega)) ?_
          refine ez_go ez_h24 3 (pc' := bif decide ((nI ((e - m) - 1)) < (nI ((e - b) / 8))) then 83 else 32) (L' := [some (.ref 4), some (.int (nI ((e - b) / 8))), some (.int (nI (m - b))), some (.int (nI ((e - m) - 1)))]) (st' := []) (w' := cz_w r (wtg, nI (b), nI (e), nI (bud), fst, nI (m), zs_z true, fls, prt, wf, wt, wb) u bb) rfl ?_
          refine ez_ifF (zt_nlt (a := (e - m) - 1) (b := (e - b) / 8) (by omega) (by omega)) ?_
          refine ez_go ez_h24 3 (pc' := bif decide ((zs_z true) = 0) then 81 else 39) (L' := [some (.ref 4), some (.int (nI ((e - b) / 8))), some (.int (nI (m - b))), some (.int (nI ((e - m) - 1)))]) (st' := []) (w' := cz_w r (wtg, nI (b), nI (e), nI (bud), fst, nI (m), zs_z true, fls, prt, wf, wt, wb) u bb) rfl ?_
          refine ez_ifF (zz_t rfl) ?_
          refine ez_go ez_h24 6 (pc' := 51) (L' := [some (.ref 4), some (.int (nI ((e - b) / 8))), some (.int (nI (m - b))), some (.int (nI ((e - m) - 1)))]) (st' := [.int (nI (m)), .int (nI (b)), .ref 2]) (w' := cz_w r (wtg, nI (b), nI (e), nI (bud), fst, nI (m), zs_z true, fls, prt, wf, wt, wb) u bb) rfl ?_
          refine ez_cl ez_h24 rfl rfl ?_
          refine c1 _ (wtg, nI (b), nI (e), nI (bud), fst, nI (m), zs_z true, fls, prt, wf, wt, wb) u bb _ hr (fun r100 hr100 => ?_)
          refine ez_go ez_h24 1 (pc' := bif decide ((zs_z true) = 0) then 81 else 57) (L' := [some (.ref 4), some (.int (nI ((e - b) / 8))), some (.int (nI (m - b))), some (.int (nI ((e - m) - 1)))]) (st' := []) (w' := cz_w r100 (wtg, nI (b), nI (e), nI (bud), fst, nI (m), zs_z true, fls, prt, wf, wt, wb) u bb) rfl ?_
          refine ez_ifF (zz_t rfl) ?_
          refine ez_go ez_h24 6 (pc' := 67) (L' := [some (.ref 4), some (.int (nI ((e - b) / 8))), some (.int (nI (m - b))), some (.int (nI ((e - m) - 1)))]) (st' := [.int ((nI (m)) + (nI (1))), .ref 2]) (w' := cz_w r100 (wtg, nI (b), nI (e), nI (bud), fst, nI (m), zs_z true, fls, prt, wf, wt, wb) u bb) rfl ?_
          refine ez_top (y := nI (m + 1)) (nI_add _ _) ?_
          refine ez_go ez_h24 2 (pc' := 71) (L' := [some (.ref 4), some (.int (nI ((e - b) / 8))), some (.int (nI (m - b))), some (.int (nI ((e - m) - 1)))]) (st' := [.int (nI (e)), .int (nI (m + 1)), .ref 2]) (w' := cz_w r100 (wtg, nI (b), nI (e), nI (bud), fst, nI (m), zs_z true, fls, prt, wf, wt, wb) u bb) rfl ?_
          refine ez_cl ez_h24 rfl rfl ?_
          refine c2 _ (wtg, nI (b), nI (e), nI (bud), fst, nI (m), zs_z true, fls, prt, wf, wt, wb) u bb _ hr100 (fun r101 hr101 => ?_)
          refine ez_go ez_h24 1 (pc' := bif decide ((zs_z false) = 0) then 81 else 77) (L' := [some (.ref 4), some (.int (nI ((e - b) / 8))), some (.int (nI (m - b))), some (.int (nI ((e - m) - 1)))]) (st' := []) (w' := cz_w r101 (wtg, nI (b), nI (e), nI (bud), fst, nI (m), zs_z true, fls, prt, wf, wt, wb) u bb) rfl ?_
          refine ez_ifT (zz_f rfl) ?_
          refine ez_go ez_h24 1 (pc' := 82) (L' := [some (.ref 4), some (.int (nI ((e - b) / 8))), some (.int (nI (m - b))), some (.int (nI ((e - m) - 1)))]) (st' := [.int (nI (0))]) (w' := cz_w r101 (wtg, nI (b), nI (e), nI (bud), fst, nI (m), zs_z true, fls, prt, wf, wt, wb) u bb) rfl ?_
          exact ez_zret rfl ez_h24 rfl rfl (by decide) (kk _ _ hr101 (Int64.add_zero _).symm)
        · intro A mfls mfn mprt mwtg mwf mwt mwb U T post hA kT kF
          refine ez_go ez_h87 8 (pc' := 90) (L' := [some (.ref 0), some (.int (nI (b))), some (.int (nI (e))), some (.int (nI (bud))), some (.int (nI (e - b))), some (.int (nI (m))), some (.int (zs_z true)), some (.int (nI (bud)))]) (st' := [.int ((nI (m)) - (nI (b)))]) (w' := mz_w A (mfls, mfn, mprt, mwtg, zs_z true, mwf, mwt, mwb) U T) rfl ?_
          refine ez_top (y := nI (m - b)) (pk_sub (by omega)) ?_
          refine ez_go ez_h87 3 (pc' := 95) (L' := [some (.ref 0), some (.int (nI (b))), some (.int (nI (e))), some (.int (nI (bud))), some (.int (nI (e - b))), some (.int (nI (m))), some (.int (zs_z true)), some (.int (nI (bud)))]) (st' := [.int ((nI (e - b)) / (nI (8))), .int (nI (m - b))]) (w' := mz_w A (mfls, mfn, mprt, mwtg, zs_z true, mwf, mwt, mwb) U T) rfl ?_
          refine ez_top (y := nI ((e - b) / 8)) (pk_div (by omega) (by omega) (by omega)) ?_
          refine ez_go ez_h87 1 (pc' := bif decide ((nI (m - b)) < (nI ((e - b) / 8))) then 112 else 98) (L' := [some (.ref 0), some (.int (nI (b))), some (.int (nI (e))), some (.int (nI (bud))), some (.int (nI (e - b))), some (.int (nI (m))), some (.int (zs_z true)), some (.int (nI (bud)))]) (st' := []) (w' := mz_w A (mfls, mfn, mprt, mwtg, zs_z true, mwf, mwt, mwb) U T) rfl ?_
          refine ez_ifF (zt_nlt (a := m - b) (b := (e - b) / 8) (by omega) (by omega)) ?_
          refine ez_go ez_h87 3 (pc' := 102) (L' := [some (.ref 0), some (.int (nI (b))), some (.int (nI (e))), some (.int (nI (bud))), some (.int (nI (e - b))), some (.int (nI (m))), some (.int (zs_z true)), some (.int (nI (bud)))]) (st' := [.int ((nI (e)) - (nI (m)))]) (w' := mz_w A (mfls, mfn, mprt, mwtg, zs_z true, mwf, mwt, mwb) U T) rfl ?_
          refine ez_top (y := nI (e - m)) (pk_sub (by omega)) ?_
          refine ez_go ez_h87 2 (pc' := 104) (L' := [some (.ref 0), some (.int (nI (b))), some (.int (nI (e))), some (.int (nI (bud))), some (.int (nI (e - b))), some (.int (nI (m))), some (.int (zs_z true)), some (.int (nI (bud)))]) (st' := [.int ((nI (e - m)) - (nI (1)))]) (w' := mz_w A (mfls, mfn, mprt, mwtg, zs_z true, mwf, mwt, mwb) U T) rfl ?_
          refine ez_top (y := nI ((e - m) - 1)) (pk_sub (by omega)) ?_
          refine ez_go ez_h87 3 (pc' := 109) (L' := [some (.ref 0), some (.int (nI (b))), some (.int (nI (e))), some (.int (nI (bud))), some (.int (nI (e - b))), some (.int (nI (m))), some (.int (zs_z true)), some (.int (nI (bud)))]) (st' := [.int ((nI (e - b)) / (nI (8))), .int (nI ((e - m) - 1))]) (w' := mz_w A (mfls, mfn, mprt, mwtg, zs_z true, mwf, mwt, mwb) U T) rfl ?_
          refine ez_top (y := nI ((e - b) / 8)) (pk_div (by omega) (by omega) (by omega)) ?_
          refine ez_go ez_h87 1 (pc' := bif decide ((nI ((e - b) / 8)) ≤ (nI ((e - m) - 1))) then 158 else 112) (L' := [some (.ref 0), some (.int (nI (b))), some (.int (nI (e))), some (.int (nI (bud))), some (.int (nI (e - b))), some (.int (nI (m))), some (.int (zs_z true)), some (.int (nI (bud)))]) (st' := []) (w' := mz_w A (mfls, mfn, mprt, mwtg, zs_z true, mwf, mwt, mwb) U T) rfl ?_
          refine ez_ifT (zt_le (a := (e - b) / 8) (b := (e - m) - 1) (by omega) (by omega)) ?_
          refine ez_go ez_h87 2 (pc' := bif decide ((zs_z true) = 0) then 190 else 163) (L' := [some (.ref 0), some (.int (nI (b))), some (.int (nI (e))), some (.int (nI (bud))), some (.int (nI (e - b))), some (.int (nI (m))), some (.int (zs_z true)), some (.int (nI (bud)))]) (st' := []) (w' := mz_w A (mfls, mfn, mprt, mwtg, zs_z true, mwf, mwt, mwb) U T) rfl ?_
          refine ez_ifF (zz_t rfl) ?_
          refine ez_go ez_h87 5 (pc' := 169) (L' := [some (.ref 0), some (.int (nI (b))), some (.int (nI (e))), some (.int (nI (bud))), some (.int (nI (e - b))), some (.int (nI (m))), some (.int (zs_z true)), some (.int (nI (bud)))]) (st' := [.int (nI (1)), .int (nI (1)), .int (nI (m)), .int (nI (b)), .ref 0]) (w' := mz_w A (mfls, mfn, mprt, mwtg, zs_z true, mwf, mwt, mwb) U T) rfl ?_
          refine ez_cl ez_h87 rfl rfl ?_
          refine m1 _ (mfls, mfn, mprt, mwtg, zs_z true, mwf, mwt, mwb) U T _ hA (fun A102 hA102 => ?_)
          refine ez_go ez_h87 1 (pc' := bif decide ((zs_z true) = 0) then 190 else 175) (L' := [some (.ref 0), some (.int (nI (b))), some (.int (nI (e))), some (.int (nI (bud))), some (.int (nI (e - b))), some (.int (nI (m))), some (.int (zs_z true)), some (.int (nI (bud)))]) (st' := []) (w' := mz_w A102 (mfls, mfn, mprt, mwtg, zs_z true, mwf, mwt, mwb) U T) rfl ?_
          refine ez_ifF (zz_t rfl) ?_
          refine ez_go ez_h87 4 (pc' := 180) (L' := [some (.ref 0), some (.int (nI (b))), some (.int (nI (e))), some (.int (nI (bud))), some (.int (nI (e - b))), some (.int (nI (m))), some (.int (zs_z true)), some (.int (nI (bud)))]) (st' := [.int ((nI (m)) + (nI (1))), .ref 0]) (w' := mz_w A102 (mfls, mfn, mprt, mwtg, zs_z true, mwf, mwt, mwb) U T) rfl ?_
          refine ez_top (y := nI (m + 1)) (nI_add _ _) ?_
          refine ez_go ez_h87 3 (pc' := 183) (L' := [some (.ref 0), some (.int (nI (b))), some (.int (nI (e))), some (.int (nI (bud))), some (.int (nI (e - b))), some (.int (nI (m))), some (.int (zs_z true)), some (.int (nI (bud)))]) (st' := [.int (nI (1)), .int (nI (1)), .int (nI (e)), .int (nI (m + 1)), .ref 0]) (w' := mz_w A102 (mfls, mfn, mprt, mwtg, zs_z true, mwf, mwt, mwb) U T) rfl ?_
          refine ez_cl ez_h87 rfl rfl ?_
          refine m2 _ (mfls, mfn, mprt, mwtg, zs_z true, mwf, mwt, mwb) U T _ hA102 (fun A103 hA103 => ?_)
          refine ez_go ez_h87 1 (pc' := bif decide ((zs_z false) = 0) then 190 else 189) (L' := [some (.ref 0), some (.int (nI (b))), some (.int (nI (e))), some (.int (nI (bud))), some (.int (nI (e - b))), some (.int (nI (m))), some (.int (zs_z true)), some (.int (nI (bud)))]) (st' := []) (w' := mz_w A103 (mfls, mfn, mprt, mwtg, zs_z true, mwf, mwt, mwb) U T) rfl ?_
          refine ez_ifT (zz_f rfl) ?_
          exact ez_E.le (ez_lc (ez_lc (ez_lc (ez_ln (ez_ln (ez_lc (ez_ln (ez_lc ez_l0)))))))) (kF rfl _ _ _ hA103 (Int64.add_zero _).symm (Int64.add_zero _).symm)
      | true =>
        refine ⟨row2, g2, true, bud, 0, o2, l1.tr l2, hp2, (fun z => by cases z), ?_, ?_⟩
        · intro r wtg fst fls prt wf wt wb u bb post hr kk
          refine ez_m.of (L := [some (.ref 4), some (.int (nI ((e - b) / 8))), none, none]) rfl rfl rfl ?_
          refine ez_go ez_h24 5 (pc' := 9) (L' := [some (.ref 4), some (.int (nI ((e - b) / 8))), none, none]) (st' := [.int ((nI (m)) - (nI (b)))]) (w' := cz_w r (wtg, nI (b), nI (e), nI (bud), fst, nI (m), zs_z true, fls, prt, wf, wt, wb) u bb) rfl ?_
          refine ez_top (y := nI (m - b)) (pk_sub (by omega)) ?_
          refine ez_go ez_h24 6 (pc' := 19) (L' := [some (.ref 4), some (.int (nI ((e - b) / 8))), some (.int (nI (m - b))), none]) (st' := [.int ((nI (e)) - (nI (m)))]) (w' := cz_w r (wtg, nI (b), nI (e), nI (bud), fst, nI (m), zs_z true, fls, prt, wf, wt, wb) u bb) rfl ?_
          refine ez_top (y := nI (e - m)) (pk_sub (by omega)) ?_
          refine ez_go ez_h24 2 (pc' := 21) (L' := [some (.ref 4), some (.int (nI ((e - b) / 8))), some (.int (nI (m - b))), none]) (st' := [.int ((nI (e - m)) - (nI (1)))]) (w' := cz_w r (wtg, nI (b), nI (e), nI (bud), fst, nI (m), zs_z true, fls, prt, wf, wt, wb) u bb) rfl ?_
          refine ez_top (y := nI ((e - m) - 1)) (pk_sub (by omega)) ?_
          refine ez_go ez_h24 4 (pc' := bif decide ((nI (m - b)) < (nI ((e - b) / 8))) then 83 else 27) (L' := [some (.ref 4), some (.int (nI ((e - b) / 8))), some (.int (nI (m - b))), some (.int (nI ((e - m) - 1)))]) (st' := []) (w' := cz_w r (wtg, nI (b), nI (e), nI (bud), fst, nI (m), zs_z true, fls, prt, wf, wt, wb) u bb) rfl ?_
          refine ez_ifF (zt_nlt (a := m - b) (b := (e - b) / 8) (by omega) (by omega)) ?_
          refine ez_go ez_h24 3 (pc' := bif decide ((nI ((e - m) - 1)) < (nI ((e - b) / 8))) then 83 else 32) (L' := [some (.ref 4), some (.int (nI ((e - b) / 8))), some (.int (nI (m - b))), some (.int (nI ((e - m) - 1)))]) (st' := []) (w' := cz_w r (wtg, nI (b), nI (e), nI (bud), fst, nI (m), zs_z true, fls, prt, wf, wt, wb) u bb) rfl ?_
          refine ez_ifF (zt_nlt (a := (e - m) - 1) (b := (e - b) / 8) (by omega) (by omega)) ?_
          refine ez_go ez_h24 3 (pc' := bif decide ((zs_z true) = 0) then 81 else 39) (L' := [some (.ref 4), some (.int (nI ((e - b) / 8))), some (.int (nI (m - b))), some (.int (nI ((e - m) - 1)))]) (st' := []) (w' := cz_w r (wtg, nI (b), nI (e), nI (bud), fst, nI (m), zs_z true, fls, prt, wf, wt, wb) u bb) rfl ?_
          refine ez_ifF (zz_t rfl) ?_
          refine ez_go ez_h24 6 (pc' := 51) (L' := [some (.ref 4), some (.int (nI ((e - b) / 8))), some (.int (nI (m - b))), some (.int (nI ((e - m) - 1)))]) (st' := [.int (nI (m)), .int (nI (b)), .ref 2]) (w' := cz_w r (wtg, nI (b), nI (e), nI (bud), fst, nI (m), zs_z true, fls, prt, wf, wt, wb) u bb) rfl ?_
          refine ez_cl ez_h24 rfl rfl ?_
          refine c1 _ (wtg, nI (b), nI (e), nI (bud), fst, nI (m), zs_z true, fls, prt, wf, wt, wb) u bb _ hr (fun r104 hr104 => ?_)
          refine ez_go ez_h24 1 (pc' := bif decide ((zs_z true) = 0) then 81 else 57) (L' := [some (.ref 4), some (.int (nI ((e - b) / 8))), some (.int (nI (m - b))), some (.int (nI ((e - m) - 1)))]) (st' := []) (w' := cz_w r104 (wtg, nI (b), nI (e), nI (bud), fst, nI (m), zs_z true, fls, prt, wf, wt, wb) u bb) rfl ?_
          refine ez_ifF (zz_t rfl) ?_
          refine ez_go ez_h24 6 (pc' := 67) (L' := [some (.ref 4), some (.int (nI ((e - b) / 8))), some (.int (nI (m - b))), some (.int (nI ((e - m) - 1)))]) (st' := [.int ((nI (m)) + (nI (1))), .ref 2]) (w' := cz_w r104 (wtg, nI (b), nI (e), nI (bud), fst, nI (m), zs_z true, fls, prt, wf, wt, wb) u bb) rfl ?_
          refine ez_top (y := nI (m + 1)) (nI_add _ _) ?_
          refine ez_go ez_h24 2 (pc' := 71) (L' := [some (.ref 4), some (.int (nI ((e - b) / 8))), some (.int (nI (m - b))), some (.int (nI ((e - m) - 1)))]) (st' := [.int (nI (e)), .int (nI (m + 1)), .ref 2]) (w' := cz_w r104 (wtg, nI (b), nI (e), nI (bud), fst, nI (m), zs_z true, fls, prt, wf, wt, wb) u bb) rfl ?_
          refine ez_cl ez_h24 rfl rfl ?_
          refine c2 _ (wtg, nI (b), nI (e), nI (bud), fst, nI (m), zs_z true, fls, prt, wf, wt, wb) u bb _ hr104 (fun r105 hr105 => ?_)
          refine ez_go ez_h24 1 (pc' := bif decide ((zs_z true) = 0) then 81 else 77) (L' := [some (.ref 4), some (.int (nI ((e - b) / 8))), some (.int (nI (m - b))), some (.int (nI ((e - m) - 1)))]) (st' := []) (w' := cz_w r105 (wtg, nI (b), nI (e), nI (bud), fst, nI (m), zs_z true, fls, prt, wf, wt, wb) u bb) rfl ?_
          refine ez_ifF (zz_t rfl) ?_
          refine ez_go ez_h24 2 (pc' := 82) (L' := [some (.ref 4), some (.int (nI ((e - b) / 8))), some (.int (nI (m - b))), some (.int (nI ((e - m) - 1)))]) (st' := [.int (nI (1))]) (w' := cz_w r105 (wtg, nI (b), nI (e), nI (bud), fst, nI (m), zs_z true, fls, prt, wf, wt, wb) u bb) rfl ?_
          exact ez_zret rfl ez_h24 rfl rfl (by decide) (kk _ _ hr105 (Int64.add_zero _).symm)
        · intro A mfls mfn mprt mwtg mwf mwt mwb U T post hA kT kF
          refine ez_go ez_h87 8 (pc' := 90) (L' := [some (.ref 0), some (.int (nI (b))), some (.int (nI (e))), some (.int (nI (bud))), some (.int (nI (e - b))), some (.int (nI (m))), some (.int (zs_z true)), some (.int (nI (bud)))]) (st' := [.int ((nI (m)) - (nI (b)))]) (w' := mz_w A (mfls, mfn, mprt, mwtg, zs_z true, mwf, mwt, mwb) U T) rfl ?_
          refine ez_top (y := nI (m - b)) (pk_sub (by omega)) ?_
          refine ez_go ez_h87 3 (pc' := 95) (L' := [some (.ref 0), some (.int (nI (b))), some (.int (nI (e))), some (.int (nI (bud))), some (.int (nI (e - b))), some (.int (nI (m))), some (.int (zs_z true)), some (.int (nI (bud)))]) (st' := [.int ((nI (e - b)) / (nI (8))), .int (nI (m - b))]) (w' := mz_w A (mfls, mfn, mprt, mwtg, zs_z true, mwf, mwt, mwb) U T) rfl ?_
          refine ez_top (y := nI ((e - b) / 8)) (pk_div (by omega) (by omega) (by omega)) ?_
          refine ez_go ez_h87 1 (pc' := bif decide ((nI (m - b)) < (nI ((e - b) / 8))) then 112 else 98) (L' := [some (.ref 0), some (.int (nI (b))), some (.int (nI (e))), some (.int (nI (bud))), some (.int (nI (e - b))), some (.int (nI (m))), some (.int (zs_z true)), some (.int (nI (bud)))]) (st' := []) (w' := mz_w A (mfls, mfn, mprt, mwtg, zs_z true, mwf, mwt, mwb) U T) rfl ?_
          refine ez_ifF (zt_nlt (a := m - b) (b := (e - b) / 8) (by omega) (by omega)) ?_
          refine ez_go ez_h87 3 (pc' := 102) (L' := [some (.ref 0), some (.int (nI (b))), some (.int (nI (e))), some (.int (nI (bud))), some (.int (nI (e - b))), some (.int (nI (m))), some (.int (zs_z true)), some (.int (nI (bud)))]) (st' := [.int ((nI (e)) - (nI (m)))]) (w' := mz_w A (mfls, mfn, mprt, mwtg, zs_z true, mwf, mwt, mwb) U T) rfl ?_
          refine ez_top (y := nI (e - m)) (pk_sub (by omega)) ?_
          refine ez_go ez_h87 2 (pc' := 104) (L' := [some (.ref 0), some (.int (nI (b))), some (.int (nI (e))), some (.int (nI (bud))), some (.int (nI (e - b))), some (.int (nI (m))), some (.int (zs_z true)), some (.int (nI (bud)))]) (st' := [.int ((nI (e - m)) - (nI (1)))]) (w' := mz_w A (mfls, mfn, mprt, mwtg, zs_z true, mwf, mwt, mwb) U T) rfl ?_
          refine ez_top (y := nI ((e - m) - 1)) (pk_sub (by omega)) ?_
          refine ez_go ez_h87 3 (pc' := 109) (L' := [some (.ref 0), some (.int (nI (b))), some (.int (nI (e))), some (.int (nI (bud))), some (.int (nI (e - b))), some (.int (nI (m))), some (.int (zs_z true)), some (.int (nI (bud)))]) (st' := [.int ((nI (e - b)) / (nI (8))), .int (nI ((e - m) - 1))]) (w' := mz_w A (mfls, mfn, mprt, mwtg, zs_z true, mwf, mwt, mwb) U T) rfl ?_
          refine ez_top (y := nI ((e - b) / 8)) (pk_div (by omega) (by omega) (by omega)) ?_
          refine ez_go ez_h87 1 (pc' := bif decide ((nI ((e - b) / 8)) ≤ (nI ((e - m) - 1))) then 158 else 112) (L' := [some (.ref 0), some (.int (nI (b))), some (.int (nI (e))), some (.int (nI (bud))), some (.int (nI (e - b))), some (.int (nI (m))), some (.int (zs_z true)), some (.int (nI (bud)))]) (st' := []) (w' := mz_w A (mfls, mfn, mprt, mwtg, zs_z true, mwf, mwt, mwb) U T) rfl ?_
          refine ez_ifT (zt_le (a := (e - b) / 8) (b := (e - m) - 1) (by omega) (by omega)) ?_
          refine ez_go ez_h87 2 (pc' := bif decide ((zs_z true) = 0) then 190 else 163) (L' := [some (.ref 0), some (.int (nI (b))), some (.int (nI (e))), some (.int (nI (bud))), some (.int (nI (e - b))), some (.int (nI (m))), some (.int (zs_z true)), some (.int (nI (bud)))]) (st' := []) (w' := mz_w A (mfls, mfn, mprt, mwtg, zs_z true, mwf, mwt, mwb) U T) rfl ?_
          refine ez_ifF (zz_t rfl) ?_
          refine ez_go ez_h87 5 (pc' := 169) (L' := [some (.ref 0), some (.int (nI (b))), some (.int (nI (e))), some (.int (nI (bud))), some (.int (nI (e - b))), some (.int (nI (m))), some (.int (zs_z true)), some (.int (nI (bud)))]) (st' := [.int (nI (1)), .int (nI (1)), .int (nI (m)), .int (nI (b)), .ref 0]) (w' := mz_w A (mfls, mfn, mprt, mwtg, zs_z true, mwf, mwt, mwb) U T) rfl ?_
          refine ez_cl ez_h87 rfl rfl ?_
          refine m1 _ (mfls, mfn, mprt, mwtg, zs_z true, mwf, mwt, mwb) U T _ hA (fun A106 hA106 => ?_)
          refine ez_go ez_h87 1 (pc' := bif decide ((zs_z true) = 0) then 190 else 175) (L' := [some (.ref 0), some (.int (nI (b))), some (.int (nI (e))), some (.int (nI (bud))), some (.int (nI (e - b))), some (.int (nI (m))), some (.int (zs_z true)), some (.int (nI (bud)))]) (st' := []) (w' := mz_w A106 (mfls, mfn, mprt, mwtg, zs_z true, mwf, mwt, mwb) U T) rfl ?_
          refine ez_ifF (zz_t rfl) ?_
          refine ez_go ez_h87 4 (pc' := 180) (L' := [some (.ref 0), some (.int (nI (b))), some (.int (nI (e))), some (.int (nI (bud))), some (.int (nI (e - b))), some (.int (nI (m))), some (.int (zs_z true)), some (.int (nI (bud)))]) (st' := [.int ((nI (m)) + (nI (1))), .ref 0]) (w' := mz_w A106 (mfls, mfn, mprt, mwtg, zs_z true, mwf, mwt, mwb) U T) rfl ?_
          refine ez_top (y := nI (m + 1)) (nI_add _ _) ?_
          refine ez_go ez_h87 3 (pc' := 183) (L' := [some (.ref 0), some (.int (nI (b))), some (.int (nI (e))), some (.int (nI (bud))), some (.int (nI (e - b))), some (.int (nI (m))), some (.int (zs_z true)), some (.int (nI (bud)))]) (st' := [.int (nI (1)), .int (nI (1)), .int (nI (e)), .int (nI (m + 1)), .ref 0]) (w' := mz_w A106 (mfls, mfn, mprt, mwtg, zs_z true, mwf, mwt, mwb) U T) rfl ?_
          refine ez_cl ez_h87 rfl rfl ?_
          refine m2 _ (mfls, mfn, mprt, mwtg, zs_z true, mwf, mwt, mwb) U T _ hA106 (fun A107 hA107 => ?_)
          refine ez_go ez_h87 1 (pc' := bif decide ((zs_z true) = 0) then 190 else 189) (L' := [some (.ref 0), some (.int (nI (b))), some (.int (nI (e))), some (.int (nI (bud))), some (.int (nI (e - b))), some (.int (nI (m))), some (.int (zs_z true)), some (.int (nI (bud)))]) (st' := []) (w' := mz_w A107 (mfls, mfn, mprt, mwtg, zs_z true, mwf, mwt, mwb) U T) rfl ?_
          refine ez_ifF (zz_t rfl) ?_
          exact ez_vret rfl ez_h87 rfl rfl (kT rfl _ _ _ hA107 (Int64.add_zero _).symm (Int64.add_zero _).symm)
