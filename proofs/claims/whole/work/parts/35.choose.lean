/-- the pivot comes to b; one that is not less lies behind it -/
theorem zk_choose {E : ze_T} (hE : ze_ok E) {b e : Nat} (hs : b + 24 ≤ e) (he : e ≤ ze_n E) {row : Nat → Nat} {g : zs_G} (hw : zr_ok E row g) :
    ∃ (row' : Nat → Nat) (g' : zs_G) (s : Nat), b < s ∧ s < e ∧ zr_ok E row' g' ∧ zg_le E g g' ∧ zp_in row row' b e ∧ zs_K (ze_md E) (ze_ka E) g' (row' b) (row' s) ∧
      (∀ (r : cz_Row) (q : cz_Qk) (u : cz_Rn) (bb : cz_Bn) (post : Option Value → ez_W → Prop), cr_R E row g r → q.2.1 = nI b → q.2.2.1 = nI e → (∀ r' : cz_Row, cr_R E row' g' r' → post none (cz_w r' q u bb)) → ez_m 15 [.ref 4, .int (nI ((e - b) / 2)), .int (nI (if 128 < e - b then 1 else 0))] (cz_w r q u bb) post) ∧
      mr_M E 84 [.ref 0, .int (nI b), .int (nI e)] row g none row' g' := by
  have hn := hE.1
  by_cases hl : 128 < e - b
  · obtain ⟨w1, g1, o1, l1, p1, x1, y1, c1, m1⟩ := zk_three hE (i := b) (j := b + (e - b) / 2) (k := e - 1) (by omega) (by omega) (by omega) (by omega) (by omega) (by omega) hw
    obtain ⟨w2, g2, o2, l2, p2, x2, y2, c2, m2⟩ := zk_three hE (i := b + 1) (j := b + (e - b) / 2 - 1) (k := e - 2) (by omega) (by omega) (by omega) (by omega) (by omega) (by omega) o1
    obtain ⟨w3, g3, o3, l3, p3, x3, y3, c3, m3⟩ := zk_three hE (i := b + 2) (j := b + (e - b) / 2 + 1) (k := e - 3) (by omega) (by omega) (by omega) (by omega) (by omega) (by omega) o2
    obtain ⟨w4, g4, o4, l4, p4, x4, y4, c4, m4⟩ := zk_three hE (i := b + (e - b) / 2 - 1) (j := b + (e - b) / 2) (k := b + (e - b) / 2 + 1) (by omega) (by omega) (by omega) (by omega) (by omega) (by omega) o3
    refine ⟨zs_sw w4 b (b + (e - b) / 2), g4, b + (e - b) / 2 + 1, by omega, by omega, o4.sw (by omega) (by omega), ((l1.tr l2).tr l3).tr l4, ((((p1 b e (by omega) (by omega) (by omega) (by omega) (by omega) (by omega)).tr (p2 b e (by omega) (by omega) (by omega) (by omega) (by omega) (by omega))).tr (p3 b e (by omega) (by omega) (by omega) (by omega) (by omega) (by omega))).tr (p4 b e (by omega) (by omega) (by omega) (by omega) (by omega) (by omega))).tr (zp_in.sw w4 (by omega) (by omega)), ?_, fun r q u bb post hr e1 e2 kk => ?_, ?_⟩
    · rw [(zk_swp (by omega)).1, zk_swo (by omega) (by omega)]; exact y4
    · obtain ⟨wtg, fr, to, bud, fst, mid, wp, fls, prt, wf, wt, wb⟩ := q
      replace e1 : fr = nI b := e1
      replace e2 : to = nI e := e2
      subst e1 e2
      rw [if_pos hl]
      refine ez_m.of (L := [some (.ref 4), some (.int (nI ((e - b) / 2))), some (.int (nI (1))), none]) rfl rfl rfl ?_
      refine ez_go ez_h15 4 (pc' := 6) (L' := [some (.ref 4), some (.int (nI ((e - b) / 2))), some (.int (nI (1))), none]) (st' := [.int ((nI (b)) + (nI ((e - b) / 2)))]) (w' := cz_w r (wtg, nI (b), nI (e), bud, fst, mid, wp, fls, prt, wf, wt, wb) u bb) rfl ?_
      refine ez_top (y := nI (b + ((e - b) / 2))) (nI_add _ _) ?_
      refine ez_go ez_h15 3 (pc' := bif decide ((nI (1)) = (nI 0)) then 90 else 11) (L' := [some (.ref 4), some (.int (nI ((e - b) / 2))), some (.int (nI (1))), some (.int (nI (b + ((e - b) / 2))))]) (st' := []) (w' := cz_w r (wtg, nI (b), nI (e), bud, fst, mid, wp, fls, prt, wf, wt, wb) u bb) rfl ?_
      refine ez_ifF (zt_ne (by omega) (by omega) (by omega)) ?_
      refine ez_go ez_h15 8 (pc' := 23) (L' := [some (.ref 4), some (.int (nI ((e - b) / 2))), some (.int (nI (1))), some (.int (nI (b + ((e - b) / 2))))]) (st' := [.int ((nI (e)) - (nI (1))), .int (nI (b + ((e - b) / 2))), .int (nI (b)), .ref 4]) (w' := cz_w r (wtg, nI (b), nI (e), bud, fst, mid, wp, fls, prt, wf, wt, wb) u bb) rfl ?_
      refine ez_top (y := nI (e - 1)) (pk_sub (by omega)) ?_
      refine ez_cl ez_h15 rfl rfl ?_
      refine c1 _ (wtg, nI (b), nI (e), bud, fst, mid, wp, fls, prt, wf, wt, wb) u bb _ hr (fun r71 hr71 => ?_)
      refine ez_go ez_h15 5 (pc' := 33) (L' := [some (.ref 4), some (.int (nI ((e - b) / 2))), some (.int (nI (1))), some (.int (nI (b + ((e - b) / 2))))]) (st' := [.int ((nI (b)) + (nI (1))), .ref 4]) (w' := cz_w r71 (wtg, nI (b), nI (e), bud, fst, mid, wp, fls, prt, wf, wt, wb) u bb) rfl ?_
      refine ez_top (y := nI (b + 1)) (nI_add _ _) ?_
      refine ez_go ez_h15 3 (pc' := 36) (L' := [some (.ref 4), some (.int (nI ((e - b) / 2))), some (.int (nI (1))), some (.int (nI (b + ((e - b) / 2))))]) (st' := [.int ((nI (b + ((e - b) / 2))) - (nI (1))), .int (nI (b + 1)), .ref 4]) (w' := cz_w r71 (wtg, nI (b), nI (e), bud, fst, mid, wp, fls, prt, wf, wt, wb) u bb) rfl ?_
      refine ez_top (y := nI ((b + ((e - b) / 2)) - 1)) (pk_sub (by omega)) ?_
      refine ez_go ez_h15 4 (pc' := 42) (L' := [some (.ref 4), some (.int (nI ((e - b) / 2))), some (.int (nI (1))), some (.int (nI (b + ((e - b) / 2))))]) (st' := [.int ((nI (e)) - (nI (2))), .int (nI ((b + ((e - b) / 2)) - 1)), .int (nI (b + 1)), .ref 4]) (w' := cz_w r71 (wtg, nI (b), nI (e), bud, fst, mid, wp, fls, prt, wf, wt, wb) u bb) rfl ?_
      refine ez_top (y := nI (e - 2)) (pk_sub (by omega)) ?_
      refine ez_cl ez_h15 rfl rfl ?_
      refine c2 _ (wtg, nI (b), nI (e), bud, fst, mid, wp, fls, prt, wf, wt, wb) u bb _ hr71 (fun r72 hr72 => ?_)
      refine ez_go ez_h15 5 (pc' := 52) (L' := [some (.ref 4), some (.int (nI ((e - b) / 2))), some (.int (nI (1))), some (.int (nI (b + ((e - b) / 2))))]) (st' := [.int ((nI (b)) + (nI (2))), .ref 4]) (w' := cz_w r72 (wtg, nI (b), nI (e), bud, fst, mid, wp, fls, prt, wf, wt, wb) u bb) rfl ?_
      refine ez_top (y := nI (b + 2)) (nI_add _ _) ?_
      refine ez_go ez_h15 3 (pc' := 55) (L' := [some (.ref 4), some (.int (nI ((e - b) / 2))), some (.int (nI (1))), some (.int (nI (b + ((e - b) / 2))))]) (st' := [.int ((nI (b + ((e - b) / 2))) + (nI (1))), .int (nI (b + 2)), .ref 4]) (w' := cz_w r72 (wtg, nI (b), nI (e), bud, fst, mid, wp, fls, prt, wf, wt, wb) u bb) rfl ?_
      refine ez_top (y := nI ((b + ((e - b) / 2)) + 1)) (nI_add _ _) ?_
      refine ez_go ez_h15 4 (pc' := 61) (L' := [some (.ref 4), some (.int (nI ((e - b) / 2))), some (.int (nI (1))), some (.int (nI (b + ((e - b) / 2))))]) (st' := [.int ((nI (e)) - (nI (3))), .int (nI ((b + ((e - b) / 2)) + 1)), .int (nI (b + 2)), .ref 4]) (w' := cz_w r72 (wtg, nI (b), nI (e), bud, fst, mid, wp, fls, prt, wf, wt, wb) u bb) rfl ?_
      refine ez_top (y := nI (e - 3)) (pk_sub (by omega)) ?_
      refine ez_cl ez_h15 rfl rfl ?_
      refine c3 _ (wtg, nI (b), nI (e), bud, fst, mid, wp, fls, prt, wf, wt, wb) u bb _ hr72 (fun r73 hr73 => ?_)
      refine ez_go ez_h15 4 (pc' := 68) (L' := [some (.ref 4), some (.int (nI ((e - b) / 2))), some (.int (nI (1))), some (.int (nI (b + ((e - b) / 2))))]) (st' := [.int ((nI (b + ((e - b) / 2))) - (nI (1))), .ref 4]) (w' := cz_w r73 (wtg, nI (b), nI (e), bud, fst, mid, wp, fls, prt, wf, wt, wb) u bb) rfl ?_
      refine ez_top (y := nI ((b + ((e - b) / 2)) - 1)) (pk_sub (by omega)) ?_
      refine ez_go ez_h15 4 (pc' := 72) (L' := [some (.ref 4), some (.int (nI ((e - b) / 2))), some (.int (nI (1))), some (.int (nI (b + ((e - b) / 2))))]) (st' := [.int ((nI (b + ((e - b) / 2))) + (nI (1))), .int (nI (b + ((e - b) / 2))), .int (nI ((b + ((e - b) / 2)) - 1)), .ref 4]) (w' := cz_w r73 (wtg, nI (b), nI (e), bud, fst, mid, wp, fls, prt, wf, wt, wb) u bb) rfl ?_
      refine ez_top (y := nI ((b + ((e - b) / 2)) + 1)) (nI_add _ _) ?_
      refine ez_cl ez_h15 rfl rfl ?_
      refine c4 _ (wtg, nI (b), nI (e), bud, fst, mid, wp, fls, prt, wf, wt, wb) u bb _ hr73 (fun r74 hr74 => ?_)
      refine ez_go ez_h15 5 (pc' := 84) (L' := [some (.ref 4), some (.int (nI ((e - b) / 2))), some (.int (nI (1))), some (.int (nI (b + ((e - b) / 2))))]) (st' := [.int (nI (b + ((e - b) / 2))), .int (nI (b)), .ref 1]) (w' := cz_w r74 (wtg, nI (b), nI (e), bud, fst, mid, wp, fls, prt, wf, wt, wb) u bb) rfl ?_
      refine ez_cl ez_h15 rfl rfl ?_
      refine cr_swap hE hr74 (i := b) (j := b + ((e - b) / 2)) (by omega) (by omega) (wtg, nI (b), nI (e), bud, fst, mid, wp, fls, prt, wf, wt, wb) u bb (fun r34 hr34 => ?_)
      refine ez_go ez_h15 1 (pc' := 105) (L' := [some (.ref 4), some (.int (nI ((e - b) / 2))), some (.int (nI (1))), some (.int (nI (b + ((e - b) / 2))))]) (st' := []) (w' := cz_w r34 (wtg, nI (b), nI (e), bud, fst, mid, wp, fls, prt, wf, wt, wb) u bb) rfl ?_
      exact ez_vret rfl ez_h15 rfl rfl (kk _ hr34)
    · refine mr_H.m (L := [some (.ref 0), some (.int (nI (b))), some (.int (nI (e))), none]) (fun A Q U T post hA kk => ?_) rfl rfl rfl
      refine ez_go ez_h84 3 (pc' := 3) (L' := [some (.ref 0), some (.int (nI (b))), some (.int (nI (e))), none]) (st' := [.int ((nI (e)) - (nI (b)))]) (w' := mz_w A Q U T) rfl ?_
      refine ez_top (y := nI (e - b)) (pk_sub (by omega)) ?_
      refine ez_go ez_h84 2 (pc' := 5) (L' := [some (.ref 0), some (.int (nI (b))), some (.int (nI (e))), none]) (st' := [.int ((nI (e - b)) / (nI (2)))]) (w' := mz_w A Q U T) rfl ?_
      refine ez_top (y := nI ((e - b) / 2)) (pk_div (by omega) (by omega) (by omega)) ?_
      refine ez_go ez_h84 4 (pc' := 9) (L' := [some (.ref 0), some (.int (nI (b))), some (.int (nI (e))), some (.int (nI ((e - b) / 2)))]) (st' := [.int ((nI (e)) - (nI (b)))]) (w' := mz_w A Q U T) rfl ?_
      refine ez_top (y := nI (e - b)) (pk_sub (by omega)) ?_
      refine ez_go ez_h84 2 (pc' := bif decide ((nI (e - b)) ≤ (nI (128))) then 84 else 15) (L' := [some (.ref 0), some (.int (nI (b))), some (.int (nI (e))), some (.int (nI ((e - b) / 2)))]) (st' := []) (w' := mz_w A Q U T) rfl ?_
      refine ez_ifF (zt_nle (a := e - b) (b := 128) (by omega) (by omega)) ?_
      refine ez_go ez_h84 5 (pc' := 20) (L' := [some (.ref 0), some (.int (nI (b))), some (.int (nI (e))), some (.int (nI ((e - b) / 2)))]) (st' := [.int ((nI (b)) + (nI ((e - b) / 2))), .int (nI (b)), .ref 0]) (w' := mz_w A Q U T) rfl ?_
      refine ez_top (y := nI (b + ((e - b) / 2))) (nI_add _ _) ?_
      refine ez_go ez_h84 3 (pc' := 23) (L' := [some (.ref 0), some (.int (nI (b))), some (.int (nI (e))), some (.int (nI ((e - b) / 2)))]) (st' := [.int ((nI (e)) - (nI (1))), .int (nI (b + ((e - b) / 2))), .int (nI (b)), .ref 0]) (w' := mz_w A Q U T) rfl ?_
      refine ez_top (y := nI (e - 1)) (pk_sub (by omega)) ?_
      refine ez_cl ez_h84 rfl rfl ?_
      refine m1 _ Q U T _ hA (fun A71 hA71 => ?_)
      refine ez_go ez_h84 4 (pc' := 30) (L' := [some (.ref 0), some (.int (nI (b))), some (.int (nI (e))), some (.int (nI ((e - b) / 2)))]) (st' := [.int ((nI (b)) + (nI (1))), .ref 0]) (w' := mz_w A71 Q U T) rfl ?_
      refine ez_top (y := nI (b + 1)) (nI_add _ _) ?_
      refine ez_go ez_h84 3 (pc' := 33) (L' := [some (.ref 0), some (.int (nI (b))), some (.int (nI (e))), some (.int (nI ((e - b) / 2)))]) (st' := [.int ((nI (b)) + (nI ((e - b) / 2))), .int (nI (b + 1)), .ref 0]) (w' := mz_w A71 Q U T) rfl ?_
      refine ez_top (y := nI (b + ((e - b) / 2))) (nI_add _ _) ?_
      refine ez_go ez_h84 2 (pc' := 35) (L' := [some (.ref 0), some (.int (nI (b))), some (.int (nI (e))), some (.int (nI ((e - b) / 2)))]) (st' := [.int ((nI (b + ((e - b) / 2))) - (nI (1))), .int (nI (b + 1)), .ref 0]) (w' := mz_w A71 Q U T) rfl ?_
      refine ez_top (y := nI ((b + ((e - b) / 2)) - 1)) (pk_sub (by omega)) ?_
      refine ez_go ez_h84 3 (pc' := 38) (L' := [some (.ref 0), some (.int (nI (b))), some (.int (nI (e))), some (.int (nI ((e - b) / 2)))]) (st' := [.int ((nI (e)) - (nI (2))), .int (nI ((b + ((e - b) / 2)) - 1)), .int (nI (b + 1)), .ref 0]) (w' := mz_w A71 Q U T) rfl ?_
      refine ez_top (y := nI (e - 2)) (pk_sub (by omega)) ?_
      refine ez_cl ez_h84 rfl rfl ?_
      refine m2 _ Q U T _ hA71 (fun A72 hA72 => ?_)
      refine ez_go ez_h84 4 (pc' := 45) (L' := [some (.ref 0), some (.int (nI (b))), some (.int (nI (e))), some (.int (nI ((e - b) / 2)))]) (st' := [.int ((nI (b)) + (nI (2))), .ref 0]) (w' := mz_w A72 Q U T) rfl ?_
      refine ez_top (y := nI (b + 2)) (nI_add _ _) ?_
      refine ez_go ez_h84 3 (pc' := 48) (L' := [some (.ref 0), some (.int (nI (b))), some (.int (nI (e))), some (.int (nI ((e - b) / 2)))]) (st' := [.int ((nI (b)) + (nI ((e - b) / 2))), .int (nI (b + 2)), .ref 0]) (w' := mz_w A72 Q U T) rfl ?_
      refine ez_top (y := nI (b + ((e - b) / 2))) (nI_add _ _) ?_
      refine ez_go ez_h84 2 (pc' := 50) (L' := [some (.ref 0), some (.int (nI (b))), some (.int (nI (e))), some (.int (nI ((e - b) / 2)))]) (st' := [.int ((nI (b + ((e - b) / 2))) + (nI (1))), .int (nI (b + 2)), .ref 0]) (w' := mz_w A72 Q U T) rfl ?_
      refine ez_top (y := nI ((b + ((e - b) / 2)) + 1)) (nI_add _ _) ?_
      refine ez_go ez_h84 3 (pc' := 53) (L' := [some (.ref 0), some (.int (nI (b))), some (.int (nI (e))), some (.int (nI ((e - b) / 2)))]) (st' := [.int ((nI (e)) - (nI (3))), .int (nI ((b + ((e - b) / 2)) + 1)), .int (nI (b + 2)), .ref 0]) (w' := mz_w A72 Q U T) rfl ?_
      refine ez_top (y := nI (e - 3)) (pk_sub (by omega)) ?_
      refine ez_cl ez_h84 rfl rfl ?_
      refine m3 _ Q U T _ hA72 (fun A73 hA73 => ?_)
      refine ez_go ez_h84 4 (pc' := 60) (L' := [some (.ref 0), some (.int (nI (b))), some (.int (nI (e))), some (.int (nI ((e - b) / 2)))]) (st' := [.int ((nI (b)) + (nI ((e - b) / 2))), .ref 0]) (w' := mz_w A73 Q U T) rfl ?_
      refine ez_top (y := nI (b + ((e - b) / 2))) (nI_add _ _) ?_
      refine ez_go ez_h84 2 (pc' := 62) (L' := [some (.ref 0), some (.int (nI (b))), some (.int (nI (e))), some (.int (nI ((e - b) / 2)))]) (st' := [.int ((nI (b + ((e - b) / 2))) - (nI (1))), .ref 0]) (w' := mz_w A73 Q U T) rfl ?_
      refine ez_top (y := nI ((b + ((e - b) / 2)) - 1)) (pk_sub (by omega)) ?_
      refine ez_go ez_h84 3 (pc' := 65) (L' := [some (.ref 0), some (.int (nI (b))), some (.int (nI (e))), some (.int (nI ((e - b) / 2)))]) (st' := [.int ((nI (b)) + (nI ((e - b) / 2))), .int (nI ((b + ((e - b) / 2)) - 1)), .ref 0]) (w' := mz_w A73 Q U T) rfl ?_
      refine ez_top (y := nI (b + ((e - b) / 2))) (nI_add _ _) ?_
      refine ez_go ez_h84 3 (pc' := 68) (L' := [some (.ref 0), some (.int (nI (b))), some (.int (nI (e))), some (.int (nI ((e - b) / 2)))]) (st' := [.int ((nI (b)) + (nI ((e - b) / 2))), .int (nI (b + ((e - b) / 2))), .int (nI ((b + ((e - b) / 2)) - 1)), .ref 0]) (w' := mz_w A73 Q U T) rfl ?_
      refine ez_top (y := nI (b + ((e - b) / 2))) (nI_add _ _) ?_
      refine ez_go ez_h84 2 (pc' := 70) (L' := [some (.ref 0), some (.int (nI (b))), some (.int (nI (e))), some (.int (nI ((e - b) / 2)))]) (st' := [.int ((nI (b + ((e - b) / 2))) + (nI (1))), .int (nI (b + ((e - b) / 2))), .int (nI ((b + ((e - b) / 2)) - 1)), .ref 0]) (w' := mz_w A73 Q U T) rfl ?_
      refine ez_top (y := nI ((b + ((e - b) / 2)) + 1)) (nI_add _ _) ?_
      refine ez_cl ez_h84 rfl rfl ?_
      refine m4 _ Q U T _ hA73 (fun A74 hA74 => ?_)
      refine ez_go ez_h84 5 (pc' := 78) (L' := [some (.ref 0), some (.int (nI (b))), some (.int (nI (e))), some (.int (nI ((e - b) / 2)))]) (st' := [.int ((nI (b)) + (nI ((e - b) / 2))), .int (nI (b)), .ref 0]) (w' := mz_w A74 Q U T) rfl ?_
      refine ez_top (y := nI (b + ((e - b) / 2))) (nI_add _ _) ?_
      refine ez_cl ez_h84 rfl rfl ?_
      refine mr_swap hE hA74 (i := b) (j := b + ((e - b) / 2)) (by omega) (by omega) Q U T (fun A35 hA35 => ?_)
      refine ez_go ez_h84 1 (pc' := 95) (L' := [some (.ref 0), some (.int (nI (b))), some (.int (nI (e))), some (.int (nI ((e - b) / 2)))]) (st' := []) (w' := mz_w A35 Q U T) rfl ?_
      exact ez_vret rfl ez_h84 rfl rfl (kk _ hA35)
  · obtain ⟨w1, g1, o1, l1, p1, x1, y1, c1, m1⟩ := zk_three hE (i := b + (e - b) / 2) (j := b) (k := e - 1) (by omega) (by omega) (by omega) (by omega) (by omega) (by omega) hw
    refine ⟨w1, g1, e - 1, by omega, by omega, o1, l1, p1 b e (by omega) (by omega) (by omega) (by omega) (by omega) (by omega), y1, fun r q u bb post hr e1 e2 kk => ?_, ?_⟩
    · obtain ⟨wtg, fr, to, bud, fst, mid, wp, fls, prt, wf, wt, wb⟩ := q
      replace e1 : fr = nI b := e1
      replace e2 : to = nI e := e2
      subst e1 e2
      rw [if_neg hl]
      refine ez_m.of (L := [some (.ref 4), some (.int (nI ((e - b) / 2))), some (.int (nI (0))), none]) rfl rfl rfl ?_
      refine ez_go ez_h15 4 (pc' := 6) (L' := [some (.ref 4), some (.int (nI ((e - b) / 2))), some (.int (nI (0))), none]) (st' := [.int ((nI (b)) + (nI ((e - b) / 2)))]) (w' := cz_w r (wtg, nI (b), nI (e), bud, fst, mid, wp, fls, prt, wf, wt, wb) u bb) rfl ?_
      refine ez_top (y := nI (b + ((e - b) / 2))) (nI_add _ _) ?_
      refine ez_go ez_h15 3 (pc' := bif decide ((nI (0)) = (nI 0)) then 90 else 11) (L' := [some (.ref 4), some (.int (nI ((e - b) / 2))), some (.int (nI (0))), some (.int (nI (b + ((e - b) / 2))))]) (st' := []) (w' := cz_w r (wtg, nI (b), nI (e), bud, fst, mid, wp, fls, prt, wf, wt, wb) u bb) rfl ?_
      refine ez_ifT (zt_eq (by omega)) ?_
      refine ez_go ez_h15 8 (pc' := 102) (L' := [some (.ref 4), some (.int (nI ((e - b) / 2))), some (.int (nI (0))), some (.int (nI (b + ((e - b) / 2))))]) (st' := [.int ((nI (e)) - (nI (1))), .int (nI (b)), .int (nI (b + ((e - b) / 2))), .ref 4]) (w' := cz_w r (wtg, nI (b), nI (e), bud, fst, mid, wp, fls, prt, wf, wt, wb) u bb) rfl ?_
      refine ez_top (y := nI (e - 1)) (pk_sub (by omega)) ?_
      refine ez_cl ez_h15 rfl rfl ?_
      refine c1 _ (wtg, nI (b), nI (e), bud, fst, mid, wp, fls, prt, wf, wt, wb) u bb _ hr (fun r71 hr71 => ?_)
      exact ez_vret rfl ez_h15 rfl rfl (kk _ hr71)
    · refine mr_H.m (L := [some (.ref 0), some (.int (nI (b))), some (.int (nI (e))), none]) (fun A Q U T post hA kk => ?_) rfl rfl rfl
      refine ez_go ez_h84 3 (pc' := 3) (L' := [some (.ref 0), some (.int (nI (b))), some (.int (nI (e))), none]) (st' := [.int ((nI (e)) - (nI (b)))]) (w' := mz_w A Q U T) rfl ?_
      refine ez_top (y := nI (e - b)) (pk_sub (by omega)) ?_
      refine ez_go ez_h84 2 (pc' := 5) (L' := [some (.ref 0), some (.int (nI (b))), some (.int (nI (e))), none]) (st' := [.int ((nI (e - b)) / (nI (2)))]) (w' := mz_w A Q U T) rfl ?_
      refine ez_top (y := nI ((e - b) / 2)) (pk_div (by omega) (by omega) (by omega)) ?_
      refine ez_go ez_h84 4 (pc' := 9) (L' := [some (.ref 0), some (.int (nI (b))), some (.int (nI (e))), some (.int (nI ((e - b) / 2)))]) (st' := [.int ((nI (e)) - (nI (b)))]) (w' := mz_w A Q U T) rfl ?_
      refine ez_top (y := nI (e - b)) (pk_sub (by omega)) ?_
      refine ez_go ez_h84 2 (pc' := bif decide ((nI (e - b)) ≤ (nI (128))) then 84 else 15) (L' := [some (.ref 0), some (.int (nI (b))), some (.int (nI (e))), some (.int (nI ((e - b) / 2)))]) (st' := []) (w' := mz_w A Q U T) rfl ?_
      refine ez_ifT (zt_le (a := e - b) (b := 128) (by omega) (by omega)) ?_
      refine ez_go ez_h84 4 (pc' := 88) (L' := [some (.ref 0), some (.int (nI (b))), some (.int (nI (e))), some (.int (nI ((e - b) / 2)))]) (st' := [.int ((nI (b)) + (nI ((e - b) / 2))), .ref 0]) (w' := mz_w A Q U T) rfl ?_
      refine ez_top (y := nI (b + ((e - b) / 2))) (nI_add _ _) ?_
      refine ez_go ez_h84 4 (pc' := 92) (L' := [some (.ref 0), some (.int (nI (b))), some (.int (nI (e))), some (.int (nI ((e - b) / 2)))]) (st' := [.int ((nI (e)) - (nI (1))), .int (nI (b)), .int (nI (b + ((e - b) / 2))), .ref 0]) (w' := mz_w A Q U T) rfl ?_
      refine ez_top (y := nI (e - 1)) (pk_sub (by omega)) ?_
      refine ez_cl ez_h84 rfl rfl ?_
      refine m1 _ Q U T _ hA (fun A71 hA71 => ?_)
      exact ez_vret rfl ez_h84 rfl rfl (kk _ hA71)
theorem zk_dGm {E : ze_T} {row : Nat → Nat} {g g' : zs_G} {st x v : Nat} (h1 : 1 ≤ st) (h : cr_H E 22 4 [some (.ref 4), some (.int (nI (st))), some (.int (nI (ze_pi E (x)))), some (.int (nI (st - 1)))] row g (some (.int (nI v))) row g') : cr_M E 22 [.ref 4, .int (nI st), .int (nI (ze_pi E x))] row g (some (.int (nI v))) row g' := by
  refine cr_H.m (L := [some (.ref 4), some (.int (nI (st))), some (.int (nI (ze_pi E (x)))), none]) (fun r q u bb post hr kk => ?_) rfl rfl rfl
  refine ez_go ez_h22 3 (pc' := 3) (L' := [some (.ref 4), some (.int (nI (st))), some (.int (nI (ze_pi E (x)))), none]) (st' := [.int ((nI (st)) - (nI (1)))]) (w' := cz_w r q u bb) rfl ?_
  refine ez_top (y := nI (st - 1)) (pk_sub (by omega)) ?_
  refine ez_go ez_h22 1 (pc' := 4) (L' := [some (.ref 4), some (.int (nI (st))), some (.int (nI (ze_pi E (x)))), some (.int (nI (st - 1)))]) (st' := []) (w' := cz_w r q u bb) rfl ?_
  exact h _ q u bb post hr kk
theorem zk_uGm {E : ze_T} {row : Nat → Nat} {g g' : zs_G} {st x v : Nat} (h : cr_H E 21 4 [some (.ref 4), some (.int (nI (st))), some (.int (nI (ze_pi E (x)))), some (.int (nI (st + 1)))] row g (some (.int (nI v))) row g') : cr_M E 21 [.ref 4, .int (nI st), .int (nI (ze_pi E x))] row g (some (.int (nI v))) row g' := by
  refine cr_H.m (L := [some (.ref 4), some (.int (nI (st))), some (.int (nI (ze_pi E (x)))), none]) (fun r q u bb post hr kk => ?_) rfl rfl rfl
  refine ez_go ez_h21 3 (pc' := 3) (L' := [some (.ref 4), some (.int (nI (st))), some (.int (nI (ze_pi E (x)))), none]) (st' := [.int ((nI (st)) + (nI (1)))]) (w' := cz_w r q u bb) rfl ?_
  refine ez_top (y := nI (st + 1)) (nI_add _ _) ?_
  refine ez_go ez_h21 1 (pc' := 4) (L' := [some (.ref 4), some (.int (nI (st))), some (.int (nI (ze_pi E (x)))), some (.int (nI (st + 1)))]) (st' := []) (w' := cz_w r q u bb) rfl ?_
  exact h _ q u bb post hr kk
theorem zk_uLm {E : ze_T} {row : Nat → Nat} {g g' : zs_G} {st x v : Nat} (h : cr_H E 20 4 [some (.ref 4), some (.int (nI (st))), some (.int (nI (ze_pi E (x)))), some (.int (nI (st + 1)))] row g (some (.int (nI v))) row g') : cr_M E 20 [.ref 4, .int (nI st), .int (nI (ze_pi E x))] row g (some (.int (nI v))) row g' := by
  refine cr_H.m (L := [some (.ref 4), some (.int (nI (st))), some (.int (nI (ze_pi E (x)))), none]) (fun r q u bb post hr kk => ?_) rfl rfl rfl
  refine ez_go ez_h20 3 (pc' := 3) (L' := [some (.ref 4), some (.int (nI (st))), some (.int (nI (ze_pi E (x)))), none]) (st' := [.int ((nI (st)) + (nI (1)))]) (w' := cz_w r q u bb) rfl ?_
  refine ez_top (y := nI (st + 1)) (nI_add _ _) ?_
  refine ez_go ez_h20 1 (pc' := 4) (L' := [some (.ref 4), some (.int (nI (st))), some (.int (nI (ze_pi E (x)))), some (.int (nI (st + 1)))]) (st' := []) (w' := cz_w r q u bb) rfl ?_
  exact h _ q u bb post hr kk
theorem zk_dLm {E : ze_T} {row : Nat → Nat} {g g' : zs_G} {st x v : Nat} (h1 : 1 ≤ st) (h : cr_H E 23 4 [some (.ref 4), some (.int (nI (st))), some (.int (nI (ze_pi E (x)))), some (.int (nI (st - 1)))] row g (some (.int (nI v))) row g') : cr_M E 23 [.ref 4, .int (nI st), .int (nI (ze_pi E x))] row g (some (.int (nI v))) row g' := by
  refine cr_H.m (L := [some (.ref 4), some (.int (nI (st))), some (.int (nI (ze_pi E (x)))), none]) (fun r q u bb post hr kk => ?_) rfl rfl rfl
  refine ez_go ez_h23 3 (pc' := 3) (L' := [some (.ref 4), some (.int (nI (st))), some (.int (nI (ze_pi E (x)))), none]) (st' := [.int ((nI (st)) - (nI (1)))]) (w' := cz_w r q u bb) rfl ?_
  refine ez_top (y := nI (st - 1)) (pk_sub (by omega)) ?_
  refine ez_go ez_h23 1 (pc' := 4) (L' := [some (.ref 4), some (.int (nI (st))), some (.int (nI (ze_pi E (x)))), some (.int (nI (st - 1)))]) (st' := []) (w' := cz_w r q u bb) rfl ?_
  exact h _ q u bb post hr kk
