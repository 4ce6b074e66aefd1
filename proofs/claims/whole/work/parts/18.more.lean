theorem cr_swap {E : ze_T} {row : Nat → Nat} {g : zs_G} {r : cz_Row} (hE : ze_ok E) (hr : cr_R E row g r) {i j : Nat} (hi : i < ze_n E) (hj : j < ze_n E) (q : cz_Qk) (u : cz_Rn) (b : cz_Bn) {post : Option Value → ez_W → Prop} (h : ∀ r' : cz_Row, cr_R E (zs_sw row i j) g r' → post none (cz_w r' q u b)) : ez_m 35 [.ref 1, .int (nI i), .int (nI j)] (cz_w r q u b) post := by
  have hn := hE.1
  refine ez_m.of (L := [some (.ref 1), some (.int (nI (i))), some (.int (nI (j))), none]) rfl rfl rfl ?_
  refine ez_go ez_h35 2 (pc' := 2) (L' := [some (.ref 1), some (.int (nI (i))), some (.int (nI (j))), none]) (st' := [.int (nI (i)), .ref 1]) (w' := cz_w r q u b) rfl ?_
  refine ez_cl ez_h35 rfl rfl ?_
  refine cr_at hE hr (k := i) (by omega) q u b ?_
  refine ez_go ez_h35 5 (pc' := 10) (L' := [some (.ref 1), some (.int (nI (i))), some (.int (nI (j))), some (.int (nI (ze_pi E (row i))))]) (st' := [.int (nI (j)), .ref 1, .int (nI (i)), .ref 1]) (w' := cz_w r q u b) rfl ?_
  refine ez_cl ez_h35 rfl rfl ?_
  refine cr_at hE hr (k := j) (by omega) q u b ?_
  refine ez_cl ez_h35 rfl rfl ?_
  refine cr_set hE hr (k := i) (x := row j) (by omega) q u b (fun r1 hr1 => ?_)
  refine ez_go ez_h35 3 (pc' := 19) (L' := [some (.ref 1), some (.int (nI (i))), some (.int (nI (j))), some (.int (nI (ze_pi E (row i))))]) (st' := [.int (nI (ze_pi E (row i))), .int (nI (j)), .ref 1]) (w' := cz_w r1 q u b) rfl ?_
  refine ez_cl ez_h35 rfl rfl ?_
  refine cr_set hE hr1 (k := j) (x := row i) (by omega) q u b (fun r2 hr2 => ?_)
  exact ez_vret rfl ez_h35 rfl rfl (h _ hr2)
theorem mr_lessAt {E : ze_T} {row : Nat → Nat} {g : zs_G} {A : mz_A} (hE : ze_ok E) (hA : mr_R E row g A) (hw : zr_ok E row g) {i j : Nat} (hi : i < ze_n E) (hj : j < ze_n E) (Q : mz_Q) (U : mz_U) (T : mz_T) {post : Option Value → ez_W → Prop} (h : ∀ A' : mz_A, mr_R E row (zs_g (ze_md E) (row i) (row j) g) A' → post (some (.int (zs_z (zs_b (ze_md E) (ze_ka E) (row i) (row j) g)))) (mz_w A' Q U T)) : ez_m 74 [.ref 0, .int (nI i), .int (nI j)] (mz_w A Q U T) post := by
  have hn := hE.1
  refine ez_m.of (L := [some (.ref 0), some (.int (nI (i))), some (.int (nI (j)))]) rfl rfl rfl ?_
  refine ez_go ez_h74 4 (pc' := 6) (L' := [some (.ref 0), some (.int (nI (i))), some (.int (nI (j)))]) (st' := [.int (nI (i)), .ref 4, .ref 0]) (w' := mz_w A Q U T) rfl ?_
  refine mr_ld ez_h74 rfl hE hA (k := i) (by omega) ?_
  refine ez_go ez_h74 3 (pc' := 12) (L' := [some (.ref 0), some (.int (nI (i))), some (.int (nI (j)))]) (st' := [.int (nI (j)), .ref 4, .int (nI (row i)), .ref 0]) (w' := mz_w A Q U T) rfl ?_
  refine mr_ld ez_h74 rfl hE hA (k := j) (by omega) ?_
  refine ez_cl ez_h74 rfl rfl ?_
  refine mr_less hE hA hw.2 (x := row i) (y := row j) (hw.1 i (by omega)) (hw.1 j (by omega)) Q U T (fun A3 hA3 => ?_)
  exact ez_zret rfl ez_h74 rfl rfl (zz_01 _) (h _ hA3)
