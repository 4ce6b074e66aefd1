/-! ===== sort and kill ===== -/
def zw_g0 : zs_G := (0, fun _ => none, none, 0)
theorem zw_fill {n : Nat} (hn : n ≤ 600) {w : Nat} {mord madv mcand mnx : Int32} {mcmp mlat : Int64} {mnum mset : Nat → Int32} {Q : mz_Q} {U : mz_U} {T : mz_T} {post : Option Value → ez_W → Prop} (kk : ∀ mrow' : Nat → Int32, (∀ j, j < n → mrow' j = nI j) → ez_E 97 33 [some (.ref 0), some (.int (nI (w))), none] [] (mz_w (nI n, mord, madv, mcand, mnx, mcmp, mlat, mnum, mset, mrow') Q U T) post) :
    ∀ (s k : Nat) (mrow : Nat → Int32), n ≤ k + s → k ≤ n → (∀ j, j < k → mrow j = nI j) → ez_E 97 12 [some (.ref 0), some (.int (nI (w))), some (.int (nI (k)))] [] (mz_w (nI n, mord, madv, mcand, mnx, mcmp, mlat, mnum, mset, mrow) Q U T) post := by
  intro s
  induction s with
  | zero =>
    intro k mrow h1 h2 h3
    refine ez_go ez_h97 4 (pc' := bif decide ((nI (n)) ≤ (nI (k))) then 33 else 20) (L' := [some (.ref 0), some (.int (nI (w))), some (.int (nI (k)))]) (st' := []) (w' := mz_w (nI (n), mord, madv, mcand, mnx, mcmp, mlat, mnum, mset, mrow) Q U T) rfl ?_
    refine ez_ifT (zt_le (a := n) (b := k) (by omega) (by omega)) ?_
    exact ez_E.le (ez_lc (ez_lc (ez_ln ez_l0))) (kk mrow (fun j hj => h3 j (by omega)))
  | succ s ih =>
    intro k mrow h1 h2 h3
    by_cases hk : n ≤ k
    · skip
      refine ez_go ez_h97 4 (pc' := bif decide ((nI (n)) ≤ (nI (k))) then 33 else 20) (L' := [some (.ref 0), some (.int (nI (w))), some (.int (nI (k)))]) (st' := []) (w' := mz_w (nI (n), mord, madv, mcand, mnx, mcmp, mlat, mnum, mset, mrow) Q U T) rfl ?_
      refine ez_ifT (zt_le (a := n) (b := k) (by omega) (by omega)) ?_
      exact ez_E.le (ez_lc (ez_lc (ez_ln ez_l0))) (kk mrow (fun j hj => h3 j (by omega)))
    · skip
      refine ez_go ez_h97 4 (pc' := bif decide ((nI (n)) ≤ (nI (k))) then 33 else 20) (L' := [some (.ref 0), some (.int (nI (w))), some (.int (nI (k)))]) (st' := []) (w' := mz_w (nI (n), mord, madv, mcand, mnx, mcmp, mlat, mnum, mset, mrow) Q U T) rfl ?_
      refine ez_ifF (zt_nle (a := n) (b := k) (by omega) (by omega)) ?_
      refine ez_go ez_h97 4 (pc' := 26) (L' := [some (.ref 0), some (.int (nI (w))), some (.int (nI (k)))]) (st' := [.int (nI (k)), .int (nI (k)), .ref 4]) (w' := mz_w (nI (n), mord, madv, mcand, mnx, mcmp, mlat, mnum, mset, mrow) Q U T) rfl ?_
      refine ez_ast ez_h97 rfl rfl (k) rfl (by omega) (by omega) ?_
      refine ez_inc ez_h97 rfl rfl (v := nI (k + 1)) (zi_1 _) rfl ?_
      refine ez_go ez_h97 1 (pc' := 12) (L' := [some (.ref 0), some (.int (nI (w))), some (.int (nI (k + 1)))]) (st' := []) (w' := mz_w (nI (n), mord, madv, mcand, mnx, mcmp, mlat, mnum, mset, (upd mrow k (nI (k)))) Q U T) rfl ?_
      refine ih (k + 1) _ (by omega) (by omega) (fun j hj => ?_)
      by_cases e : j = k
      · rw [e, upd_at]
      · rw [upd_ne _ _ e]; exact h3 j (by omega)
def zw_pre (E : ze_T) (A : mz_A) : Prop := A.1 = nI (ze_n E) ∧ A.2.1 = ze_od E ∧ A.2.2.2.2.2.1 = ze_d0 E ∧ (bif ze_md E then A.2.2.1 = 1 ∧ A.2.2.2.1 = -1 ∧ A.2.2.2.2.1 = nI 0 ∧ (∀ k, k < ze_n E → A.2.2.2.2.2.2.2.2.1 k = -1) else A.2.2.1 = 0 ∧ A.2.2.2.2.2.2.2.1 = ze_mu E)
theorem zw_work {E : ze_T} (hE : ze_ok E) {w : Nat} {row' : Nat → Nat} {g' : zs_G} {f p P M P' M' : Int64} (hM : zw_M E w (fun k => k) zw_g0 row' g' f p P M P' M') {A : mz_A} {Q : mz_Q} {U : mz_U} {T : mz_T} {post : Option Value → ez_W → Prop} (hA : zw_pre E A) (u1 : U.1 = P) (u2 : U.2.1 = M)
    (kk : ∀ (A' : mz_A) (Q' : mz_Q) (U' : mz_U), mr_R E row' g' A' → Q'.1 = Q.1 + f → Q'.2.1 = f → Q'.2.2.1 = Q.2.2.1 + p → U'.1 = P' → U'.2.1 = M' → post (some (.int (lN g'.1).toInt32)) (mz_w A' Q' U' T)) : ez_m 97 [.ref 0, .int (nI w)] (mz_w A Q U T) post := by
  have hn := hE.1
  obtain ⟨a1, a2, a3, a4⟩ := hA
  obtain ⟨msz, mord, madv, mcand, mnx, mcmp, mlat, mnum, mset, mrow⟩ := A
  obtain ⟨mfls, mfn, mprt, mwtg, mwp, mwf, mwt, mwb⟩ := Q
  replace a1 : msz = nI (ze_n E) := a1
  subst a1
  refine ez_m.of (L := [some (.ref 0), some (.int (nI (w))), none]) rfl rfl rfl ?_
  refine ez_go ez_h97 8 (pc' := 12) (L' := [some (.ref 0), some (.int (nI (w))), some (.int (nI (0)))]) (st' := []) (w' := mz_w (nI (ze_n E), mord, madv, mcand, mnx, mcmp, 0, mnum, mset, mrow) (mfls, 0, mprt, mwtg, mwp, mwf, mwt, mwb) U T) rfl ?_
  refine zw_fill hn (fun mrow' hrow => ?_) (ze_n E) 0 mrow (by omega) (by omega) (fun j hj => by omega)
  refine hM _ _ U T post ⟨rfl, a2, ?_, rfl, hrow, ?_⟩ u1 u2 (fun A1 Q1 U1 hA1 q1 q2 q3 q4 q5 => ?_)
  · show mcmp = ze_d0 E + lN 0
    rw [show lN 0 = 0 from rfl, Int64.add_zero]; exact a3
  · cases hmd : ze_md E with
    | false => rw [hmd] at a4; exact a4
    | true =>
      rw [hmd] at a4
      exact a4
  refine ez_go ez_h97 2 (pc' := 118) (L' := [some (.ref 0), none, none]) (st' := [.long (A1.2.2.2.2.2.2.1)]) (w' := mz_w A1 Q1 U1 T) rfl ?_
  refine ez_topl (y := lN g'.1) (hA1.2.2.2.1) ?_
  refine ez_go ez_h97 1 (pc' := 119) (L' := [some (.ref 0), none, none]) (st' := [.int ((lN g'.1).toInt32)]) (w' := mz_w A1 Q1 U1 T) rfl ?_
  refine ez_iret rfl ez_h97 rfl rfl ?_
  exact kk A1 Q1 U1 hA1 q1 (by rw [q2]; exact Int64.zero_add _) q3 q4 q5
theorem zw_begin (r : cz_Row) (q : cz_Qk) (u : cz_Rn) (b : cz_Bn) : ez_is 59 [.ref 0] (cz_w r q u b) none (cz_w r q u (r.2.2.1, q.2.2.2.2.2.2.2.1, b.2.2.1, b.2.2.2)) := by
  obtain ⟨ab, fb, la, lf⟩ := b
  refine ez_m.of (L := [some (.ref 0)]) rfl rfl rfl ?_
  refine ez_go ez_h59 3 (pc' := 5) (L' := [some (.ref 0)]) (st' := [.ref 1, .ref 0]) (w' := cz_w r q u (ab, fb, la, lf)) rfl ?_
  refine ez_cl ez_h59 rfl rfl ?_
  refine ez_m.of (L := [some (.ref 1)]) rfl rfl rfl ?_
  refine ez_go ez_h29 2 (pc' := 4) (L' := [some (.ref 1)]) (st' := [.long (r.2.2.1)]) (w' := cz_w r q u (ab, fb, la, lf)) rfl ?_
  refine ez_lret rfl ez_h29 rfl rfl ?_
  refine ez_go ez_h59 4 (pc' := 16) (L' := [some (.ref 0)]) (st' := [.ref 4, .ref 0]) (w' := cz_w r q u (r.2.2.1, fb, la, lf)) rfl ?_
  refine ez_cl ez_h59 rfl rfl ?_
  refine ez_m.of (L := [some (.ref 4)]) rfl rfl rfl ?_
  refine ez_go ez_h8 2 (pc' := 4) (L' := [some (.ref 4)]) (st' := [.long (q.2.2.2.2.2.2.2.1)]) (w' := cz_w r q u (r.2.2.1, fb, la, lf)) rfl ?_
  refine ez_lret rfl ez_h8 rfl rfl ?_
  refine ez_go ez_h59 1 (pc' := 22) (L' := [some (.ref 0)]) (st' := []) (w' := cz_w r q u (r.2.2.1, q.2.2.2.2.2.2.2.1, la, lf)) rfl ?_
  refine ez_vret rfl ez_h59 rfl rfl ?_
  exact ⟨rfl, rfl⟩
theorem zw_sub {a b c : Int64} (h : a = b + c) : a - b = c := by rw [h, Int64.add_comm, Int64.add_sub_cancel]
theorem zw_stop (r : cz_Row) (q : cz_Qk) (u : cz_Rn) (b : cz_Bn) {x y : Int64} (h1 : r.2.2.1 = b.1 + x) (h2 : q.2.2.2.2.2.2.2.1 = b.2.1 + y) : ez_is 60 [.ref 0] (cz_w r q u b) (some (.int x.toInt32)) (cz_w r q u (b.1, b.2.1, x, y)) := by
  obtain ⟨ab, fb, la, lf⟩ := b
  have e1 : r.2.2.1 - ab = x := zw_sub h1
  have e2 : q.2.2.2.2.2.2.2.1 - fb = y := zw_sub h2
  refine ez_m.of (L := [some (.ref 0)]) rfl rfl rfl ?_
  refine ez_go ez_h60 3 (pc' := 5) (L' := [some (.ref 0)]) (st' := [.ref 1, .ref 0]) (w' := cz_w r q u (ab, fb, la, lf)) rfl ?_
  refine ez_cl ez_h60 rfl rfl ?_
  refine ez_m.of (L := [some (.ref 1)]) rfl rfl rfl ?_
  refine ez_go ez_h29 2 (pc' := 4) (L' := [some (.ref 1)]) (st' := [.long (r.2.2.1)]) (w' := cz_w r q u (ab, fb, la, lf)) rfl ?_
  refine ez_lret rfl ez_h29 rfl rfl ?_
  refine ez_go ez_h60 7 (pc' := 21) (L' := [some (.ref 0)]) (st' := [.ref 4, .ref 0]) (w' := cz_w r q u (ab, fb, r.2.2.1 - ab, lf)) rfl ?_
  refine ez_cl ez_h60 rfl rfl ?_
  refine ez_m.of (L := [some (.ref 4)]) rfl rfl rfl ?_
  refine ez_go ez_h8 2 (pc' := 4) (L' := [some (.ref 4)]) (st' := [.long (q.2.2.2.2.2.2.2.1)]) (w' := cz_w r q u (ab, fb, r.2.2.1 - ab, lf)) rfl ?_
  refine ez_lret rfl ez_h8 rfl rfl ?_
  refine ez_go ez_h60 7 (pc' := 37) (L' := [some (.ref 0)]) (st' := [.int ((r.2.2.1 - ab).toInt32)]) (w' := cz_w r q u (ab, fb, r.2.2.1 - ab, q.2.2.2.2.2.2.2.1 - fb)) rfl ?_
  refine ez_iret rfl ez_h60 rfl rfl ?_
  exact ⟨by rw [e1], by rw [e1, e2]⟩
theorem zw_c1 {n : Nat} (hn : n ≤ 600) {mord madv mcand mnx x mthr mpl : Int32} {mcmp mlat mpil mmrg : Int64} {Q : mz_Q} {mbgs mens : Nat → Int32} {row : Nat → Nat} {mrow mnum mtag : Nat → Int32} (hrow : ∀ k, k < n → row k < n) (hmr : ∀ k, k < n → mrow k = nI (row k)) {post : Option Value → ez_W → Prop}
    (kk : ∀ mset' moth' : Nat → Int32, (∀ j, j < n → moth' j = mnum (row j) ∧ mset' j = mtag (row j)) → ez_E 98 88 [some (.ref 0), none, some (.int (x)), none] [] (mz_w (nI n, mord, madv, mcand, mnx, mcmp, mlat, mnum, mset', mrow) Q (mpil, mmrg, mpl, mbgs, mens, moth') (mthr, mtag)) post) :
    ∀ (s k : Nat) (mset moth : Nat → Int32), n ≤ k + s → k ≤ n → (∀ j, j < k → moth j = mnum (row j) ∧ mset j = mtag (row j)) → ez_E 98 40 [some (.ref 0), none, some (.int (x)), some (.int (nI (k)))] [] (mz_w (nI n, mord, madv, mcand, mnx, mcmp, mlat, mnum, mset, mrow) Q (mpil, mmrg, mpl, mbgs, mens, moth) (mthr, mtag)) post := by
  intro s
  induction s with
  | zero =>
    intro k mset moth h1 h2 h3
    refine ez_go ez_h98 4 (pc' := bif decide ((nI (n)) ≤ (nI (k))) then 88 else 48) (L' := [some (.ref 0), none, some (.int (x)), some (.int (nI (k)))]) (st' := []) (w' := mz_w (nI (n), mord, madv, mcand, mnx, mcmp, mlat, mnum, mset, mrow) Q (mpil, mmrg, mpl, mbgs, mens, moth) (mthr, mtag)) rfl ?_
    refine ez_ifT (zt_le (a := n) (b := k) (by omega) (by omega)) ?_
    exact ez_E.le (ez_lc (ez_lc (ez_lc (ez_ln ez_l0)))) (kk mset moth (fun j hj => h3 j (by omega)))
  | succ s ih =>
    intro k mset moth h1 h2 h3
    by_cases hk : n ≤ k
    · skip
      refine ez_go ez_h98 4 (pc' := bif decide ((nI (n)) ≤ (nI (k))) then 88 else 48) (L' := [some (.ref 0), none, some (.int (x)), some (.int (nI (k)))]) (st' := []) (w' := mz_w (nI (n), mord, madv, mcand, mnx, mcmp, mlat, mnum, mset, mrow) Q (mpil, mmrg, mpl, mbgs, mens, moth) (mthr, mtag)) rfl ?_
      refine ez_ifT (zt_le (a := n) (b := k) (by omega) (by omega)) ?_
      exact ez_E.le (ez_lc (ez_lc (ez_lc (ez_ln ez_l0)))) (kk mset moth (fun j hj => h3 j (by omega)))
    · have hrk := hrow k (by omega)
      refine ez_go ez_h98 4 (pc' := bif decide ((nI (n)) ≤ (nI (k))) then 88 else 48) (L' := [some (.ref 0), none, some (.int (x)), some (.int (nI (k)))]) (st' := []) (w' := mz_w (nI (n), mord, madv, mcand, mnx, mcmp, mlat, mnum, mset, mrow) Q (mpil, mmrg, mpl, mbgs, mens, moth) (mthr, mtag)) rfl ?_
      refine ez_ifF (zt_nle (a := n) (b := k) (by omega) (by omega)) ?_
      refine ez_go ez_h98 8 (pc' := 62) (L' := [some (.ref 0), none, some (.int (x)), some (.int (nI (k)))]) (st' := [.int (nI (k)), .ref 4, .ref 1, .int (nI (k)), .ref 5]) (w' := mz_w (nI (n), mord, madv, mcand, mnx, mcmp, mlat, mnum, mset, mrow) Q (mpil, mmrg, mpl, mbgs, mens, moth) (mthr, mtag)) rfl ?_
      refine ez_ald ez_h98 rfl rfl (k) rfl (by omega) (by omega) ?_
      refine ez_top (y := nI (row k)) (hmr k (by omega)) ?_
      refine ez_ald ez_h98 rfl rfl (row k) rfl (by omega) (by omega) ?_
      refine ez_ast ez_h98 rfl rfl (k) rfl (by omega) (by omega) ?_
      refine ez_go ez_h98 8 (pc' := 79) (L' := [some (.ref 0), none, some (.int (x)), some (.int (nI (k)))]) (st' := [.int (nI (k)), .ref 4, .ref 2, .int (nI (k)), .ref 3]) (w' := mz_w (nI (n), mord, madv, mcand, mnx, mcmp, mlat, mnum, mset, mrow) Q (mpil, mmrg, mpl, mbgs, mens, (upd moth k (mnum (row k)))) (mthr, mtag)) rfl ?_
      refine ez_ald ez_h98 rfl rfl (k) rfl (by omega) (by omega) ?_
      refine ez_top (y := nI (row k)) (hmr k (by omega)) ?_
      refine ez_ald ez_h98 rfl rfl (row k) rfl (by omega) (by omega) ?_
      refine ez_ast ez_h98 rfl rfl (k) rfl (by omega) (by omega) ?_
      refine ez_inc ez_h98 rfl rfl (v := nI (k + 1)) (zi_1 _) rfl ?_
      refine ez_go ez_h98 1 (pc' := 40) (L' := [some (.ref 0), none, some (.int (x)), some (.int (nI (k + 1)))]) (st' := []) (w' := mz_w (nI (n), mord, madv, mcand, mnx, mcmp, mlat, mnum, (upd mset k (mtag (row k))), mrow) Q (mpil, mmrg, mpl, mbgs, mens, (upd moth k (mnum (row k)))) (mthr, mtag)) rfl ?_
      refine ih (k + 1) _ _ (by omega) (by omega) (fun j hj => ?_)
      by_cases e : j = k
      · rw [e, upd_at, upd_at]; exact ⟨rfl, rfl⟩
      · rw [upd_ne _ _ e, upd_ne _ _ e]; exact h3 j (by omega)
theorem zw_c2 {n : Nat} (hn : n ≤ 600) {mord madv mcand mnx x mthr mpl : Int32} {mcmp mlat mpil mmrg : Int64} {Q : mz_Q} {mbgs mens moth mset mrow : Nat → Int32} {post : Option Value → ez_W → Prop}
    (kk : ∀ mnum' mtag' : Nat → Int32, (∀ j, j < n → mnum' j = moth j ∧ mtag' j = mset j) → ez_E 98 128 [some (.ref 0), none, some (.int (x)), none] [] (mz_w (nI n, mord, madv, mcand, mnx, mcmp, mlat, mnum', mset, mrow) Q (mpil, mmrg, mpl, mbgs, mens, moth) (mthr, mtag')) post) :
    ∀ (s k : Nat) (mnum mtag : Nat → Int32), n ≤ k + s → k ≤ n → (∀ j, j < k → mnum j = moth j ∧ mtag j = mset j) → ez_E 98 90 [some (.ref 0), none, some (.int (x)), some (.int (nI (k)))] [] (mz_w (nI n, mord, madv, mcand, mnx, mcmp, mlat, mnum, mset, mrow) Q (mpil, mmrg, mpl, mbgs, mens, moth) (mthr, mtag)) post := by
  intro s
  induction s with
  | zero =>
    intro k mnum mtag h1 h2 h3
    refine ez_go ez_h98 4 (pc' := bif decide ((nI (n)) ≤ (nI (k))) then 128 else 98) (L' := [some (.ref 0), none, some (.int (x)), some (.int (nI (k)))]) (st' := []) (w' := mz_w (nI (n), mord, madv, mcand, mnx, mcmp, mlat, mnum, mset, mrow) Q (mpil, mmrg, mpl, mbgs, mens, moth) (mthr, mtag)) rfl ?_
    refine ez_ifT (zt_le (a := n) (b := k) (by omega) (by omega)) ?_
    exact ez_E.le (ez_lc (ez_lc (ez_lc (ez_ln ez_l0)))) (kk mnum mtag (fun j hj => h3 j (by omega)))
  | succ s ih =>
    intro k mnum mtag h1 h2 h3
    by_cases hk : n ≤ k
    · skip
      refine ez_go ez_h98 4 (pc' := bif decide ((nI (n)) ≤ (nI (k))) then 128 else 98) (L' := [some (.ref 0), none, some (.int (x)), some (.int (nI (k)))]) (st' := []) (w' := mz_w (nI (n), mord, madv, mcand, mnx, mcmp, mlat, mnum, mset, mrow) Q (mpil, mmrg, mpl, mbgs, mens, moth) (mthr, mtag)) rfl ?_
      refine ez_ifT (zt_le (a := n) (b := k) (by omega) (by omega)) ?_
      exact ez_E.le (ez_lc (ez_lc (ez_lc (ez_ln ez_l0)))) (kk mnum mtag (fun j hj => h3 j (by omega)))
    · skip
      refine ez_go ez_h98 4 (pc' := bif decide ((nI (n)) ≤ (nI (k))) then 128 else 98) (L' := [some (.ref 0), none, some (.int (x)), some (.int (nI (k)))]) (st' := []) (w' := mz_w (nI (n), mord, madv, mcand, mnx, mcmp, mlat, mnum, mset, mrow) Q (mpil, mmrg, mpl, mbgs, mens, moth) (mthr, mtag)) rfl ?_
      refine ez_ifF (zt_nle (a := n) (b := k) (by omega) (by omega)) ?_
      refine ez_go ez_h98 6 (pc' := 108) (L' := [some (.ref 0), none, some (.int (x)), some (.int (nI (k)))]) (st' := [.int (nI (k)), .ref 5, .int (nI (k)), .ref 1]) (w' := mz_w (nI (n), mord, madv, mcand, mnx, mcmp, mlat, mnum, mset, mrow) Q (mpil, mmrg, mpl, mbgs, mens, moth) (mthr, mtag)) rfl ?_
      refine ez_ald ez_h98 rfl rfl (k) rfl (by omega) (by omega) ?_
      refine ez_ast ez_h98 rfl rfl (k) rfl (by omega) (by omega) ?_
      refine ez_go ez_h98 6 (pc' := 120) (L' := [some (.ref 0), none, some (.int (x)), some (.int (nI (k)))]) (st' := [.int (nI (k)), .ref 3, .int (nI (k)), .ref 2]) (w' := mz_w (nI (n), mord, madv, mcand, mnx, mcmp, mlat, (upd mnum k (moth k)), mset, mrow) Q (mpil, mmrg, mpl, mbgs, mens, moth) (mthr, mtag)) rfl ?_
      refine ez_ald ez_h98 rfl rfl (k) rfl (by omega) (by omega) ?_
      refine ez_ast ez_h98 rfl rfl (k) rfl (by omega) (by omega) ?_
      refine ez_inc ez_h98 rfl rfl (v := nI (k + 1)) (zi_1 _) rfl ?_
      refine ez_go ez_h98 1 (pc' := 90) (L' := [some (.ref 0), none, some (.int (x)), some (.int (nI (k + 1)))]) (st' := []) (w' := mz_w (nI (n), mord, madv, mcand, mnx, mcmp, mlat, (upd mnum k (moth k)), mset, mrow) Q (mpil, mmrg, mpl, mbgs, mens, moth) (mthr, (upd mtag k (mset k)))) rfl ?_
      refine ih (k + 1) _ _ (by omega) (by omega) (fun j hj => ?_)
      by_cases e : j = k
      · rw [e, upd_at, upd_at]; exact ⟨rfl, rfl⟩
      · rw [upd_ne _ _ e, upd_ne _ _ e]; exact h3 j (by omega)
theorem zo_sort {n : Nat} {tg : Nat → Nat} {r : cz_Row} {q : cz_Qk} {u : cz_Rn} {b : cz_Bn} {A : mz_A} {Q : mz_Q} {U : mz_U} {T : mz_T} (hR : zl_R n tg r q u b A Q U T) {w : Nat} (hw : w ≤ 4) : ∃ (x : Int32) (r' : cz_Row) (q' : cz_Qk) (u' : cz_Rn) (b1 b' : cz_Bn) (wm' : ez_W), zl_W 0 (cz_w r' q' u' b') wm' ∧ ez_is 59 [.ref 0] (cz_w r q u b) none (cz_w r q u b1) ∧ zw_A w (cz_w r q u b1) (cz_w r' q' u' b1) ∧ ez_is 60 [.ref 0] (cz_w r' q' u' b1) (some (.int x)) (cz_w r' q' u' b') ∧ ez_is 98 [.ref 0, .int (nI w)] (mz_w A Q U T) (some (.int x)) wm' := by
  have hR0 := hR
  obtain ⟨hn, ht, e1, e2, e3, e4, e5, e6, h1, h2, h3, f1, f2, f3, f4, f5, f6⟩ := hR
  obtain ⟨E, hEe⟩ : ∃ E : ze_T, E = (false, n, tg, fun k => zk_key A.2.1 (A.2.2.2.2.2.2.2.1 k).toInt64, A.2.1, r.2.2.2.2.2.2.1, A.2.2.2.2.2.2.2.1, r.2.2.1, A.2.2.2.2.2.1) := ⟨_, rfl⟩
  have hE : ze_ok E := by
    rw [hEe]
    exact ⟨hn, ht, (fun z => by cases z), fun _ => ⟨e4, fun k hk => by show zk_key A.2.1 (r.2.2.2.2.2.2.1 (tg k)).toInt64 = zk_key A.2.1 (A.2.2.2.2.2.2.2.1 k).toInt64; rw [h3 k hk], fun k hk => rfl⟩⟩
  have hw0 : zr_ok E (fun k => k) zw_g0 := ⟨fun k hk => hk, fun z => by rw [hEe] at z; cases z⟩
  have hcr : cr_R E (fun k => k) zw_g0 r := by
    rw [hEe]
    exact ⟨e1, e3, (Int64.add_zero _).symm, h1, e6, rfl⟩
  obtain ⟨row', g', f, p, P', M', o1, hC, hM⟩ := zw_way hE hw0 U.1 U.2.1 hw
  obtain ⟨r', q', u', hr', g1, g2, g3, g4, hAr⟩ := hC r q u (r.2.2.1, q.2.2.2.2.2.2.2.1, b.2.2.1, b.2.2.2) hcr f5 f6
  have hN : ze_n E = n := by rw [hEe]
  have k3 : r'.2.2.1 = r.2.2.1 + lN g'.1 := by have := hr'.2.2.1; rw [hEe] at this; exact this
  have key : ∃ wm', ez_is 98 [.ref 0, .int (nI w)] (mz_w A Q U T) (some (.int (lN g'.1).toInt32)) wm' ∧ zl_W 0 (cz_w r' q' u' (r.2.2.1, q.2.2.2.2.2.2.2.1, lN g'.1, f)) wm' := by
    suffices hz : ez_m 98 [.ref 0, .int (nI w)] (mz_w A Q U T) (fun a v => a = some (.int (lN g'.1).toInt32) ∧ zl_W 0 (cz_w r' q' u' (r.2.2.1, q.2.2.2.2.2.2.2.1, lN g'.1, f)) v) by
      obtain ⟨a, v, ⟨rfl, hv⟩, hm⟩ := hz.is
      exact ⟨v, hm, hv⟩
    obtain ⟨msz, mord, madv, mcand, mnx, mcmp, mlat, mnum, mset, mrow⟩ := A
    obtain ⟨mthr, mtag⟩ := T
    replace e2 : msz = nI n := e2
    subst e2
    refine ez_m.of (L := [some (.ref 0), some (.int (nI (w))), none, none]) rfl rfl rfl ?_
    refine ez_go ez_h98 3 (pc' := bif decide ((nI (w)) < (nI 0)) then 10 else 5) (L' := [some (.ref 0), some (.int (nI (w))), none, none]) (st' := [.ref 0]) (w' := mz_w (nI (n), mord, madv, mcand, mnx, mcmp, mlat, mnum, mset, mrow) Q U (mthr, mtag)) rfl ?_
    refine ez_ifF (zt_nlt (a := w) (b := 0) (by omega) (by omega)) ?_
    refine ez_go ez_h98 3 (pc' := bif decide ((nI (w)) ≤ (nI (4))) then 14 else 10) (L' := [some (.ref 0), some (.int (nI (w))), none, none]) (st' := [.ref 0]) (w' := mz_w (nI (n), mord, madv, mcand, mnx, mcmp, mlat, mnum, mset, mrow) Q U (mthr, mtag)) rfl ?_
    refine ez_ifT (zt_le (a := w) (b := 4) (by omega) (by omega)) ?_
    refine ez_go ez_h98 5 (pc' := bif decide ((nI (0)) ≤ (nI 0)) then 27 else 25) (L' := [some (.ref 0), some (.int (nI (w))), none, none]) (st' := []) (w' := mz_w (nI (n), mord, madv, mcand, mnx, mcmp, mlat, mnum, mset, mrow) Q U (nI (0), mtag)) rfl ?_
    refine ez_ifT (zt_le (a := 0) (b := 0) (by omega) (by omega)) ?_
    refine ez_go ez_h98 5 (pc' := 34) (L' := [some (.ref 0), some (.int (nI (w))), none, none]) (st' := [.int (nI (w)), .ref 0]) (w' := mz_w (nI (n), mord, nI (0), mcand, mnx, mcmp, mlat, mnum, mset, mrow) Q U (nI (0), mtag)) rfl ?_
    refine ez_cl ez_h98 rfl rfl ?_
    refine zw_work hE hM (A := (nI (n), mord, nI (0), mcand, mnx, mcmp, mlat, mnum, mset, mrow)) (by rw [hEe]; exact ⟨rfl, rfl, rfl, rfl, rfl⟩) rfl rfl (fun A1 Q1 U1 hA1 q1 q2 q3 q4 q5 => ?_)
    obtain ⟨msz1, mord1, madv1, mcand1, mnx1, mcmp1, mlat1, mnum1, mset1, mrow1⟩ := A1
    obtain ⟨mpil1, mmrg1, mpl1, mbgs1, mens1, moth1⟩ := U1
    rw [hEe] at hA1
    obtain ⟨b1, b2, b3, b4, b5, b6, b7⟩ := hA1
    replace b1 : msz1 = nI n := b1
    replace b7 : mnum1 = mnum := b7
    subst b1 b7
    refine ez_go ez_h98 3 (pc' := 40) (L' := [some (.ref 0), some (.int (nI (w))), some (.int ((lN g'.1).toInt32)), some (.int (nI (0)))]) (st' := []) (w' := mz_w (nI (n), mord1, madv1, mcand1, mnx1, mcmp1, mlat1, mnum1, mset1, mrow1) Q1 (mpil1, mmrg1, mpl1, mbgs1, mens1, moth1) (nI (0), mtag)) rfl ?_
    refine ez_E.le (ez_lc (ez_ln (ez_lc (ez_lc ez_l0)))) (zw_c1 hn (row := row') (fun k hk => by have := o1.1 k (by rw [hN]; exact hk); rwa [hN] at this) (fun k hk => b5 k hk) (fun ms1 mo1 hc1 => ?_) n 0 mset1 moth1 (by omega) (by omega) (fun j hj => by omega))
    refine ez_go ez_h98 2 (pc' := 90) (L' := [some (.ref 0), none, some (.int ((lN g'.1).toInt32)), some (.int (nI (0)))]) (st' := []) (w' := mz_w (nI (n), mord1, madv1, mcand1, mnx1, mcmp1, mlat1, mnum1, ms1, mrow1) Q1 (mpil1, mmrg1, mpl1, mbgs1, mens1, mo1) (nI (0), mtag)) rfl ?_
    refine zw_c2 hn (fun mn1 mt1 hc2 => ?_) n 0 mnum1 mtag (by omega) (by omega) (fun j hj => by omega)
    refine ez_go ez_h98 1 (pc' := 129) (L' := [some (.ref 0), none, some (.int ((lN g'.1).toInt32)), none]) (st' := [.int ((lN g'.1).toInt32)]) (w' := mz_w (nI (n), mord1, madv1, mcand1, mnx1, mcmp1, mlat1, mn1, ms1, mrow1) Q1 (mpil1, mmrg1, mpl1, mbgs1, mens1, mo1) (nI (0), mt1)) rfl ?_
    refine ez_iret rfl ez_h98 rfl rfl ?_
    refine ⟨rfl, ?_⟩
    have hrw : ∀ k, k < n → row' k < n := fun k hk => by have := o1.1 k (by rw [hN]; exact hk); rwa [hN] at this
    rw [hEe] at hr'
    obtain ⟨d1, d2, d3, d4, d5, d6⟩ := hr'
    refine ⟨n, fun k => tg (row' k), r', q', u', _, _, _, _, _, rfl, rfl, ⟨hn, fun k hk => ht _ (hrw k hk), d1, rfl, d2.trans b2.symm, ?_, ?_, d5, d4, ?_, ?_, b4.symm, q2.symm, ?_, ?_, g3.trans q4.symm, g4.trans q5.symm⟩, rfl⟩
    · show ze_or mord1
      rw [show mord1 = mord from b2]; exact e4
    · show r'.2.2.1 = mcmp1
      rw [show mcmp1 = mcmp + lN g'.1 from b3, d3]
      show r.2.2.1 + lN g'.1 = mcmp + lN g'.1
      rw [show r.2.2.1 = mcmp from e5]
    · intro k hk
      show mt1 k = nI (tg (row' k))
      rw [(hc2 k hk).2, (hc1 k hk).2]; exact h2 _ (hrw k hk)
    · intro k hk
      show mn1 k = r'.2.2.2.2.2.2.1 (tg (row' k))
      rw [(hc2 k hk).1, (hc1 k hk).1, d6]; exact h3 _ (hrw k hk)
    · rw [g1, f3, q1]
    · rw [g2, f4, q3]
  obtain ⟨wm', m1, m2⟩ := key
  exact ⟨(lN g'.1).toInt32, r', q', u', _, _, wm', m2, zw_begin r q u b, hAr, zw_stop r' q' u' _ k3 g1, m1⟩
theorem zo_sortX {n : Nat} {tg : Nat → Nat} {r : cz_Row} {q : cz_Qk} {u : cz_Rn} {b : cz_Bn} {A : mz_A} {Q : mz_Q} {U : mz_U} {T : mz_T} (hR : zl_R n tg r q u b A Q U T) {x : Int32} (hx : x < nI 0 ∨ nI 4 < x) : zo_X (cz_w r q u b) (mz_w A Q U T) 98 [.ref 0, .int x] 1 := by
  have hR0 := hR
  obtain ⟨hn, ht, e1, e2, e3, e4, e5, e6, h1, h2, h3, f1, f2, f3, f4, f5, f6⟩ := hR
  refine ⟨some (.int (nI 0)), mz_w A Q U (nI 1, T.2), ⟨n, tg, r, q, u, b, A, Q, U, (nI 1, T.2), rfl, rfl, hR0, rfl⟩, ?_⟩
  by_cases hl : x < nI 0
  · refine ez_m.of (L := [some (.ref 0), some (.int (x)), none, none]) rfl rfl rfl ?_
    refine ez_go ez_h98 3 (pc' := bif decide (x < (nI 0)) then 10 else 5) (L' := [some (.ref 0), some (.int (x)), none, none]) (st' := [.ref 0]) (w' := mz_w A Q U (T.1, T.2)) rfl ?_
    refine ez_ifT (hl) ?_
    refine ez_go ez_h98 6 (pc' := bif decide ((nI (1)) ≤ (nI 0)) then 27 else 25) (L' := [some (.ref 0), some (.int (x)), none, none]) (st' := []) (w' := mz_w A Q U (nI (1), T.2)) rfl ?_
    refine ez_ifF (zt_nle (a := 1) (b := 0) (by omega) (by omega)) ?_
    refine ez_go ez_h98 1 (pc' := 26) (L' := [some (.ref 0), some (.int (x)), none, none]) (st' := [.int (nI (0))]) (w' := mz_w A Q U (nI (1), T.2)) rfl ?_
    refine ez_iret rfl ez_h98 rfl rfl ?_
    exact ⟨rfl, rfl⟩
  · refine ez_m.of (L := [some (.ref 0), some (.int (x)), none, none]) rfl rfl rfl ?_
    refine ez_go ez_h98 3 (pc' := bif decide (x < (nI 0)) then 10 else 5) (L' := [some (.ref 0), some (.int (x)), none, none]) (st' := [.ref 0]) (w' := mz_w A Q U (T.1, T.2)) rfl ?_
    refine ez_ifF (hl) ?_
    refine ez_go ez_h98 3 (pc' := bif decide (x ≤ (nI (4))) then 14 else 10) (L' := [some (.ref 0), some (.int (x)), none, none]) (st' := [.ref 0]) (w' := mz_w A Q U (T.1, T.2)) rfl ?_
    refine ez_ifF (Int32.not_le.mpr (hx.resolve_left hl)) ?_
    refine ez_go ez_h98 6 (pc' := bif decide ((nI (1)) ≤ (nI 0)) then 27 else 25) (L' := [some (.ref 0), some (.int (x)), none, none]) (st' := []) (w' := mz_w A Q U (nI (1), T.2)) rfl ?_
    refine ez_ifF (zt_nle (a := 1) (b := 0) (by omega) (by omega)) ?_
    refine ez_go ez_h98 1 (pc' := 26) (L' := [some (.ref 0), some (.int (x)), none, none]) (st' := [.int (nI (0))]) (w' := mz_w A Q U (nI (1), T.2)) rfl ?_
    refine ez_iret rfl ez_h98 rfl rfl ?_
    exact ⟨rfl, rfl⟩
