theorem zo_or {o : Int32} (h : ze_or o) : ¬ o < nI 0 ∧ o ≤ nI 3 := by rcases h with rfl | rfl | rfl | rfl <;> exact ⟨by decide, by decide⟩
theorem zo_order {n : Nat} {tg : Nat → Nat} {r : cz_Row} {q : cz_Qk} {u : cz_Rn} {b : cz_Bn} {A : mz_A} {Q : mz_Q} {U : mz_U} {T : mz_T} (hR : zl_R n tg r q u b A Q U T) {o : Int32} (ho : ze_or o) : zo_P (cz_w r q u b) (mz_w A Q U T) 115 [.ref 0, .int o] 71 [.ref 0, .int o] := by
  have hR0 := hR
  obtain ⟨hn, ht, e1, e2, e3, e4, e5, e6, h1, h2, h3, f1, f2, f3, f4, f5, f6⟩ := hR
  obtain ⟨sz, ord, asked, adv, cand, stl, num, thg⟩ := r
  obtain ⟨msz, mord, madv, mcand, mnx, mcmp, mlat, mnum, mset, mrow⟩ := A
  obtain ⟨mthr, mtag⟩ := T
  obtain ⟨hl, hu⟩ := zo_or ho
  replace e3 : ord = mord := e3
  refine ⟨some (.int mord), cz_w (sz, o, asked, adv, cand, stl, num, thg) q u b, mz_w (msz, o, madv, mcand, mnx, mcmp, mlat, mnum, mset, mrow) Q U (nI 0, mtag), ⟨n, tg, (sz, o, asked, adv, cand, stl, num, thg), q, u, b, (msz, o, madv, mcand, mnx, mcmp, mlat, mnum, mset, mrow), Q, U, (nI 0, mtag), rfl, rfl, ⟨hn, ht, e1, e2, rfl, ho, e5, e6, h1, h2, h3, f1, f2, f3, f4, f5, f6⟩, rfl⟩, ?_, ?_⟩
  · refine ez_m.of (L := [some (.ref 0), some (.int (o)), none]) rfl rfl rfl ?_
    refine ez_go ez_h115 3 (pc' := 3) (L' := [some (.ref 0), some (.int (o)), none]) (st' := [.int (nI (3)), .int (o), .ref 0]) (w' := cz_w (sz, ord, asked, adv, cand, stl, num, thg) q u b) rfl ?_
    refine ez_cl ez_h115 rfl rfl ?_
    refine ez_m.of (L := [some (.ref 0), some (.int (o)), some (.int (nI (3)))]) rfl rfl rfl ?_
    refine ez_go ez_h106 2 (pc' := bif decide (o < (nI 0)) then 9 else 4) (L' := [some (.ref 0), some (.int (o)), some (.int (nI (3)))]) (st' := []) (w' := cz_w (sz, ord, asked, adv, cand, stl, num, thg) q u b) rfl ?_
    refine ez_ifF (hl) ?_
    refine ez_go ez_h106 3 (pc' := bif decide (o ≤ (nI (3))) then 19 else 9) (L' := [some (.ref 0), some (.int (o)), some (.int (nI (3)))]) (st' := []) (w' := cz_w (sz, ord, asked, adv, cand, stl, num, thg) q u b) rfl ?_
    refine ez_ifT (hu) ?_
    refine ez_vret rfl ez_h106 rfl rfl ?_
    refine ez_go ez_h115 2 (pc' := 10) (L' := [some (.ref 0), some (.int (o)), none]) (st' := [.ref 1]) (w' := cz_w (sz, ord, asked, adv, cand, stl, num, thg) q u b) rfl ?_
    refine ez_cl ez_h115 rfl rfl ?_
    refine ez_m.of (L := [some (.ref 1)]) rfl rfl rfl ?_
    refine ez_go ez_h27 2 (pc' := 4) (L' := [some (.ref 1)]) (st' := [.int (ord)]) (w' := cz_w (sz, ord, asked, adv, cand, stl, num, thg) q u b) rfl ?_
    refine ez_iret rfl ez_h27 rfl rfl ?_
    refine ez_go ez_h115 4 (pc' := 19) (L' := [some (.ref 0), some (.int (o)), some (.int (ord))]) (st' := [.int (o), .ref 1]) (w' := cz_w (sz, ord, asked, adv, cand, stl, num, thg) q u b) rfl ?_
    refine ez_cl ez_h115 rfl rfl ?_
    refine ez_m.of (L := [some (.ref 1), some (.int (o))]) rfl rfl rfl ?_
    refine ez_go ez_h28 3 (pc' := 5) (L' := [some (.ref 1), some (.int (o))]) (st' := []) (w' := cz_w (sz, o, asked, adv, cand, stl, num, thg) q u b) rfl ?_
    refine ez_vret rfl ez_h28 rfl rfl ?_
    refine ez_go ez_h115 1 (pc' := 23) (L' := [some (.ref 0), some (.int (o)), some (.int (ord))]) (st' := [.int (ord)]) (w' := cz_w (sz, o, asked, adv, cand, stl, num, thg) q u b) rfl ?_
    refine ez_iret rfl ez_h115 rfl rfl ?_
    exact ⟨congrArg (fun z => some (Value.int z)) e3, rfl⟩
  · refine ez_m.of (L := [some (.ref 0), some (.int (o)), none]) rfl rfl rfl ?_
    refine ez_go ez_h71 3 (pc' := bif decide (o < (nI 0)) then 10 else 5) (L' := [some (.ref 0), some (.int (o)), none]) (st' := [.ref 0]) (w' := mz_w (msz, mord, madv, mcand, mnx, mcmp, mlat, mnum, mset, mrow) Q U (mthr, mtag)) rfl ?_
    refine ez_ifF (hl) ?_
    refine ez_go ez_h71 3 (pc' := bif decide (o ≤ (nI (3))) then 14 else 10) (L' := [some (.ref 0), some (.int (o)), none]) (st' := [.ref 0]) (w' := mz_w (msz, mord, madv, mcand, mnx, mcmp, mlat, mnum, mset, mrow) Q U (mthr, mtag)) rfl ?_
    refine ez_ifT (hu) ?_
    refine ez_go ez_h71 9 (pc' := bif decide (¬ (nI (0)) = (nI 0)) then 35 else 31) (L' := [some (.ref 0), some (.int (o)), some (.int (mord))]) (st' := [.ref 0]) (w' := mz_w (msz, mord, madv, mcand, mnx, mcmp, mlat, mnum, mset, mrow) Q U (nI (0), mtag)) rfl ?_
    refine ez_ifF (fun z => z (zt_eq (by omega))) ?_
    refine ez_go ez_h71 4 (pc' := 43) (L' := [some (.ref 0), some (.int (o)), some (.int (mord))]) (st' := [.int (mord)]) (w' := mz_w (msz, o, madv, mcand, mnx, mcmp, mlat, mnum, mset, mrow) Q U (nI (0), mtag)) rfl ?_
    refine ez_iret rfl ez_h71 rfl rfl ?_
    exact ⟨rfl, rfl⟩
theorem zo_orderX {n : Nat} {tg : Nat → Nat} {r : cz_Row} {q : cz_Qk} {u : cz_Rn} {b : cz_Bn} {A : mz_A} {Q : mz_Q} {U : mz_U} {T : mz_T} (hR : zl_R n tg r q u b A Q U T) {o : Int32} (ho : o < nI 0 ∨ nI 3 < o) : zo_X (cz_w r q u b) (mz_w A Q U T) 71 [.ref 0, .int o] 1 := by
  have hR0 := hR
  obtain ⟨hn, ht, e1, e2, e3, e4, e5, e6, h1, h2, h3, f1, f2, f3, f4, f5, f6⟩ := hR
  obtain ⟨sz, ord, asked, adv, cand, stl, num, thg⟩ := r
  obtain ⟨msz, mord, madv, mcand, mnx, mcmp, mlat, mnum, mset, mrow⟩ := A
  obtain ⟨mthr, mtag⟩ := T
  refine ⟨some (.int mord), mz_w (msz, mord, madv, mcand, mnx, mcmp, mlat, mnum, mset, mrow) Q U (nI 1, mtag), ⟨n, tg, _, q, u, b, (msz, mord, madv, mcand, mnx, mcmp, mlat, mnum, mset, mrow), Q, U, (nI 1, mtag), rfl, rfl, hR0, rfl⟩, ?_⟩
  by_cases hl : o < nI 0
  · refine ez_m.of (L := [some (.ref 0), some (.int (o)), none]) rfl rfl rfl ?_
    refine ez_go ez_h71 3 (pc' := bif decide (o < (nI 0)) then 10 else 5) (L' := [some (.ref 0), some (.int (o)), none]) (st' := [.ref 0]) (w' := mz_w (msz, mord, madv, mcand, mnx, mcmp, mlat, mnum, mset, mrow) Q U (mthr, mtag)) rfl ?_
    refine ez_ifT (hl) ?_
    refine ez_go ez_h71 10 (pc' := bif decide (¬ (nI (1)) = (nI 0)) then 35 else 31) (L' := [some (.ref 0), some (.int (o)), some (.int (mord))]) (st' := [.ref 0]) (w' := mz_w (msz, mord, madv, mcand, mnx, mcmp, mlat, mnum, mset, mrow) Q U (nI (1), mtag)) rfl ?_
    refine ez_ifT (zt_ne (by omega) (by omega) (by omega)) ?_
    refine ez_go ez_h71 4 (pc' := 43) (L' := [some (.ref 0), some (.int (o)), some (.int (mord))]) (st' := [.int (mord)]) (w' := mz_w (msz, mord, madv, mcand, mnx, mcmp, mlat, mnum, mset, mrow) Q U (nI (1), mtag)) rfl ?_
    refine ez_iret rfl ez_h71 rfl rfl ?_
    exact ⟨rfl, rfl⟩
  · refine ez_m.of (L := [some (.ref 0), some (.int (o)), none]) rfl rfl rfl ?_
    refine ez_go ez_h71 3 (pc' := bif decide (o < (nI 0)) then 10 else 5) (L' := [some (.ref 0), some (.int (o)), none]) (st' := [.ref 0]) (w' := mz_w (msz, mord, madv, mcand, mnx, mcmp, mlat, mnum, mset, mrow) Q U (mthr, mtag)) rfl ?_
    refine ez_ifF (hl) ?_
    refine ez_go ez_h71 3 (pc' := bif decide (o ≤ (nI (3))) then 14 else 10) (L' := [some (.ref 0), some (.int (o)), none]) (st' := [.ref 0]) (w' := mz_w (msz, mord, madv, mcand, mnx, mcmp, mlat, mnum, mset, mrow) Q U (mthr, mtag)) rfl ?_
    refine ez_ifF (Int32.not_le.mpr (ho.resolve_left hl)) ?_
    refine ez_go ez_h71 10 (pc' := bif decide (¬ (nI (1)) = (nI 0)) then 35 else 31) (L' := [some (.ref 0), some (.int (o)), some (.int (mord))]) (st' := [.ref 0]) (w' := mz_w (msz, mord, madv, mcand, mnx, mcmp, mlat, mnum, mset, mrow) Q U (nI (1), mtag)) rfl ?_
    refine ez_ifT (zt_ne (by omega) (by omega) (by omega)) ?_
    refine ez_go ez_h71 4 (pc' := 43) (L' := [some (.ref 0), some (.int (o)), some (.int (mord))]) (st' := [.int (mord)]) (w' := mz_w (msz, mord, madv, mcand, mnx, mcmp, mlat, mnum, mset, mrow) Q U (nI (1), mtag)) rfl ?_
    refine ez_iret rfl ez_h71 rfl rfl ?_
    exact ⟨rfl, rfl⟩
theorem zo_count0 {n : Nat} {tg : Nat → Nat} {r : cz_Row} {q : cz_Qk} {u : cz_Rn} {b : cz_Bn} {A : mz_A} {Q : mz_Q} {U : mz_U} {T : mz_T} (hR : zl_R n tg r q u b A Q U T)  : zo_P (cz_w r q u b) (mz_w A Q U T) 119 [.ref 0, .int (nI 0)] 103 [.ref 0, .int (nI 0)] := by
  have hR0 := hR
  obtain ⟨hn, ht, e1, e2, e3, e4, e5, e6, h1, h2, h3, f1, f2, f3, f4, f5, f6⟩ := hR
  refine ⟨some (.long ((nI (n)).toInt64)), cz_w r q u b, mz_w A Q U (nI 0, T.2), ⟨n, tg, r, q, u, b, A, Q, U, (nI 0, T.2), rfl, rfl, hR0, rfl⟩, ?_, ?_⟩
  · refine ez_m.of (L := [some (.ref 0), some (.int (nI (0)))]) rfl rfl rfl ?_
    refine ez_go ez_h119 3 (pc' := 4) (L' := [some (.ref 0), some (.int (nI (0)))]) (st' := [.int (nI (8)), .int (nI (0)), .ref 0]) (w' := cz_w r q u b) rfl ?_
    refine ez_cl ez_h119 rfl rfl ?_
    refine ez_m.of (L := [some (.ref 0), some (.int (nI (0))), some (.int (nI (8)))]) rfl rfl rfl ?_
    refine ez_go ez_h106 2 (pc' := bif decide ((nI (0)) < (nI 0)) then 9 else 4) (L' := [some (.ref 0), some (.int (nI (0))), some (.int (nI (8)))]) (st' := []) (w' := cz_w r q u b) rfl ?_
    refine ez_ifF (zt_nlt (a := 0) (b := 0) (by omega) (by omega)) ?_
    refine ez_go ez_h106 3 (pc' := bif decide ((nI (0)) ≤ (nI (8))) then 19 else 9) (L' := [some (.ref 0), some (.int (nI (0))), some (.int (nI (8)))]) (st' := []) (w' := cz_w r q u b) rfl ?_
    refine ez_ifT (zt_le (a := 0) (b := 8) (by omega) (by omega)) ?_
    refine ez_vret rfl ez_h106 rfl rfl ?_
    refine ez_go ez_h119 4 (pc' := 60) (L' := [some (.ref 0), some (.int (nI (0)))]) (st' := [.ref 1]) (w' := cz_w r q u b) rfl ?_
    refine ez_cl ez_h119 rfl rfl ?_
    refine ez_m.of (L := [some (.ref 1)]) rfl rfl rfl ?_
    refine ez_go ez_h26 2 (pc' := 4) (L' := [some (.ref 1)]) (st' := [.int (r.1)]) (w' := cz_w r q u b) rfl ?_
    refine ez_top (y := nI (n)) (e1) ?_
    refine ez_iret rfl ez_h26 rfl rfl ?_
    refine ez_go ez_h119 1 (pc' := 64) (L' := [some (.ref 0), some (.int (nI (0)))]) (st' := [.long ((nI (n)).toInt64)]) (w' := cz_w r q u b) rfl ?_
    refine ez_lret rfl ez_h119 rfl rfl ?_
    exact ⟨rfl, rfl⟩
  · refine ez_m.of (L := [some (.ref 0), some (.int (nI (0)))]) rfl rfl rfl ?_
    refine ez_go ez_h103 3 (pc' := bif decide ((nI (0)) < (nI 0)) then 11 else 5) (L' := [some (.ref 0), some (.int (nI (0)))]) (st' := [.ref 0]) (w' := mz_w A Q U (T.1, T.2)) rfl ?_
    refine ez_ifF (zt_nlt (a := 0) (b := 0) (by omega) (by omega)) ?_
    refine ez_go ez_h103 3 (pc' := bif decide ((nI (0)) ≤ (nI (8))) then 15 else 11) (L' := [some (.ref 0), some (.int (nI (0)))]) (st' := [.ref 0]) (w' := mz_w A Q U (T.1, T.2)) rfl ?_
    refine ez_ifT (zt_le (a := 0) (b := 8) (by omega) (by omega)) ?_
    refine ez_go ez_h103 6 (pc' := 72) (L' := [some (.ref 0), some (.int (nI (0)))]) (st' := [.int (A.1)]) (w' := mz_w A Q U (nI (0), T.2)) rfl ?_
    refine ez_top (y := nI (n)) (e2) ?_
    refine ez_go ez_h103 1 (pc' := 73) (L' := [some (.ref 0), some (.int (nI (0)))]) (st' := [.long ((nI (n)).toInt64)]) (w' := mz_w A Q U (nI (0), T.2)) rfl ?_
    refine ez_lret rfl ez_h103 rfl rfl ?_
    exact ⟨rfl, rfl⟩
theorem zo_count1 {n : Nat} {tg : Nat → Nat} {r : cz_Row} {q : cz_Qk} {u : cz_Rn} {b : cz_Bn} {A : mz_A} {Q : mz_Q} {U : mz_U} {T : mz_T} (hR : zl_R n tg r q u b A Q U T)  : zo_P (cz_w r q u b) (mz_w A Q U T) 119 [.ref 0, .int (nI 1)] 103 [.ref 0, .int (nI 1)] := by
  have hR0 := hR
  obtain ⟨hn, ht, e1, e2, e3, e4, e5, e6, h1, h2, h3, f1, f2, f3, f4, f5, f6⟩ := hR
  refine ⟨some (.long (A.2.2.2.2.2.1)), cz_w r q u b, mz_w A Q U (nI 0, T.2), ⟨n, tg, r, q, u, b, A, Q, U, (nI 0, T.2), rfl, rfl, hR0, rfl⟩, ?_, ?_⟩
  · refine ez_m.of (L := [some (.ref 0), some (.int (nI (1)))]) rfl rfl rfl ?_
    refine ez_go ez_h119 3 (pc' := 4) (L' := [some (.ref 0), some (.int (nI (1)))]) (st' := [.int (nI (8)), .int (nI (1)), .ref 0]) (w' := cz_w r q u b) rfl ?_
    refine ez_cl ez_h119 rfl rfl ?_
    refine ez_m.of (L := [some (.ref 0), some (.int (nI (1))), some (.int (nI (8)))]) rfl rfl rfl ?_
    refine ez_go ez_h106 2 (pc' := bif decide ((nI (1)) < (nI 0)) then 9 else 4) (L' := [some (.ref 0), some (.int (nI (1))), some (.int (nI (8)))]) (st' := []) (w' := cz_w r q u b) rfl ?_
    refine ez_ifF (zt_nlt (a := 1) (b := 0) (by omega) (by omega)) ?_
    refine ez_go ez_h106 3 (pc' := bif decide ((nI (1)) ≤ (nI (8))) then 19 else 9) (L' := [some (.ref 0), some (.int (nI (1))), some (.int (nI (8)))]) (st' := []) (w' := cz_w r q u b) rfl ?_
    refine ez_ifT (zt_le (a := 1) (b := 8) (by omega) (by omega)) ?_
    refine ez_vret rfl ez_h106 rfl rfl ?_
    refine ez_go ez_h119 4 (pc' := 69) (L' := [some (.ref 0), some (.int (nI (1)))]) (st' := [.ref 1]) (w' := cz_w r q u b) rfl ?_
    refine ez_cl ez_h119 rfl rfl ?_
    refine ez_m.of (L := [some (.ref 1)]) rfl rfl rfl ?_
    refine ez_go ez_h29 2 (pc' := 4) (L' := [some (.ref 1)]) (st' := [.long (r.2.2.1)]) (w' := cz_w r q u b) rfl ?_
    refine ez_lret rfl ez_h29 rfl rfl ?_
    refine ez_lret rfl ez_h119 rfl rfl ?_
    exact ⟨congrArg (fun z => some (Value.long z)) e5, rfl⟩
  · refine ez_m.of (L := [some (.ref 0), some (.int (nI (1)))]) rfl rfl rfl ?_
    refine ez_go ez_h103 3 (pc' := bif decide ((nI (1)) < (nI 0)) then 11 else 5) (L' := [some (.ref 0), some (.int (nI (1)))]) (st' := [.ref 0]) (w' := mz_w A Q U (T.1, T.2)) rfl ?_
    refine ez_ifF (zt_nlt (a := 1) (b := 0) (by omega) (by omega)) ?_
    refine ez_go ez_h103 3 (pc' := bif decide ((nI (1)) ≤ (nI (8))) then 15 else 11) (L' := [some (.ref 0), some (.int (nI (1)))]) (st' := [.ref 0]) (w' := mz_w A Q U (T.1, T.2)) rfl ?_
    refine ez_ifT (zt_le (a := 1) (b := 8) (by omega) (by omega)) ?_
    refine ez_go ez_h103 6 (pc' := 78) (L' := [some (.ref 0), some (.int (nI (1)))]) (st' := [.long (A.2.2.2.2.2.1)]) (w' := mz_w A Q U (nI (0), T.2)) rfl ?_
    refine ez_lret rfl ez_h103 rfl rfl ?_
    exact ⟨rfl, rfl⟩
theorem zo_count2 {n : Nat} {tg : Nat → Nat} {r : cz_Row} {q : cz_Qk} {u : cz_Rn} {b : cz_Bn} {A : mz_A} {Q : mz_Q} {U : mz_U} {T : mz_T} (hR : zl_R n tg r q u b A Q U T)  : zo_P (cz_w r q u b) (mz_w A Q U T) 119 [.ref 0, .int (nI 2)] 103 [.ref 0, .int (nI 2)] := by
  have hR0 := hR
  obtain ⟨hn, ht, e1, e2, e3, e4, e5, e6, h1, h2, h3, f1, f2, f3, f4, f5, f6⟩ := hR
  refine ⟨some (.long (A.2.2.2.2.2.2.1)), cz_w r q u b, mz_w A Q U (nI 0, T.2), ⟨n, tg, r, q, u, b, A, Q, U, (nI 0, T.2), rfl, rfl, hR0, rfl⟩, ?_, ?_⟩
  · refine ez_m.of (L := [some (.ref 0), some (.int (nI (2)))]) rfl rfl rfl ?_
    refine ez_go ez_h119 3 (pc' := 4) (L' := [some (.ref 0), some (.int (nI (2)))]) (st' := [.int (nI (8)), .int (nI (2)), .ref 0]) (w' := cz_w r q u b) rfl ?_
    refine ez_cl ez_h119 rfl rfl ?_
    refine ez_m.of (L := [some (.ref 0), some (.int (nI (2))), some (.int (nI (8)))]) rfl rfl rfl ?_
    refine ez_go ez_h106 2 (pc' := bif decide ((nI (2)) < (nI 0)) then 9 else 4) (L' := [some (.ref 0), some (.int (nI (2))), some (.int (nI (8)))]) (st' := []) (w' := cz_w r q u b) rfl ?_
    refine ez_ifF (zt_nlt (a := 2) (b := 0) (by omega) (by omega)) ?_
    refine ez_go ez_h106 3 (pc' := bif decide ((nI (2)) ≤ (nI (8))) then 19 else 9) (L' := [some (.ref 0), some (.int (nI (2))), some (.int (nI (8)))]) (st' := []) (w' := cz_w r q u b) rfl ?_
    refine ez_ifT (zt_le (a := 2) (b := 8) (by omega) (by omega)) ?_
    refine ez_vret rfl ez_h106 rfl rfl ?_
    refine ez_go ez_h119 4 (pc' := 77) (L' := [some (.ref 0), some (.int (nI (2)))]) (st' := [.long (b.2.2.1)]) (w' := cz_w r q u b) rfl ?_
    refine ez_lret rfl ez_h119 rfl rfl ?_
    exact ⟨congrArg (fun z => some (Value.long z)) f1, rfl⟩
  · refine ez_m.of (L := [some (.ref 0), some (.int (nI (2)))]) rfl rfl rfl ?_
    refine ez_go ez_h103 3 (pc' := bif decide ((nI (2)) < (nI 0)) then 11 else 5) (L' := [some (.ref 0), some (.int (nI (2)))]) (st' := [.ref 0]) (w' := mz_w A Q U (T.1, T.2)) rfl ?_
    refine ez_ifF (zt_nlt (a := 2) (b := 0) (by omega) (by omega)) ?_
    refine ez_go ez_h103 3 (pc' := bif decide ((nI (2)) ≤ (nI (8))) then 15 else 11) (L' := [some (.ref 0), some (.int (nI (2)))]) (st' := [.ref 0]) (w' := mz_w A Q U (T.1, T.2)) rfl ?_
    refine ez_ifT (zt_le (a := 2) (b := 8) (by omega) (by omega)) ?_
    refine ez_go ez_h103 6 (pc' := 83) (L' := [some (.ref 0), some (.int (nI (2)))]) (st' := [.long (A.2.2.2.2.2.2.1)]) (w' := mz_w A Q U (nI (0), T.2)) rfl ?_
    refine ez_lret rfl ez_h103 rfl rfl ?_
    exact ⟨rfl, rfl⟩
theorem zo_count3 {n : Nat} {tg : Nat → Nat} {r : cz_Row} {q : cz_Qk} {u : cz_Rn} {b : cz_Bn} {A : mz_A} {Q : mz_Q} {U : mz_U} {T : mz_T} (hR : zl_R n tg r q u b A Q U T)  : zo_P (cz_w r q u b) (mz_w A Q U T) 119 [.ref 0, .int (nI 3)] 103 [.ref 0, .int (nI 3)] := by
  have hR0 := hR
  obtain ⟨hn, ht, e1, e2, e3, e4, e5, e6, h1, h2, h3, f1, f2, f3, f4, f5, f6⟩ := hR
  refine ⟨some (.long (Q.1)), cz_w r q u b, mz_w A Q U (nI 0, T.2), ⟨n, tg, r, q, u, b, A, Q, U, (nI 0, T.2), rfl, rfl, hR0, rfl⟩, ?_, ?_⟩
  · refine ez_m.of (L := [some (.ref 0), some (.int (nI (3)))]) rfl rfl rfl ?_
    refine ez_go ez_h119 3 (pc' := 4) (L' := [some (.ref 0), some (.int (nI (3)))]) (st' := [.int (nI (8)), .int (nI (3)), .ref 0]) (w' := cz_w r q u b) rfl ?_
    refine ez_cl ez_h119 rfl rfl ?_
    refine ez_m.of (L := [some (.ref 0), some (.int (nI (3))), some (.int (nI (8)))]) rfl rfl rfl ?_
    refine ez_go ez_h106 2 (pc' := bif decide ((nI (3)) < (nI 0)) then 9 else 4) (L' := [some (.ref 0), some (.int (nI (3))), some (.int (nI (8)))]) (st' := []) (w' := cz_w r q u b) rfl ?_
    refine ez_ifF (zt_nlt (a := 3) (b := 0) (by omega) (by omega)) ?_
    refine ez_go ez_h106 3 (pc' := bif decide ((nI (3)) ≤ (nI (8))) then 19 else 9) (L' := [some (.ref 0), some (.int (nI (3))), some (.int (nI (8)))]) (st' := []) (w' := cz_w r q u b) rfl ?_
    refine ez_ifT (zt_le (a := 3) (b := 8) (by omega) (by omega)) ?_
    refine ez_vret rfl ez_h106 rfl rfl ?_
    refine ez_go ez_h119 4 (pc' := 82) (L' := [some (.ref 0), some (.int (nI (3)))]) (st' := [.ref 4]) (w' := cz_w r q u b) rfl ?_
    refine ez_cl ez_h119 rfl rfl ?_
    refine ez_m.of (L := [some (.ref 4)]) rfl rfl rfl ?_
    refine ez_go ez_h8 2 (pc' := 4) (L' := [some (.ref 4)]) (st' := [.long (q.2.2.2.2.2.2.2.1)]) (w' := cz_w r q u b) rfl ?_
    refine ez_lret rfl ez_h8 rfl rfl ?_
    refine ez_lret rfl ez_h119 rfl rfl ?_
    exact ⟨congrArg (fun z => some (Value.long z)) f3, rfl⟩
  · refine ez_m.of (L := [some (.ref 0), some (.int (nI (3)))]) rfl rfl rfl ?_
    refine ez_go ez_h103 3 (pc' := bif decide ((nI (3)) < (nI 0)) then 11 else 5) (L' := [some (.ref 0), some (.int (nI (3)))]) (st' := [.ref 0]) (w' := mz_w A Q U (T.1, T.2)) rfl ?_
    refine ez_ifF (zt_nlt (a := 3) (b := 0) (by omega) (by omega)) ?_
    refine ez_go ez_h103 3 (pc' := bif decide ((nI (3)) ≤ (nI (8))) then 15 else 11) (L' := [some (.ref 0), some (.int (nI (3)))]) (st' := [.ref 0]) (w' := mz_w A Q U (T.1, T.2)) rfl ?_
    refine ez_ifT (zt_le (a := 3) (b := 8) (by omega) (by omega)) ?_
    refine ez_go ez_h103 6 (pc' := 88) (L' := [some (.ref 0), some (.int (nI (3)))]) (st' := [.long (Q.1)]) (w' := mz_w A Q U (nI (0), T.2)) rfl ?_
    refine ez_lret rfl ez_h103 rfl rfl ?_
    exact ⟨rfl, rfl⟩
theorem zo_count4 {n : Nat} {tg : Nat → Nat} {r : cz_Row} {q : cz_Qk} {u : cz_Rn} {b : cz_Bn} {A : mz_A} {Q : mz_Q} {U : mz_U} {T : mz_T} (hR : zl_R n tg r q u b A Q U T)  : zo_P (cz_w r q u b) (mz_w A Q U T) 119 [.ref 0, .int (nI 4)] 103 [.ref 0, .int (nI 4)] := by
  have hR0 := hR
  obtain ⟨hn, ht, e1, e2, e3, e4, e5, e6, h1, h2, h3, f1, f2, f3, f4, f5, f6⟩ := hR
  refine ⟨some (.long (Q.2.1)), cz_w r q u b, mz_w A Q U (nI 0, T.2), ⟨n, tg, r, q, u, b, A, Q, U, (nI 0, T.2), rfl, rfl, hR0, rfl⟩, ?_, ?_⟩
  · refine ez_m.of (L := [some (.ref 0), some (.int (nI (4)))]) rfl rfl rfl ?_
    refine ez_go ez_h119 3 (pc' := 4) (L' := [some (.ref 0), some (.int (nI (4)))]) (st' := [.int (nI (8)), .int (nI (4)), .ref 0]) (w' := cz_w r q u b) rfl ?_
    refine ez_cl ez_h119 rfl rfl ?_
    refine ez_m.of (L := [some (.ref 0), some (.int (nI (4))), some (.int (nI (8)))]) rfl rfl rfl ?_
    refine ez_go ez_h106 2 (pc' := bif decide ((nI (4)) < (nI 0)) then 9 else 4) (L' := [some (.ref 0), some (.int (nI (4))), some (.int (nI (8)))]) (st' := []) (w' := cz_w r q u b) rfl ?_
    refine ez_ifF (zt_nlt (a := 4) (b := 0) (by omega) (by omega)) ?_
    refine ez_go ez_h106 3 (pc' := bif decide ((nI (4)) ≤ (nI (8))) then 19 else 9) (L' := [some (.ref 0), some (.int (nI (4))), some (.int (nI (8)))]) (st' := []) (w' := cz_w r q u b) rfl ?_
    refine ez_ifT (zt_le (a := 4) (b := 8) (by omega) (by omega)) ?_
    refine ez_vret rfl ez_h106 rfl rfl ?_
    refine ez_go ez_h119 4 (pc' := 90) (L' := [some (.ref 0), some (.int (nI (4)))]) (st' := [.long (b.2.2.2)]) (w' := cz_w r q u b) rfl ?_
    refine ez_lret rfl ez_h119 rfl rfl ?_
    exact ⟨congrArg (fun z => some (Value.long z)) f2, rfl⟩
  · refine ez_m.of (L := [some (.ref 0), some (.int (nI (4)))]) rfl rfl rfl ?_
    refine ez_go ez_h103 3 (pc' := bif decide ((nI (4)) < (nI 0)) then 11 else 5) (L' := [some (.ref 0), some (.int (nI (4)))]) (st' := [.ref 0]) (w' := mz_w A Q U (T.1, T.2)) rfl ?_
    refine ez_ifF (zt_nlt (a := 4) (b := 0) (by omega) (by omega)) ?_
    refine ez_go ez_h103 3 (pc' := bif decide ((nI (4)) ≤ (nI (8))) then 15 else 11) (L' := [some (.ref 0), some (.int (nI (4)))]) (st' := [.ref 0]) (w' := mz_w A Q U (T.1, T.2)) rfl ?_
    refine ez_ifT (zt_le (a := 4) (b := 8) (by omega) (by omega)) ?_
    refine ez_go ez_h103 6 (pc' := 93) (L' := [some (.ref 0), some (.int (nI (4)))]) (st' := [.long (Q.2.1)]) (w' := mz_w A Q U (nI (0), T.2)) rfl ?_
    refine ez_lret rfl ez_h103 rfl rfl ?_
    exact ⟨rfl, rfl⟩
theorem zo_count5 {n : Nat} {tg : Nat → Nat} {r : cz_Row} {q : cz_Qk} {u : cz_Rn} {b : cz_Bn} {A : mz_A} {Q : mz_Q} {U : mz_U} {T : mz_T} (hR : zl_R n tg r q u b A Q U T)  : zo_P (cz_w r q u b) (mz_w A Q U T) 119 [.ref 0, .int (nI 5)] 103 [.ref 0, .int (nI 5)] := by
  have hR0 := hR
  obtain ⟨hn, ht, e1, e2, e3, e4, e5, e6, h1, h2, h3, f1, f2, f3, f4, f5, f6⟩ := hR
  refine ⟨some (.long (Q.2.2.1)), cz_w r q u b, mz_w A Q U (nI 0, T.2), ⟨n, tg, r, q, u, b, A, Q, U, (nI 0, T.2), rfl, rfl, hR0, rfl⟩, ?_, ?_⟩
  · refine ez_m.of (L := [some (.ref 0), some (.int (nI (5)))]) rfl rfl rfl ?_
    refine ez_go ez_h119 3 (pc' := 4) (L' := [some (.ref 0), some (.int (nI (5)))]) (st' := [.int (nI (8)), .int (nI (5)), .ref 0]) (w' := cz_w r q u b) rfl ?_
    refine ez_cl ez_h119 rfl rfl ?_
    refine ez_m.of (L := [some (.ref 0), some (.int (nI (5))), some (.int (nI (8)))]) rfl rfl rfl ?_
    refine ez_go ez_h106 2 (pc' := bif decide ((nI (5)) < (nI 0)) then 9 else 4) (L' := [some (.ref 0), some (.int (nI (5))), some (.int (nI (8)))]) (st' := []) (w' := cz_w r q u b) rfl ?_
    refine ez_ifF (zt_nlt (a := 5) (b := 0) (by omega) (by omega)) ?_
    refine ez_go ez_h106 3 (pc' := bif decide ((nI (5)) ≤ (nI (8))) then 19 else 9) (L' := [some (.ref 0), some (.int (nI (5))), some (.int (nI (8)))]) (st' := []) (w' := cz_w r q u b) rfl ?_
    refine ez_ifT (zt_le (a := 5) (b := 8) (by omega) (by omega)) ?_
    refine ez_vret rfl ez_h106 rfl rfl ?_
    refine ez_go ez_h119 4 (pc' := 95) (L' := [some (.ref 0), some (.int (nI (5)))]) (st' := [.ref 4]) (w' := cz_w r q u b) rfl ?_
    refine ez_cl ez_h119 rfl rfl ?_
    refine ez_m.of (L := [some (.ref 4)]) rfl rfl rfl ?_
    refine ez_go ez_h9 2 (pc' := 4) (L' := [some (.ref 4)]) (st' := [.long (q.2.2.2.2.2.2.2.2.1)]) (w' := cz_w r q u b) rfl ?_
    refine ez_lret rfl ez_h9 rfl rfl ?_
    refine ez_lret rfl ez_h119 rfl rfl ?_
    exact ⟨congrArg (fun z => some (Value.long z)) f4, rfl⟩
  · refine ez_m.of (L := [some (.ref 0), some (.int (nI (5)))]) rfl rfl rfl ?_
    refine ez_go ez_h103 3 (pc' := bif decide ((nI (5)) < (nI 0)) then 11 else 5) (L' := [some (.ref 0), some (.int (nI (5)))]) (st' := [.ref 0]) (w' := mz_w A Q U (T.1, T.2)) rfl ?_
    refine ez_ifF (zt_nlt (a := 5) (b := 0) (by omega) (by omega)) ?_
    refine ez_go ez_h103 3 (pc' := bif decide ((nI (5)) ≤ (nI (8))) then 15 else 11) (L' := [some (.ref 0), some (.int (nI (5)))]) (st' := [.ref 0]) (w' := mz_w A Q U (T.1, T.2)) rfl ?_
    refine ez_ifT (zt_le (a := 5) (b := 8) (by omega) (by omega)) ?_
    refine ez_go ez_h103 6 (pc' := 98) (L' := [some (.ref 0), some (.int (nI (5)))]) (st' := [.long (Q.2.2.1)]) (w' := mz_w A Q U (nI (0), T.2)) rfl ?_
    refine ez_lret rfl ez_h103 rfl rfl ?_
    exact ⟨rfl, rfl⟩
theorem zo_count6 {n : Nat} {tg : Nat → Nat} {r : cz_Row} {q : cz_Qk} {u : cz_Rn} {b : cz_Bn} {A : mz_A} {Q : mz_Q} {U : mz_U} {T : mz_T} (hR : zl_R n tg r q u b A Q U T)  : zo_P (cz_w r q u b) (mz_w A Q U T) 119 [.ref 0, .int (nI 6)] 103 [.ref 0, .int (nI 6)] := by
  have hR0 := hR
  obtain ⟨hn, ht, e1, e2, e3, e4, e5, e6, h1, h2, h3, f1, f2, f3, f4, f5, f6⟩ := hR
  refine ⟨some (.long (U.1)), cz_w r q u b, mz_w A Q U (nI 0, T.2), ⟨n, tg, r, q, u, b, A, Q, U, (nI 0, T.2), rfl, rfl, hR0, rfl⟩, ?_, ?_⟩
  · refine ez_m.of (L := [some (.ref 0), some (.int (nI (6)))]) rfl rfl rfl ?_
    refine ez_go ez_h119 3 (pc' := 4) (L' := [some (.ref 0), some (.int (nI (6)))]) (st' := [.int (nI (8)), .int (nI (6)), .ref 0]) (w' := cz_w r q u b) rfl ?_
    refine ez_cl ez_h119 rfl rfl ?_
    refine ez_m.of (L := [some (.ref 0), some (.int (nI (6))), some (.int (nI (8)))]) rfl rfl rfl ?_
    refine ez_go ez_h106 2 (pc' := bif decide ((nI (6)) < (nI 0)) then 9 else 4) (L' := [some (.ref 0), some (.int (nI (6))), some (.int (nI (8)))]) (st' := []) (w' := cz_w r q u b) rfl ?_
    refine ez_ifF (zt_nlt (a := 6) (b := 0) (by omega) (by omega)) ?_
    refine ez_go ez_h106 3 (pc' := bif decide ((nI (6)) ≤ (nI (8))) then 19 else 9) (L' := [some (.ref 0), some (.int (nI (6))), some (.int (nI (8)))]) (st' := []) (w' := cz_w r q u b) rfl ?_
    refine ez_ifT (zt_le (a := 6) (b := 8) (by omega) (by omega)) ?_
    refine ez_vret rfl ez_h106 rfl rfl ?_
    refine ez_go ez_h119 4 (pc' := 103) (L' := [some (.ref 0), some (.int (nI (6)))]) (st' := [.ref 5]) (w' := cz_w r q u b) rfl ?_
    refine ez_cl ez_h119 rfl rfl ?_
    refine ez_m.of (L := [some (.ref 5)]) rfl rfl rfl ?_
    refine ez_go ez_h42 2 (pc' := 4) (L' := [some (.ref 5)]) (st' := [.long (u.2.1)]) (w' := cz_w r q u b) rfl ?_
    refine ez_lret rfl ez_h42 rfl rfl ?_
    refine ez_lret rfl ez_h119 rfl rfl ?_
    exact ⟨congrArg (fun z => some (Value.long z)) f5, rfl⟩
  · refine ez_m.of (L := [some (.ref 0), some (.int (nI (6)))]) rfl rfl rfl ?_
    refine ez_go ez_h103 3 (pc' := bif decide ((nI (6)) < (nI 0)) then 11 else 5) (L' := [some (.ref 0), some (.int (nI (6)))]) (st' := [.ref 0]) (w' := mz_w A Q U (T.1, T.2)) rfl ?_
    refine ez_ifF (zt_nlt (a := 6) (b := 0) (by omega) (by omega)) ?_
    refine ez_go ez_h103 3 (pc' := bif decide ((nI (6)) ≤ (nI (8))) then 15 else 11) (L' := [some (.ref 0), some (.int (nI (6)))]) (st' := [.ref 0]) (w' := mz_w A Q U (T.1, T.2)) rfl ?_
    refine ez_ifT (zt_le (a := 6) (b := 8) (by omega) (by omega)) ?_
    refine ez_go ez_h103 6 (pc' := 103) (L' := [some (.ref 0), some (.int (nI (6)))]) (st' := [.long (U.1)]) (w' := mz_w A Q U (nI (0), T.2)) rfl ?_
    refine ez_lret rfl ez_h103 rfl rfl ?_
    exact ⟨rfl, rfl⟩
theorem zo_count7 {n : Nat} {tg : Nat → Nat} {r : cz_Row} {q : cz_Qk} {u : cz_Rn} {b : cz_Bn} {A : mz_A} {Q : mz_Q} {U : mz_U} {T : mz_T} (hR : zl_R n tg r q u b A Q U T)  : zo_P (cz_w r q u b) (mz_w A Q U T) 119 [.ref 0, .int (nI 7)] 103 [.ref 0, .int (nI 7)] := by
  have hR0 := hR
  obtain ⟨hn, ht, e1, e2, e3, e4, e5, e6, h1, h2, h3, f1, f2, f3, f4, f5, f6⟩ := hR
  refine ⟨some (.long (U.2.1)), cz_w r q u b, mz_w A Q U (nI 0, T.2), ⟨n, tg, r, q, u, b, A, Q, U, (nI 0, T.2), rfl, rfl, hR0, rfl⟩, ?_, ?_⟩
  · refine ez_m.of (L := [some (.ref 0), some (.int (nI (7)))]) rfl rfl rfl ?_
    refine ez_go ez_h119 3 (pc' := 4) (L' := [some (.ref 0), some (.int (nI (7)))]) (st' := [.int (nI (8)), .int (nI (7)), .ref 0]) (w' := cz_w r q u b) rfl ?_
    refine ez_cl ez_h119 rfl rfl ?_
    refine ez_m.of (L := [some (.ref 0), some (.int (nI (7))), some (.int (nI (8)))]) rfl rfl rfl ?_
    refine ez_go ez_h106 2 (pc' := bif decide ((nI (7)) < (nI 0)) then 9 else 4) (L' := [some (.ref 0), some (.int (nI (7))), some (.int (nI (8)))]) (st' := []) (w' := cz_w r q u b) rfl ?_
    refine ez_ifF (zt_nlt (a := 7) (b := 0) (by omega) (by omega)) ?_
    refine ez_go ez_h106 3 (pc' := bif decide ((nI (7)) ≤ (nI (8))) then 19 else 9) (L' := [some (.ref 0), some (.int (nI (7))), some (.int (nI (8)))]) (st' := []) (w' := cz_w r q u b) rfl ?_
    refine ez_ifT (zt_le (a := 7) (b := 8) (by omega) (by omega)) ?_
    refine ez_vret rfl ez_h106 rfl rfl ?_
    refine ez_go ez_h119 4 (pc' := 111) (L' := [some (.ref 0), some (.int (nI (7)))]) (st' := [.ref 5]) (w' := cz_w r q u b) rfl ?_
    refine ez_cl ez_h119 rfl rfl ?_
    refine ez_m.of (L := [some (.ref 5)]) rfl rfl rfl ?_
    refine ez_go ez_h43 2 (pc' := 4) (L' := [some (.ref 5)]) (st' := [.long (u.2.2.1)]) (w' := cz_w r q u b) rfl ?_
    refine ez_lret rfl ez_h43 rfl rfl ?_
    refine ez_lret rfl ez_h119 rfl rfl ?_
    exact ⟨congrArg (fun z => some (Value.long z)) f6, rfl⟩
  · refine ez_m.of (L := [some (.ref 0), some (.int (nI (7)))]) rfl rfl rfl ?_
    refine ez_go ez_h103 3 (pc' := bif decide ((nI (7)) < (nI 0)) then 11 else 5) (L' := [some (.ref 0), some (.int (nI (7)))]) (st' := [.ref 0]) (w' := mz_w A Q U (T.1, T.2)) rfl ?_
    refine ez_ifF (zt_nlt (a := 7) (b := 0) (by omega) (by omega)) ?_
    refine ez_go ez_h103 3 (pc' := bif decide ((nI (7)) ≤ (nI (8))) then 15 else 11) (L' := [some (.ref 0), some (.int (nI (7)))]) (st' := [.ref 0]) (w' := mz_w A Q U (T.1, T.2)) rfl ?_
    refine ez_ifT (zt_le (a := 7) (b := 8) (by omega) (by omega)) ?_
    refine ez_go ez_h103 6 (pc' := 108) (L' := [some (.ref 0), some (.int (nI (7)))]) (st' := [.long (U.2.1)]) (w' := mz_w A Q U (nI (0), T.2)) rfl ?_
    refine ez_lret rfl ez_h103 rfl rfl ?_
    exact ⟨rfl, rfl⟩
theorem zo_count8 {n : Nat} {tg : Nat → Nat} {r : cz_Row} {q : cz_Qk} {u : cz_Rn} {b : cz_Bn} {A : mz_A} {Q : mz_Q} {U : mz_U} {T : mz_T} (hR : zl_R n tg r q u b A Q U T)  : zo_P (cz_w r q u b) (mz_w A Q U T) 119 [.ref 0, .int (nI 8)] 103 [.ref 0, .int (nI 8)] := by
  have hR0 := hR
  obtain ⟨hn, ht, e1, e2, e3, e4, e5, e6, h1, h2, h3, f1, f2, f3, f4, f5, f6⟩ := hR
  refine ⟨some (.long (A.2.1.toInt64)), cz_w r q u b, mz_w A Q U (nI 0, T.2), ⟨n, tg, r, q, u, b, A, Q, U, (nI 0, T.2), rfl, rfl, hR0, rfl⟩, ?_, ?_⟩
  · refine ez_m.of (L := [some (.ref 0), some (.int (nI (8)))]) rfl rfl rfl ?_
    refine ez_go ez_h119 3 (pc' := 4) (L' := [some (.ref 0), some (.int (nI (8)))]) (st' := [.int (nI (8)), .int (nI (8)), .ref 0]) (w' := cz_w r q u b) rfl ?_
    refine ez_cl ez_h119 rfl rfl ?_
    refine ez_m.of (L := [some (.ref 0), some (.int (nI (8))), some (.int (nI (8)))]) rfl rfl rfl ?_
    refine ez_go ez_h106 2 (pc' := bif decide ((nI (8)) < (nI 0)) then 9 else 4) (L' := [some (.ref 0), some (.int (nI (8))), some (.int (nI (8)))]) (st' := []) (w' := cz_w r q u b) rfl ?_
    refine ez_ifF (zt_nlt (a := 8) (b := 0) (by omega) (by omega)) ?_
    refine ez_go ez_h106 3 (pc' := bif decide ((nI (8)) ≤ (nI (8))) then 19 else 9) (L' := [some (.ref 0), some (.int (nI (8))), some (.int (nI (8)))]) (st' := []) (w' := cz_w r q u b) rfl ?_
    refine ez_ifT (zt_le (a := 8) (b := 8) (by omega) (by omega)) ?_
    refine ez_vret rfl ez_h106 rfl rfl ?_
    refine ez_go ez_h119 4 (pc' := 119) (L' := [some (.ref 0), some (.int (nI (8)))]) (st' := [.ref 1]) (w' := cz_w r q u b) rfl ?_
    refine ez_cl ez_h119 rfl rfl ?_
    refine ez_m.of (L := [some (.ref 1)]) rfl rfl rfl ?_
    refine ez_go ez_h27 2 (pc' := 4) (L' := [some (.ref 1)]) (st' := [.int (r.2.1)]) (w' := cz_w r q u b) rfl ?_
    refine ez_iret rfl ez_h27 rfl rfl ?_
    refine ez_go ez_h119 1 (pc' := 123) (L' := [some (.ref 0), some (.int (nI (8)))]) (st' := [.long (r.2.1.toInt64)]) (w' := cz_w r q u b) rfl ?_
    refine ez_lret rfl ez_h119 rfl rfl ?_
    exact ⟨congrArg (fun z : Int32 => some (Value.long z.toInt64)) e3, rfl⟩
  · refine ez_m.of (L := [some (.ref 0), some (.int (nI (8)))]) rfl rfl rfl ?_
    refine ez_go ez_h103 3 (pc' := bif decide ((nI (8)) < (nI 0)) then 11 else 5) (L' := [some (.ref 0), some (.int (nI (8)))]) (st' := [.ref 0]) (w' := mz_w A Q U (T.1, T.2)) rfl ?_
    refine ez_ifF (zt_nlt (a := 8) (b := 0) (by omega) (by omega)) ?_
    refine ez_go ez_h103 3 (pc' := bif decide ((nI (8)) ≤ (nI (8))) then 15 else 11) (L' := [some (.ref 0), some (.int (nI (8)))]) (st' := [.ref 0]) (w' := mz_w A Q U (T.1, T.2)) rfl ?_
    refine ez_ifT (zt_le (a := 8) (b := 8) (by omega) (by omega)) ?_
    refine ez_go ez_h103 7 (pc' := 114) (L' := [some (.ref 0), some (.int (nI (8)))]) (st' := [.long (A.2.1.toInt64)]) (w' := mz_w A Q U (nI (0), T.2)) rfl ?_
    refine ez_lret rfl ez_h103 rfl rfl ?_
    exact ⟨rfl, rfl⟩
theorem zo_count {n : Nat} {tg : Nat → Nat} {r : cz_Row} {q : cz_Qk} {u : cz_Rn} {b : cz_Bn} {A : mz_A} {Q : mz_Q} {U : mz_U} {T : mz_T} (hR : zl_R n tg r q u b A Q U T) {c : Nat} (hc : c ≤ 8) : zo_P (cz_w r q u b) (mz_w A Q U T) 119 [.ref 0, .int (nI c)] 103 [.ref 0, .int (nI c)] := by
  match c, hc with
  | 0, _ => exact zo_count0 hR
  | 1, _ => exact zo_count1 hR
  | 2, _ => exact zo_count2 hR
  | 3, _ => exact zo_count3 hR
  | 4, _ => exact zo_count4 hR
  | 5, _ => exact zo_count5 hR
  | 6, _ => exact zo_count6 hR
  | 7, _ => exact zo_count7 hR
  | 8, _ => exact zo_count8 hR
theorem zo_sw {x : Int32} {lo hi : Int} (h : x.toInt < lo ∨ hi < x.toInt) {pc t : Nat} {o : Nat} {d : Int} {offs : Array Int} {L : ez_L} {st : List Value} {w : ez_W} (ht : ez_br pc d = some t) : ez_s o (.tableswitch d lo hi offs) pc L (.int x :: st) w = some (t, L, st, w) := by
  simp only [ez_s]
  rw [if_pos h]
  dsimp only
  rw [ht]
theorem zo_countX {n : Nat} {tg : Nat → Nat} {r : cz_Row} {q : cz_Qk} {u : cz_Rn} {b : cz_Bn} {A : mz_A} {Q : mz_Q} {U : mz_U} {T : mz_T} (hR : zl_R n tg r q u b A Q U T) {x : Int32} (hx : x < nI 0 ∨ nI 8 < x) : zo_X (cz_w r q u b) (mz_w A Q U T) 103 [.ref 0, .int x] 1 := by
  have hR0 := hR
  obtain ⟨hn, ht, e1, e2, e3, e4, e5, e6, h1, h2, h3, f1, f2, f3, f4, f5, f6⟩ := hR
  have hy : x.toInt < 0 ∨ 7 < x.toInt := hx.imp (fun h => by have := Int32.lt_iff_toInt_lt.mp h; rwa [show (nI 0).toInt = 0 by decide] at this) (fun h => by have := Int32.lt_iff_toInt_lt.mp h; rw [show (nI 8).toInt = 8 by decide] at this; omega)
  refine ⟨some (.long A.2.1.toInt64), mz_w A Q U (nI 1, T.2), ⟨n, tg, r, q, u, b, A, Q, U, (nI 1, T.2), rfl, rfl, hR0, rfl⟩, ?_⟩
  by_cases hl : x < nI 0
  · refine ez_m.of (L := [some (.ref 0), some (.int (x))]) rfl rfl rfl ?_
    refine ez_go ez_h103 3 (pc' := bif decide (x < (nI 0)) then 11 else 5) (L' := [some (.ref 0), some (.int (x))]) (st' := [.ref 0]) (w' := mz_w A Q U (T.1, T.2)) rfl ?_
    refine ez_ifT (hl) ?_
    refine ez_go ez_h103 4 (pc' := 20) (L' := [some (.ref 0), some (.int (x))]) (st' := [.int (x)]) (w' := mz_w A Q U (nI (1), T.2)) rfl ?_
    refine ez_step ez_h103 (i := .tableswitch 89 0 7 #[48, 54, 59, 64, 69, 74, 79, 84]) (len := 48) rfl rfl (zo_sw hy rfl) ?_
    refine ez_go ez_h103 3 (pc' := 114) (L' := [some (.ref 0), some (.int (x))]) (st' := [.long (A.2.1.toInt64)]) (w' := mz_w A Q U (nI (1), T.2)) rfl ?_
    refine ez_lret rfl ez_h103 rfl rfl ?_
    exact ⟨rfl, rfl⟩
  · refine ez_m.of (L := [some (.ref 0), some (.int (x))]) rfl rfl rfl ?_
    refine ez_go ez_h103 3 (pc' := bif decide (x < (nI 0)) then 11 else 5) (L' := [some (.ref 0), some (.int (x))]) (st' := [.ref 0]) (w' := mz_w A Q U (T.1, T.2)) rfl ?_
    refine ez_ifF (hl) ?_
    refine ez_go ez_h103 3 (pc' := bif decide (x ≤ (nI (8))) then 15 else 11) (L' := [some (.ref 0), some (.int (x))]) (st' := [.ref 0]) (w' := mz_w A Q U (T.1, T.2)) rfl ?_
    refine ez_ifF (Int32.not_le.mpr (hx.resolve_left hl)) ?_
    refine ez_go ez_h103 4 (pc' := 20) (L' := [some (.ref 0), some (.int (x))]) (st' := [.int (x)]) (w' := mz_w A Q U (nI (1), T.2)) rfl ?_
    refine ez_step ez_h103 (i := .tableswitch 89 0 7 #[48, 54, 59, 64, 69, 74, 79, 84]) (len := 48) rfl rfl (zo_sw hy rfl) ?_
    refine ez_go ez_h103 3 (pc' := 114) (L' := [some (.ref 0), some (.int (x))]) (st' := [.long (A.2.1.toInt64)]) (w' := mz_w A Q U (nI (1), T.2)) rfl ?_
    refine ez_lret rfl ez_h103 rfl rfl ?_
    exact ⟨rfl, rfl⟩
theorem zo_rev {n a c : Nat} {q : cz_Qk} {u : cz_Rn} {b : cz_Bn} {Q : mz_Q} {U : mz_U} (h1c : 1 ≤ c) (hac : a ≤ c) (hcn : c ≤ n) : ∀ (s k : Nat) (tg : Nat → Nat) (r : cz_Row) (A : mz_A) (T : mz_T), (c - a) / 2 ≤ k + s → k ≤ (c - a) / 2 → zl_R n tg r q u b A Q U T → T.1 = nI 0 →
    ∃ (tg' : Nat → Nat) (r' : cz_Row) (A' : mz_A) (T' : mz_T), zl_R n tg' r' q u b A' Q U T' ∧ T'.1 = nI 0 ∧ (∀ post : Option Value → ez_W → Prop, post none (cz_w r' q u b) → ez_E 36 7 [some (.ref 1), some (.int (nI (a))), some (.int (nI (c))), some (.int (nI (c - k - 1))), some (.int (nI (a + k)))] [] (cz_w r q u b) post) ∧
      (∀ post : Option Value → ez_W → Prop, post none (mz_w A' Q U T') → ez_E 70 28 [some (.ref 0), some (.int (nI (a))), some (.int (nI (c))), some (.int (nI (k)))] [] (mz_w A Q U T) post) := by
  intro s
  induction s with
  | zero =>
    intro k tg r A T h1 h2 hR hT0
    have hn : n ≤ 600 := hR.1
    refine ⟨tg, r, A, T, hR, hT0, fun post kk => ?_, fun post kk => ?_⟩
    · skip
      refine ez_go ez_h36 3 (pc' := bif decide ((nI (c - k - 1)) ≤ (nI (a + k))) then 29 else 13) (L' := [some (.ref 1), some (.int (nI (a))), some (.int (nI (c))), some (.int (nI (c - k - 1))), some (.int (nI (a + k)))]) (st' := []) (w' := cz_w r q u b) rfl ?_
      refine ez_ifT (zt_le (a := c - k - 1) (b := a + k) (by omega) (by omega)) ?_
      refine ez_vret rfl ez_h36 rfl rfl ?_
      exact kk
    · skip
      refine ez_go ez_h70 4 (pc' := 32) (L' := [some (.ref 0), some (.int (nI (a))), some (.int (nI (c))), some (.int (nI (k)))]) (st' := [.int ((nI (c)) - (nI (a))), .int (nI (k))]) (w' := mz_w A Q U T) rfl ?_
      refine ez_top (y := nI (c - a)) (pk_sub (by omega)) ?_
      refine ez_go ez_h70 2 (pc' := 34) (L' := [some (.ref 0), some (.int (nI (a))), some (.int (nI (c))), some (.int (nI (k)))]) (st' := [.int ((nI (c - a)) / (nI (2))), .int (nI (k))]) (w' := mz_w A Q U T) rfl ?_
      refine ez_top (y := nI ((c - a) / 2)) (pk_div (by omega) (by omega) (by omega)) ?_
      refine ez_go ez_h70 1 (pc' := bif decide ((nI ((c - a) / 2)) ≤ (nI (k))) then 62 else 37) (L' := [some (.ref 0), some (.int (nI (a))), some (.int (nI (c))), some (.int (nI (k)))]) (st' := []) (w' := mz_w A Q U T) rfl ?_
      refine ez_ifT (zt_le (a := (c - a) / 2) (b := k) (by omega) (by omega)) ?_
      refine ez_vret rfl ez_h70 rfl rfl ?_
      exact kk
  | succ s ih =>
    intro k tg r A T h1 h2 hR hT0
    have hn : n ≤ 600 := hR.1
    by_cases hk : (c - a) / 2 ≤ k
    · refine ⟨tg, r, A, T, hR, hT0, fun post kk => ?_, fun post kk => ?_⟩
      · skip
        refine ez_go ez_h36 3 (pc' := bif decide ((nI (c - k - 1)) ≤ (nI (a + k))) then 29 else 13) (L' := [some (.ref 1), some (.int (nI (a))), some (.int (nI (c))), some (.int (nI (c - k - 1))), some (.int (nI (a + k)))]) (st' := []) (w' := cz_w r q u b) rfl ?_
        refine ez_ifT (zt_le (a := c - k - 1) (b := a + k) (by omega) (by omega)) ?_
        refine ez_vret rfl ez_h36 rfl rfl ?_
        exact kk
      · skip
        refine ez_go ez_h70 4 (pc' := 32) (L' := [some (.ref 0), some (.int (nI (a))), some (.int (nI (c))), some (.int (nI (k)))]) (st' := [.int ((nI (c)) - (nI (a))), .int (nI (k))]) (w' := mz_w A Q U T) rfl ?_
        refine ez_top (y := nI (c - a)) (pk_sub (by omega)) ?_
        refine ez_go ez_h70 2 (pc' := 34) (L' := [some (.ref 0), some (.int (nI (a))), some (.int (nI (c))), some (.int (nI (k)))]) (st' := [.int ((nI (c - a)) / (nI (2))), .int (nI (k))]) (w' := mz_w A Q U T) rfl ?_
        refine ez_top (y := nI ((c - a) / 2)) (pk_div (by omega) (by omega) (by omega)) ?_
        refine ez_go ez_h70 1 (pc' := bif decide ((nI ((c - a) / 2)) ≤ (nI (k))) then 62 else 37) (L' := [some (.ref 0), some (.int (nI (a))), some (.int (nI (c))), some (.int (nI (k)))]) (st' := []) (w' := mz_w A Q U T) rfl ?_
        refine ez_ifT (zt_le (a := (c - a) / 2) (b := k) (by omega) (by omega)) ?_
        refine ez_vret rfl ez_h70 rfl rfl ?_
        exact kk
    · obtain ⟨r1, A1, T1, hR1, hT1, ca, ma⟩ := zo_swp hR (i := a + k) (j := c - k - 1) (by omega) (by omega)
      obtain ⟨tg', r', A', T', g1, g2, g3, g4⟩ := ih (k + 1) _ r1 A1 T1 (by omega) (by omega) hR1 (hT1.trans hT0)
      refine ⟨tg', r', A', T', g1, g2, fun post kk => ?_, fun post kk => ?_⟩
      · skip
        refine ez_go ez_h36 3 (pc' := bif decide ((nI (c - k - 1)) ≤ (nI (a + k))) then 29 else 13) (L' := [some (.ref 1), some (.int (nI (a))), some (.int (nI (c))), some (.int (nI (c - k - 1))), some (.int (nI (a + k)))]) (st' := []) (w' := cz_w r q u b) rfl ?_
        refine ez_ifF (zt_nle (a := c - k - 1) (b := a + k) (by omega) (by omega)) ?_
        refine ez_go ez_h36 3 (pc' := 17) (L' := [some (.ref 1), some (.int (nI (a))), some (.int (nI (c))), some (.int (nI (c - k - 1))), some (.int (nI (a + k)))]) (st' := [.int (nI (c - k - 1)), .int (nI (a + k)), .ref 1]) (w' := cz_w r q u b) rfl ?_
        refine ez_cl ez_h36 rfl rfl ?_
        refine ca _ ?_
        refine ez_inc ez_h36 rfl rfl (v := nI (c - (k + 1) - 1)) (by rw [show c - (k + 1) - 1 = c - k - 1 - 1 by omega]; exact zi_m (by omega)) rfl ?_
        refine ez_inc ez_h36 rfl rfl (v := nI ((a + k) + 1)) (zi_1 _) rfl ?_
        refine ez_go ez_h36 1 (pc' := 7) (L' := [some (.ref 1), some (.int (nI (a))), some (.int (nI (c))), some (.int (nI (c - (k + 1) - 1))), some (.int (nI ((a + k) + 1)))]) (st' := []) (w' := cz_w r1 q u b) rfl ?_
        exact g3 post kk
      · skip
        refine ez_go ez_h70 4 (pc' := 32) (L' := [some (.ref 0), some (.int (nI (a))), some (.int (nI (c))), some (.int (nI (k)))]) (st' := [.int ((nI (c)) - (nI (a))), .int (nI (k))]) (w' := mz_w A Q U T) rfl ?_
        refine ez_top (y := nI (c - a)) (pk_sub (by omega)) ?_
        refine ez_go ez_h70 2 (pc' := 34) (L' := [some (.ref 0), some (.int (nI (a))), some (.int (nI (c))), some (.int (nI (k)))]) (st' := [.int ((nI (c - a)) / (nI (2))), .int (nI (k))]) (w' := mz_w A Q U T) rfl ?_
        refine ez_top (y := nI ((c - a) / 2)) (pk_div (by omega) (by omega) (by omega)) ?_
        refine ez_go ez_h70 1 (pc' := bif decide ((nI ((c - a) / 2)) ≤ (nI (k))) then 62 else 37) (L' := [some (.ref 0), some (.int (nI (a))), some (.int (nI (c))), some (.int (nI (k)))]) (st' := []) (w' := mz_w A Q U T) rfl ?_
        refine ez_ifF (zt_nle (a := (c - a) / 2) (b := k) (by omega) (by omega)) ?_
        refine ez_go ez_h70 2 (pc' := 41) (L' := [some (.ref 0), some (.int (nI (a))), some (.int (nI (c))), some (.int (nI (k)))]) (st' := [.int (T.1)]) (w' := mz_w A Q U T) rfl ?_
        refine ez_top (y := nI (0)) (hT0) ?_
        refine ez_go ez_h70 1 (pc' := bif decide (¬ (nI (0)) = (nI 0)) then 62 else 44) (L' := [some (.ref 0), some (.int (nI (a))), some (.int (nI (c))), some (.int (nI (k)))]) (st' := []) (w' := mz_w A Q U T) rfl ?_
        refine ez_ifF (fun z => z (zt_eq (by omega))) ?_
        refine ez_go ez_h70 4 (pc' := 48) (L' := [some (.ref 0), some (.int (nI (a))), some (.int (nI (c))), some (.int (nI (k)))]) (st' := [.int ((nI (a)) + (nI (k))), .ref 0]) (w' := mz_w A Q U T) rfl ?_
        refine ez_top (y := nI (a + k)) (nI_add _ _) ?_
        refine ez_go ez_h70 3 (pc' := 51) (L' := [some (.ref 0), some (.int (nI (a))), some (.int (nI (c))), some (.int (nI (k)))]) (st' := [.int ((nI (c)) - (nI (1))), .int (nI (a + k)), .ref 0]) (w' := mz_w A Q U T) rfl ?_
        refine ez_top (y := nI (c - 1)) (pk_sub (by omega)) ?_
        refine ez_go ez_h70 2 (pc' := 53) (L' := [some (.ref 0), some (.int (nI (a))), some (.int (nI (c))), some (.int (nI (k)))]) (st' := [.int ((nI (c - 1)) - (nI (k))), .int (nI (a + k)), .ref 0]) (w' := mz_w A Q U T) rfl ?_
        refine ez_top (y := nI ((c - 1) - k)) (pk_sub (by omega)) ?_
        refine ez_top (y := nI (c - k - 1)) (congrArg nI (by omega)) ?_
        refine ez_cl ez_h70 rfl rfl ?_
        refine ma _ ?_
        refine ez_inc ez_h70 rfl rfl (v := nI (k + 1)) (zi_1 _) rfl ?_
        refine ez_go ez_h70 1 (pc' := 28) (L' := [some (.ref 0), some (.int (nI (a))), some (.int (nI (c))), some (.int (nI (k + 1)))]) (st' := []) (w' := mz_w A1 Q U T1) rfl ?_
        exact g4 post kk
theorem zo_turn {n : Nat} {tg : Nat → Nat} {r : cz_Row} {q : cz_Qk} {u : cz_Rn} {b : cz_Bn} {A : mz_A} {Q : mz_Q} {U : mz_U} {T : mz_T} (hR : zl_R n tg r q u b A Q U T) {i j : Nat} (hij : i ≤ j) (hj : j ≤ n) : zo_P (cz_w r q u b) (mz_w A Q U T) 114 [.ref 0, .int (nI i), .int (nI j)] 70 [.ref 0, .int (nI i), .int (nI j)] := by
  have hR0 := hR
  obtain ⟨hn, ht, e1, e2, e3, e4, e5, e6, h1, h2, h3, f1, f2, f3, f4, f5, f6⟩ := hR
  have hRT : zl_R n tg r q u b A Q U (nI 0, T.2) := hR0
  by_cases hj0 : j = 0
  · refine ⟨none, cz_w r q u b, mz_w A Q U (nI 0, T.2), ⟨n, tg, r, q, u, b, A, Q, U, (nI 0, T.2), rfl, rfl, hRT, rfl⟩, ?_, ?_⟩
    · refine ez_m.of (L := [some (.ref 0), some (.int (nI (i))), some (.int (nI (j)))]) rfl rfl rfl ?_
      refine ez_go ez_h114 2 (pc' := bif decide ((nI (i)) < (nI 0)) then 20 else 4) (L' := [some (.ref 0), some (.int (nI (i))), some (.int (nI (j)))]) (st' := []) (w' := cz_w r q u b) rfl ?_
      refine ez_ifF (zt_nlt (a := i) (b := 0) (by omega) (by omega)) ?_
      refine ez_go ez_h114 3 (pc' := bif decide ((nI (j)) < (nI (i))) then 20 else 9) (L' := [some (.ref 0), some (.int (nI (i))), some (.int (nI (j)))]) (st' := []) (w' := cz_w r q u b) rfl ?_
      refine ez_ifF (zt_nlt (a := j) (b := i) (by omega) (by omega)) ?_
      refine ez_go ez_h114 3 (pc' := 14) (L' := [some (.ref 0), some (.int (nI (i))), some (.int (nI (j)))]) (st' := [.ref 1, .int (nI (j))]) (w' := cz_w r q u b) rfl ?_
      refine ez_cl ez_h114 rfl rfl ?_
      refine ez_m.of (L := [some (.ref 1)]) rfl rfl rfl ?_
      refine ez_go ez_h26 2 (pc' := 4) (L' := [some (.ref 1)]) (st' := [.int (r.1)]) (w' := cz_w r q u b) rfl ?_
      refine ez_top (y := nI (n)) (e1) ?_
      refine ez_iret rfl ez_h26 rfl rfl ?_
      refine ez_go ez_h114 1 (pc' := bif decide ((nI (j)) ≤ (nI (n))) then 30 else 20) (L' := [some (.ref 0), some (.int (nI (i))), some (.int (nI (j)))]) (st' := []) (w' := cz_w r q u b) rfl ?_
      refine ez_ifT (zt_le (a := j) (b := n) (by omega) (by omega)) ?_
      refine ez_go ez_h114 4 (pc' := 36) (L' := [some (.ref 0), some (.int (nI (i))), some (.int (nI (j)))]) (st' := [.int (nI (j)), .int (nI (i)), .ref 1]) (w' := cz_w r q u b) rfl ?_
      refine ez_cl ez_h114 rfl rfl ?_
      refine ez_m.of (L := [some (.ref 1), some (.int (nI (i))), some (.int (nI (j))), none, none]) rfl rfl rfl ?_
      refine ez_go ez_h36 9 (pc' := bif decide ((nI (j) - nI (1)) ≤ (nI (i))) then 29 else 13) (L' := [some (.ref 1), some (.int (nI (i))), some (.int (nI (j))), some (.int (nI (j) - nI (1))), some (.int (nI (i)))]) (st' := []) (w' := cz_w r q u b) rfl ?_
      refine ez_ifT (by rw [hj0, show i = 0 by omega]; decide) ?_
      refine ez_vret rfl ez_h36 rfl rfl ?_
      refine ez_vret rfl ez_h114 rfl rfl ?_
      exact ⟨rfl, rfl⟩
    · refine ez_m.of (L := [some (.ref 0), some (.int (nI (i))), some (.int (nI (j))), none]) rfl rfl rfl ?_
      refine ez_go ez_h70 3 (pc' := bif decide ((nI (i)) < (nI 0)) then 22 else 5) (L' := [some (.ref 0), some (.int (nI (i))), some (.int (nI (j))), none]) (st' := [.ref 0]) (w' := mz_w A Q U (T.1, T.2)) rfl ?_
      refine ez_ifF (zt_nlt (a := i) (b := 0) (by omega) (by omega)) ?_
      refine ez_go ez_h70 3 (pc' := bif decide ((nI (j)) < (nI (i))) then 22 else 10) (L' := [some (.ref 0), some (.int (nI (i))), some (.int (nI (j))), none]) (st' := [.ref 0]) (w' := mz_w A Q U (T.1, T.2)) rfl ?_
      refine ez_ifF (zt_nlt (a := j) (b := i) (by omega) (by omega)) ?_
      refine ez_go ez_h70 3 (pc' := 15) (L' := [some (.ref 0), some (.int (nI (i))), some (.int (nI (j))), none]) (st' := [.int (A.1), .int (nI (j)), .ref 0]) (w' := mz_w A Q U (T.1, T.2)) rfl ?_
      refine ez_top (y := nI (n)) (e2) ?_
      refine ez_go ez_h70 1 (pc' := bif decide ((nI (n)) < (nI (j))) then 22 else 18) (L' := [some (.ref 0), some (.int (nI (i))), some (.int (nI (j))), none]) (st' := [.ref 0]) (w' := mz_w A Q U (T.1, T.2)) rfl ?_
      refine ez_ifF (zt_nlt (a := n) (b := j) (by omega) (by omega)) ?_
      refine ez_go ez_h70 9 (pc' := 32) (L' := [some (.ref 0), some (.int (nI (i))), some (.int (nI (j))), some (.int (nI (0)))]) (st' := [.int ((nI (j)) - (nI (i))), .int (nI (0))]) (w' := mz_w A Q U (nI (0), T.2)) rfl ?_
      refine ez_top (y := nI (j - i)) (pk_sub (by omega)) ?_
      refine ez_go ez_h70 2 (pc' := 34) (L' := [some (.ref 0), some (.int (nI (i))), some (.int (nI (j))), some (.int (nI (0)))]) (st' := [.int ((nI (j - i)) / (nI (2))), .int (nI (0))]) (w' := mz_w A Q U (nI (0), T.2)) rfl ?_
      refine ez_top (y := nI ((j - i) / 2)) (pk_div (by omega) (by omega) (by omega)) ?_
      refine ez_go ez_h70 1 (pc' := bif decide ((nI ((j - i) / 2)) ≤ (nI (0))) then 62 else 37) (L' := [some (.ref 0), some (.int (nI (i))), some (.int (nI (j))), some (.int (nI (0)))]) (st' := []) (w' := mz_w A Q U (nI (0), T.2)) rfl ?_
      refine ez_ifT (zt_le (a := (j - i) / 2) (b := 0) (by omega) (by omega)) ?_
      refine ez_vret rfl ez_h70 rfl rfl ?_
      exact ⟨rfl, rfl⟩
  · obtain ⟨tg', r1, A1, T1, hR1, hT1, ca, ma⟩ := zo_rev (by omega) hij hj ((j - i) / 2) 0 tg r A (nI 0, T.2) (by omega) (by omega) hRT rfl
    refine ⟨none, cz_w r1 q u b, mz_w A1 Q U T1, ⟨n, tg', r1, q, u, b, A1, Q, U, T1, rfl, rfl, hR1, hT1⟩, ?_, ?_⟩
    · refine ez_m.of (L := [some (.ref 0), some (.int (nI (i))), some (.int (nI (j)))]) rfl rfl rfl ?_
      refine ez_go ez_h114 2 (pc' := bif decide ((nI (i)) < (nI 0)) then 20 else 4) (L' := [some (.ref 0), some (.int (nI (i))), some (.int (nI (j)))]) (st' := []) (w' := cz_w r q u b) rfl ?_
      refine ez_ifF (zt_nlt (a := i) (b := 0) (by omega) (by omega)) ?_
      refine ez_go ez_h114 3 (pc' := bif decide ((nI (j)) < (nI (i))) then 20 else 9) (L' := [some (.ref 0), some (.int (nI (i))), some (.int (nI (j)))]) (st' := []) (w' := cz_w r q u b) rfl ?_
      refine ez_ifF (zt_nlt (a := j) (b := i) (by omega) (by omega)) ?_
      refine ez_go ez_h114 3 (pc' := 14) (L' := [some (.ref 0), some (.int (nI (i))), some (.int (nI (j)))]) (st' := [.ref 1, .int (nI (j))]) (w' := cz_w r q u b) rfl ?_
      refine ez_cl ez_h114 rfl rfl ?_
      refine ez_m.of (L := [some (.ref 1)]) rfl rfl rfl ?_
      refine ez_go ez_h26 2 (pc' := 4) (L' := [some (.ref 1)]) (st' := [.int (r.1)]) (w' := cz_w r q u b) rfl ?_
      refine ez_top (y := nI (n)) (e1) ?_
      refine ez_iret rfl ez_h26 rfl rfl ?_
      refine ez_go ez_h114 1 (pc' := bif decide ((nI (j)) ≤ (nI (n))) then 30 else 20) (L' := [some (.ref 0), some (.int (nI (i))), some (.int (nI (j)))]) (st' := []) (w' := cz_w r q u b) rfl ?_
      refine ez_ifT (zt_le (a := j) (b := n) (by omega) (by omega)) ?_
      refine ez_go ez_h114 4 (pc' := 36) (L' := [some (.ref 0), some (.int (nI (i))), some (.int (nI (j)))]) (st' := [.int (nI (j)), .int (nI (i)), .ref 1]) (w' := cz_w r q u b) rfl ?_
      refine ez_cl ez_h114 rfl rfl ?_
      refine ez_m.of (L := [some (.ref 1), some (.int (nI (i))), some (.int (nI (j))), none, none]) rfl rfl rfl ?_
      refine ez_go ez_h36 3 (pc' := 3) (L' := [some (.ref 1), some (.int (nI (i))), some (.int (nI (j))), none, none]) (st' := [.int ((nI (j)) - (nI (1)))]) (w' := cz_w r q u b) rfl ?_
      refine ez_top (y := nI (j - 1)) (pk_sub (by omega)) ?_
      refine ez_go ez_h36 3 (pc' := 7) (L' := [some (.ref 1), some (.int (nI (i))), some (.int (nI (j))), some (.int (nI (j - 1))), some (.int (nI (i)))]) (st' := []) (w' := cz_w r q u b) rfl ?_
      refine ca _ ?_
      refine ez_vret rfl ez_h114 rfl rfl ?_
      exact ⟨rfl, rfl⟩
    · refine ez_m.of (L := [some (.ref 0), some (.int (nI (i))), some (.int (nI (j))), none]) rfl rfl rfl ?_
      refine ez_go ez_h70 3 (pc' := bif decide ((nI (i)) < (nI 0)) then 22 else 5) (L' := [some (.ref 0), some (.int (nI (i))), some (.int (nI (j))), none]) (st' := [.ref 0]) (w' := mz_w A Q U (T.1, T.2)) rfl ?_
      refine ez_ifF (zt_nlt (a := i) (b := 0) (by omega) (by omega)) ?_
      refine ez_go ez_h70 3 (pc' := bif decide ((nI (j)) < (nI (i))) then 22 else 10) (L' := [some (.ref 0), some (.int (nI (i))), some (.int (nI (j))), none]) (st' := [.ref 0]) (w' := mz_w A Q U (T.1, T.2)) rfl ?_
      refine ez_ifF (zt_nlt (a := j) (b := i) (by omega) (by omega)) ?_
      refine ez_go ez_h70 3 (pc' := 15) (L' := [some (.ref 0), some (.int (nI (i))), some (.int (nI (j))), none]) (st' := [.int (A.1), .int (nI (j)), .ref 0]) (w' := mz_w A Q U (T.1, T.2)) rfl ?_
      refine ez_top (y := nI (n)) (e2) ?_
      refine ez_go ez_h70 1 (pc' := bif decide ((nI (n)) < (nI (j))) then 22 else 18) (L' := [some (.ref 0), some (.int (nI (i))), some (.int (nI (j))), none]) (st' := [.ref 0]) (w' := mz_w A Q U (T.1, T.2)) rfl ?_
      refine ez_ifF (zt_nlt (a := n) (b := j) (by omega) (by omega)) ?_
      refine ez_go ez_h70 5 (pc' := 28) (L' := [some (.ref 0), some (.int (nI (i))), some (.int (nI (j))), some (.int (nI (0)))]) (st' := []) (w' := mz_w A Q U (nI (0), T.2)) rfl ?_
      exact ma _ ⟨rfl, rfl⟩
theorem zo_turnE {A : mz_A} {Q : mz_Q} {U : mz_U} {T : mz_T} (hT0 : T.1 = nI 1) {i j : Int32} {post : Option Value → ez_W → Prop} (kk : post none (mz_w A Q U T)) : ez_E 70 28 [some (.ref 0), some (.int (i)), some (.int (j)), some (.int (nI (0)))] [] (mz_w A Q U T) post := by
  refine ez_go ez_h70 5 (pc' := 33) (L' := [some (.ref 0), some (.int (i)), some (.int (j)), some (.int (nI (0)))]) (st' := [.int (nI (2)), .int (j - i), .int (nI (0))]) (w' := mz_w A Q U T) rfl ?_
  refine ez_div ez_h70 rfl (by decide) ?_
  refine ez_go ez_h70 1 (pc' := bif decide ((j - i) / nI 2 ≤ nI 0) then 62 else 37) (L' := [some (.ref 0), some (.int (i)), some (.int (j)), some (.int (nI (0)))]) (st' := []) (w' := mz_w A Q U T) rfl ?_
  refine ez_if (fun _ => ?_) (fun _ => ?_)
  · exact ez_vret rfl ez_h70 rfl rfl kk
  · skip
    refine ez_go ez_h70 2 (pc' := 41) (L' := [some (.ref 0), some (.int (i)), some (.int (j)), some (.int (nI (0)))]) (st' := [.int (T.1)]) (w' := mz_w A Q U T) rfl ?_
    refine ez_top (y := nI (1)) (hT0) ?_
    refine ez_go ez_h70 1 (pc' := bif decide (¬ (nI (1)) = (nI 0)) then 62 else 44) (L' := [some (.ref 0), some (.int (i)), some (.int (j)), some (.int (nI (0)))]) (st' := []) (w' := mz_w A Q U T) rfl ?_
    refine ez_ifT (zt_ne (by omega) (by omega) (by omega)) ?_
    refine ez_vret rfl ez_h70 rfl rfl ?_
    exact kk
theorem zo_turnX {n : Nat} {tg : Nat → Nat} {r : cz_Row} {q : cz_Qk} {u : cz_Rn} {b : cz_Bn} {A : mz_A} {Q : mz_Q} {U : mz_U} {T : mz_T} (hR : zl_R n tg r q u b A Q U T) {i j : Int32} (hx : i < nI 0 ∨ j < i ∨ nI n < j) : zo_X (cz_w r q u b) (mz_w A Q U T) 70 [.ref 0, .int i, .int j] 1 := by
  have hR0 := hR
  obtain ⟨hn, ht, e1, e2, e3, e4, e5, e6, h1, h2, h3, f1, f2, f3, f4, f5, f6⟩ := hR
  refine ⟨none, mz_w A Q U (nI 1, T.2), ⟨n, tg, r, q, u, b, A, Q, U, (nI 1, T.2), rfl, rfl, hR0, rfl⟩, ?_⟩
  by_cases hl : i < nI 0
  · refine ez_m.of (L := [some (.ref 0), some (.int (i)), some (.int (j)), none]) rfl rfl rfl ?_
    refine ez_go ez_h70 3 (pc' := bif decide (i < (nI 0)) then 22 else 5) (L' := [some (.ref 0), some (.int (i)), some (.int (j)), none]) (st' := [.ref 0]) (w' := mz_w A Q U (T.1, T.2)) rfl ?_
    refine ez_ifT (hl) ?_
    refine ez_go ez_h70 4 (pc' := 28) (L' := [some (.ref 0), some (.int (i)), some (.int (j)), some (.int (nI (0)))]) (st' := []) (w' := mz_w A Q U (nI (1), T.2)) rfl ?_
    exact zo_turnE rfl ⟨rfl, rfl⟩
  by_cases hl2 : j < i
  · refine ez_m.of (L := [some (.ref 0), some (.int (i)), some (.int (j)), none]) rfl rfl rfl ?_
    refine ez_go ez_h70 3 (pc' := bif decide (i < (nI 0)) then 22 else 5) (L' := [some (.ref 0), some (.int (i)), some (.int (j)), none]) (st' := [.ref 0]) (w' := mz_w A Q U (T.1, T.2)) rfl ?_
    refine ez_ifF (hl) ?_
    refine ez_go ez_h70 3 (pc' := bif decide (j < i) then 22 else 10) (L' := [some (.ref 0), some (.int (i)), some (.int (j)), none]) (st' := [.ref 0]) (w' := mz_w A Q U (T.1, T.2)) rfl ?_
    refine ez_ifT (hl2) ?_
    refine ez_go ez_h70 4 (pc' := 28) (L' := [some (.ref 0), some (.int (i)), some (.int (j)), some (.int (nI (0)))]) (st' := []) (w' := mz_w A Q U (nI (1), T.2)) rfl ?_
    exact zo_turnE rfl ⟨rfl, rfl⟩
  · refine ez_m.of (L := [some (.ref 0), some (.int (i)), some (.int (j)), none]) rfl rfl rfl ?_
    refine ez_go ez_h70 3 (pc' := bif decide (i < (nI 0)) then 22 else 5) (L' := [some (.ref 0), some (.int (i)), some (.int (j)), none]) (st' := [.ref 0]) (w' := mz_w A Q U (T.1, T.2)) rfl ?_
    refine ez_ifF (hl) ?_
    refine ez_go ez_h70 3 (pc' := bif decide (j < i) then 22 else 10) (L' := [some (.ref 0), some (.int (i)), some (.int (j)), none]) (st' := [.ref 0]) (w' := mz_w A Q U (T.1, T.2)) rfl ?_
    refine ez_ifF (hl2) ?_
    refine ez_go ez_h70 3 (pc' := 15) (L' := [some (.ref 0), some (.int (i)), some (.int (j)), none]) (st' := [.int (A.1), .int (j), .ref 0]) (w' := mz_w A Q U (T.1, T.2)) rfl ?_
    refine ez_top (y := nI (n)) (e2) ?_
    refine ez_go ez_h70 1 (pc' := bif decide ((nI (n)) < j) then 22 else 18) (L' := [some (.ref 0), some (.int (i)), some (.int (j)), none]) (st' := [.ref 0]) (w' := mz_w A Q U (T.1, T.2)) rfl ?_
    refine ez_ifT ((hx.resolve_left hl).resolve_left hl2) ?_
    refine ez_go ez_h70 4 (pc' := 28) (L' := [some (.ref 0), some (.int (i)), some (.int (j)), some (.int (nI (0)))]) (st' := []) (w' := mz_w A Q U (nI (1), T.2)) rfl ?_
    exact zo_turnE rfl ⟨rfl, rfl⟩
