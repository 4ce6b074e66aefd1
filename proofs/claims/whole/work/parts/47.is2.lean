theorem zo_al_cg {f g : Nat → Bool} : ∀ (n : Nat), (∀ k, 1 ≤ k → k ≤ n → f k = g k) → zo_al f n = zo_al g n
  | 0, _ => rfl
  | n + 1, h => by
    show (zo_al f n && f (n + 1)) = (zo_al g n && g (n + 1))
    rw [zo_al_cg n (fun k k1 k2 => h k k1 (by omega)), h (n + 1) (by omega) (by omega)]
theorem zo_is0 {n : Nat} {tg : Nat → Nat} {r : cz_Row} {q : cz_Qk} {u : cz_Rn} {b : cz_Bn} {A : mz_A} {Q : mz_Q} {U : mz_U} {T : mz_T} (hR : zl_R n tg r q u b A Q U T)  : zo_P (cz_w r q u b) (mz_w A Q U T) 118 [.ref 0, .int (nI 0)] 102 [.ref 0, .int (nI 0)] := by
  have hR0 := hR
  obtain ⟨hn, ht, e1, e2, e3, e4, e5, e6, h1, h2, h3, f1, f2, f3, f4, f5, f6⟩ := hR
  have ho : ze_or r.2.1 := e3 ▸ e4
  have heq : zo_al (fun k => zo_F 0 (zk_key r.2.1 (r.2.2.2.2.2.2.1 (tg (k - 1))).toInt64) (zk_key r.2.1 (r.2.2.2.2.2.2.1 (tg k)).toInt64) (tg (k - 1)) (tg k)) (n - 1) = zo_al (fun k => zo_F 0 (zk_key A.2.1 (A.2.2.2.2.2.2.2.1 (k - 1)).toInt64) (zk_key A.2.1 (A.2.2.2.2.2.2.2.1 k).toInt64) (tg (k - 1)) (tg k)) (n - 1) := zo_al_cg (n - 1) (fun k k1 k2 => by
    show zo_F _ _ _ _ _ = zo_F _ _ _ _ _
    rw [e3, h3 k (by omega), h3 (k - 1) (by omega)])
  refine ⟨some (.int (zs_z (zo_al (fun k => zo_F 0 (zk_key A.2.1 (A.2.2.2.2.2.2.2.1 (k - 1)).toInt64) (zk_key A.2.1 (A.2.2.2.2.2.2.2.1 k).toInt64) (tg (k - 1)) (tg k)) (n - 1)))), cz_w r q u b, mz_w A Q U (nI 0, T.2), ⟨n, tg, r, q, u, b, A, Q, U, (nI 0, T.2), rfl, rfl, hR0, rfl⟩, ?_, ?_⟩
  · refine ez_m.of (L := [some (.ref 0), some (.int (nI (0))), none]) rfl rfl rfl ?_
    refine ez_go ez_h118 3 (pc' := 3) (L' := [some (.ref 0), some (.int (nI (0))), none]) (st' := [.int (nI (2)), .int (nI (0)), .ref 0]) (w' := cz_w r q u b) rfl ?_
    refine ez_cl ez_h118 rfl rfl ?_
    refine ez_m.of (L := [some (.ref 0), some (.int (nI (0))), some (.int (nI (2)))]) rfl rfl rfl ?_
    refine ez_go ez_h106 2 (pc' := bif decide ((nI (0)) < (nI 0)) then 9 else 4) (L' := [some (.ref 0), some (.int (nI (0))), some (.int (nI (2)))]) (st' := []) (w' := cz_w r q u b) rfl ?_
    refine ez_ifF (zt_nlt (a := 0) (b := 0) (by omega) (by omega)) ?_
    refine ez_go ez_h106 3 (pc' := bif decide ((nI (0)) ≤ (nI (2))) then 19 else 9) (L' := [some (.ref 0), some (.int (nI (0))), some (.int (nI (2)))]) (st' := []) (w' := cz_w r q u b) rfl ?_
    refine ez_ifT (zt_le (a := 0) (b := 2) (by omega) (by omega)) ?_
    refine ez_vret rfl ez_h106 rfl rfl ?_
    refine ez_go ez_h118 2 (pc' := 8) (L' := [some (.ref 0), some (.int (nI (0))), some (.int (nI (1)))]) (st' := []) (w' := cz_w r q u b) rfl ?_
    have q9 := zo_isc0 (q := q) (u := u) (b := b) (post := fun a w => a = some (.int (zs_z (zo_al (fun k => zo_F 0 (zk_key A.2.1 (A.2.2.2.2.2.2.2.1 (k - 1)).toInt64) (zk_key A.2.1 (A.2.2.2.2.2.2.2.1 k).toInt64) (tg (k - 1)) (tg k)) (n - 1)))) ∧ w = cz_w r q u b) hn ht e1 ho h1 ⟨congrArg (fun z => some (Value.int (zs_z z))) heq, rfl⟩ n 1 (by omega) (by omega) (by omega) rfl
    exact q9
  · refine ez_m.of (L := [some (.ref 0), some (.int (nI (0))), none, none, none, none, none, none, none]) rfl rfl rfl ?_
    refine ez_go ez_h102 3 (pc' := bif decide ((nI (0)) < (nI 0)) then 10 else 5) (L' := [some (.ref 0), some (.int (nI (0))), none, none, none, none, none, none, none]) (st' := [.ref 0]) (w' := mz_w A Q U (T.1, T.2)) rfl ?_
    refine ez_ifF (zt_nlt (a := 0) (b := 0) (by omega) (by omega)) ?_
    refine ez_go ez_h102 3 (pc' := bif decide ((nI (0)) ≤ (nI (2))) then 14 else 10) (L' := [some (.ref 0), some (.int (nI (0))), none, none, none, none, none, none, none]) (st' := [.ref 0]) (w' := mz_w A Q U (T.1, T.2)) rfl ?_
    refine ez_ifT (zt_le (a := 0) (b := 2) (by omega) (by omega)) ?_
    refine ez_go ez_h102 6 (pc' := 22) (L' := [some (.ref 0), some (.int (nI (0))), some (.int (nI (1))), some (.int (nI (1))), none, none, none, none, none]) (st' := []) (w' := mz_w A Q U (nI (0), T.2)) rfl ?_
    have e0 : zs_z (zo_al (fun k => zo_F 0 (zk_key A.2.1 (A.2.2.2.2.2.2.2.1 (k - 1)).toInt64) (zk_key A.2.1 (A.2.2.2.2.2.2.2.1 k).toInt64) (tg (k - 1)) (tg k)) (1 - 1)) = nI 1 := by show zs_z true = nI 1; decide
    have q9 := zo_isl0 (Q := Q) (U := U) (T := (nI 0, T.2)) (post := fun a w => a = some (.int (zs_z (zo_al (fun k => zo_F 0 (zk_key A.2.1 (A.2.2.2.2.2.2.2.1 (k - 1)).toInt64) (zk_key A.2.1 (A.2.2.2.2.2.2.2.1 k).toInt64) (tg (k - 1)) (tg k)) (n - 1)))) ∧ w = mz_w A Q U (nI 0, T.2)) hn ht e2 e4 h2 ⟨rfl, rfl⟩ n 1 (by omega) (by omega) (by omega) (by omega)
    rw [e0] at q9
    exact q9
theorem zo_is1 {n : Nat} {tg : Nat → Nat} {r : cz_Row} {q : cz_Qk} {u : cz_Rn} {b : cz_Bn} {A : mz_A} {Q : mz_Q} {U : mz_U} {T : mz_T} (hR : zl_R n tg r q u b A Q U T)  : zo_P (cz_w r q u b) (mz_w A Q U T) 118 [.ref 0, .int (nI 1)] 102 [.ref 0, .int (nI 1)] := by
  have hR0 := hR
  obtain ⟨hn, ht, e1, e2, e3, e4, e5, e6, h1, h2, h3, f1, f2, f3, f4, f5, f6⟩ := hR
  have ho : ze_or r.2.1 := e3 ▸ e4
  have heq : zo_al (fun k => zo_F 1 (zk_key r.2.1 (r.2.2.2.2.2.2.1 (tg (k - 1))).toInt64) (zk_key r.2.1 (r.2.2.2.2.2.2.1 (tg k)).toInt64) (tg (k - 1)) (tg k)) (n - 1) = zo_al (fun k => zo_F 1 (zk_key A.2.1 (A.2.2.2.2.2.2.2.1 (k - 1)).toInt64) (zk_key A.2.1 (A.2.2.2.2.2.2.2.1 k).toInt64) (tg (k - 1)) (tg k)) (n - 1) := zo_al_cg (n - 1) (fun k k1 k2 => by
    show zo_F _ _ _ _ _ = zo_F _ _ _ _ _
    rw [e3, h3 k (by omega), h3 (k - 1) (by omega)])
  refine ⟨some (.int (zs_z (zo_al (fun k => zo_F 1 (zk_key A.2.1 (A.2.2.2.2.2.2.2.1 (k - 1)).toInt64) (zk_key A.2.1 (A.2.2.2.2.2.2.2.1 k).toInt64) (tg (k - 1)) (tg k)) (n - 1)))), cz_w r q u b, mz_w A Q U (nI 0, T.2), ⟨n, tg, r, q, u, b, A, Q, U, (nI 0, T.2), rfl, rfl, hR0, rfl⟩, ?_, ?_⟩
  · refine ez_m.of (L := [some (.ref 0), some (.int (nI (1))), none]) rfl rfl rfl ?_
    refine ez_go ez_h118 3 (pc' := 3) (L' := [some (.ref 0), some (.int (nI (1))), none]) (st' := [.int (nI (2)), .int (nI (1)), .ref 0]) (w' := cz_w r q u b) rfl ?_
    refine ez_cl ez_h118 rfl rfl ?_
    refine ez_m.of (L := [some (.ref 0), some (.int (nI (1))), some (.int (nI (2)))]) rfl rfl rfl ?_
    refine ez_go ez_h106 2 (pc' := bif decide ((nI (1)) < (nI 0)) then 9 else 4) (L' := [some (.ref 0), some (.int (nI (1))), some (.int (nI (2)))]) (st' := []) (w' := cz_w r q u b) rfl ?_
    refine ez_ifF (zt_nlt (a := 1) (b := 0) (by omega) (by omega)) ?_
    refine ez_go ez_h106 3 (pc' := bif decide ((nI (1)) ≤ (nI (2))) then 19 else 9) (L' := [some (.ref 0), some (.int (nI (1))), some (.int (nI (2)))]) (st' := []) (w' := cz_w r q u b) rfl ?_
    refine ez_ifT (zt_le (a := 1) (b := 2) (by omega) (by omega)) ?_
    refine ez_vret rfl ez_h106 rfl rfl ?_
    refine ez_go ez_h118 2 (pc' := 8) (L' := [some (.ref 0), some (.int (nI (1))), some (.int (nI (1)))]) (st' := []) (w' := cz_w r q u b) rfl ?_
    have q9 := zo_isc1 (q := q) (u := u) (b := b) (post := fun a w => a = some (.int (zs_z (zo_al (fun k => zo_F 1 (zk_key A.2.1 (A.2.2.2.2.2.2.2.1 (k - 1)).toInt64) (zk_key A.2.1 (A.2.2.2.2.2.2.2.1 k).toInt64) (tg (k - 1)) (tg k)) (n - 1)))) ∧ w = cz_w r q u b) hn ht e1 ho h1 ⟨congrArg (fun z => some (Value.int (zs_z z))) heq, rfl⟩ n 1 (by omega) (by omega) (by omega) rfl
    exact q9
  · refine ez_m.of (L := [some (.ref 0), some (.int (nI (1))), none, none, none, none, none, none, none]) rfl rfl rfl ?_
    refine ez_go ez_h102 3 (pc' := bif decide ((nI (1)) < (nI 0)) then 10 else 5) (L' := [some (.ref 0), some (.int (nI (1))), none, none, none, none, none, none, none]) (st' := [.ref 0]) (w' := mz_w A Q U (T.1, T.2)) rfl ?_
    refine ez_ifF (zt_nlt (a := 1) (b := 0) (by omega) (by omega)) ?_
    refine ez_go ez_h102 3 (pc' := bif decide ((nI (1)) ≤ (nI (2))) then 14 else 10) (L' := [some (.ref 0), some (.int (nI (1))), none, none, none, none, none, none, none]) (st' := [.ref 0]) (w' := mz_w A Q U (T.1, T.2)) rfl ?_
    refine ez_ifT (zt_le (a := 1) (b := 2) (by omega) (by omega)) ?_
    refine ez_go ez_h102 6 (pc' := 22) (L' := [some (.ref 0), some (.int (nI (1))), some (.int (nI (1))), some (.int (nI (1))), none, none, none, none, none]) (st' := []) (w' := mz_w A Q U (nI (0), T.2)) rfl ?_
    have e0 : zs_z (zo_al (fun k => zo_F 1 (zk_key A.2.1 (A.2.2.2.2.2.2.2.1 (k - 1)).toInt64) (zk_key A.2.1 (A.2.2.2.2.2.2.2.1 k).toInt64) (tg (k - 1)) (tg k)) (1 - 1)) = nI 1 := by show zs_z true = nI 1; decide
    have q9 := zo_isl1 (how := nI 1) (by decide) (by decide) (Q := Q) (U := U) (T := (nI 0, T.2)) (post := fun a w => a = some (.int (zs_z (zo_al (fun k => zo_F 1 (zk_key A.2.1 (A.2.2.2.2.2.2.2.1 (k - 1)).toInt64) (zk_key A.2.1 (A.2.2.2.2.2.2.2.1 k).toInt64) (tg (k - 1)) (tg k)) (n - 1)))) ∧ w = mz_w A Q U (nI 0, T.2)) hn ht e2 e4 h2 ⟨rfl, rfl⟩ n 1 (by omega) (by omega) (by omega) (by omega)
    rw [e0] at q9
    exact q9
theorem zo_is2 {n : Nat} {tg : Nat → Nat} {r : cz_Row} {q : cz_Qk} {u : cz_Rn} {b : cz_Bn} {A : mz_A} {Q : mz_Q} {U : mz_U} {T : mz_T} (hR : zl_R n tg r q u b A Q U T)  : zo_P (cz_w r q u b) (mz_w A Q U T) 118 [.ref 0, .int (nI 2)] 102 [.ref 0, .int (nI 2)] := by
  have hR0 := hR
  obtain ⟨hn, ht, e1, e2, e3, e4, e5, e6, h1, h2, h3, f1, f2, f3, f4, f5, f6⟩ := hR
  have ho : ze_or r.2.1 := e3 ▸ e4
  have heq : zo_al (fun k => zo_F 2 (zk_key r.2.1 (r.2.2.2.2.2.2.1 (tg (k - 1))).toInt64) (zk_key r.2.1 (r.2.2.2.2.2.2.1 (tg k)).toInt64) (tg (k - 1)) (tg k)) (n - 1) = zo_al (fun k => zo_F 2 (zk_key A.2.1 (A.2.2.2.2.2.2.2.1 (k - 1)).toInt64) (zk_key A.2.1 (A.2.2.2.2.2.2.2.1 k).toInt64) (tg (k - 1)) (tg k)) (n - 1) := zo_al_cg (n - 1) (fun k k1 k2 => by
    show zo_F _ _ _ _ _ = zo_F _ _ _ _ _
    rw [e3, h3 k (by omega), h3 (k - 1) (by omega)])
  refine ⟨some (.int (zs_z (zo_al (fun k => zo_F 2 (zk_key A.2.1 (A.2.2.2.2.2.2.2.1 (k - 1)).toInt64) (zk_key A.2.1 (A.2.2.2.2.2.2.2.1 k).toInt64) (tg (k - 1)) (tg k)) (n - 1)))), cz_w r q u b, mz_w A Q U (nI 0, T.2), ⟨n, tg, r, q, u, b, A, Q, U, (nI 0, T.2), rfl, rfl, hR0, rfl⟩, ?_, ?_⟩
  · refine ez_m.of (L := [some (.ref 0), some (.int (nI (2))), none]) rfl rfl rfl ?_
    refine ez_go ez_h118 3 (pc' := 3) (L' := [some (.ref 0), some (.int (nI (2))), none]) (st' := [.int (nI (2)), .int (nI (2)), .ref 0]) (w' := cz_w r q u b) rfl ?_
    refine ez_cl ez_h118 rfl rfl ?_
    refine ez_m.of (L := [some (.ref 0), some (.int (nI (2))), some (.int (nI (2)))]) rfl rfl rfl ?_
    refine ez_go ez_h106 2 (pc' := bif decide ((nI (2)) < (nI 0)) then 9 else 4) (L' := [some (.ref 0), some (.int (nI (2))), some (.int (nI (2)))]) (st' := []) (w' := cz_w r q u b) rfl ?_
    refine ez_ifF (zt_nlt (a := 2) (b := 0) (by omega) (by omega)) ?_
    refine ez_go ez_h106 3 (pc' := bif decide ((nI (2)) ≤ (nI (2))) then 19 else 9) (L' := [some (.ref 0), some (.int (nI (2))), some (.int (nI (2)))]) (st' := []) (w' := cz_w r q u b) rfl ?_
    refine ez_ifT (zt_le (a := 2) (b := 2) (by omega) (by omega)) ?_
    refine ez_vret rfl ez_h106 rfl rfl ?_
    refine ez_go ez_h118 2 (pc' := 8) (L' := [some (.ref 0), some (.int (nI (2))), some (.int (nI (1)))]) (st' := []) (w' := cz_w r q u b) rfl ?_
    have q9 := zo_isc2 (q := q) (u := u) (b := b) (post := fun a w => a = some (.int (zs_z (zo_al (fun k => zo_F 2 (zk_key A.2.1 (A.2.2.2.2.2.2.2.1 (k - 1)).toInt64) (zk_key A.2.1 (A.2.2.2.2.2.2.2.1 k).toInt64) (tg (k - 1)) (tg k)) (n - 1)))) ∧ w = cz_w r q u b) hn ht e1 ho h1 ⟨congrArg (fun z => some (Value.int (zs_z z))) heq, rfl⟩ n 1 (by omega) (by omega) (by omega) rfl
    exact q9
  · refine ez_m.of (L := [some (.ref 0), some (.int (nI (2))), none, none, none, none, none, none, none]) rfl rfl rfl ?_
    refine ez_go ez_h102 3 (pc' := bif decide ((nI (2)) < (nI 0)) then 10 else 5) (L' := [some (.ref 0), some (.int (nI (2))), none, none, none, none, none, none, none]) (st' := [.ref 0]) (w' := mz_w A Q U (T.1, T.2)) rfl ?_
    refine ez_ifF (zt_nlt (a := 2) (b := 0) (by omega) (by omega)) ?_
    refine ez_go ez_h102 3 (pc' := bif decide ((nI (2)) ≤ (nI (2))) then 14 else 10) (L' := [some (.ref 0), some (.int (nI (2))), none, none, none, none, none, none, none]) (st' := [.ref 0]) (w' := mz_w A Q U (T.1, T.2)) rfl ?_
    refine ez_ifT (zt_le (a := 2) (b := 2) (by omega) (by omega)) ?_
    refine ez_go ez_h102 6 (pc' := 22) (L' := [some (.ref 0), some (.int (nI (2))), some (.int (nI (1))), some (.int (nI (1))), none, none, none, none, none]) (st' := []) (w' := mz_w A Q U (nI (0), T.2)) rfl ?_
    have e0 : zs_z (zo_al (fun k => zo_F 2 (zk_key A.2.1 (A.2.2.2.2.2.2.2.1 (k - 1)).toInt64) (zk_key A.2.1 (A.2.2.2.2.2.2.2.1 k).toInt64) (tg (k - 1)) (tg k)) (1 - 1)) = nI 1 := by show zs_z true = nI 1; decide
    have q9 := zo_isl2 (Q := Q) (U := U) (T := (nI 0, T.2)) (post := fun a w => a = some (.int (zs_z (zo_al (fun k => zo_F 2 (zk_key A.2.1 (A.2.2.2.2.2.2.2.1 (k - 1)).toInt64) (zk_key A.2.1 (A.2.2.2.2.2.2.2.1 k).toInt64) (tg (k - 1)) (tg k)) (n - 1)))) ∧ w = mz_w A Q U (nI 0, T.2)) hn ht e2 e4 h2 ⟨rfl, rfl⟩ n 1 (by omega) (by omega) (by omega) (by omega)
    rw [e0] at q9
    exact q9
theorem zo_is {n : Nat} {tg : Nat → Nat} {r : cz_Row} {q : cz_Qk} {u : cz_Rn} {b : cz_Bn} {A : mz_A} {Q : mz_Q} {U : mz_U} {T : mz_T} (hR : zl_R n tg r q u b A Q U T) {c : Nat} (hc : c ≤ 2) : zo_P (cz_w r q u b) (mz_w A Q U T) 118 [.ref 0, .int (nI c)] 102 [.ref 0, .int (nI c)] := by
  match c, hc with
  | 0, _ => exact zo_is0 hR
  | 1, _ => exact zo_is1 hR
  | 2, _ => exact zo_is2 hR
theorem zo_isX {n : Nat} {tg : Nat → Nat} {r : cz_Row} {q : cz_Qk} {u : cz_Rn} {b : cz_Bn} {A : mz_A} {Q : mz_Q} {U : mz_U} {T : mz_T} (hR : zl_R n tg r q u b A Q U T) {x : Int32} (hx : x < nI 0 ∨ nI 2 < x) : zo_X (cz_w r q u b) (mz_w A Q U T) 102 [.ref 0, .int x] 1 := by
  have hR0 := hR
  obtain ⟨hn, ht, e1, e2, e3, e4, e5, e6, h1, h2, h3, f1, f2, f3, f4, f5, f6⟩ := hR
  have g2 : ¬ x = nI 2 := fun z => by rw [z] at hx; revert hx; decide
  have g0 : ¬ x = nI 0 := fun z => by rw [z] at hx; revert hx; decide
  refine ⟨some (.int (zs_z (zo_al (fun k => zo_F 1 (zk_key A.2.1 (A.2.2.2.2.2.2.2.1 (k - 1)).toInt64) (zk_key A.2.1 (A.2.2.2.2.2.2.2.1 k).toInt64) (tg (k - 1)) (tg k)) (n - 1)))), mz_w A Q U (nI 1, T.2), ⟨n, tg, r, q, u, b, A, Q, U, (nI 1, T.2), rfl, rfl, hR0, rfl⟩, ?_⟩
  by_cases hl : x < nI 0
  · refine ez_m.of (L := [some (.ref 0), some (.int (x)), none, none, none, none, none, none, none]) rfl rfl rfl ?_
    refine ez_go ez_h102 3 (pc' := bif decide (x < (nI 0)) then 10 else 5) (L' := [some (.ref 0), some (.int (x)), none, none, none, none, none, none, none]) (st' := [.ref 0]) (w' := mz_w A Q U (T.1, T.2)) rfl ?_
    refine ez_ifT (hl) ?_
    refine ez_go ez_h102 7 (pc' := 22) (L' := [some (.ref 0), some (.int (x)), some (.int (nI (1))), some (.int (nI (1))), none, none, none, none, none]) (st' := []) (w' := mz_w A Q U (nI (1), T.2)) rfl ?_
    refine zo_isl1 g2 g0 (T := (nI 1, T.2)) hn ht e2 e4 h2 ?_ n 1 (by omega) (by omega) (by omega) (by omega)
    exact ⟨rfl, rfl⟩
  · refine ez_m.of (L := [some (.ref 0), some (.int (x)), none, none, none, none, none, none, none]) rfl rfl rfl ?_
    refine ez_go ez_h102 3 (pc' := bif decide (x < (nI 0)) then 10 else 5) (L' := [some (.ref 0), some (.int (x)), none, none, none, none, none, none, none]) (st' := [.ref 0]) (w' := mz_w A Q U (T.1, T.2)) rfl ?_
    refine ez_ifF (hl) ?_
    refine ez_go ez_h102 3 (pc' := bif decide (x ≤ (nI (2))) then 14 else 10) (L' := [some (.ref 0), some (.int (x)), none, none, none, none, none, none, none]) (st' := [.ref 0]) (w' := mz_w A Q U (T.1, T.2)) rfl ?_
    refine ez_ifF (Int32.not_le.mpr (hx.resolve_left hl)) ?_
    refine ez_go ez_h102 7 (pc' := 22) (L' := [some (.ref 0), some (.int (x)), some (.int (nI (1))), some (.int (nI (1))), none, none, none, none, none]) (st' := []) (w' := mz_w A Q U (nI (1), T.2)) rfl ?_
    refine zo_isl1 g2 g0 (T := (nI 1, T.2)) hn ht e2 e4 h2 ?_ n 1 (by omega) (by omega) (by omega) (by omega)
    exact ⟨rfl, rfl⟩
