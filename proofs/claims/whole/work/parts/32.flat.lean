theorem cu_size {p : zp_T} {u : cz_Rn} (hu : cu_R p u) {k : Nat} (hk : k < p.1) (h38 : p.1 ≤ 38) (r : cz_Row) (q : cz_Qk) (bb : cz_Bn) {post : Option Value → ez_W → Prop} (h : post (some (.int (nI (p.2.2.1 k)))) (cz_w r q u bb)) : ez_m 49 [.ref 5, .int (nI k)] (cz_w r q u bb) post := by
  obtain ⟨u1, u2, u3, u4, u5, u6⟩ := u
  refine lf_sizeAt k (by omega) u1 u2 u3 u4 u5 u6 r q bb ?_
  have e : u5 k = nI (p.2.2.1 k) := (hu.2.2.2 k hk).2
  rw [e]
  exact h
theorem mu_width {p : zp_T} {U : mz_U} (hU : mu_R p U) {k : Nat} (hk : k < p.1) (h38 : p.1 ≤ 38) (A : mz_A) (Q : mz_Q) (T : mz_T) {post : Option Value → ez_W → Prop} (h : post (some (.int (nI (p.2.2.1 k)))) (mz_w A Q U T)) : ez_m 92 [.ref 0, .int (nI k)] (mz_w A Q U T) post := by
  obtain ⟨u1, u2, u3, u4, u5, u6⟩ := U
  refine lf_width k (by omega) u1 u2 u3 u4 u5 u6 A Q T ?_
  have e1 : u4 k = nI (p.2.1 k) := (hU.2.2.2 k hk).1
  have e2 : u5 k = nI (p.2.1 k + p.2.2.1 k) := (hU.2.2.2 k hk).2
  rw [zp_wd e1 e2]
  exact h
theorem zp_mfl {E : ze_T} (hE : ze_ok E) {p : zp_T} {bd : Nat} (hp : zp_ok (ze_n E) p bd) (h2 : 2 ≤ p.1) (A : mz_A) (Q : mz_Q) (U : mz_U) (T : mz_T) (hU : mu_R p U) {post : Option Value → ez_W → Prop} (kk : ez_E 93 91 [some (.ref 0), some (.int (nI (1))), some (.int (nI (p.1 - 1))), some (.int (zs_z (zp_fl p)))] [] (mz_w A Q U T) post) : ez_E 93 14 [some (.ref 0), some (.int (nI (1))), none, none] [] (mz_w A Q U T) post := by
  have hn := hE.1
  have h38 := hp.h hn
  have hz : ∀ j, j < p.1 → p.2.2.1 j ≤ ze_n E := fun j hj => hp.z hj
  have fl : zp_fl p = ((decide (3 ≤ p.1) && decide (p.2.2.1 (p.1 - 1 - 2) ≤ p.2.2.1 (p.1 - 1 - 1) + p.2.2.1 (p.1 - 1))) || (decide (4 ≤ p.1) && decide (p.2.2.1 (p.1 - 1 - 3) ≤ p.2.2.1 (p.1 - 1 - 2) + p.2.2.1 (p.1 - 1 - 1)))) := rfl
  by_cases c3 : 3 ≤ p.1
  · have z1 := hz (p.1 - 1 - 2) (by omega)
    have z2 := hz (p.1 - 1 - 1) (by omega)
    have z3 := hz (p.1 - 1) (by omega)
    by_cases d1 : p.2.2.1 (p.1 - 1 - 2) ≤ p.2.2.1 (p.1 - 1 - 1) + p.2.2.1 (p.1 - 1)
    · skip
      have fv : zp_fl p = true := by rw [fl]; simp; omega
      rw [fv] at kk
      refine ez_go ez_h93 2 (pc' := 18) (L' := [some (.ref 0), some (.int (nI (1))), none, none]) (st' := [.int (U.2.2.1)]) (w' := mz_w A Q U T) rfl ?_
      refine ez_top (y := nI (p.1)) (hU.2.2.1) ?_
      refine ez_go ez_h93 2 (pc' := 20) (L' := [some (.ref 0), some (.int (nI (1))), none, none]) (st' := [.int ((nI (p.1)) - (nI (1)))]) (w' := mz_w A Q U T) rfl ?_
      refine ez_top (y := nI (p.1 - 1)) (pk_sub (by omega)) ?_
      refine ez_go ez_h93 3 (pc' := 25) (L' := [some (.ref 0), some (.int (nI (1))), some (.int (nI (p.1 - 1))), none]) (st' := [.int (U.2.2.1)]) (w' := mz_w A Q U T) rfl ?_
      refine ez_top (y := nI (p.1)) (hU.2.2.1) ?_
      refine ez_go ez_h93 2 (pc' := bif decide ((nI (p.1)) ≤ (nI (2))) then 52 else 29) (L' := [some (.ref 0), some (.int (nI (1))), some (.int (nI (p.1 - 1))), none]) (st' := []) (w' := mz_w A Q U T) rfl ?_
      refine ez_ifF (zt_nle (a := p.1) (b := 2) (by omega) (by omega)) ?_
      refine ez_go ez_h93 4 (pc' := 33) (L' := [some (.ref 0), some (.int (nI (1))), some (.int (nI (p.1 - 1))), none]) (st' := [.int ((nI (p.1 - 1)) - (nI (2))), .ref 0]) (w' := mz_w A Q U T) rfl ?_
      refine ez_top (y := nI ((p.1 - 1) - 2)) (pk_sub (by omega)) ?_
      refine ez_cl ez_h93 rfl rfl ?_
      refine mu_width hU (k := (p.1 - 1) - 2) (by omega) h38 A Q T ?_
      refine ez_go ez_h93 4 (pc' := 40) (L' := [some (.ref 0), some (.int (nI (1))), some (.int (nI (p.1 - 1))), none]) (st' := [.int ((nI (p.1 - 1)) - (nI (1))), .ref 0, .int (nI (p.2.2.1 ((p.1 - 1) - 2)))]) (w' := mz_w A Q U T) rfl ?_
      refine ez_top (y := nI ((p.1 - 1) - 1)) (pk_sub (by omega)) ?_
      refine ez_cl ez_h93 rfl rfl ?_
      refine mu_width hU (k := (p.1 - 1) - 1) (by omega) h38 A Q T ?_
      refine ez_go ez_h93 2 (pc' := 45) (L' := [some (.ref 0), some (.int (nI (1))), some (.int (nI (p.1 - 1))), none]) (st' := [.int (nI (p.1 - 1)), .ref 0, .int (nI (p.2.2.1 ((p.1 - 1) - 1))), .int (nI (p.2.2.1 ((p.1 - 1) - 2)))]) (w' := mz_w A Q U T) rfl ?_
      refine ez_cl ez_h93 rfl rfl ?_
      refine mu_width hU (k := p.1 - 1) (by omega) h38 A Q T ?_
      refine ez_go ez_h93 1 (pc' := 49) (L' := [some (.ref 0), some (.int (nI (1))), some (.int (nI (p.1 - 1))), none]) (st' := [.int ((nI (p.2.2.1 ((p.1 - 1) - 1))) + (nI (p.2.2.1 (p.1 - 1)))), .int (nI (p.2.2.1 ((p.1 - 1) - 2)))]) (w' := mz_w A Q U T) rfl ?_
      refine ez_top (y := nI ((p.2.2.1 ((p.1 - 1) - 1)) + (p.2.2.1 (p.1 - 1)))) (nI_add _ _) ?_
      refine ez_go ez_h93 1 (pc' := bif decide ((nI (p.2.2.1 ((p.1 - 1) - 2))) ≤ (nI ((p.2.2.1 ((p.1 - 1) - 1)) + (p.2.2.1 (p.1 - 1))))) then 85 else 52) (L' := [some (.ref 0), some (.int (nI (1))), some (.int (nI (p.1 - 1))), none]) (st' := []) (w' := mz_w A Q U T) rfl ?_
      refine ez_ifT (zt_le (a := p.2.2.1 ((p.1 - 1) - 2)) (b := (p.2.2.1 ((p.1 - 1) - 1)) + (p.2.2.1 (p.1 - 1))) (by omega) (by omega)) ?_
      refine ez_go ez_h93 3 (pc' := 91) (L' := [some (.ref 0), some (.int (nI (1))), some (.int (nI (p.1 - 1))), some (.int (nI (1)))]) (st' := []) (w' := mz_w A Q U T) rfl ?_
      exact kk
    · by_cases c4 : 4 ≤ p.1
      · have z4 := hz (p.1 - 1 - 3) (by omega)
        by_cases d2 : p.2.2.1 (p.1 - 1 - 3) ≤ p.2.2.1 (p.1 - 1 - 2) + p.2.2.1 (p.1 - 1 - 1)
        · skip
          have fv : zp_fl p = true := by rw [fl]; simp; omega
          rw [fv] at kk
          refine ez_go ez_h93 2 (pc' := 18) (L' := [some (.ref 0), some (.int (nI (1))), none, none]) (st' := [.int (U.2.2.1)]) (w' := mz_w A Q U T) rfl ?_
          refine ez_top (y := nI (p.1)) (hU.2.2.1) ?_
          refine ez_go ez_h93 2 (pc' := 20) (L' := [some (.ref 0), some (.int (nI (1))), none, none]) (st' := [.int ((nI (p.1)) - (nI (1)))]) (w' := mz_w A Q U T) rfl ?_
          refine ez_top (y := nI (p.1 - 1)) (pk_sub (by omega)) ?_
          refine ez_go ez_h93 3 (pc' := 25) (L' := [some (.ref 0), some (.int (nI (1))), some (.int (nI (p.1 - 1))), none]) (st' := [.int (U.2.2.1)]) (w' := mz_w A Q U T) rfl ?_
          refine ez_top (y := nI (p.1)) (hU.2.2.1) ?_
          refine ez_go ez_h93 2 (pc' := bif decide ((nI (p.1)) ≤ (nI (2))) then 52 else 29) (L' := [some (.ref 0), some (.int (nI (1))), some (.int (nI (p.1 - 1))), none]) (st' := []) (w' := mz_w A Q U T) rfl ?_
          refine ez_ifF (zt_nle (a := p.1) (b := 2) (by omega) (by omega)) ?_
          refine ez_go ez_h93 4 (pc' := 33) (L' := [some (.ref 0), some (.int (nI (1))), some (.int (nI (p.1 - 1))), none]) (st' := [.int ((nI (p.1 - 1)) - (nI (2))), .ref 0]) (w' := mz_w A Q U T) rfl ?_
          refine ez_top (y := nI ((p.1 - 1) - 2)) (pk_sub (by omega)) ?_
          refine ez_cl ez_h93 rfl rfl ?_
          refine mu_width hU (k := (p.1 - 1) - 2) (by omega) h38 A Q T ?_
          refine ez_go ez_h93 4 (pc' := 40) (L' := [some (.ref 0), some (.int (nI (1))), some (.int (nI (p.1 - 1))), none]) (st' := [.int ((nI (p.1 - 1)) - (nI (1))), .ref 0, .int (nI (p.2.2.1 ((p.1 - 1) - 2)))]) (w' := mz_w A Q U T) rfl ?_
          refine ez_top (y := nI ((p.1 - 1) - 1)) (pk_sub (by omega)) ?_
          refine ez_cl ez_h93 rfl rfl ?_
          refine mu_width hU (k := (p.1 - 1) - 1) (by omega) h38 A Q T ?_
          refine ez_go ez_h93 2 (pc' := 45) (L' := [some (.ref 0), some (.int (nI (1))), some (.int (nI (p.1 - 1))), none]) (st' := [.int (nI (p.1 - 1)), .ref 0, .int (nI (p.2.2.1 ((p.1 - 1) - 1))), .int (nI (p.2.2.1 ((p.1 - 1) - 2)))]) (w' := mz_w A Q U T) rfl ?_
          refine ez_cl ez_h93 rfl rfl ?_
          refine mu_width hU (k := p.1 - 1) (by omega) h38 A Q T ?_
          refine ez_go ez_h93 1 (pc' := 49) (L' := [some (.ref 0), some (.int (nI (1))), some (.int (nI (p.1 - 1))), none]) (st' := [.int ((nI (p.2.2.1 ((p.1 - 1) - 1))) + (nI (p.2.2.1 (p.1 - 1)))), .int (nI (p.2.2.1 ((p.1 - 1) - 2)))]) (w' := mz_w A Q U T) rfl ?_
          refine ez_top (y := nI ((p.2.2.1 ((p.1 - 1) - 1)) + (p.2.2.1 (p.1 - 1)))) (nI_add _ _) ?_
          refine ez_go ez_h93 1 (pc' := bif decide ((nI (p.2.2.1 ((p.1 - 1) - 2))) ≤ (nI ((p.2.2.1 ((p.1 - 1) - 1)) + (p.2.2.1 (p.1 - 1))))) then 85 else 52) (L' := [some (.ref 0), some (.int (nI (1))), some (.int (nI (p.1 - 1))), none]) (st' := []) (w' := mz_w A Q U T) rfl ?_
          refine ez_ifF (zt_nle (a := p.2.2.1 ((p.1 - 1) - 2)) (b := (p.2.2.1 ((p.1 - 1) - 1)) + (p.2.2.1 (p.1 - 1))) (by omega) (by omega)) ?_
          refine ez_go ez_h93 2 (pc' := 56) (L' := [some (.ref 0), some (.int (nI (1))), some (.int (nI (p.1 - 1))), none]) (st' := [.int (U.2.2.1)]) (w' := mz_w A Q U T) rfl ?_
          refine ez_top (y := nI (p.1)) (hU.2.2.1) ?_
          refine ez_go ez_h93 2 (pc' := bif decide ((nI (p.1)) ≤ (nI (3))) then 89 else 60) (L' := [some (.ref 0), some (.int (nI (1))), some (.int (nI (p.1 - 1))), none]) (st' := []) (w' := mz_w A Q U T) rfl ?_
          refine ez_ifF (zt_nle (a := p.1) (b := 3) (by omega) (by omega)) ?_
          refine ez_go ez_h93 4 (pc' := 64) (L' := [some (.ref 0), some (.int (nI (1))), some (.int (nI (p.1 - 1))), none]) (st' := [.int ((nI (p.1 - 1)) - (nI (3))), .ref 0]) (w' := mz_w A Q U T) rfl ?_
          refine ez_top (y := nI ((p.1 - 1) - 3)) (pk_sub (by omega)) ?_
          refine ez_cl ez_h93 rfl rfl ?_
          refine mu_width hU (k := (p.1 - 1) - 3) (by omega) h38 A Q T ?_
          refine ez_go ez_h93 4 (pc' := 71) (L' := [some (.ref 0), some (.int (nI (1))), some (.int (nI (p.1 - 1))), none]) (st' := [.int ((nI (p.1 - 1)) - (nI (2))), .ref 0, .int (nI (p.2.2.1 ((p.1 - 1) - 3)))]) (w' := mz_w A Q U T) rfl ?_
          refine ez_top (y := nI ((p.1 - 1) - 2)) (pk_sub (by omega)) ?_
          refine ez_cl ez_h93 rfl rfl ?_
          refine mu_width hU (k := (p.1 - 1) - 2) (by omega) h38 A Q T ?_
          refine ez_go ez_h93 4 (pc' := 78) (L' := [some (.ref 0), some (.int (nI (1))), some (.int (nI (p.1 - 1))), none]) (st' := [.int ((nI (p.1 - 1)) - (nI (1))), .ref 0, .int (nI (p.2.2.1 ((p.1 - 1) - 2))), .int (nI (p.2.2.1 ((p.1 - 1) - 3)))]) (w' := mz_w A Q U T) rfl ?_
          refine ez_top (y := nI ((p.1 - 1) - 1)) (pk_sub (by omega)) ?_
          refine ez_cl ez_h93 rfl rfl ?_
          refine mu_width hU (k := (p.1 - 1) - 1) (by omega) h38 A Q T ?_
          refine ez_go ez_h93 1 (pc' := 82) (L' := [some (.ref 0), some (.int (nI (1))), some (.int (nI (p.1 - 1))), none]) (st' := [.int ((nI (p.2.2.1 ((p.1 - 1) - 2))) + (nI (p.2.2.1 ((p.1 - 1) - 1)))), .int (nI (p.2.2.1 ((p.1 - 1) - 3)))]) (w' := mz_w A Q U T) rfl ?_
          refine ez_top (y := nI ((p.2.2.1 ((p.1 - 1) - 2)) + (p.2.2.1 ((p.1 - 1) - 1)))) (nI_add _ _) ?_
          refine ez_go ez_h93 1 (pc' := bif decide ((nI ((p.2.2.1 ((p.1 - 1) - 2)) + (p.2.2.1 ((p.1 - 1) - 1)))) < (nI (p.2.2.1 ((p.1 - 1) - 3)))) then 89 else 85) (L' := [some (.ref 0), some (.int (nI (1))), some (.int (nI (p.1 - 1))), none]) (st' := []) (w' := mz_w A Q U T) rfl ?_
          refine ez_ifF (zt_nlt (a := (p.2.2.1 ((p.1 - 1) - 2)) + (p.2.2.1 ((p.1 - 1) - 1))) (b := p.2.2.1 ((p.1 - 1) - 3)) (by omega) (by omega)) ?_
          refine ez_go ez_h93 3 (pc' := 91) (L' := [some (.ref 0), some (.int (nI (1))), some (.int (nI (p.1 - 1))), some (.int (nI (1)))]) (st' := []) (w' := mz_w A Q U T) rfl ?_
          exact kk
        · skip
          have fv : zp_fl p = false := by rw [fl]; simp; omega
          rw [fv] at kk
          refine ez_go ez_h93 2 (pc' := 18) (L' := [some (.ref 0), some (.int (nI (1))), none, none]) (st' := [.int (U.2.2.1)]) (w' := mz_w A Q U T) rfl ?_
          refine ez_top (y := nI (p.1)) (hU.2.2.1) ?_
          refine ez_go ez_h93 2 (pc' := 20) (L' := [some (.ref 0), some (.int (nI (1))), none, none]) (st' := [.int ((nI (p.1)) - (nI (1)))]) (w' := mz_w A Q U T) rfl ?_
          refine ez_top (y := nI (p.1 - 1)) (pk_sub (by omega)) ?_
          refine ez_go ez_h93 3 (pc' := 25) (L' := [some (.ref 0), some (.int (nI (1))), some (.int (nI (p.1 - 1))), none]) (st' := [.int (U.2.2.1)]) (w' := mz_w A Q U T) rfl ?_
          refine ez_top (y := nI (p.1)) (hU.2.2.1) ?_
          refine ez_go ez_h93 2 (pc' := bif decide ((nI (p.1)) ≤ (nI (2))) then 52 else 29) (L' := [some (.ref 0), some (.int (nI (1))), some (.int (nI (p.1 - 1))), none]) (st' := []) (w' := mz_w A Q U T) rfl ?_
          refine ez_ifF (zt_nle (a := p.1) (b := 2) (by omega) (by omega)) ?_
          refine ez_go ez_h93 4 (pc' := 33) (L' := [some (.ref 0), some (.int (nI (1))), some (.int (nI (p.1 - 1))), none]) (st' := [.int ((nI (p.1 - 1)) - (nI (2))), .ref 0]) (w' := mz_w A Q U T) rfl ?_
          refine ez_top (y := nI ((p.1 - 1) - 2)) (pk_sub (by omega)) ?_
          refine ez_cl ez_h93 rfl rfl ?_
          refine mu_width hU (k := (p.1 - 1) - 2) (by omega) h38 A Q T ?_
          refine ez_go ez_h93 4 (pc' := 40) (L' := [some (.ref 0), some (.int (nI (1))), some (.int (nI (p.1 - 1))), none]) (st' := [.int ((nI (p.1 - 1)) - (nI (1))), .ref 0, .int (nI (p.2.2.1 ((p.1 - 1) - 2)))]) (w' := mz_w A Q U T) rfl ?_
          refine ez_top (y := nI ((p.1 - 1) - 1)) (pk_sub (by omega)) ?_
          refine ez_cl ez_h93 rfl rfl ?_
          refine mu_width hU (k := (p.1 - 1) - 1) (by omega) h38 A Q T ?_
          refine ez_go ez_h93 2 (pc' := 45) (L' := [some (.ref 0), some (.int (nI (1))), some (.int (nI (p.1 - 1))), none]) (st' := [.int (nI (p.1 - 1)), .ref 0, .int (nI (p.2.2.1 ((p.1 - 1) - 1))), .int (nI (p.2.2.1 ((p.1 - 1) - 2)))]) (w' := mz_w A Q U T) rfl ?_
          refine ez_cl ez_h93 rfl rfl ?_
          refine mu_width hU (k := p.1 - 1) (by omega) h38 A Q T ?_
          refine ez_go ez_h93 1 (pc' := 49) (L' := [some (.ref 0), some (.int (nI (1))), some (.int (nI (p.1 - 1))), none]) (st' := [.int ((nI (p.2.2.1 ((p.1 - 1) - 1))) + (nI (p.2.2.1 (p.1 - 1)))), .int (nI (p.2.2.1 ((p.1 - 1) - 2)))]) (w' := mz_w A Q U T) rfl ?_
          refine ez_top (y := nI ((p.2.2.1 ((p.1 - 1) - 1)) + (p.2.2.1 (p.1 - 1)))) (nI_add _ _) ?_
          refine ez_go ez_h93 1 (pc' := bif decide ((nI (p.2.2.1 ((p.1 - 1) - 2))) ≤ (nI ((p.2.2.1 ((p.1 - 1) - 1)) + (p.2.2.1 (p.1 - 1))))) then 85 else 52) (L' := [some (.ref 0), some (.int (nI (1))), some (.int (nI (p.1 - 1))), none]) (st' := []) (w' := mz_w A Q U T) rfl ?_
          refine ez_ifF (zt_nle (a := p.2.2.1 ((p.1 - 1) - 2)) (b := (p.2.2.1 ((p.1 - 1) - 1)) + (p.2.2.1 (p.1 - 1))) (by omega) (by omega)) ?_
          refine ez_go ez_h93 2 (pc' := 56) (L' := [some (.ref 0), some (.int (nI (1))), some (.int (nI (p.1 - 1))), none]) (st' := [.int (U.2.2.1)]) (w' := mz_w A Q U T) rfl ?_
          refine ez_top (y := nI (p.1)) (hU.2.2.1) ?_
          refine ez_go ez_h93 2 (pc' := bif decide ((nI (p.1)) ≤ (nI (3))) then 89 else 60) (L' := [some (.ref 0), some (.int (nI (1))), some (.int (nI (p.1 - 1))), none]) (st' := []) (w' := mz_w A Q U T) rfl ?_
          refine ez_ifF (zt_nle (a := p.1) (b := 3) (by omega) (by omega)) ?_
          refine ez_go ez_h93 4 (pc' := 64) (L' := [some (.ref 0), some (.int (nI (1))), some (.int (nI (p.1 - 1))), none]) (st' := [.int ((nI (p.1 - 1)) - (nI (3))), .ref 0]) (w' := mz_w A Q U T) rfl ?_
          refine ez_top (y := nI ((p.1 - 1) - 3)) (pk_sub (by omega)) ?_
          refine ez_cl ez_h93 rfl rfl ?_
          refine mu_width hU (k := (p.1 - 1) - 3) (by omega) h38 A Q T ?_
          refine ez_go ez_h93 4 (pc' := 71) (L' := [some (.ref 0), some (.int (nI (1))), some (.int (nI (p.1 - 1))), none]) (st' := [.int ((nI (p.1 - 1)) - (nI (2))), .ref 0, .int (nI (p.2.2.1 ((p.1 - 1) - 3)))]) (w' := mz_w A Q U T) rfl ?_
          refine ez_top (y := nI ((p.1 - 1) - 2)) (pk_sub (by omega)) ?_
          refine ez_cl ez_h93 rfl rfl ?_
          refine mu_width hU (k := (p.1 - 1) - 2) (by omega) h38 A Q T ?_
          refine ez_go ez_h93 4 (pc' := 78) (L' := [some (.ref 0), some (.int (nI (1))), some (.int (nI (p.1 - 1))), none]) (st' := [.int ((nI (p.1 - 1)) - (nI (1))), .ref 0, .int (nI (p.2.2.1 ((p.1 - 1) - 2))), .int (nI (p.2.2.1 ((p.1 - 1) - 3)))]) (w' := mz_w A Q U T) rfl ?_
          refine ez_top (y := nI ((p.1 - 1) - 1)) (pk_sub (by omega)) ?_
          refine ez_cl ez_h93 rfl rfl ?_
          refine mu_width hU (k := (p.1 - 1) - 1) (by omega) h38 A Q T ?_
          refine ez_go ez_h93 1 (pc' := 82) (L' := [some (.ref 0), some (.int (nI (1))), some (.int (nI (p.1 - 1))), none]) (st' := [.int ((nI (p.2.2.1 ((p.1 - 1) - 2))) + (nI (p.2.2.1 ((p.1 - 1) - 1)))), .int (nI (p.2.2.1 ((p.1 - 1) - 3)))]) (w' := mz_w A Q U T) rfl ?_
          refine ez_top (y := nI ((p.2.2.1 ((p.1 - 1) - 2)) + (p.2.2.1 ((p.1 - 1) - 1)))) (nI_add _ _) ?_
          refine ez_go ez_h93 1 (pc' := bif decide ((nI ((p.2.2.1 ((p.1 - 1) - 2)) + (p.2.2.1 ((p.1 - 1) - 1)))) < (nI (p.2.2.1 ((p.1 - 1) - 3)))) then 89 else 85) (L' := [some (.ref 0), some (.int (nI (1))), some (.int (nI (p.1 - 1))), none]) (st' := []) (w' := mz_w A Q U T) rfl ?_
          refine ez_ifT (zt_lt (a := (p.2.2.1 ((p.1 - 1) - 2)) + (p.2.2.1 ((p.1 - 1) - 1))) (b := p.2.2.1 ((p.1 - 1) - 3)) (by omega) (by omega)) ?_
          refine ez_go ez_h93 2 (pc' := 91) (L' := [some (.ref 0), some (.int (nI (1))), some (.int (nI (p.1 - 1))), some (.int (nI (0)))]) (st' := []) (w' := mz_w A Q U T) rfl ?_
          exact kk
      · skip
        have fv : zp_fl p = false := by rw [fl]; simp; omega
        rw [fv] at kk
        refine ez_go ez_h93 2 (pc' := 18) (L' := [some (.ref 0), some (.int (nI (1))), none, none]) (st' := [.int (U.2.2.1)]) (w' := mz_w A Q U T) rfl ?_
        refine ez_top (y := nI (p.1)) (hU.2.2.1) ?_
        refine ez_go ez_h93 2 (pc' := 20) (L' := [some (.ref 0), some (.int (nI (1))), none, none]) (st' := [.int ((nI (p.1)) - (nI (1)))]) (w' := mz_w A Q U T) rfl ?_
        refine ez_top (y := nI (p.1 - 1)) (pk_sub (by omega)) ?_
        refine ez_go ez_h93 3 (pc' := 25) (L' := [some (.ref 0), some (.int (nI (1))), some (.int (nI (p.1 - 1))), none]) (st' := [.int (U.2.2.1)]) (w' := mz_w A Q U T) rfl ?_
        refine ez_top (y := nI (p.1)) (hU.2.2.1) ?_
        refine ez_go ez_h93 2 (pc' := bif decide ((nI (p.1)) ≤ (nI (2))) then 52 else 29) (L' := [some (.ref 0), some (.int (nI (1))), some (.int (nI (p.1 - 1))), none]) (st' := []) (w' := mz_w A Q U T) rfl ?_
        refine ez_ifF (zt_nle (a := p.1) (b := 2) (by omega) (by omega)) ?_
        refine ez_go ez_h93 4 (pc' := 33) (L' := [some (.ref 0), some (.int (nI (1))), some (.int (nI (p.1 - 1))), none]) (st' := [.int ((nI (p.1 - 1)) - (nI (2))), .ref 0]) (w' := mz_w A Q U T) rfl ?_
        refine ez_top (y := nI ((p.1 - 1) - 2)) (pk_sub (by omega)) ?_
        refine ez_cl ez_h93 rfl rfl ?_
        refine mu_width hU (k := (p.1 - 1) - 2) (by omega) h38 A Q T ?_
        refine ez_go ez_h93 4 (pc' := 40) (L' := [some (.ref 0), some (.int (nI (1))), some (.int (nI (p.1 - 1))), none]) (st' := [.int ((nI (p.1 - 1)) - (nI (1))), .ref 0, .int (nI (p.2.2.1 ((p.1 - 1) - 2)))]) (w' := mz_w A Q U T) rfl ?_
        refine ez_top (y := nI ((p.1 - 1) - 1)) (pk_sub (by omega)) ?_
        refine ez_cl ez_h93 rfl rfl ?_
        refine mu_width hU (k := (p.1 - 1) - 1) (by omega) h38 A Q T ?_
        refine ez_go ez_h93 2 (pc' := 45) (L' := [some (.ref 0), some (.int (nI (1))), some (.int (nI (p.1 - 1))), none]) (st' := [.int (nI (p.1 - 1)), .ref 0, .int (nI (p.2.2.1 ((p.1 - 1) - 1))), .int (nI (p.2.2.1 ((p.1 - 1) - 2)))]) (w' := mz_w A Q U T) rfl ?_
        refine ez_cl ez_h93 rfl rfl ?_
        refine mu_width hU (k := p.1 - 1) (by omega) h38 A Q T ?_
        refine ez_go ez_h93 1 (pc' := 49) (L' := [some (.ref 0), some (.int (nI (1))), some (.int (nI (p.1 - 1))), none]) (st' := [.int ((nI (p.2.2.1 ((p.1 - 1) - 1))) + (nI (p.2.2.1 (p.1 - 1)))), .int (nI (p.2.2.1 ((p.1 - 1) - 2)))]) (w' := mz_w A Q U T) rfl ?_
        refine ez_top (y := nI ((p.2.2.1 ((p.1 - 1) - 1)) + (p.2.2.1 (p.1 - 1)))) (nI_add _ _) ?_
        refine ez_go ez_h93 1 (pc' := bif decide ((nI (p.2.2.1 ((p.1 - 1) - 2))) ≤ (nI ((p.2.2.1 ((p.1 - 1) - 1)) + (p.2.2.1 (p.1 - 1))))) then 85 else 52) (L' := [some (.ref 0), some (.int (nI (1))), some (.int (nI (p.1 - 1))), none]) (st' := []) (w' := mz_w A Q U T) rfl ?_
        refine ez_ifF (zt_nle (a := p.2.2.1 ((p.1 - 1) - 2)) (b := (p.2.2.1 ((p.1 - 1) - 1)) + (p.2.2.1 (p.1 - 1))) (by omega) (by omega)) ?_
        refine ez_go ez_h93 2 (pc' := 56) (L' := [some (.ref 0), some (.int (nI (1))), some (.int (nI (p.1 - 1))), none]) (st' := [.int (U.2.2.1)]) (w' := mz_w A Q U T) rfl ?_
        refine ez_top (y := nI (p.1)) (hU.2.2.1) ?_
        refine ez_go ez_h93 2 (pc' := bif decide ((nI (p.1)) ≤ (nI (3))) then 89 else 60) (L' := [some (.ref 0), some (.int (nI (1))), some (.int (nI (p.1 - 1))), none]) (st' := []) (w' := mz_w A Q U T) rfl ?_
        refine ez_ifT (zt_le (a := p.1) (b := 3) (by omega) (by omega)) ?_
        refine ez_go ez_h93 2 (pc' := 91) (L' := [some (.ref 0), some (.int (nI (1))), some (.int (nI (p.1 - 1))), some (.int (nI (0)))]) (st' := []) (w' := mz_w A Q U T) rfl ?_
        exact kk
  · skip
    have fv : zp_fl p = false := by rw [fl]; simp; omega
    rw [fv] at kk
    refine ez_go ez_h93 2 (pc' := 18) (L' := [some (.ref 0), some (.int (nI (1))), none, none]) (st' := [.int (U.2.2.1)]) (w' := mz_w A Q U T) rfl ?_
    refine ez_top (y := nI (p.1)) (hU.2.2.1) ?_
    refine ez_go ez_h93 2 (pc' := 20) (L' := [some (.ref 0), some (.int (nI (1))), none, none]) (st' := [.int ((nI (p.1)) - (nI (1)))]) (w' := mz_w A Q U T) rfl ?_
    refine ez_top (y := nI (p.1 - 1)) (pk_sub (by omega)) ?_
    refine ez_go ez_h93 3 (pc' := 25) (L' := [some (.ref 0), some (.int (nI (1))), some (.int (nI (p.1 - 1))), none]) (st' := [.int (U.2.2.1)]) (w' := mz_w A Q U T) rfl ?_
    refine ez_top (y := nI (p.1)) (hU.2.2.1) ?_
    refine ez_go ez_h93 2 (pc' := bif decide ((nI (p.1)) ≤ (nI (2))) then 52 else 29) (L' := [some (.ref 0), some (.int (nI (1))), some (.int (nI (p.1 - 1))), none]) (st' := []) (w' := mz_w A Q U T) rfl ?_
    refine ez_ifT (zt_le (a := p.1) (b := 2) (by omega) (by omega)) ?_
    refine ez_go ez_h93 2 (pc' := 56) (L' := [some (.ref 0), some (.int (nI (1))), some (.int (nI (p.1 - 1))), none]) (st' := [.int (U.2.2.1)]) (w' := mz_w A Q U T) rfl ?_
    refine ez_top (y := nI (p.1)) (hU.2.2.1) ?_
    refine ez_go ez_h93 2 (pc' := bif decide ((nI (p.1)) ≤ (nI (3))) then 89 else 60) (L' := [some (.ref 0), some (.int (nI (1))), some (.int (nI (p.1 - 1))), none]) (st' := []) (w' := mz_w A Q U T) rfl ?_
    refine ez_ifT (zt_le (a := p.1) (b := 3) (by omega) (by omega)) ?_
    refine ez_go ez_h93 2 (pc' := 91) (L' := [some (.ref 0), some (.int (nI (1))), some (.int (nI (p.1 - 1))), some (.int (nI (0)))]) (st' := []) (w' := mz_w A Q U T) rfl ?_
    exact kk
theorem zp_sd_lt {p : zp_T} (h : 2 ≤ p.1) : zp_sd p + 1 < p.1 := by
  unfold zp_sd
  split <;> omega
theorem zp_fl3 {p : zp_T} (h : zp_fl p = true) : 3 ≤ p.1 := by
  unfold zp_fl at h
  simp at h
  omega
/-- as long as the pile is too flat -/
theorem zq_flat {E : ze_T} (hE : ze_ok E) {bd : Nat} : ∀ (m : Nat) (p : zp_T) (row : Nat → Nat) (g : zs_G), p.1 ≤ m → zp_ok (ze_n E) p bd → zr_ok E row g →
    ∃ (row' : Nat → Nat) (g' : zs_G) (p' : zp_T), zr_ok E row' g' ∧ zg_le E g g' ∧ zp_in row row' 0 (ze_n E) ∧ zp_ok (ze_n E) p' bd ∧
      cw_H E 51 5 [some (.ref 5), some (.int (nI (p.1))), none] row g p none row' g' p' ∧ mw_H E 93 2 [some (.ref 0), some (.int (nI (1))), none, none] row g p none row' g' p' := by
  have hn := hE.1
  intro m
  induction m with
  | zero =>
    intro p row g h1 hp hw
    have h38 := hp.h hn
    refine ⟨row, g, p, hw, zg_le.rf g, zp_in.rf _ _ _, hp, ?_, ?_⟩
    · intro r q u bb post hr hu kk
      refine ez_go ez_h51 3 (pc' := bif decide ((nI (p.1)) < (nI (2))) then 69 else 10) (L' := [some (.ref 5), some (.int (nI (p.1))), none]) (st' := []) (w' := cz_w r q u bb) rfl ?_
      refine ez_ifT (zt_lt (a := p.1) (b := 2) (by omega) (by omega)) ?_
      exact ez_vret rfl ez_h51 rfl rfl (kk _ _ hr hu)
    · intro A Q U T post hA hU kk
      refine ez_go ez_h93 2 (pc' := bif decide ((nI (1)) = (nI 0)) then 156 else 6) (L' := [some (.ref 0), some (.int (nI (1))), none, none]) (st' := []) (w' := mz_w A Q U T) rfl ?_
      refine ez_ifF (zt_ne (by omega) (by omega) (by omega)) ?_
      refine ez_go ez_h93 2 (pc' := 10) (L' := [some (.ref 0), some (.int (nI (1))), none, none]) (st' := [.int (U.2.2.1)]) (w' := mz_w A Q U T) rfl ?_
      refine ez_top (y := nI (p.1)) (hU.2.2.1) ?_
      refine ez_go ez_h93 2 (pc' := bif decide ((nI (p.1)) ≤ (nI (1))) then 156 else 14) (L' := [some (.ref 0), some (.int (nI (1))), none, none]) (st' := []) (w' := mz_w A Q U T) rfl ?_
      refine ez_ifT (zt_le (a := p.1) (b := 1) (by omega) (by omega)) ?_
      exact ez_vret rfl ez_h93 rfl rfl (kk _ _ hA hU)
  | succ m ih =>
    intro p row g h1 hp hw
    have h38 := hp.h hn
    have hz : ∀ j, j < p.1 → p.2.2.1 j ≤ ze_n E := fun j hj => hp.z hj
    by_cases h2 : 2 ≤ p.1
    · have z3 := hz (p.1 - 1) (by omega)
      have z2 := hz (p.1 - 1 - 1) (by omega)
      cases hf : zp_fl p with
      | true =>
        have h3 := zp_fl3 hf
        have z1 := hz (p.1 - 1 - 2) (by omega)
        have hsd := zp_sd_lt h2
        obtain ⟨row1, g1, a1, a2, a3, a4, a5⟩ := zm_at hE hp (k := zp_sd p) hsd hw
        obtain ⟨p1, hp1⟩ : ∃ x, x = zp_mg p (zp_sd p) := ⟨_, rfl⟩
        rw [← hp1] at a4 a5
        have hpl : p1.1 = p.1 - 1 := by rw [hp1]; rfl
        obtain ⟨row', g', p', b1, b2, b3, b4, b5, b6⟩ := ih p1 row1 g1 (by omega) (by rw [hp1]; exact hp.mg hsd) a1
        refine ⟨row', g', p', b1, a2.tr b2, a3.tr b3, b4, ?_, ?_⟩
        · intro r q u bb post hr hu kk
          refine ez_go ez_h51 3 (pc' := bif decide ((nI (p.1)) < (nI (2))) then 69 else 10) (L' := [some (.ref 5), some (.int (nI (p.1))), none]) (st' := []) (w' := cz_w r q u bb) rfl ?_
          refine ez_ifF (zt_nlt (a := p.1) (b := 2) (by omega) (by omega)) ?_
          refine ez_go ez_h51 2 (pc' := 14) (L' := [some (.ref 5), some (.int (nI (p.1))), none]) (st' := [.int (u.1)]) (w' := cz_w r q u bb) rfl ?_
          refine ez_top (y := nI (p.1)) (hu.1) ?_
          refine ez_go ez_h51 2 (pc' := 16) (L' := [some (.ref 5), some (.int (nI (p.1))), none]) (st' := [.int ((nI (p.1)) - (nI (1)))]) (w' := cz_w r q u bb) rfl ?_
          refine ez_top (y := nI (p.1 - 1)) (pk_sub (by omega)) ?_
          refine ez_go ez_h51 3 (pc' := 19) (L' := [some (.ref 5), some (.int (nI (p.1))), some (.int (nI (p.1 - 1)))]) (st' := [.int (nI (p.1 - 1)), .ref 5]) (w' := cz_w r q u bb) rfl ?_
          refine ez_cl ez_h51 rfl rfl ?_
          refine zp_flat hE hp h2 row g _ q u bb _ hr hu (fun r4 u4 hr4 hu4 => ?_)
          refine ez_go ez_h51 1 (pc' := bif decide ((zs_z (zp_fl p)) = 0) then 37 else 25) (L' := [some (.ref 5), some (.int (nI (p.1))), some (.int (nI (p.1 - 1)))]) (st' := []) (w' := cz_w r4 q u4 bb) rfl ?_
          refine ez_ifF (zz_t hf) ?_
          refine ez_go ez_h51 3 (pc' := 28) (L' := [some (.ref 5), some (.int (nI (p.1))), some (.int (nI (p.1 - 1)))]) (st' := [.int (nI (p.1 - 1)), .ref 5, .ref 5]) (w' := cz_w r4 q u4 bb) rfl ?_
          refine ez_cl ez_h51 rfl rfl ?_
          refine zp_side hE hp h2 row g _ q u4 bb _ hr4 hu4 (fun r5 u5 hr5 hu5 => ?_)
          refine ez_cl ez_h51 rfl rfl ?_
          refine a4 _ q u5 bb _ hr5 hu5 (fun r6 u6 hr6 hu6 => ?_)
          refine ez_go ez_h51 1 (pc' := 63) (L' := [some (.ref 5), some (.int (nI (p.1))), some (.int (nI (p.1 - 1)))]) (st' := []) (w' := cz_w r6 q u6 bb) rfl ?_
          refine ez_inc ez_h51 rfl rfl (v := nI (p.1 - 1)) (zi_m (by omega)) rfl ?_
          refine ez_go ez_h51 1 (pc' := 5) (L' := [some (.ref 5), some (.int (nI (p.1 - 1))), some (.int (nI (p.1 - 1)))]) (st' := []) (w' := cz_w r6 q u6 bb) rfl ?_
          rw [← hpl]
          exact ez_E.le (ez_lc (ez_lc (ez_ln ez_l0))) (b5 _ q u6 bb post hr6 hu6 kk)
        · intro A Q U T post hA hU kk
          refine ez_go ez_h93 2 (pc' := bif decide ((nI (1)) = (nI 0)) then 156 else 6) (L' := [some (.ref 0), some (.int (nI (1))), none, none]) (st' := []) (w' := mz_w A Q U T) rfl ?_
          refine ez_ifF (zt_ne (by omega) (by omega) (by omega)) ?_
          refine ez_go ez_h93 2 (pc' := 10) (L' := [some (.ref 0), some (.int (nI (1))), none, none]) (st' := [.int (U.2.2.1)]) (w' := mz_w A Q U T) rfl ?_
          refine ez_top (y := nI (p.1)) (hU.2.2.1) ?_
          refine ez_go ez_h93 2 (pc' := bif decide ((nI (p.1)) ≤ (nI (1))) then 156 else 14) (L' := [some (.ref 0), some (.int (nI (1))), none, none]) (st' := []) (w' := mz_w A Q U T) rfl ?_
          refine ez_ifF (zt_nle (a := p.1) (b := 1) (by omega) (by omega)) ?_
          refine zp_mfl hE hp h2 _ Q U T hU ?_
          by_cases d1 : p.2.2.1 (p.1 - 1 - 2) < p.2.2.1 (p.1 - 1)
          · have esd : zp_sd p = p.1 - 1 - 2 := by unfold zp_sd; rw [if_pos (by omega)]
            rw [esd] at a5
            refine ez_go ez_h93 2 (pc' := bif decide ((zs_z (zp_fl p)) = 0) then 126 else 95) (L' := [some (.ref 0), some (.int (nI (1))), some (.int (nI (p.1 - 1))), some (.int (zs_z (zp_fl p)))]) (st' := []) (w' := mz_w A Q U T) rfl ?_
            refine ez_ifF (zz_t hf) ?_
            refine ez_go ez_h93 5 (pc' := 100) (L' := [some (.ref 0), some (.int (nI (1))), some (.int (nI (p.1 - 1))), some (.int (zs_z (zp_fl p)))]) (st' := [.int ((nI (p.1 - 1)) - (nI (2))), .ref 0, .ref 0]) (w' := mz_w A Q U T) rfl ?_
            refine ez_top (y := nI ((p.1 - 1) - 2)) (pk_sub (by omega)) ?_
            refine ez_cl ez_h93 rfl rfl ?_
            refine mu_width hU (k := (p.1 - 1) - 2) (by omega) h38 A Q T ?_
            refine ez_go ez_h93 2 (pc' := 105) (L' := [some (.ref 0), some (.int (nI (1))), some (.int (nI (p.1 - 1))), some (.int (zs_z (zp_fl p)))]) (st' := [.int (nI (p.1 - 1)), .ref 0, .int (nI (p.2.2.1 ((p.1 - 1) - 2))), .ref 0]) (w' := mz_w A Q U T) rfl ?_
            refine ez_cl ez_h93 rfl rfl ?_
            refine mu_width hU (k := p.1 - 1) (by omega) h38 A Q T ?_
            refine ez_go ez_h93 1 (pc' := bif decide ((nI (p.2.2.1 (p.1 - 1))) ≤ (nI (p.2.2.1 ((p.1 - 1) - 2)))) then 117 else 111) (L' := [some (.ref 0), some (.int (nI (1))), some (.int (nI (p.1 - 1))), some (.int (zs_z (zp_fl p)))]) (st' := [.ref 0]) (w' := mz_w A Q U T) rfl ?_
            refine ez_ifF (zt_nle (a := p.2.2.1 (p.1 - 1)) (b := p.2.2.1 ((p.1 - 1) - 2)) (by omega) (by omega)) ?_
            refine ez_go ez_h93 3 (pc' := 114) (L' := [some (.ref 0), some (.int (nI (1))), some (.int (nI (p.1 - 1))), some (.int (zs_z (zp_fl p)))]) (st' := [.int ((nI (p.1 - 1)) - (nI (2))), .ref 0]) (w' := mz_w A Q U T) rfl ?_
            refine ez_top (y := nI ((p.1 - 1) - 2)) (pk_sub (by omega)) ?_
            refine ez_go ez_h93 1 (pc' := 120) (L' := [some (.ref 0), some (.int (nI (1))), some (.int (nI (p.1 - 1))), some (.int (zs_z (zp_fl p)))]) (st' := [.int (nI ((p.1 - 1) - 2)), .ref 0]) (w' := mz_w A Q U T) rfl ?_
            refine ez_cl ez_h93 rfl rfl ?_
            refine a5 _ Q U T _ hA hU (fun A7 U7 hA7 hU7 => ?_)
            refine ez_go ez_h93 2 (pc' := 2) (L' := [some (.ref 0), some (.int (nI (1))), some (.int (nI (p.1 - 1))), some (.int (zs_z (zp_fl p)))]) (st' := []) (w' := mz_w A7 Q U7 T) rfl ?_
            exact ez_E.le (ez_lc (ez_lc (ez_ln (ez_ln ez_l0)))) (b6 _ Q U7 T post hA7 hU7 kk)
          · have esd : zp_sd p = p.1 - 1 - 1 := by unfold zp_sd; rw [if_neg (by omega)]
            rw [esd] at a5
            refine ez_go ez_h93 2 (pc' := bif decide ((zs_z (zp_fl p)) = 0) then 126 else 95) (L' := [some (.ref 0), some (.int (nI (1))), some (.int (nI (p.1 - 1))), some (.int (zs_z (zp_fl p)))]) (st' := []) (w' := mz_w A Q U T) rfl ?_
            refine ez_ifF (zz_t hf) ?_
            refine ez_go ez_h93 5 (pc' := 100) (L' := [some (.ref 0), some (.int (nI (1))), some (.int (nI (p.1 - 1))), some (.int (zs_z (zp_fl p)))]) (st' := [.int ((nI (p.1 - 1)) - (nI (2))), .ref 0, .ref 0]) (w' := mz_w A Q U T) rfl ?_
            refine ez_top (y := nI ((p.1 - 1) - 2)) (pk_sub (by omega)) ?_
            refine ez_cl ez_h93 rfl rfl ?_
            refine mu_width hU (k := (p.1 - 1) - 2) (by omega) h38 A Q T ?_
            refine ez_go ez_h93 2 (pc' := 105) (L' := [some (.ref 0), some (.int (nI (1))), some (.int (nI (p.1 - 1))), some (.int (zs_z (zp_fl p)))]) (st' := [.int (nI (p.1 - 1)), .ref 0, .int (nI (p.2.2.1 ((p.1 - 1) - 2))), .ref 0]) (w' := mz_w A Q U T) rfl ?_
            refine ez_cl ez_h93 rfl rfl ?_
            refine mu_width hU (k := p.1 - 1) (by omega) h38 A Q T ?_
            refine ez_go ez_h93 1 (pc' := bif decide ((nI (p.2.2.1 (p.1 - 1))) ≤ (nI (p.2.2.1 ((p.1 - 1) - 2)))) then 117 else 111) (L' := [some (.ref 0), some (.int (nI (1))), some (.int (nI (p.1 - 1))), some (.int (zs_z (zp_fl p)))]) (st' := [.ref 0]) (w' := mz_w A Q U T) rfl ?_
            refine ez_ifT (zt_le (a := p.2.2.1 (p.1 - 1)) (b := p.2.2.1 ((p.1 - 1) - 2)) (by omega) (by omega)) ?_
            refine ez_go ez_h93 3 (pc' := 120) (L' := [some (.ref 0), some (.int (nI (1))), some (.int (nI (p.1 - 1))), some (.int (zs_z (zp_fl p)))]) (st' := [.int ((nI (p.1 - 1)) - (nI (1))), .ref 0]) (w' := mz_w A Q U T) rfl ?_
            refine ez_top (y := nI ((p.1 - 1) - 1)) (pk_sub (by omega)) ?_
            refine ez_cl ez_h93 rfl rfl ?_
            refine a5 _ Q U T _ hA hU (fun A8 U8 hA8 hU8 => ?_)
            refine ez_go ez_h93 2 (pc' := 2) (L' := [some (.ref 0), some (.int (nI (1))), some (.int (nI (p.1 - 1))), some (.int (zs_z (zp_fl p)))]) (st' := []) (w' := mz_w A8 Q U8 T) rfl ?_
            exact ez_E.le (ez_lc (ez_lc (ez_ln (ez_ln ez_l0)))) (b6 _ Q U8 T post hA8 hU8 kk)
      | false =>
        by_cases d1 : p.2.2.1 (p.1 - 1 - 1) ≤ p.2.2.1 (p.1 - 1)
        · obtain ⟨row1, g1, a1, a2, a3, a4, a5⟩ := zm_at hE hp (k := p.1 - 1 - 1) (by omega) hw
          obtain ⟨p1, hp1⟩ : ∃ x, x = zp_mg p (p.1 - 1 - 1) := ⟨_, rfl⟩
          rw [← hp1] at a4 a5
          have hpl : p1.1 = p.1 - 1 := by rw [hp1]; rfl
          obtain ⟨row', g', p', b1, b2, b3, b4, b5, b6⟩ := ih p1 row1 g1 (by omega) (by rw [hp1]; exact hp.mg (by omega)) a1
          refine ⟨row', g', p', b1, a2.tr b2, a3.tr b3, b4, ?_, ?_⟩
          · intro r q u bb post hr hu kk
            refine ez_go ez_h51 3 (pc' := bif decide ((nI (p.1)) < (nI (2))) then 69 else 10) (L' := [some (.ref 5), some (.int (nI (p.1))), none]) (st' := []) (w' := cz_w r q u bb) rfl ?_
            refine ez_ifF (zt_nlt (a := p.1) (b := 2) (by omega) (by omega)) ?_
            refine ez_go ez_h51 2 (pc' := 14) (L' := [some (.ref 5), some (.int (nI (p.1))), none]) (st' := [.int (u.1)]) (w' := cz_w r q u bb) rfl ?_
            refine ez_top (y := nI (p.1)) (hu.1) ?_
            refine ez_go ez_h51 2 (pc' := 16) (L' := [some (.ref 5), some (.int (nI (p.1))), none]) (st' := [.int ((nI (p.1)) - (nI (1)))]) (w' := cz_w r q u bb) rfl ?_
            refine ez_top (y := nI (p.1 - 1)) (pk_sub (by omega)) ?_
            refine ez_go ez_h51 3 (pc' := 19) (L' := [some (.ref 5), some (.int (nI (p.1))), some (.int (nI (p.1 - 1)))]) (st' := [.int (nI (p.1 - 1)), .ref 5]) (w' := cz_w r q u bb) rfl ?_
            refine ez_cl ez_h51 rfl rfl ?_
            refine zp_flat hE hp h2 row g _ q u bb _ hr hu (fun r9 u9 hr9 hu9 => ?_)
            refine ez_go ez_h51 1 (pc' := bif decide ((zs_z (zp_fl p)) = 0) then 37 else 25) (L' := [some (.ref 5), some (.int (nI (p.1))), some (.int (nI (p.1 - 1)))]) (st' := []) (w' := cz_w r9 q u9 bb) rfl ?_
            refine ez_ifT (zz_f hf) ?_
            refine ez_go ez_h51 4 (pc' := 41) (L' := [some (.ref 5), some (.int (nI (p.1))), some (.int (nI (p.1 - 1)))]) (st' := [.int ((nI (p.1 - 1)) - (nI (1))), .ref 5]) (w' := cz_w r9 q u9 bb) rfl ?_
            refine ez_top (y := nI ((p.1 - 1) - 1)) (pk_sub (by omega)) ?_
            refine ez_cl ez_h51 rfl rfl ?_
            refine cu_size hu9 (k := (p.1 - 1) - 1) (by omega) h38 r9 q bb ?_
            refine ez_go ez_h51 2 (pc' := 46) (L' := [some (.ref 5), some (.int (nI (p.1))), some (.int (nI (p.1 - 1)))]) (st' := [.int (nI (p.1 - 1)), .ref 5, .int (nI (p.2.2.1 ((p.1 - 1) - 1)))]) (w' := cz_w r9 q u9 bb) rfl ?_
            refine ez_cl ez_h51 rfl rfl ?_
            refine cu_size hu9 (k := p.1 - 1) (by omega) h38 r9 q bb ?_
            refine ez_go ez_h51 1 (pc' := bif decide ((nI (p.2.2.1 (p.1 - 1))) < (nI (p.2.2.1 ((p.1 - 1) - 1)))) then 62 else 52) (L' := [some (.ref 5), some (.int (nI (p.1))), some (.int (nI (p.1 - 1)))]) (st' := []) (w' := cz_w r9 q u9 bb) rfl ?_
            refine ez_ifF (zt_nlt (a := p.2.2.1 (p.1 - 1)) (b := p.2.2.1 ((p.1 - 1) - 1)) (by omega) (by omega)) ?_
            refine ez_go ez_h51 4 (pc' := 56) (L' := [some (.ref 5), some (.int (nI (p.1))), some (.int (nI (p.1 - 1)))]) (st' := [.int ((nI (p.1 - 1)) - (nI (1))), .ref 5]) (w' := cz_w r9 q u9 bb) rfl ?_
            refine ez_top (y := nI ((p.1 - 1) - 1)) (pk_sub (by omega)) ?_
            refine ez_cl ez_h51 rfl rfl ?_
            refine a4 _ q u9 bb _ hr9 hu9 (fun r10 u10 hr10 hu10 => ?_)
            refine ez_go ez_h51 1 (pc' := 63) (L' := [some (.ref 5), some (.int (nI (p.1))), some (.int (nI (p.1 - 1)))]) (st' := []) (w' := cz_w r10 q u10 bb) rfl ?_
            refine ez_inc ez_h51 rfl rfl (v := nI (p.1 - 1)) (zi_m (by omega)) rfl ?_
            refine ez_go ez_h51 1 (pc' := 5) (L' := [some (.ref 5), some (.int (nI (p.1 - 1))), some (.int (nI (p.1 - 1)))]) (st' := []) (w' := cz_w r10 q u10 bb) rfl ?_
            rw [← hpl]
            exact ez_E.le (ez_lc (ez_lc (ez_ln ez_l0))) (b5 _ q u10 bb post hr10 hu10 kk)
          · intro A Q U T post hA hU kk
            refine ez_go ez_h93 2 (pc' := bif decide ((nI (1)) = (nI 0)) then 156 else 6) (L' := [some (.ref 0), some (.int (nI (1))), none, none]) (st' := []) (w' := mz_w A Q U T) rfl ?_
            refine ez_ifF (zt_ne (by omega) (by omega) (by omega)) ?_
            refine ez_go ez_h93 2 (pc' := 10) (L' := [some (.ref 0), some (.int (nI (1))), none, none]) (st' := [.int (U.2.2.1)]) (w' := mz_w A Q U T) rfl ?_
            refine ez_top (y := nI (p.1)) (hU.2.2.1) ?_
            refine ez_go ez_h93 2 (pc' := bif decide ((nI (p.1)) ≤ (nI (1))) then 156 else 14) (L' := [some (.ref 0), some (.int (nI (1))), none, none]) (st' := []) (w' := mz_w A Q U T) rfl ?_
            refine ez_ifF (zt_nle (a := p.1) (b := 1) (by omega) (by omega)) ?_
            refine zp_mfl hE hp h2 _ Q U T hU ?_
            refine ez_go ez_h93 2 (pc' := bif decide ((zs_z (zp_fl p)) = 0) then 126 else 95) (L' := [some (.ref 0), some (.int (nI (1))), some (.int (nI (p.1 - 1))), some (.int (zs_z (zp_fl p)))]) (st' := []) (w' := mz_w A Q U T) rfl ?_
            refine ez_ifT (zz_f hf) ?_
            refine ez_go ez_h93 4 (pc' := 130) (L' := [some (.ref 0), some (.int (nI (1))), some (.int (nI (p.1 - 1))), some (.int (zs_z (zp_fl p)))]) (st' := [.int ((nI (p.1 - 1)) - (nI (1))), .ref 0]) (w' := mz_w A Q U T) rfl ?_
            refine ez_top (y := nI ((p.1 - 1) - 1)) (pk_sub (by omega)) ?_
            refine ez_cl ez_h93 rfl rfl ?_
            refine mu_width hU (k := (p.1 - 1) - 1) (by omega) h38 A Q T ?_
            refine ez_go ez_h93 2 (pc' := 135) (L' := [some (.ref 0), some (.int (nI (1))), some (.int (nI (p.1 - 1))), some (.int (zs_z (zp_fl p)))]) (st' := [.int (nI (p.1 - 1)), .ref 0, .int (nI (p.2.2.1 ((p.1 - 1) - 1)))]) (w' := mz_w A Q U T) rfl ?_
            refine ez_cl ez_h93 rfl rfl ?_
            refine mu_width hU (k := p.1 - 1) (by omega) h38 A Q T ?_
            refine ez_go ez_h93 1 (pc' := bif decide ((nI (p.2.2.1 (p.1 - 1))) < (nI (p.2.2.1 ((p.1 - 1) - 1)))) then 151 else 141) (L' := [some (.ref 0), some (.int (nI (1))), some (.int (nI (p.1 - 1))), some (.int (zs_z (zp_fl p)))]) (st' := []) (w' := mz_w A Q U T) rfl ?_
            refine ez_ifF (zt_nlt (a := p.2.2.1 (p.1 - 1)) (b := p.2.2.1 ((p.1 - 1) - 1)) (by omega) (by omega)) ?_
            refine ez_go ez_h93 4 (pc' := 145) (L' := [some (.ref 0), some (.int (nI (1))), some (.int (nI (p.1 - 1))), some (.int (zs_z (zp_fl p)))]) (st' := [.int ((nI (p.1 - 1)) - (nI (1))), .ref 0]) (w' := mz_w A Q U T) rfl ?_
            refine ez_top (y := nI ((p.1 - 1) - 1)) (pk_sub (by omega)) ?_
            refine ez_cl ez_h93 rfl rfl ?_
            refine a5 _ Q U T _ hA hU (fun A11 U11 hA11 hU11 => ?_)
            refine ez_go ez_h93 2 (pc' := 2) (L' := [some (.ref 0), some (.int (nI (1))), some (.int (nI (p.1 - 1))), some (.int (zs_z (zp_fl p)))]) (st' := []) (w' := mz_w A11 Q U11 T) rfl ?_
            exact ez_E.le (ez_lc (ez_lc (ez_ln (ez_ln ez_l0)))) (b6 _ Q U11 T post hA11 hU11 kk)
        · refine ⟨row, g, p, hw, zg_le.rf g, zp_in.rf _ _ _, hp, ?_, ?_⟩
          · intro r q u bb post hr hu kk
            refine ez_go ez_h51 3 (pc' := bif decide ((nI (p.1)) < (nI (2))) then 69 else 10) (L' := [some (.ref 5), some (.int (nI (p.1))), none]) (st' := []) (w' := cz_w r q u bb) rfl ?_
            refine ez_ifF (zt_nlt (a := p.1) (b := 2) (by omega) (by omega)) ?_
            refine ez_go ez_h51 2 (pc' := 14) (L' := [some (.ref 5), some (.int (nI (p.1))), none]) (st' := [.int (u.1)]) (w' := cz_w r q u bb) rfl ?_
            refine ez_top (y := nI (p.1)) (hu.1) ?_
            refine ez_go ez_h51 2 (pc' := 16) (L' := [some (.ref 5), some (.int (nI (p.1))), none]) (st' := [.int ((nI (p.1)) - (nI (1)))]) (w' := cz_w r q u bb) rfl ?_
            refine ez_top (y := nI (p.1 - 1)) (pk_sub (by omega)) ?_
            refine ez_go ez_h51 3 (pc' := 19) (L' := [some (.ref 5), some (.int (nI (p.1))), some (.int (nI (p.1 - 1)))]) (st' := [.int (nI (p.1 - 1)), .ref 5]) (w' := cz_w r q u bb) rfl ?_
            refine ez_cl ez_h51 rfl rfl ?_
            refine zp_flat hE hp h2 row g _ q u bb _ hr hu (fun r12 u12 hr12 hu12 => ?_)
            refine ez_go ez_h51 1 (pc' := bif decide ((zs_z (zp_fl p)) = 0) then 37 else 25) (L' := [some (.ref 5), some (.int (nI (p.1))), some (.int (nI (p.1 - 1)))]) (st' := []) (w' := cz_w r12 q u12 bb) rfl ?_
            refine ez_ifT (zz_f hf) ?_
            refine ez_go ez_h51 4 (pc' := 41) (L' := [some (.ref 5), some (.int (nI (p.1))), some (.int (nI (p.1 - 1)))]) (st' := [.int ((nI (p.1 - 1)) - (nI (1))), .ref 5]) (w' := cz_w r12 q u12 bb) rfl ?_
            refine ez_top (y := nI ((p.1 - 1) - 1)) (pk_sub (by omega)) ?_
            refine ez_cl ez_h51 rfl rfl ?_
            refine cu_size hu12 (k := (p.1 - 1) - 1) (by omega) h38 r12 q bb ?_
            refine ez_go ez_h51 2 (pc' := 46) (L' := [some (.ref 5), some (.int (nI (p.1))), some (.int (nI (p.1 - 1)))]) (st' := [.int (nI (p.1 - 1)), .ref 5, .int (nI (p.2.2.1 ((p.1 - 1) - 1)))]) (w' := cz_w r12 q u12 bb) rfl ?_
            refine ez_cl ez_h51 rfl rfl ?_
            refine cu_size hu12 (k := p.1 - 1) (by omega) h38 r12 q bb ?_
            refine ez_go ez_h51 1 (pc' := bif decide ((nI (p.2.2.1 (p.1 - 1))) < (nI (p.2.2.1 ((p.1 - 1) - 1)))) then 62 else 52) (L' := [some (.ref 5), some (.int (nI (p.1))), some (.int (nI (p.1 - 1)))]) (st' := []) (w' := cz_w r12 q u12 bb) rfl ?_
            refine ez_ifT (zt_lt (a := p.2.2.1 (p.1 - 1)) (b := p.2.2.1 ((p.1 - 1) - 1)) (by omega) (by omega)) ?_
            exact ez_vret rfl ez_h51 rfl rfl (kk _ _ hr12 hu12)
          · intro A Q U T post hA hU kk
            refine ez_go ez_h93 2 (pc' := bif decide ((nI (1)) = (nI 0)) then 156 else 6) (L' := [some (.ref 0), some (.int (nI (1))), none, none]) (st' := []) (w' := mz_w A Q U T) rfl ?_
            refine ez_ifF (zt_ne (by omega) (by omega) (by omega)) ?_
            refine ez_go ez_h93 2 (pc' := 10) (L' := [some (.ref 0), some (.int (nI (1))), none, none]) (st' := [.int (U.2.2.1)]) (w' := mz_w A Q U T) rfl ?_
            refine ez_top (y := nI (p.1)) (hU.2.2.1) ?_
            refine ez_go ez_h93 2 (pc' := bif decide ((nI (p.1)) ≤ (nI (1))) then 156 else 14) (L' := [some (.ref 0), some (.int (nI (1))), none, none]) (st' := []) (w' := mz_w A Q U T) rfl ?_
            refine ez_ifF (zt_nle (a := p.1) (b := 1) (by omega) (by omega)) ?_
            refine zp_mfl hE hp h2 _ Q U T hU ?_
            refine ez_go ez_h93 2 (pc' := bif decide ((zs_z (zp_fl p)) = 0) then 126 else 95) (L' := [some (.ref 0), some (.int (nI (1))), some (.int (nI (p.1 - 1))), some (.int (zs_z (zp_fl p)))]) (st' := []) (w' := mz_w A Q U T) rfl ?_
            refine ez_ifT (zz_f hf) ?_
            refine ez_go ez_h93 4 (pc' := 130) (L' := [some (.ref 0), some (.int (nI (1))), some (.int (nI (p.1 - 1))), some (.int (zs_z (zp_fl p)))]) (st' := [.int ((nI (p.1 - 1)) - (nI (1))), .ref 0]) (w' := mz_w A Q U T) rfl ?_
            refine ez_top (y := nI ((p.1 - 1) - 1)) (pk_sub (by omega)) ?_
            refine ez_cl ez_h93 rfl rfl ?_
            refine mu_width hU (k := (p.1 - 1) - 1) (by omega) h38 A Q T ?_
            refine ez_go ez_h93 2 (pc' := 135) (L' := [some (.ref 0), some (.int (nI (1))), some (.int (nI (p.1 - 1))), some (.int (zs_z (zp_fl p)))]) (st' := [.int (nI (p.1 - 1)), .ref 0, .int (nI (p.2.2.1 ((p.1 - 1) - 1)))]) (w' := mz_w A Q U T) rfl ?_
            refine ez_cl ez_h93 rfl rfl ?_
            refine mu_width hU (k := p.1 - 1) (by omega) h38 A Q T ?_
            refine ez_go ez_h93 1 (pc' := bif decide ((nI (p.2.2.1 (p.1 - 1))) < (nI (p.2.2.1 ((p.1 - 1) - 1)))) then 151 else 141) (L' := [some (.ref 0), some (.int (nI (1))), some (.int (nI (p.1 - 1))), some (.int (zs_z (zp_fl p)))]) (st' := []) (w' := mz_w A Q U T) rfl ?_
            refine ez_ifT (zt_lt (a := p.2.2.1 (p.1 - 1)) (b := p.2.2.1 ((p.1 - 1) - 1)) (by omega) (by omega)) ?_
            refine ez_go ez_h93 5 (pc' := bif decide ((nI (0)) = (nI 0)) then 156 else 6) (L' := [some (.ref 0), some (.int (nI (0))), some (.int (nI (p.1 - 1))), some (.int (zs_z (zp_fl p)))]) (st' := []) (w' := mz_w A Q U T) rfl ?_
            refine ez_ifT (zt_eq (by omega)) ?_
            exact ez_vret rfl ez_h93 rfl rfl (kk _ _ hA hU)
    · refine ⟨row, g, p, hw, zg_le.rf g, zp_in.rf _ _ _, hp, ?_, ?_⟩
      · intro r q u bb post hr hu kk
        refine ez_go ez_h51 3 (pc' := bif decide ((nI (p.1)) < (nI (2))) then 69 else 10) (L' := [some (.ref 5), some (.int (nI (p.1))), none]) (st' := []) (w' := cz_w r q u bb) rfl ?_
        refine ez_ifT (zt_lt (a := p.1) (b := 2) (by omega) (by omega)) ?_
        exact ez_vret rfl ez_h51 rfl rfl (kk _ _ hr hu)
      · intro A Q U T post hA hU kk
        refine ez_go ez_h93 2 (pc' := bif decide ((nI (1)) = (nI 0)) then 156 else 6) (L' := [some (.ref 0), some (.int (nI (1))), none, none]) (st' := []) (w' := mz_w A Q U T) rfl ?_
        refine ez_ifF (zt_ne (by omega) (by omega) (by omega)) ?_
        refine ez_go ez_h93 2 (pc' := 10) (L' := [some (.ref 0), some (.int (nI (1))), none, none]) (st' := [.int (U.2.2.1)]) (w' := mz_w A Q U T) rfl ?_
        refine ez_top (y := nI (p.1)) (hU.2.2.1) ?_
        refine ez_go ez_h93 2 (pc' := bif decide ((nI (p.1)) ≤ (nI (1))) then 156 else 14) (L' := [some (.ref 0), some (.int (nI (1))), none, none]) (st' := []) (w' := mz_w A Q U T) rfl ?_
        refine ez_ifT (zt_le (a := p.1) (b := 1) (by omega) (by omega)) ?_
        exact ez_vret rfl ez_h93 rfl rfl (kk _ _ hA hU)
theorem zq_settle {E : ze_T} (hE : ze_ok E) {bd : Nat} {p : zp_T} {row : Nat → Nat} {g : zs_G} (hp : zp_ok (ze_n E) p bd) (hw : zr_ok E row g) :
    ∃ (row' : Nat → Nat) (g' : zs_G) (p' : zp_T), zr_ok E row' g' ∧ zg_le E g g' ∧ zp_in row row' 0 (ze_n E) ∧ zp_ok (ze_n E) p' bd ∧
      cw_M E 51 [.ref 5] row g p none row' g' p' ∧ mw_M E 93 [.ref 0] row g p none row' g' p' := by
  have hn := hE.1
  have h38 := hp.h hn
  obtain ⟨row', g', p', b1, b2, b3, b4, b5, b6⟩ := zq_flat hE p.1 p row g (Nat.le_refl _) hp hw
  refine ⟨row', g', p', b1, b2, b3, b4, ?_, ?_⟩
  · refine cw_H.m (L := [some (.ref 5), none, none]) (fun r q u bb post hr hu kk => ?_) rfl rfl rfl
    refine ez_go ez_h51 2 (pc' := 4) (L' := [some (.ref 5), none, none]) (st' := [.int (u.1)]) (w' := cz_w r q u bb) rfl ?_
    refine ez_top (y := nI (p.1)) (hu.1) ?_
    refine ez_go ez_h51 1 (pc' := 5) (L' := [some (.ref 5), some (.int (nI (p.1))), none]) (st' := []) (w' := cz_w r q u bb) rfl ?_
    exact b5 _ q u bb post hr hu kk
  · refine mw_H.m (L := [some (.ref 0), none, none, none]) (fun A Q U T post hA hU kk => ?_) rfl rfl rfl
    refine ez_go ez_h93 2 (pc' := 2) (L' := [some (.ref 0), some (.int (nI (1))), none, none]) (st' := []) (w' := mz_w A Q U T) rfl ?_
    exact b6 _ Q U T post hA hU kk
/-- at the end: all are MERGED -/
theorem zq_all {E : ze_T} (hE : ze_ok E) {bd : Nat} : ∀ (m : Nat) (p : zp_T) (row : Nat → Nat) (g : zs_G), p.1 ≤ m → zp_ok (ze_n E) p bd → zr_ok E row g →
    ∃ (row' : Nat → Nat) (g' : zs_G) (p' : zp_T), zr_ok E row' g' ∧ zg_le E g g' ∧ zp_in row row' 0 (ze_n E) ∧ zp_ok (ze_n E) p' bd ∧
      cw_H E 52 5 [some (.ref 5), some (.int (nI (p.1)))] row g p none row' g' p' ∧ mw_H E 94 110 [some (.ref 0), none, none, none] row g p none row' g' p' := by
  have hn := hE.1
  intro m
  induction m with
  | zero =>
    intro p row g h1 hp hw
    have h38 := hp.h hn
    refine ⟨row, g, p, hw, zg_le.rf g, zp_in.rf _ _ _, hp, ?_, ?_⟩
    · intro r q u bb post hr hu kk
      refine ez_go ez_h52 3 (pc' := bif decide ((nI (p.1)) < (nI (2))) then 30 else 10) (L' := [some (.ref 5), some (.int (nI (p.1)))]) (st' := []) (w' := cz_w r q u bb) rfl ?_
      refine ez_ifT (zt_lt (a := p.1) (b := 2) (by omega) (by omega)) ?_
      exact ez_vret rfl ez_h52 rfl rfl (kk _ _ hr hu)
    · intro A Q U T post hA hU kk
      refine ez_go ez_h94 2 (pc' := 114) (L' := [some (.ref 0), none, none, none]) (st' := [.int (U.2.2.1)]) (w' := mz_w A Q U T) rfl ?_
      refine ez_top (y := nI (p.1)) (hU.2.2.1) ?_
      refine ez_go ez_h94 2 (pc' := bif decide ((nI (p.1)) ≤ (nI (1))) then 164 else 118) (L' := [some (.ref 0), none, none, none]) (st' := []) (w' := mz_w A Q U T) rfl ?_
      refine ez_ifT (zt_le (a := p.1) (b := 1) (by omega) (by omega)) ?_
      exact ez_vret rfl ez_h94 rfl rfl (kk _ _ hA hU)
  | succ m ih =>
    intro p row g h1 hp hw
    have h38 := hp.h hn
    have hz : ∀ j, j < p.1 → p.2.2.1 j ≤ ze_n E := fun j hj => hp.z hj
    by_cases h2 : 2 ≤ p.1
    · have z3 := hz (p.1 - 1) (by omega)
      have hsd := zp_sd_lt h2
      obtain ⟨row1, g1, a1, a2, a3, a4, a5⟩ := zm_at hE hp (k := zp_sd p) hsd hw
      obtain ⟨p1, hp1⟩ : ∃ x, x = zp_mg p (zp_sd p) := ⟨_, rfl⟩
      rw [← hp1] at a4 a5
      have hpl : p1.1 = p.1 - 1 := by rw [hp1]; rfl
      obtain ⟨row', g', p', b1, b2, b3, b4, b5, b6⟩ := ih p1 row1 g1 (by omega) (by rw [hp1]; exact hp.mg hsd) a1
      refine ⟨row', g', p', b1, a2.tr b2, a3.tr b3, b4, ?_, ?_⟩
      · intro r q u bb post hr hu kk
        refine ez_go ez_h52 3 (pc' := bif decide ((nI (p.1)) < (nI (2))) then 30 else 10) (L' := [some (.ref 5), some (.int (nI (p.1)))]) (st' := []) (w' := cz_w r q u bb) rfl ?_
        refine ez_ifF (zt_nlt (a := p.1) (b := 2) (by omega) (by omega)) ?_
        refine ez_go ez_h52 4 (pc' := 16) (L' := [some (.ref 5), some (.int (nI (p.1)))]) (st' := [.int (u.1), .ref 5, .ref 5]) (w' := cz_w r q u bb) rfl ?_
        refine ez_top (y := nI (p.1)) (hu.1) ?_
        refine ez_go ez_h52 2 (pc' := 18) (L' := [some (.ref 5), some (.int (nI (p.1)))]) (st' := [.int ((nI (p.1)) - (nI (1))), .ref 5, .ref 5]) (w' := cz_w r q u bb) rfl ?_
        refine ez_top (y := nI (p.1 - 1)) (pk_sub (by omega)) ?_
        refine ez_cl ez_h52 rfl rfl ?_
        refine zp_side hE hp h2 row g _ q u bb _ hr hu (fun r13 u13 hr13 hu13 => ?_)
        refine ez_cl ez_h52 rfl rfl ?_
        refine a4 _ q u13 bb _ hr13 hu13 (fun r14 u14 hr14 hu14 => ?_)
        refine ez_inc ez_h52 rfl rfl (v := nI (p.1 - 1)) (zi_m (by omega)) rfl ?_
        refine ez_go ez_h52 1 (pc' := 5) (L' := [some (.ref 5), some (.int (nI (p.1 - 1)))]) (st' := []) (w' := cz_w r14 q u14 bb) rfl ?_
        rw [← hpl]
        exact b5 _ q u14 bb post hr14 hu14 kk
      · intro A Q U T post hA hU kk
        by_cases c3 : 3 ≤ p.1
        · have z1 := hz (p.1 - 1 - 2) (by omega)
          by_cases d1 : p.2.2.1 (p.1 - 1 - 2) < p.2.2.1 (p.1 - 1)
          · have esd : zp_sd p = p.1 - 1 - 2 := by unfold zp_sd; rw [if_pos (by omega)]
            rw [esd] at a5
            refine ez_go ez_h94 2 (pc' := 114) (L' := [some (.ref 0), none, none, none]) (st' := [.int (U.2.2.1)]) (w' := mz_w A Q U T) rfl ?_
            refine ez_top (y := nI (p.1)) (hU.2.2.1) ?_
            refine ez_go ez_h94 2 (pc' := bif decide ((nI (p.1)) ≤ (nI (1))) then 164 else 118) (L' := [some (.ref 0), none, none, none]) (st' := []) (w' := mz_w A Q U T) rfl ?_
            refine ez_ifF (zt_nle (a := p.1) (b := 1) (by omega) (by omega)) ?_
            refine ez_go ez_h94 2 (pc' := 122) (L' := [some (.ref 0), none, none, none]) (st' := [.int (U.2.2.1)]) (w' := mz_w A Q U T) rfl ?_
            refine ez_top (y := nI (p.1)) (hU.2.2.1) ?_
            refine ez_go ez_h94 2 (pc' := 124) (L' := [some (.ref 0), none, none, none]) (st' := [.int ((nI (p.1)) - (nI (1)))]) (w' := mz_w A Q U T) rfl ?_
            refine ez_top (y := nI (p.1 - 1)) (pk_sub (by omega)) ?_
            refine ez_go ez_h94 4 (pc' := 130) (L' := [some (.ref 0), none, some (.int (nI (p.1 - 1))), none]) (st' := [.int (U.2.2.1), .ref 0]) (w' := mz_w A Q U T) rfl ?_
            refine ez_top (y := nI (p.1)) (hU.2.2.1) ?_
            refine ez_go ez_h94 2 (pc' := bif decide ((nI (p.1)) ≤ (nI (2))) then 155 else 134) (L' := [some (.ref 0), none, some (.int (nI (p.1 - 1))), none]) (st' := [.ref 0]) (w' := mz_w A Q U T) rfl ?_
            refine ez_ifF (zt_nle (a := p.1) (b := 2) (by omega) (by omega)) ?_
            refine ez_go ez_h94 4 (pc' := 138) (L' := [some (.ref 0), none, some (.int (nI (p.1 - 1))), none]) (st' := [.int ((nI (p.1 - 1)) - (nI (2))), .ref 0, .ref 0]) (w' := mz_w A Q U T) rfl ?_
            refine ez_top (y := nI ((p.1 - 1) - 2)) (pk_sub (by omega)) ?_
            refine ez_cl ez_h94 rfl rfl ?_
            refine mu_width hU (k := (p.1 - 1) - 2) (by omega) h38 A Q T ?_
            refine ez_go ez_h94 2 (pc' := 143) (L' := [some (.ref 0), none, some (.int (nI (p.1 - 1))), none]) (st' := [.int (nI (p.1 - 1)), .ref 0, .int (nI (p.2.2.1 ((p.1 - 1) - 2))), .ref 0]) (w' := mz_w A Q U T) rfl ?_
            refine ez_cl ez_h94 rfl rfl ?_
            refine mu_width hU (k := p.1 - 1) (by omega) h38 A Q T ?_
            refine ez_go ez_h94 1 (pc' := bif decide ((nI (p.2.2.1 (p.1 - 1))) ≤ (nI (p.2.2.1 ((p.1 - 1) - 2)))) then 155 else 149) (L' := [some (.ref 0), none, some (.int (nI (p.1 - 1))), none]) (st' := [.ref 0]) (w' := mz_w A Q U T) rfl ?_
            refine ez_ifF (zt_nle (a := p.2.2.1 (p.1 - 1)) (b := p.2.2.1 ((p.1 - 1) - 2)) (by omega) (by omega)) ?_
            refine ez_go ez_h94 3 (pc' := 152) (L' := [some (.ref 0), none, some (.int (nI (p.1 - 1))), none]) (st' := [.int ((nI (p.1 - 1)) - (nI (2))), .ref 0]) (w' := mz_w A Q U T) rfl ?_
            refine ez_top (y := nI ((p.1 - 1) - 2)) (pk_sub (by omega)) ?_
            refine ez_go ez_h94 1 (pc' := 158) (L' := [some (.ref 0), none, some (.int (nI (p.1 - 1))), none]) (st' := [.int (nI ((p.1 - 1) - 2)), .ref 0]) (w' := mz_w A Q U T) rfl ?_
            refine ez_cl ez_h94 rfl rfl ?_
            refine a5 _ Q U T _ hA hU (fun A15 U15 hA15 hU15 => ?_)
            refine ez_go ez_h94 1 (pc' := 110) (L' := [some (.ref 0), none, some (.int (nI (p.1 - 1))), none]) (st' := []) (w' := mz_w A15 Q U15 T) rfl ?_
            exact ez_E.le (ez_lc (ez_lc (ez_ln (ez_lc ez_l0)))) (b6 _ Q U15 T post hA15 hU15 kk)
          · have esd : zp_sd p = p.1 - 1 - 1 := by unfold zp_sd; rw [if_neg (by omega)]
            rw [esd] at a5
            refine ez_go ez_h94 2 (pc' := 114) (L' := [some (.ref 0), none, none, none]) (st' := [.int (U.2.2.1)]) (w' := mz_w A Q U T) rfl ?_
            refine ez_top (y := nI (p.1)) (hU.2.2.1) ?_
            refine ez_go ez_h94 2 (pc' := bif decide ((nI (p.1)) ≤ (nI (1))) then 164 else 118) (L' := [some (.ref 0), none, none, none]) (st' := []) (w' := mz_w A Q U T) rfl ?_
            refine ez_ifF (zt_nle (a := p.1) (b := 1) (by omega) (by omega)) ?_
            refine ez_go ez_h94 2 (pc' := 122) (L' := [some (.ref 0), none, none, none]) (st' := [.int (U.2.2.1)]) (w' := mz_w A Q U T) rfl ?_
            refine ez_top (y := nI (p.1)) (hU.2.2.1) ?_
            refine ez_go ez_h94 2 (pc' := 124) (L' := [some (.ref 0), none, none, none]) (st' := [.int ((nI (p.1)) - (nI (1)))]) (w' := mz_w A Q U T) rfl ?_
            refine ez_top (y := nI (p.1 - 1)) (pk_sub (by omega)) ?_
            refine ez_go ez_h94 4 (pc' := 130) (L' := [some (.ref 0), none, some (.int (nI (p.1 - 1))), none]) (st' := [.int (U.2.2.1), .ref 0]) (w' := mz_w A Q U T) rfl ?_
            refine ez_top (y := nI (p.1)) (hU.2.2.1) ?_
            refine ez_go ez_h94 2 (pc' := bif decide ((nI (p.1)) ≤ (nI (2))) then 155 else 134) (L' := [some (.ref 0), none, some (.int (nI (p.1 - 1))), none]) (st' := [.ref 0]) (w' := mz_w A Q U T) rfl ?_
            refine ez_ifF (zt_nle (a := p.1) (b := 2) (by omega) (by omega)) ?_
            refine ez_go ez_h94 4 (pc' := 138) (L' := [some (.ref 0), none, some (.int (nI (p.1 - 1))), none]) (st' := [.int ((nI (p.1 - 1)) - (nI (2))), .ref 0, .ref 0]) (w' := mz_w A Q U T) rfl ?_
            refine ez_top (y := nI ((p.1 - 1) - 2)) (pk_sub (by omega)) ?_
            refine ez_cl ez_h94 rfl rfl ?_
            refine mu_width hU (k := (p.1 - 1) - 2) (by omega) h38 A Q T ?_
            refine ez_go ez_h94 2 (pc' := 143) (L' := [some (.ref 0), none, some (.int (nI (p.1 - 1))), none]) (st' := [.int (nI (p.1 - 1)), .ref 0, .int (nI (p.2.2.1 ((p.1 - 1) - 2))), .ref 0]) (w' := mz_w A Q U T) rfl ?_
            refine ez_cl ez_h94 rfl rfl ?_
            refine mu_width hU (k := p.1 - 1) (by omega) h38 A Q T ?_
            refine ez_go ez_h94 1 (pc' := bif decide ((nI (p.2.2.1 (p.1 - 1))) ≤ (nI (p.2.2.1 ((p.1 - 1) - 2)))) then 155 else 149) (L' := [some (.ref 0), none, some (.int (nI (p.1 - 1))), none]) (st' := [.ref 0]) (w' := mz_w A Q U T) rfl ?_
            refine ez_ifT (zt_le (a := p.2.2.1 (p.1 - 1)) (b := p.2.2.1 ((p.1 - 1) - 2)) (by omega) (by omega)) ?_
            refine ez_go ez_h94 3 (pc' := 158) (L' := [some (.ref 0), none, some (.int (nI (p.1 - 1))), none]) (st' := [.int ((nI (p.1 - 1)) - (nI (1))), .ref 0]) (w' := mz_w A Q U T) rfl ?_
            refine ez_top (y := nI ((p.1 - 1) - 1)) (pk_sub (by omega)) ?_
            refine ez_cl ez_h94 rfl rfl ?_
            refine a5 _ Q U T _ hA hU (fun A16 U16 hA16 hU16 => ?_)
            refine ez_go ez_h94 1 (pc' := 110) (L' := [some (.ref 0), none, some (.int (nI (p.1 - 1))), none]) (st' := []) (w' := mz_w A16 Q U16 T) rfl ?_
            exact ez_E.le (ez_lc (ez_lc (ez_ln (ez_lc ez_l0)))) (b6 _ Q U16 T post hA16 hU16 kk)
        · have esd : zp_sd p = p.1 - 1 - 1 := by unfold zp_sd; rw [if_neg (by omega)]
          rw [esd] at a5
          refine ez_go ez_h94 2 (pc' := 114) (L' := [some (.ref 0), none, none, none]) (st' := [.int (U.2.2.1)]) (w' := mz_w A Q U T) rfl ?_
          refine ez_top (y := nI (p.1)) (hU.2.2.1) ?_
          refine ez_go ez_h94 2 (pc' := bif decide ((nI (p.1)) ≤ (nI (1))) then 164 else 118) (L' := [some (.ref 0), none, none, none]) (st' := []) (w' := mz_w A Q U T) rfl ?_
          refine ez_ifF (zt_nle (a := p.1) (b := 1) (by omega) (by omega)) ?_
          refine ez_go ez_h94 2 (pc' := 122) (L' := [some (.ref 0), none, none, none]) (st' := [.int (U.2.2.1)]) (w' := mz_w A Q U T) rfl ?_
          refine ez_top (y := nI (p.1)) (hU.2.2.1) ?_
          refine ez_go ez_h94 2 (pc' := 124) (L' := [some (.ref 0), none, none, none]) (st' := [.int ((nI (p.1)) - (nI (1)))]) (w' := mz_w A Q U T) rfl ?_
          refine ez_top (y := nI (p.1 - 1)) (pk_sub (by omega)) ?_
          refine ez_go ez_h94 4 (pc' := 130) (L' := [some (.ref 0), none, some (.int (nI (p.1 - 1))), none]) (st' := [.int (U.2.2.1), .ref 0]) (w' := mz_w A Q U T) rfl ?_
          refine ez_top (y := nI (p.1)) (hU.2.2.1) ?_
          refine ez_go ez_h94 2 (pc' := bif decide ((nI (p.1)) ≤ (nI (2))) then 155 else 134) (L' := [some (.ref 0), none, some (.int (nI (p.1 - 1))), none]) (st' := [.ref 0]) (w' := mz_w A Q U T) rfl ?_
          refine ez_ifT (zt_le (a := p.1) (b := 2) (by omega) (by omega)) ?_
          refine ez_go ez_h94 3 (pc' := 158) (L' := [some (.ref 0), none, some (.int (nI (p.1 - 1))), none]) (st' := [.int ((nI (p.1 - 1)) - (nI (1))), .ref 0]) (w' := mz_w A Q U T) rfl ?_
          refine ez_top (y := nI ((p.1 - 1) - 1)) (pk_sub (by omega)) ?_
          refine ez_cl ez_h94 rfl rfl ?_
          refine a5 _ Q U T _ hA hU (fun A17 U17 hA17 hU17 => ?_)
          refine ez_go ez_h94 1 (pc' := 110) (L' := [some (.ref 0), none, some (.int (nI (p.1 - 1))), none]) (st' := []) (w' := mz_w A17 Q U17 T) rfl ?_
          exact ez_E.le (ez_lc (ez_lc (ez_ln (ez_lc ez_l0)))) (b6 _ Q U17 T post hA17 hU17 kk)
    · refine ⟨row, g, p, hw, zg_le.rf g, zp_in.rf _ _ _, hp, ?_, ?_⟩
      · intro r q u bb post hr hu kk
        refine ez_go ez_h52 3 (pc' := bif decide ((nI (p.1)) < (nI (2))) then 30 else 10) (L' := [some (.ref 5), some (.int (nI (p.1)))]) (st' := []) (w' := cz_w r q u bb) rfl ?_
        refine ez_ifT (zt_lt (a := p.1) (b := 2) (by omega) (by omega)) ?_
        exact ez_vret rfl ez_h52 rfl rfl (kk _ _ hr hu)
      · intro A Q U T post hA hU kk
        refine ez_go ez_h94 2 (pc' := 114) (L' := [some (.ref 0), none, none, none]) (st' := [.int (U.2.2.1)]) (w' := mz_w A Q U T) rfl ?_
        refine ez_top (y := nI (p.1)) (hU.2.2.1) ?_
        refine ez_go ez_h94 2 (pc' := bif decide ((nI (p.1)) ≤ (nI (1))) then 164 else 118) (L' := [some (.ref 0), none, none, none]) (st' := []) (w' := mz_w A Q U T) rfl ?_
        refine ez_ifT (zt_le (a := p.1) (b := 1) (by omega) (by omega)) ?_
        exact ez_vret rfl ez_h94 rfl rfl (kk _ _ hA hU)
