/-! ===== more, line, is ===== -/
theorem zo_more1 {n0 m : Nat} {seed : Int64} {sp : Int32} {q : cz_Qk} {u : cz_Rn} {b : cz_Bn} {Q : mz_Q} {U : mz_U} (hm : n0 + m ≤ 600) (hsp : ¬ sp.toInt64 = 0) : ∀ (s k : Nat) (x : Int64) (tg : Nat → Nat) (r : cz_Row) (A : mz_A) (T : mz_T), m ≤ k + s → k ≤ m → zl_R (n0 + k) tg r q u b A Q U T → T.1 = nI 0 →
    ∃ (tg' : Nat → Nat) (r' : cz_Row) (A' : mz_A) (T' : mz_T), zl_R (n0 + m) tg' r' q u b A' Q U T' ∧ T'.1 = nI 0 ∧ (∀ post : Option Value → ez_W → Prop, ez_E 111 74 [some (.ref 0), none, none, none, none, none, none, none] [] (cz_w r' q u b) post → ez_E 111 33 [some (.ref 0), some (.long (seed)), none, some (.int (sp)), some (.int (nI (m))), some (.long (x)), none, some (.int (nI (k)))] [] (cz_w r q u b) post) ∧
      (∀ post : Option Value → ez_W → Prop, ez_E 65 95 [some (.ref 0), none, none, none, none, none, none, none] [] (mz_w A' Q U T') post → ez_E 65 50 [some (.ref 0), some (.long (seed)), none, some (.int (sp)), some (.int (nI (m))), some (.long (x)), none, some (.int (nI (k)))] [] (mz_w A Q U T) post) := by
  intro s
  induction s with
  | zero =>
    intro k x tg r A T h1 h2 hR hT0
    have hk : k = m := by omega
    subst hk
    refine ⟨tg, r, A, T, hR, hT0, fun post kk => ?_, fun post kk => ?_⟩
    · skip
      refine ez_go ez_h111 3 (pc' := bif decide ((nI (k)) ≤ (nI (k))) then 74 else 40) (L' := [some (.ref 0), some (.long (seed)), none, some (.int (sp)), some (.int (nI (k))), some (.long (x)), none, some (.int (nI (k)))]) (st' := []) (w' := cz_w r q u b) rfl ?_
      refine ez_ifT (zt_le (a := k) (b := k) (by omega) (by omega)) ?_
      exact ez_E.le (ez_lc (ez_ln (ez_lc (ez_ln (ez_ln (ez_ln (ez_lc (ez_ln ez_l0)))))))) kk
    · skip
      refine ez_go ez_h65 3 (pc' := bif decide ((nI (k)) ≤ (nI (k))) then 95 else 57) (L' := [some (.ref 0), some (.long (seed)), none, some (.int (sp)), some (.int (nI (k))), some (.long (x)), none, some (.int (nI (k)))]) (st' := []) (w' := mz_w A Q U T) rfl ?_
      refine ez_ifT (zt_le (a := k) (b := k) (by omega) (by omega)) ?_
      exact ez_E.le (ez_lc (ez_ln (ez_lc (ez_ln (ez_ln (ez_ln (ez_lc (ez_ln ez_l0)))))))) kk
  | succ s ih =>
    intro k x tg r A T h1 h2 hR hT0
    by_cases hk : m ≤ k
    · have hk : k = m := by omega
      subst hk
      refine ⟨tg, r, A, T, hR, hT0, fun post kk => ?_, fun post kk => ?_⟩
      · skip
        refine ez_go ez_h111 3 (pc' := bif decide ((nI (k)) ≤ (nI (k))) then 74 else 40) (L' := [some (.ref 0), some (.long (seed)), none, some (.int (sp)), some (.int (nI (k))), some (.long (x)), none, some (.int (nI (k)))]) (st' := []) (w' := cz_w r q u b) rfl ?_
        refine ez_ifT (zt_le (a := k) (b := k) (by omega) (by omega)) ?_
        exact ez_E.le (ez_lc (ez_ln (ez_lc (ez_ln (ez_ln (ez_ln (ez_lc (ez_ln ez_l0)))))))) kk
      · skip
        refine ez_go ez_h65 3 (pc' := bif decide ((nI (k)) ≤ (nI (k))) then 95 else 57) (L' := [some (.ref 0), some (.long (seed)), none, some (.int (sp)), some (.int (nI (k))), some (.long (x)), none, some (.int (nI (k)))]) (st' := []) (w' := mz_w A Q U T) rfl ?_
        refine ez_ifT (zt_le (a := k) (b := k) (by omega) (by omega)) ?_
        exact ez_E.le (ez_lc (ez_ln (ez_lc (ez_ln (ez_ln (ez_ln (ez_lc (ez_ln ez_l0)))))))) kk
    · obtain ⟨r1, A1, T1, hR1, hT1, ca, ma⟩ := zo_app hR (by omega) ((((x * 6364136223846793005 + 1442695040888963407).toUInt64 >>> ((nI (33)).toInt64.toUInt64 &&& Int64.toUInt64 63)).toInt64 - ((x * 6364136223846793005 + 1442695040888963407).toUInt64 >>> ((nI (33)).toInt64.toUInt64 &&& Int64.toUInt64 63)).toInt64 / sp.toInt64 * sp.toInt64).toInt32)
      obtain ⟨tg', r', A', T', g1, g2, g3, g4⟩ := ih (k + 1) (x * 6364136223846793005 + 1442695040888963407) _ r1 A1 T1 (by omega) (by omega) hR1 (hT1.trans hT0)
      refine ⟨tg', r', A', T', g1, g2, fun post kk => ?_, fun post kk => ?_⟩
      · skip
        refine ez_go ez_h111 3 (pc' := bif decide ((nI (m)) ≤ (nI (k))) then 74 else 40) (L' := [some (.ref 0), some (.long (seed)), none, some (.int (sp)), some (.int (nI (m))), some (.long (x)), none, some (.int (nI (k)))]) (st' := []) (w' := cz_w r q u b) rfl ?_
        refine ez_ifF (zt_nle (a := m) (b := k) (by omega) (by omega)) ?_
        refine ez_go ez_h111 13 (pc' := 63) (L' := [some (.ref 0), some (.long (seed)), none, some (.int (sp)), some (.int (nI (m))), some (.long ((x * 6364136223846793005) + 1442695040888963407)), none, some (.int (nI (k)))]) (st' := [.long (sp.toInt64), .long ((((x * 6364136223846793005) + 1442695040888963407).toUInt64 >>> ((nI (33)).toInt64.toUInt64 &&& Int64.toUInt64 63)).toInt64), .ref 1]) (w' := cz_w r q u b) rfl ?_
        refine ez_lrem ez_h111 rfl hsp ?_
        refine ez_go ez_h111 1 (pc' := 65) (L' := [some (.ref 0), some (.long (seed)), none, some (.int (sp)), some (.int (nI (m))), some (.long ((x * 6364136223846793005) + 1442695040888963407)), none, some (.int (nI (k)))]) (st' := [.int ((((((x * 6364136223846793005) + 1442695040888963407).toUInt64 >>> ((nI (33)).toInt64.toUInt64 &&& Int64.toUInt64 63)).toInt64) - ((((x * 6364136223846793005) + 1442695040888963407).toUInt64 >>> ((nI (33)).toInt64.toUInt64 &&& Int64.toUInt64 63)).toInt64) / sp.toInt64 * sp.toInt64).toInt32), .ref 1]) (w' := cz_w r q u b) rfl ?_
        refine ez_cl ez_h111 rfl rfl ?_
        refine ca _ ?_
        refine ez_inc ez_h111 rfl rfl (v := nI (k + 1)) (zi_1 _) rfl ?_
        refine ez_go ez_h111 1 (pc' := 33) (L' := [some (.ref 0), some (.long (seed)), none, some (.int (sp)), some (.int (nI (m))), some (.long ((x * 6364136223846793005) + 1442695040888963407)), none, some (.int (nI (k + 1)))]) (st' := []) (w' := cz_w r1 q u b) rfl ?_
        exact g3 post kk
      · skip
        refine ez_go ez_h65 3 (pc' := bif decide ((nI (m)) ≤ (nI (k))) then 95 else 57) (L' := [some (.ref 0), some (.long (seed)), none, some (.int (sp)), some (.int (nI (m))), some (.long (x)), none, some (.int (nI (k)))]) (st' := []) (w' := mz_w A Q U T) rfl ?_
        refine ez_ifF (zt_nle (a := m) (b := k) (by omega) (by omega)) ?_
        refine ez_go ez_h65 2 (pc' := 61) (L' := [some (.ref 0), some (.long (seed)), none, some (.int (sp)), some (.int (nI (m))), some (.long (x)), none, some (.int (nI (k)))]) (st' := [.int (T.1)]) (w' := mz_w A Q U T) rfl ?_
        refine ez_top (y := nI (0)) (hT0) ?_
        refine ez_go ez_h65 1 (pc' := bif decide (¬ (nI (0)) = (nI 0)) then 95 else 64) (L' := [some (.ref 0), some (.long (seed)), none, some (.int (sp)), some (.int (nI (m))), some (.long (x)), none, some (.int (nI (k)))]) (st' := []) (w' := mz_w A Q U T) rfl ?_
        refine ez_ifF (fun z => z (zt_eq (by omega))) ?_
        refine ez_go ez_h65 12 (pc' := 84) (L' := [some (.ref 0), some (.long (seed)), none, some (.int (sp)), some (.int (nI (m))), some (.long ((x * 6364136223846793005) + 1442695040888963407)), none, some (.int (nI (k)))]) (st' := [.long (sp.toInt64), .long ((((x * 6364136223846793005) + 1442695040888963407).toUInt64 >>> ((nI (33)).toInt64.toUInt64 &&& Int64.toUInt64 63)).toInt64), .ref 0]) (w' := mz_w A Q U T) rfl ?_
        refine ez_lrem ez_h65 rfl hsp ?_
        refine ez_go ez_h65 1 (pc' := 86) (L' := [some (.ref 0), some (.long (seed)), none, some (.int (sp)), some (.int (nI (m))), some (.long ((x * 6364136223846793005) + 1442695040888963407)), none, some (.int (nI (k)))]) (st' := [.int ((((((x * 6364136223846793005) + 1442695040888963407).toUInt64 >>> ((nI (33)).toInt64.toUInt64 &&& Int64.toUInt64 63)).toInt64) - ((((x * 6364136223846793005) + 1442695040888963407).toUInt64 >>> ((nI (33)).toInt64.toUInt64 &&& Int64.toUInt64 63)).toInt64) / sp.toInt64 * sp.toInt64).toInt32), .ref 0]) (w' := mz_w A Q U T) rfl ?_
        refine ez_cl ez_h65 rfl rfl ?_
        refine ma _ ?_
        refine ez_inc ez_h65 rfl rfl (v := nI (k + 1)) (zi_1 _) rfl ?_
        refine ez_go ez_h65 1 (pc' := 50) (L' := [some (.ref 0), some (.long (seed)), none, some (.int (sp)), some (.int (nI (m))), some (.long ((x * 6364136223846793005) + 1442695040888963407)), none, some (.int (nI (k + 1)))]) (st' := []) (w' := mz_w A1 Q U T1) rfl ?_
        exact g4 post kk
theorem zo_sp {sp : Int32} (h : nI 1 ≤ sp) : ¬ sp.toInt64 = 0 := fun z => by
  have h1 := Int32.le_iff_toInt_le.mp h
  have h2 : sp.toInt64.toInt = (0 : Int64).toInt := by rw [z]
  rw [Int32.toInt_toInt64] at h2
  rw [show (nI 1).toInt = 1 by decide] at h1
  rw [show (0 : Int64).toInt = 0 by decide] at h2
  omega
theorem zo_more {n : Nat} {tg : Nat → Nat} {r : cz_Row} {q : cz_Qk} {u : cz_Rn} {b : cz_Bn} {A : mz_A} {Q : mz_Q} {U : mz_U} {T : mz_T} (hR : zl_R n tg r q u b A Q U T) {seed : Int64} {sp : Int32} {m : Nat} (hsp : nI 1 ≤ sp) (hm : n + m ≤ 600) : zo_P (cz_w r q u b) (mz_w A Q U T) 111 [.ref 0, .long seed, .int sp, .int (nI m)] 65 [.ref 0, .long seed, .int sp, .int (nI m)] := by
  have hR0 := hR
  obtain ⟨hn, ht, e1, e2, e3, e4, e5, e6, h1, h2, h3, f1, f2, f3, f4, f5, f6⟩ := hR
  have hRT : zl_R n tg r q u b A Q U (nI 0, T.2) := hR0
  obtain ⟨tg', r1, A1, T1, hR1, hT1, ca, ma⟩ := zo_more1 (seed := seed) hm (zo_sp hsp) m 0 seed tg r A (nI 0, T.2) (by omega) (by omega) hRT rfl
  refine ⟨some (.int (nI (n + m))), cz_w r1 q u b, mz_w A1 Q U T1, ⟨n + m, tg', r1, q, u, b, A1, Q, U, T1, rfl, rfl, hR1, hT1⟩, ?_, ?_⟩
  · refine ez_m.of (L := [some (.ref 0), some (.long (seed)), none, some (.int (sp)), some (.int (nI (m))), none, none, none]) rfl rfl rfl ?_
    refine ez_go ez_h111 3 (pc' := bif decide ((nI (1)) ≤ sp) then 15 else 5) (L' := [some (.ref 0), some (.long (seed)), none, some (.int (sp)), some (.int (nI (m))), none, none, none]) (st' := []) (w' := cz_w r q u b) rfl ?_
    refine ez_ifT (hsp) ?_
    refine ez_go ez_h111 2 (pc' := 18) (L' := [some (.ref 0), some (.long (seed)), none, some (.int (sp)), some (.int (nI (m))), none, none, none]) (st' := [.int (nI (m)), .ref 0]) (w' := cz_w r q u b) rfl ?_
    refine ez_cl ez_h111 rfl rfl ?_
    refine ez_m.of (L := [some (.ref 0), some (.int (nI (m)))]) rfl rfl rfl ?_
    refine ez_go ez_h107 2 (pc' := bif decide ((nI (m)) < (nI 0)) then 11 else 4) (L' := [some (.ref 0), some (.int (nI (m)))]) (st' := []) (w' := cz_w r q u b) rfl ?_
    refine ez_ifF (zt_nlt (a := m) (b := 0) (by omega) (by omega)) ?_
    refine ez_go ez_h107 3 (pc' := bif decide ((nI (m)) ≤ (nI (600))) then 21 else 11) (L' := [some (.ref 0), some (.int (nI (m)))]) (st' := []) (w' := cz_w r q u b) rfl ?_
    refine ez_ifT (zt_le (a := m) (b := 600) (by omega) (by omega)) ?_
    refine ez_vret rfl ez_h107 rfl rfl ?_
    refine ez_go ez_h111 2 (pc' := 24) (L' := [some (.ref 0), some (.long (seed)), none, some (.int (sp)), some (.int (nI (m))), none, none, none]) (st' := [.int (nI (m)), .ref 0]) (w' := cz_w r q u b) rfl ?_
    refine ez_cl ez_h111 rfl rfl ?_
    refine ez_m.of (L := [some (.ref 0), some (.int (nI (m)))]) rfl rfl rfl ?_
    refine ez_go ez_h108 4 (pc' := 8) (L' := [some (.ref 0), some (.int (nI (m)))]) (st' := [.ref 1, .int (nI (600)), .int (nI (m))]) (w' := cz_w r q u b) rfl ?_
    refine ez_cl ez_h108 rfl rfl ?_
    refine ez_m.of (L := [some (.ref 1)]) rfl rfl rfl ?_
    refine ez_go ez_h26 2 (pc' := 4) (L' := [some (.ref 1)]) (st' := [.int (r.1)]) (w' := cz_w r q u b) rfl ?_
    refine ez_top (y := nI (n)) (e1) ?_
    refine ez_iret rfl ez_h26 rfl rfl ?_
    refine ez_go ez_h108 1 (pc' := 12) (L' := [some (.ref 0), some (.int (nI (m)))]) (st' := [.int ((nI (600)) - (nI (n))), .int (nI (m))]) (w' := cz_w r q u b) rfl ?_
    refine ez_top (y := nI (600 - n)) (pk_sub (by omega)) ?_
    refine ez_go ez_h108 1 (pc' := bif decide ((nI (m)) ≤ (nI (600 - n))) then 25 else 15) (L' := [some (.ref 0), some (.int (nI (m)))]) (st' := []) (w' := cz_w r q u b) rfl ?_
    refine ez_ifT (zt_le (a := m) (b := 600 - n) (by omega) (by omega)) ?_
    refine ez_vret rfl ez_h108 rfl rfl ?_
    refine ez_go ez_h111 4 (pc' := 33) (L' := [some (.ref 0), some (.long (seed)), none, some (.int (sp)), some (.int (nI (m))), some (.long (seed)), none, some (.int (nI (0)))]) (st' := []) (w' := cz_w r q u b) rfl ?_
    refine ca _ ?_
    refine ez_go ez_h111 2 (pc' := 78) (L' := [some (.ref 0), none, none, none, none, none, none, none]) (st' := [.ref 1]) (w' := cz_w r1 q u b) rfl ?_
    refine ez_cl ez_h111 rfl rfl ?_
    refine ez_m.of (L := [some (.ref 1)]) rfl rfl rfl ?_
    refine ez_go ez_h26 2 (pc' := 4) (L' := [some (.ref 1)]) (st' := [.int (r1.1)]) (w' := cz_w r1 q u b) rfl ?_
    refine ez_top (y := nI (n + m)) (hR1.2.2.1) ?_
    refine ez_iret rfl ez_h26 rfl rfl ?_
    refine ez_iret rfl ez_h111 rfl rfl ?_
    exact ⟨rfl, rfl⟩
  · refine ez_m.of (L := [some (.ref 0), some (.long (seed)), none, some (.int (sp)), some (.int (nI (m))), none, none, none]) rfl rfl rfl ?_
    refine ez_go ez_h65 4 (pc' := bif decide (sp < (nI (1))) then 19 else 6) (L' := [some (.ref 0), some (.long (seed)), none, some (.int (sp)), some (.int (nI (m))), none, none, none]) (st' := [.ref 0]) (w' := mz_w A Q U (T.1, T.2)) rfl ?_
    refine ez_ifF (Int32.not_lt.mpr hsp) ?_
    refine ez_go ez_h65 2 (pc' := bif decide ((nI (m)) < (nI 0)) then 19 else 11) (L' := [some (.ref 0), some (.long (seed)), none, some (.int (sp)), some (.int (nI (m))), none, none, none]) (st' := [.ref 0]) (w' := mz_w A Q U (T.1, T.2)) rfl ?_
    refine ez_ifF (zt_nlt (a := m) (b := 0) (by omega) (by omega)) ?_
    refine ez_go ez_h65 3 (pc' := bif decide ((nI (m)) ≤ (nI (600))) then 23 else 19) (L' := [some (.ref 0), some (.long (seed)), none, some (.int (sp)), some (.int (nI (m))), none, none, none]) (st' := [.ref 0]) (w' := mz_w A Q U (T.1, T.2)) rfl ?_
    refine ez_ifT (zt_le (a := m) (b := 600) (by omega) (by omega)) ?_
    refine ez_go ez_h65 2 (pc' := 27) (L' := [some (.ref 0), some (.long (seed)), none, some (.int (sp)), some (.int (nI (m))), none, none, none]) (st' := [.int (A.1), .ref 0]) (w' := mz_w A Q U (T.1, T.2)) rfl ?_
    refine ez_top (y := nI (n)) (e2) ?_
    refine ez_go ez_h65 2 (pc' := 30) (L' := [some (.ref 0), some (.long (seed)), none, some (.int (sp)), some (.int (nI (m))), none, none, none]) (st' := [.int ((nI (n)) + (nI (m))), .ref 0]) (w' := mz_w A Q U (T.1, T.2)) rfl ?_
    refine ez_top (y := nI (n + m)) (nI_add _ _) ?_
    refine ez_go ez_h65 2 (pc' := bif decide ((nI (n + m)) ≤ (nI (600))) then 40 else 36) (L' := [some (.ref 0), some (.long (seed)), none, some (.int (sp)), some (.int (nI (m))), none, none, none]) (st' := [.ref 0]) (w' := mz_w A Q U (T.1, T.2)) rfl ?_
    refine ez_ifT (zt_le (a := n + m) (b := 600) (by omega) (by omega)) ?_
    refine ez_go ez_h65 6 (pc' := 50) (L' := [some (.ref 0), some (.long (seed)), none, some (.int (sp)), some (.int (nI (m))), some (.long (seed)), none, some (.int (nI (0)))]) (st' := []) (w' := mz_w A Q U (nI (0), T.2)) rfl ?_
    refine ma _ ?_
    refine ez_go ez_h65 2 (pc' := 99) (L' := [some (.ref 0), none, none, none, none, none, none, none]) (st' := [.int (A1.1)]) (w' := mz_w A1 Q U T1) rfl ?_
    refine ez_top (y := nI (n + m)) (hR1.2.2.2.1) ?_
    refine ez_iret rfl ez_h65 rfl rfl ?_
    exact ⟨rfl, rfl⟩
theorem zo_line1 {n0 m ti : Nat} {fi sp : Int32} {q : cz_Qk} {u : cz_Rn} {b : cz_Bn} {Q : mz_Q} {U : mz_U} (hm : n0 + m ≤ 600) (hti : 1 ≤ ti) (hti2 : ti ≤ 600) : ∀ (s k : Nat) (tg : Nat → Nat) (r : cz_Row) (A : mz_A) (T : mz_T), m ≤ k + s → k ≤ m → zl_R (n0 + k) tg r q u b A Q U T → T.1 = nI 0 →
    ∃ (tg' : Nat → Nat) (r' : cz_Row) (A' : mz_A) (T' : mz_T), zl_R (n0 + m) tg' r' q u b A' Q U T' ∧ T'.1 = nI 0 ∧ (∀ post : Option Value → ez_W → Prop, ez_E 112 65 [some (.ref 0), none, none, none, none, none] [] (cz_w r' q u b) post → ez_E 112 37 [some (.ref 0), some (.int (fi)), some (.int (sp)), some (.int (nI (m))), some (.int (nI (ti))), some (.int (nI (k)))] [] (cz_w r q u b) post) ∧
      (∀ post : Option Value → ez_W → Prop, ez_E 66 85 [some (.ref 0), none, none, none, none, none] [] (mz_w A' Q U T') post → ez_E 66 53 [some (.ref 0), some (.int (fi)), some (.int (sp)), some (.int (nI (m))), some (.int (nI (ti))), some (.int (nI (k)))] [] (mz_w A Q U T) post) := by
  intro s
  induction s with
  | zero =>
    intro k tg r A T h1 h2 hR hT0
    have hk : k = m := by omega
    subst hk
    refine ⟨tg, r, A, T, hR, hT0, fun post kk => ?_, fun post kk => ?_⟩
    · skip
      refine ez_go ez_h112 3 (pc' := bif decide ((nI (k)) ≤ (nI (k))) then 65 else 43) (L' := [some (.ref 0), some (.int (fi)), some (.int (sp)), some (.int (nI (k))), some (.int (nI (ti))), some (.int (nI (k)))]) (st' := []) (w' := cz_w r q u b) rfl ?_
      refine ez_ifT (zt_le (a := k) (b := k) (by omega) (by omega)) ?_
      exact ez_E.le (ez_lc (ez_ln (ez_ln (ez_ln (ez_ln (ez_ln ez_l0)))))) kk
    · skip
      refine ez_go ez_h66 3 (pc' := bif decide ((nI (k)) ≤ (nI (k))) then 85 else 59) (L' := [some (.ref 0), some (.int (fi)), some (.int (sp)), some (.int (nI (k))), some (.int (nI (ti))), some (.int (nI (k)))]) (st' := []) (w' := mz_w A Q U T) rfl ?_
      refine ez_ifT (zt_le (a := k) (b := k) (by omega) (by omega)) ?_
      exact ez_E.le (ez_lc (ez_ln (ez_ln (ez_ln (ez_ln (ez_ln ez_l0)))))) kk
  | succ s ih =>
    intro k tg r A T h1 h2 hR hT0
    by_cases hk : m ≤ k
    · have hk : k = m := by omega
      subst hk
      refine ⟨tg, r, A, T, hR, hT0, fun post kk => ?_, fun post kk => ?_⟩
      · skip
        refine ez_go ez_h112 3 (pc' := bif decide ((nI (k)) ≤ (nI (k))) then 65 else 43) (L' := [some (.ref 0), some (.int (fi)), some (.int (sp)), some (.int (nI (k))), some (.int (nI (ti))), some (.int (nI (k)))]) (st' := []) (w' := cz_w r q u b) rfl ?_
        refine ez_ifT (zt_le (a := k) (b := k) (by omega) (by omega)) ?_
        exact ez_E.le (ez_lc (ez_ln (ez_ln (ez_ln (ez_ln (ez_ln ez_l0)))))) kk
      · skip
        refine ez_go ez_h66 3 (pc' := bif decide ((nI (k)) ≤ (nI (k))) then 85 else 59) (L' := [some (.ref 0), some (.int (fi)), some (.int (sp)), some (.int (nI (k))), some (.int (nI (ti))), some (.int (nI (k)))]) (st' := []) (w' := mz_w A Q U T) rfl ?_
        refine ez_ifT (zt_le (a := k) (b := k) (by omega) (by omega)) ?_
        exact ez_E.le (ez_lc (ez_ln (ez_ln (ez_ln (ez_ln (ez_ln ez_l0)))))) kk
    · obtain ⟨r1, A1, T1, hR1, hT1, ca, ma⟩ := zo_app hR (by omega) (fi + nI (k) / nI (ti) * sp)
      obtain ⟨tg', r', A', T', g1, g2, g3, g4⟩ := ih (k + 1) _ r1 A1 T1 (by omega) (by omega) hR1 (hT1.trans hT0)
      refine ⟨tg', r', A', T', g1, g2, fun post kk => ?_, fun post kk => ?_⟩
      · skip
        refine ez_go ez_h112 3 (pc' := bif decide ((nI (m)) ≤ (nI (k))) then 65 else 43) (L' := [some (.ref 0), some (.int (fi)), some (.int (sp)), some (.int (nI (m))), some (.int (nI (ti))), some (.int (nI (k)))]) (st' := []) (w' := cz_w r q u b) rfl ?_
        refine ez_ifF (zt_nle (a := m) (b := k) (by omega) (by omega)) ?_
        refine ez_go ez_h112 5 (pc' := 52) (L' := [some (.ref 0), some (.int (fi)), some (.int (sp)), some (.int (nI (m))), some (.int (nI (ti))), some (.int (nI (k)))]) (st' := [.int (nI (ti)), .int (nI (k)), .int (fi), .ref 1]) (w' := cz_w r q u b) rfl ?_
        refine ez_div ez_h112 rfl (nI_ne0 (by omega) (by omega)) ?_
        refine ez_go ez_h112 3 (pc' := 56) (L' := [some (.ref 0), some (.int (fi)), some (.int (sp)), some (.int (nI (m))), some (.int (nI (ti))), some (.int (nI (k)))]) (st' := [.int (fi + ((nI (k) / nI (ti)) * sp)), .ref 1]) (w' := cz_w r q u b) rfl ?_
        refine ez_cl ez_h112 rfl rfl ?_
        refine ca _ ?_
        refine ez_inc ez_h112 rfl rfl (v := nI (k + 1)) (zi_1 _) rfl ?_
        refine ez_go ez_h112 1 (pc' := 37) (L' := [some (.ref 0), some (.int (fi)), some (.int (sp)), some (.int (nI (m))), some (.int (nI (ti))), some (.int (nI (k + 1)))]) (st' := []) (w' := cz_w r1 q u b) rfl ?_
        exact g3 post kk
      · skip
        refine ez_go ez_h66 3 (pc' := bif decide ((nI (m)) ≤ (nI (k))) then 85 else 59) (L' := [some (.ref 0), some (.int (fi)), some (.int (sp)), some (.int (nI (m))), some (.int (nI (ti))), some (.int (nI (k)))]) (st' := []) (w' := mz_w A Q U T) rfl ?_
        refine ez_ifF (zt_nle (a := m) (b := k) (by omega) (by omega)) ?_
        refine ez_go ez_h66 2 (pc' := 63) (L' := [some (.ref 0), some (.int (fi)), some (.int (sp)), some (.int (nI (m))), some (.int (nI (ti))), some (.int (nI (k)))]) (st' := [.int (T.1)]) (w' := mz_w A Q U T) rfl ?_
        refine ez_top (y := nI (0)) (hT0) ?_
        refine ez_go ez_h66 1 (pc' := bif decide (¬ (nI (0)) = (nI 0)) then 85 else 66) (L' := [some (.ref 0), some (.int (fi)), some (.int (sp)), some (.int (nI (m))), some (.int (nI (ti))), some (.int (nI (k)))]) (st' := []) (w' := mz_w A Q U T) rfl ?_
        refine ez_ifF (fun z => z (zt_eq (by omega))) ?_
        refine ez_go ez_h66 4 (pc' := 72) (L' := [some (.ref 0), some (.int (fi)), some (.int (sp)), some (.int (nI (m))), some (.int (nI (ti))), some (.int (nI (k)))]) (st' := [.int (nI (ti)), .int (nI (k)), .int (fi), .ref 0]) (w' := mz_w A Q U T) rfl ?_
        refine ez_div ez_h66 rfl (nI_ne0 (by omega) (by omega)) ?_
        refine ez_go ez_h66 3 (pc' := 76) (L' := [some (.ref 0), some (.int (fi)), some (.int (sp)), some (.int (nI (m))), some (.int (nI (ti))), some (.int (nI (k)))]) (st' := [.int (fi + ((nI (k) / nI (ti)) * sp)), .ref 0]) (w' := mz_w A Q U T) rfl ?_
        refine ez_cl ez_h66 rfl rfl ?_
        refine ma _ ?_
        refine ez_inc ez_h66 rfl rfl (v := nI (k + 1)) (zi_1 _) rfl ?_
        refine ez_go ez_h66 1 (pc' := 53) (L' := [some (.ref 0), some (.int (fi)), some (.int (sp)), some (.int (nI (m))), some (.int (nI (ti))), some (.int (nI (k + 1)))]) (st' := []) (w' := mz_w A1 Q U T1) rfl ?_
        exact g4 post kk
theorem zo_line {n : Nat} {tg : Nat → Nat} {r : cz_Row} {q : cz_Qk} {u : cz_Rn} {b : cz_Bn} {A : mz_A} {Q : mz_Q} {U : mz_U} {T : mz_T} (hR : zl_R n tg r q u b A Q U T) {fi sp : Int32} {m ti : Nat} (hti : 1 ≤ ti) (hti2 : ti ≤ 600) (hm : n + m ≤ 600) : zo_P (cz_w r q u b) (mz_w A Q U T) 112 [.ref 0, .int fi, .int sp, .int (nI m), .int (nI ti)] 66 [.ref 0, .int fi, .int sp, .int (nI m), .int (nI ti)] := by
  have hR0 := hR
  obtain ⟨hn, ht, e1, e2, e3, e4, e5, e6, h1, h2, h3, f1, f2, f3, f4, f5, f6⟩ := hR
  have hRT : zl_R n tg r q u b A Q U (nI 0, T.2) := hR0
  obtain ⟨tg', r1, A1, T1, hR1, hT1, ca, ma⟩ := zo_line1 (fi := fi) (sp := sp) hm hti hti2 m 0 tg r A (nI 0, T.2) (by omega) (by omega) hRT rfl
  refine ⟨some (.int (nI (n + m))), cz_w r1 q u b, mz_w A1 Q U T1, ⟨n + m, tg', r1, q, u, b, A1, Q, U, T1, rfl, rfl, hR1, hT1⟩, ?_, ?_⟩
  · refine ez_m.of (L := [some (.ref 0), some (.int (fi)), some (.int (sp)), some (.int (nI (m))), some (.int (nI (ti))), none]) rfl rfl rfl ?_
    refine ez_go ez_h112 3 (pc' := bif decide ((nI (ti)) < (nI (1))) then 14 else 6) (L' := [some (.ref 0), some (.int (fi)), some (.int (sp)), some (.int (nI (m))), some (.int (nI (ti))), none]) (st' := []) (w' := cz_w r q u b) rfl ?_
    refine ez_ifF (zt_nlt (a := ti) (b := 1) (by omega) (by omega)) ?_
    refine ez_go ez_h112 3 (pc' := bif decide ((nI (ti)) ≤ (nI (600))) then 24 else 14) (L' := [some (.ref 0), some (.int (fi)), some (.int (sp)), some (.int (nI (m))), some (.int (nI (ti))), none]) (st' := []) (w' := cz_w r q u b) rfl ?_
    refine ez_ifT (zt_le (a := ti) (b := 600) (by omega) (by omega)) ?_
    refine ez_go ez_h112 2 (pc' := 26) (L' := [some (.ref 0), some (.int (fi)), some (.int (sp)), some (.int (nI (m))), some (.int (nI (ti))), none]) (st' := [.int (nI (m)), .ref 0]) (w' := cz_w r q u b) rfl ?_
    refine ez_cl ez_h112 rfl rfl ?_
    refine ez_m.of (L := [some (.ref 0), some (.int (nI (m)))]) rfl rfl rfl ?_
    refine ez_go ez_h107 2 (pc' := bif decide ((nI (m)) < (nI 0)) then 11 else 4) (L' := [some (.ref 0), some (.int (nI (m)))]) (st' := []) (w' := cz_w r q u b) rfl ?_
    refine ez_ifF (zt_nlt (a := m) (b := 0) (by omega) (by omega)) ?_
    refine ez_go ez_h107 3 (pc' := bif decide ((nI (m)) ≤ (nI (600))) then 21 else 11) (L' := [some (.ref 0), some (.int (nI (m)))]) (st' := []) (w' := cz_w r q u b) rfl ?_
    refine ez_ifT (zt_le (a := m) (b := 600) (by omega) (by omega)) ?_
    refine ez_vret rfl ez_h107 rfl rfl ?_
    refine ez_go ez_h112 2 (pc' := 31) (L' := [some (.ref 0), some (.int (fi)), some (.int (sp)), some (.int (nI (m))), some (.int (nI (ti))), none]) (st' := [.int (nI (m)), .ref 0]) (w' := cz_w r q u b) rfl ?_
    refine ez_cl ez_h112 rfl rfl ?_
    refine ez_m.of (L := [some (.ref 0), some (.int (nI (m)))]) rfl rfl rfl ?_
    refine ez_go ez_h108 4 (pc' := 8) (L' := [some (.ref 0), some (.int (nI (m)))]) (st' := [.ref 1, .int (nI (600)), .int (nI (m))]) (w' := cz_w r q u b) rfl ?_
    refine ez_cl ez_h108 rfl rfl ?_
    refine ez_m.of (L := [some (.ref 1)]) rfl rfl rfl ?_
    refine ez_go ez_h26 2 (pc' := 4) (L' := [some (.ref 1)]) (st' := [.int (r.1)]) (w' := cz_w r q u b) rfl ?_
    refine ez_top (y := nI (n)) (e1) ?_
    refine ez_iret rfl ez_h26 rfl rfl ?_
    refine ez_go ez_h108 1 (pc' := 12) (L' := [some (.ref 0), some (.int (nI (m)))]) (st' := [.int ((nI (600)) - (nI (n))), .int (nI (m))]) (w' := cz_w r q u b) rfl ?_
    refine ez_top (y := nI (600 - n)) (pk_sub (by omega)) ?_
    refine ez_go ez_h108 1 (pc' := bif decide ((nI (m)) ≤ (nI (600 - n))) then 25 else 15) (L' := [some (.ref 0), some (.int (nI (m)))]) (st' := []) (w' := cz_w r q u b) rfl ?_
    refine ez_ifT (zt_le (a := m) (b := 600 - n) (by omega) (by omega)) ?_
    refine ez_vret rfl ez_h108 rfl rfl ?_
    refine ez_go ez_h112 2 (pc' := 37) (L' := [some (.ref 0), some (.int (fi)), some (.int (sp)), some (.int (nI (m))), some (.int (nI (ti))), some (.int (nI (0)))]) (st' := []) (w' := cz_w r q u b) rfl ?_
    refine ca _ ?_
    refine ez_go ez_h112 2 (pc' := 69) (L' := [some (.ref 0), none, none, none, none, none]) (st' := [.ref 1]) (w' := cz_w r1 q u b) rfl ?_
    refine ez_cl ez_h112 rfl rfl ?_
    refine ez_m.of (L := [some (.ref 1)]) rfl rfl rfl ?_
    refine ez_go ez_h26 2 (pc' := 4) (L' := [some (.ref 1)]) (st' := [.int (r1.1)]) (w' := cz_w r1 q u b) rfl ?_
    refine ez_top (y := nI (n + m)) (hR1.2.2.1) ?_
    refine ez_iret rfl ez_h26 rfl rfl ?_
    refine ez_iret rfl ez_h112 rfl rfl ?_
    exact ⟨rfl, rfl⟩
  · refine ez_m.of (L := [some (.ref 0), some (.int (fi)), some (.int (sp)), some (.int (nI (m))), some (.int (nI (ti))), none]) rfl rfl rfl ?_
    refine ez_go ez_h66 3 (pc' := bif decide ((nI (m)) < (nI 0)) then 26 else 5) (L' := [some (.ref 0), some (.int (fi)), some (.int (sp)), some (.int (nI (m))), some (.int (nI (ti))), none]) (st' := [.ref 0]) (w' := mz_w A Q U (T.1, T.2)) rfl ?_
    refine ez_ifF (zt_nlt (a := m) (b := 0) (by omega) (by omega)) ?_
    refine ez_go ez_h66 3 (pc' := bif decide ((nI (600)) < (nI (m))) then 26 else 12) (L' := [some (.ref 0), some (.int (fi)), some (.int (sp)), some (.int (nI (m))), some (.int (nI (ti))), none]) (st' := [.ref 0]) (w' := mz_w A Q U (T.1, T.2)) rfl ?_
    refine ez_ifF (zt_nlt (a := 600) (b := m) (by omega) (by omega)) ?_
    refine ez_go ez_h66 3 (pc' := bif decide ((nI (ti)) < (nI (1))) then 26 else 18) (L' := [some (.ref 0), some (.int (fi)), some (.int (sp)), some (.int (nI (m))), some (.int (nI (ti))), none]) (st' := [.ref 0]) (w' := mz_w A Q U (T.1, T.2)) rfl ?_
    refine ez_ifF (zt_nlt (a := ti) (b := 1) (by omega) (by omega)) ?_
    refine ez_go ez_h66 3 (pc' := bif decide ((nI (ti)) ≤ (nI (600))) then 30 else 26) (L' := [some (.ref 0), some (.int (fi)), some (.int (sp)), some (.int (nI (m))), some (.int (nI (ti))), none]) (st' := [.ref 0]) (w' := mz_w A Q U (T.1, T.2)) rfl ?_
    refine ez_ifT (zt_le (a := ti) (b := 600) (by omega) (by omega)) ?_
    refine ez_go ez_h66 2 (pc' := 34) (L' := [some (.ref 0), some (.int (fi)), some (.int (sp)), some (.int (nI (m))), some (.int (nI (ti))), none]) (st' := [.int (A.1), .ref 0]) (w' := mz_w A Q U (T.1, T.2)) rfl ?_
    refine ez_top (y := nI (n)) (e2) ?_
    refine ez_go ez_h66 2 (pc' := 36) (L' := [some (.ref 0), some (.int (fi)), some (.int (sp)), some (.int (nI (m))), some (.int (nI (ti))), none]) (st' := [.int ((nI (n)) + (nI (m))), .ref 0]) (w' := mz_w A Q U (T.1, T.2)) rfl ?_
    refine ez_top (y := nI (n + m)) (nI_add _ _) ?_
    refine ez_go ez_h66 2 (pc' := bif decide ((nI (n + m)) ≤ (nI (600))) then 46 else 42) (L' := [some (.ref 0), some (.int (fi)), some (.int (sp)), some (.int (nI (m))), some (.int (nI (ti))), none]) (st' := [.ref 0]) (w' := mz_w A Q U (T.1, T.2)) rfl ?_
    refine ez_ifT (zt_le (a := n + m) (b := 600) (by omega) (by omega)) ?_
    refine ez_go ez_h66 4 (pc' := 53) (L' := [some (.ref 0), some (.int (fi)), some (.int (sp)), some (.int (nI (m))), some (.int (nI (ti))), some (.int (nI (0)))]) (st' := []) (w' := mz_w A Q U (nI (0), T.2)) rfl ?_
    refine ma _ ?_
    refine ez_go ez_h66 2 (pc' := 89) (L' := [some (.ref 0), none, none, none, none, none]) (st' := [.int (A1.1)]) (w' := mz_w A1 Q U T1) rfl ?_
    refine ez_top (y := nI (n + m)) (hR1.2.2.2.1) ?_
    refine ez_iret rfl ez_h66 rfl rfl ?_
    exact ⟨rfl, rfl⟩
theorem zo_moreE {n : Nat} {A : mz_A} {Q : mz_Q} {U : mz_U} {T : mz_T} (e2 : A.1 = nI n) {v : Nat} (hv : v = 1 ∨ v = 2) (hT0 : T.1 = nI v) {x : Int64} {m sp : Int32} {se : Int64} {post : Option Value → ez_W → Prop} (kk : post (some (.int (nI n))) (mz_w A Q U T)) : ez_E 65 50 [some (.ref 0), some (.long (se)), none, some (.int (sp)), some (.int (m)), some (.long (x)), none, some (.int (nI (0)))] [] (mz_w A Q U T) post := by
  refine ez_go ez_h65 3 (pc' := bif decide (m ≤ nI 0) then 95 else 57) (L' := [some (.ref 0), some (.long (se)), none, some (.int (sp)), some (.int (m)), some (.long (x)), none, some (.int (nI (0)))]) (st' := []) (w' := mz_w A Q U T) rfl ?_
  refine ez_if (fun _ => ?_) (fun _ => ?_)
  · skip
    refine ez_go ez_h65 2 (pc' := 99) (L' := [some (.ref 0), some (.long (se)), none, some (.int (sp)), some (.int (m)), some (.long (x)), none, some (.int (nI (0)))]) (st' := [.int (A.1)]) (w' := mz_w A Q U T) rfl ?_
    refine ez_top (y := nI (n)) (e2) ?_
    refine ez_iret rfl ez_h65 rfl rfl ?_
    exact kk
  · skip
    refine ez_go ez_h65 2 (pc' := 61) (L' := [some (.ref 0), some (.long (se)), none, some (.int (sp)), some (.int (m)), some (.long (x)), none, some (.int (nI (0)))]) (st' := [.int (T.1)]) (w' := mz_w A Q U T) rfl ?_
    refine ez_top (y := nI (v)) (hT0) ?_
    refine ez_go ez_h65 1 (pc' := bif decide (¬ (nI (v)) = (nI 0)) then 95 else 64) (L' := [some (.ref 0), some (.long (se)), none, some (.int (sp)), some (.int (m)), some (.long (x)), none, some (.int (nI (0)))]) (st' := []) (w' := mz_w A Q U T) rfl ?_
    refine ez_ifT (zt_ne (by omega) (by omega) (by omega)) ?_
    refine ez_go ez_h65 2 (pc' := 99) (L' := [some (.ref 0), some (.long (se)), none, some (.int (sp)), some (.int (m)), some (.long (x)), none, some (.int (nI (0)))]) (st' := [.int (A.1)]) (w' := mz_w A Q U T) rfl ?_
    refine ez_top (y := nI (n)) (e2) ?_
    refine ez_iret rfl ez_h65 rfl rfl ?_
    exact kk
theorem zo_lineE {n : Nat} {A : mz_A} {Q : mz_Q} {U : mz_U} {T : mz_T} (e2 : A.1 = nI n) {v : Nat} (hv : v = 1 ∨ v = 2) (hT0 : T.1 = nI v) {fi sp m ti : Int32} {post : Option Value → ez_W → Prop} (kk : post (some (.int (nI n))) (mz_w A Q U T)) : ez_E 66 53 [some (.ref 0), some (.int (fi)), some (.int (sp)), some (.int (m)), some (.int (ti)), some (.int (nI (0)))] [] (mz_w A Q U T) post := by
  refine ez_go ez_h66 3 (pc' := bif decide (m ≤ nI 0) then 85 else 59) (L' := [some (.ref 0), some (.int (fi)), some (.int (sp)), some (.int (m)), some (.int (ti)), some (.int (nI (0)))]) (st' := []) (w' := mz_w A Q U T) rfl ?_
  refine ez_if (fun _ => ?_) (fun _ => ?_)
  · skip
    refine ez_go ez_h66 2 (pc' := 89) (L' := [some (.ref 0), some (.int (fi)), some (.int (sp)), some (.int (m)), some (.int (ti)), some (.int (nI (0)))]) (st' := [.int (A.1)]) (w' := mz_w A Q U T) rfl ?_
    refine ez_top (y := nI (n)) (e2) ?_
    refine ez_iret rfl ez_h66 rfl rfl ?_
    exact kk
  · skip
    refine ez_go ez_h66 2 (pc' := 63) (L' := [some (.ref 0), some (.int (fi)), some (.int (sp)), some (.int (m)), some (.int (ti)), some (.int (nI (0)))]) (st' := [.int (T.1)]) (w' := mz_w A Q U T) rfl ?_
    refine ez_top (y := nI (v)) (hT0) ?_
    refine ez_go ez_h66 1 (pc' := bif decide (¬ (nI (v)) = (nI 0)) then 85 else 66) (L' := [some (.ref 0), some (.int (fi)), some (.int (sp)), some (.int (m)), some (.int (ti)), some (.int (nI (0)))]) (st' := []) (w' := mz_w A Q U T) rfl ?_
    refine ez_ifT (zt_ne (by omega) (by omega) (by omega)) ?_
    refine ez_go ez_h66 2 (pc' := 89) (L' := [some (.ref 0), some (.int (fi)), some (.int (sp)), some (.int (m)), some (.int (ti)), some (.int (nI (0)))]) (st' := [.int (A.1)]) (w' := mz_w A Q U T) rfl ?_
    refine ez_top (y := nI (n)) (e2) ?_
    refine ez_iret rfl ez_h66 rfl rfl ?_
    exact kk
theorem zo_moreX1 {n : Nat} {tg : Nat → Nat} {r : cz_Row} {q : cz_Qk} {u : cz_Rn} {b : cz_Bn} {A : mz_A} {Q : mz_Q} {U : mz_U} {T : mz_T} (hR : zl_R n tg r q u b A Q U T) {se : Int64} {sp m : Int32} (hx : sp < nI 1 ∨ m < nI 0 ∨ nI 600 < m) : zo_X (cz_w r q u b) (mz_w A Q U T) 65 [.ref 0, .long se, .int sp, .int m] 1 := by
  have hR0 := hR
  obtain ⟨hn, ht, e1, e2, e3, e4, e5, e6, h1, h2, h3, f1, f2, f3, f4, f5, f6⟩ := hR
  refine ⟨some (.int (nI n)), mz_w A Q U (nI 1, T.2), ⟨n, tg, r, q, u, b, A, Q, U, (nI 1, T.2), rfl, rfl, hR0, rfl⟩, ?_⟩
  by_cases a1 : sp < nI 1
  · refine ez_m.of (L := [some (.ref 0), some (.long (se)), none, some (.int (sp)), some (.int (m)), none, none, none]) rfl rfl rfl ?_
    refine ez_go ez_h65 4 (pc' := bif decide (sp < (nI (1))) then 19 else 6) (L' := [some (.ref 0), some (.long (se)), none, some (.int (sp)), some (.int (m)), none, none, none]) (st' := [.ref 0]) (w' := mz_w A Q U (T.1, T.2)) rfl ?_
    refine ez_ifT (a1) ?_
    refine ez_go ez_h65 7 (pc' := 50) (L' := [some (.ref 0), some (.long (se)), none, some (.int (sp)), some (.int (m)), some (.long (se)), none, some (.int (nI (0)))]) (st' := []) (w' := mz_w A Q U (nI (1), T.2)) rfl ?_
    exact zo_moreE e2 (by omega) rfl ⟨rfl, rfl⟩
  by_cases a2 : m < nI 0
  · refine ez_m.of (L := [some (.ref 0), some (.long (se)), none, some (.int (sp)), some (.int (m)), none, none, none]) rfl rfl rfl ?_
    refine ez_go ez_h65 4 (pc' := bif decide (sp < (nI (1))) then 19 else 6) (L' := [some (.ref 0), some (.long (se)), none, some (.int (sp)), some (.int (m)), none, none, none]) (st' := [.ref 0]) (w' := mz_w A Q U (T.1, T.2)) rfl ?_
    refine ez_ifF (a1) ?_
    refine ez_go ez_h65 2 (pc' := bif decide (m < (nI 0)) then 19 else 11) (L' := [some (.ref 0), some (.long (se)), none, some (.int (sp)), some (.int (m)), none, none, none]) (st' := [.ref 0]) (w' := mz_w A Q U (T.1, T.2)) rfl ?_
    refine ez_ifT (a2) ?_
    refine ez_go ez_h65 7 (pc' := 50) (L' := [some (.ref 0), some (.long (se)), none, some (.int (sp)), some (.int (m)), some (.long (se)), none, some (.int (nI (0)))]) (st' := []) (w' := mz_w A Q U (nI (1), T.2)) rfl ?_
    exact zo_moreE e2 (by omega) rfl ⟨rfl, rfl⟩
  · refine ez_m.of (L := [some (.ref 0), some (.long (se)), none, some (.int (sp)), some (.int (m)), none, none, none]) rfl rfl rfl ?_
    refine ez_go ez_h65 4 (pc' := bif decide (sp < (nI (1))) then 19 else 6) (L' := [some (.ref 0), some (.long (se)), none, some (.int (sp)), some (.int (m)), none, none, none]) (st' := [.ref 0]) (w' := mz_w A Q U (T.1, T.2)) rfl ?_
    refine ez_ifF (a1) ?_
    refine ez_go ez_h65 2 (pc' := bif decide (m < (nI 0)) then 19 else 11) (L' := [some (.ref 0), some (.long (se)), none, some (.int (sp)), some (.int (m)), none, none, none]) (st' := [.ref 0]) (w' := mz_w A Q U (T.1, T.2)) rfl ?_
    refine ez_ifF (a2) ?_
    refine ez_go ez_h65 3 (pc' := bif decide (m ≤ (nI (600))) then 23 else 19) (L' := [some (.ref 0), some (.long (se)), none, some (.int (sp)), some (.int (m)), none, none, none]) (st' := [.ref 0]) (w' := mz_w A Q U (T.1, T.2)) rfl ?_
    refine ez_ifF (Int32.not_le.mpr ((hx.resolve_left a1).resolve_left a2)) ?_
    refine ez_go ez_h65 7 (pc' := 50) (L' := [some (.ref 0), some (.long (se)), none, some (.int (sp)), some (.int (m)), some (.long (se)), none, some (.int (nI (0)))]) (st' := []) (w' := mz_w A Q U (nI (1), T.2)) rfl ?_
    exact zo_moreE e2 (by omega) rfl ⟨rfl, rfl⟩
theorem zo_moreX2 {n : Nat} {tg : Nat → Nat} {r : cz_Row} {q : cz_Qk} {u : cz_Rn} {b : cz_Bn} {A : mz_A} {Q : mz_Q} {U : mz_U} {T : mz_T} (hR : zl_R n tg r q u b A Q U T) {se : Int64} {sp : Int32} {m : Nat} (hsp : nI 1 ≤ sp) (hm : m ≤ 600) (hx : 600 < n + m) : zo_X (cz_w r q u b) (mz_w A Q U T) 65 [.ref 0, .long se, .int sp, .int (nI m)] 2 := by
  have hR0 := hR
  obtain ⟨hn, ht, e1, e2, e3, e4, e5, e6, h1, h2, h3, f1, f2, f3, f4, f5, f6⟩ := hR
  refine ⟨some (.int (nI n)), mz_w A Q U (nI 2, T.2), ⟨n, tg, r, q, u, b, A, Q, U, (nI 2, T.2), rfl, rfl, hR0, rfl⟩, ?_⟩
  · refine ez_m.of (L := [some (.ref 0), some (.long (se)), none, some (.int (sp)), some (.int (nI (m))), none, none, none]) rfl rfl rfl ?_
    refine ez_go ez_h65 4 (pc' := bif decide (sp < (nI (1))) then 19 else 6) (L' := [some (.ref 0), some (.long (se)), none, some (.int (sp)), some (.int (nI (m))), none, none, none]) (st' := [.ref 0]) (w' := mz_w A Q U (T.1, T.2)) rfl ?_
    refine ez_ifF (Int32.not_lt.mpr hsp) ?_
    refine ez_go ez_h65 2 (pc' := bif decide ((nI (m)) < (nI 0)) then 19 else 11) (L' := [some (.ref 0), some (.long (se)), none, some (.int (sp)), some (.int (nI (m))), none, none, none]) (st' := [.ref 0]) (w' := mz_w A Q U (T.1, T.2)) rfl ?_
    refine ez_ifF (zt_nlt (a := m) (b := 0) (by omega) (by omega)) ?_
    refine ez_go ez_h65 3 (pc' := bif decide ((nI (m)) ≤ (nI (600))) then 23 else 19) (L' := [some (.ref 0), some (.long (se)), none, some (.int (sp)), some (.int (nI (m))), none, none, none]) (st' := [.ref 0]) (w' := mz_w A Q U (T.1, T.2)) rfl ?_
    refine ez_ifT (zt_le (a := m) (b := 600) (by omega) (by omega)) ?_
    refine ez_go ez_h65 2 (pc' := 27) (L' := [some (.ref 0), some (.long (se)), none, some (.int (sp)), some (.int (nI (m))), none, none, none]) (st' := [.int (A.1), .ref 0]) (w' := mz_w A Q U (T.1, T.2)) rfl ?_
    refine ez_top (y := nI (n)) (e2) ?_
    refine ez_go ez_h65 2 (pc' := 30) (L' := [some (.ref 0), some (.long (se)), none, some (.int (sp)), some (.int (nI (m))), none, none, none]) (st' := [.int ((nI (n)) + (nI (m))), .ref 0]) (w' := mz_w A Q U (T.1, T.2)) rfl ?_
    refine ez_top (y := nI (n + m)) (nI_add _ _) ?_
    refine ez_go ez_h65 2 (pc' := bif decide ((nI (n + m)) ≤ (nI (600))) then 40 else 36) (L' := [some (.ref 0), some (.long (se)), none, some (.int (sp)), some (.int (nI (m))), none, none, none]) (st' := [.ref 0]) (w' := mz_w A Q U (T.1, T.2)) rfl ?_
    refine ez_ifF (zt_nle (a := n + m) (b := 600) (by omega) (by omega)) ?_
    refine ez_go ez_h65 7 (pc' := 50) (L' := [some (.ref 0), some (.long (se)), none, some (.int (sp)), some (.int (nI (m))), some (.long (se)), none, some (.int (nI (0)))]) (st' := []) (w' := mz_w A Q U (nI (2), T.2)) rfl ?_
    exact zo_moreE e2 (by omega) rfl ⟨rfl, rfl⟩
theorem zo_lineX1 {n : Nat} {tg : Nat → Nat} {r : cz_Row} {q : cz_Qk} {u : cz_Rn} {b : cz_Bn} {A : mz_A} {Q : mz_Q} {U : mz_U} {T : mz_T} (hR : zl_R n tg r q u b A Q U T) {fi sp m ti : Int32} (hx : m < nI 0 ∨ nI 600 < m ∨ ti < nI 1 ∨ nI 600 < ti) : zo_X (cz_w r q u b) (mz_w A Q U T) 66 [.ref 0, .int fi, .int sp, .int m, .int ti] 1 := by
  have hR0 := hR
  obtain ⟨hn, ht, e1, e2, e3, e4, e5, e6, h1, h2, h3, f1, f2, f3, f4, f5, f6⟩ := hR
  refine ⟨some (.int (nI n)), mz_w A Q U (nI 1, T.2), ⟨n, tg, r, q, u, b, A, Q, U, (nI 1, T.2), rfl, rfl, hR0, rfl⟩, ?_⟩
  by_cases a1 : m < nI 0
  · refine ez_m.of (L := [some (.ref 0), some (.int (fi)), some (.int (sp)), some (.int (m)), some (.int (ti)), none]) rfl rfl rfl ?_
    refine ez_go ez_h66 3 (pc' := bif decide (m < (nI 0)) then 26 else 5) (L' := [some (.ref 0), some (.int (fi)), some (.int (sp)), some (.int (m)), some (.int (ti)), none]) (st' := [.ref 0]) (w' := mz_w A Q U (T.1, T.2)) rfl ?_
    refine ez_ifT (a1) ?_
    refine ez_go ez_h66 5 (pc' := 53) (L' := [some (.ref 0), some (.int (fi)), some (.int (sp)), some (.int (m)), some (.int (ti)), some (.int (nI (0)))]) (st' := []) (w' := mz_w A Q U (nI (1), T.2)) rfl ?_
    exact zo_lineE e2 (by omega) rfl ⟨rfl, rfl⟩
  by_cases a2 : nI 600 < m
  · refine ez_m.of (L := [some (.ref 0), some (.int (fi)), some (.int (sp)), some (.int (m)), some (.int (ti)), none]) rfl rfl rfl ?_
    refine ez_go ez_h66 3 (pc' := bif decide (m < (nI 0)) then 26 else 5) (L' := [some (.ref 0), some (.int (fi)), some (.int (sp)), some (.int (m)), some (.int (ti)), none]) (st' := [.ref 0]) (w' := mz_w A Q U (T.1, T.2)) rfl ?_
    refine ez_ifF (a1) ?_
    refine ez_go ez_h66 3 (pc' := bif decide ((nI (600)) < m) then 26 else 12) (L' := [some (.ref 0), some (.int (fi)), some (.int (sp)), some (.int (m)), some (.int (ti)), none]) (st' := [.ref 0]) (w' := mz_w A Q U (T.1, T.2)) rfl ?_
    refine ez_ifT (a2) ?_
    refine ez_go ez_h66 5 (pc' := 53) (L' := [some (.ref 0), some (.int (fi)), some (.int (sp)), some (.int (m)), some (.int (ti)), some (.int (nI (0)))]) (st' := []) (w' := mz_w A Q U (nI (1), T.2)) rfl ?_
    exact zo_lineE e2 (by omega) rfl ⟨rfl, rfl⟩
  by_cases a3 : ti < nI 1
  · refine ez_m.of (L := [some (.ref 0), some (.int (fi)), some (.int (sp)), some (.int (m)), some (.int (ti)), none]) rfl rfl rfl ?_
    refine ez_go ez_h66 3 (pc' := bif decide (m < (nI 0)) then 26 else 5) (L' := [some (.ref 0), some (.int (fi)), some (.int (sp)), some (.int (m)), some (.int (ti)), none]) (st' := [.ref 0]) (w' := mz_w A Q U (T.1, T.2)) rfl ?_
    refine ez_ifF (a1) ?_
    refine ez_go ez_h66 3 (pc' := bif decide ((nI (600)) < m) then 26 else 12) (L' := [some (.ref 0), some (.int (fi)), some (.int (sp)), some (.int (m)), some (.int (ti)), none]) (st' := [.ref 0]) (w' := mz_w A Q U (T.1, T.2)) rfl ?_
    refine ez_ifF (a2) ?_
    refine ez_go ez_h66 3 (pc' := bif decide (ti < (nI (1))) then 26 else 18) (L' := [some (.ref 0), some (.int (fi)), some (.int (sp)), some (.int (m)), some (.int (ti)), none]) (st' := [.ref 0]) (w' := mz_w A Q U (T.1, T.2)) rfl ?_
    refine ez_ifT (a3) ?_
    refine ez_go ez_h66 5 (pc' := 53) (L' := [some (.ref 0), some (.int (fi)), some (.int (sp)), some (.int (m)), some (.int (ti)), some (.int (nI (0)))]) (st' := []) (w' := mz_w A Q U (nI (1), T.2)) rfl ?_
    exact zo_lineE e2 (by omega) rfl ⟨rfl, rfl⟩
  · refine ez_m.of (L := [some (.ref 0), some (.int (fi)), some (.int (sp)), some (.int (m)), some (.int (ti)), none]) rfl rfl rfl ?_
    refine ez_go ez_h66 3 (pc' := bif decide (m < (nI 0)) then 26 else 5) (L' := [some (.ref 0), some (.int (fi)), some (.int (sp)), some (.int (m)), some (.int (ti)), none]) (st' := [.ref 0]) (w' := mz_w A Q U (T.1, T.2)) rfl ?_
    refine ez_ifF (a1) ?_
    refine ez_go ez_h66 3 (pc' := bif decide ((nI (600)) < m) then 26 else 12) (L' := [some (.ref 0), some (.int (fi)), some (.int (sp)), some (.int (m)), some (.int (ti)), none]) (st' := [.ref 0]) (w' := mz_w A Q U (T.1, T.2)) rfl ?_
    refine ez_ifF (a2) ?_
    refine ez_go ez_h66 3 (pc' := bif decide (ti < (nI (1))) then 26 else 18) (L' := [some (.ref 0), some (.int (fi)), some (.int (sp)), some (.int (m)), some (.int (ti)), none]) (st' := [.ref 0]) (w' := mz_w A Q U (T.1, T.2)) rfl ?_
    refine ez_ifF (a3) ?_
    refine ez_go ez_h66 3 (pc' := bif decide (ti ≤ (nI (600))) then 30 else 26) (L' := [some (.ref 0), some (.int (fi)), some (.int (sp)), some (.int (m)), some (.int (ti)), none]) (st' := [.ref 0]) (w' := mz_w A Q U (T.1, T.2)) rfl ?_
    refine ez_ifF (Int32.not_le.mpr (((hx.resolve_left a1).resolve_left a2).resolve_left a3)) ?_
    refine ez_go ez_h66 5 (pc' := 53) (L' := [some (.ref 0), some (.int (fi)), some (.int (sp)), some (.int (m)), some (.int (ti)), some (.int (nI (0)))]) (st' := []) (w' := mz_w A Q U (nI (1), T.2)) rfl ?_
    exact zo_lineE e2 (by omega) rfl ⟨rfl, rfl⟩
theorem zo_lineX2 {n : Nat} {tg : Nat → Nat} {r : cz_Row} {q : cz_Qk} {u : cz_Rn} {b : cz_Bn} {A : mz_A} {Q : mz_Q} {U : mz_U} {T : mz_T} (hR : zl_R n tg r q u b A Q U T) {fi sp : Int32} {m ti : Nat} (hti : 1 ≤ ti) (hti2 : ti ≤ 600) (hm : m ≤ 600) (hx : 600 < n + m) : zo_X (cz_w r q u b) (mz_w A Q U T) 66 [.ref 0, .int fi, .int sp, .int (nI m), .int (nI ti)] 2 := by
  have hR0 := hR
  obtain ⟨hn, ht, e1, e2, e3, e4, e5, e6, h1, h2, h3, f1, f2, f3, f4, f5, f6⟩ := hR
  refine ⟨some (.int (nI n)), mz_w A Q U (nI 2, T.2), ⟨n, tg, r, q, u, b, A, Q, U, (nI 2, T.2), rfl, rfl, hR0, rfl⟩, ?_⟩
  · refine ez_m.of (L := [some (.ref 0), some (.int (fi)), some (.int (sp)), some (.int (nI (m))), some (.int (nI (ti))), none]) rfl rfl rfl ?_
    refine ez_go ez_h66 3 (pc' := bif decide ((nI (m)) < (nI 0)) then 26 else 5) (L' := [some (.ref 0), some (.int (fi)), some (.int (sp)), some (.int (nI (m))), some (.int (nI (ti))), none]) (st' := [.ref 0]) (w' := mz_w A Q U (T.1, T.2)) rfl ?_
    refine ez_ifF (zt_nlt (a := m) (b := 0) (by omega) (by omega)) ?_
    refine ez_go ez_h66 3 (pc' := bif decide ((nI (600)) < (nI (m))) then 26 else 12) (L' := [some (.ref 0), some (.int (fi)), some (.int (sp)), some (.int (nI (m))), some (.int (nI (ti))), none]) (st' := [.ref 0]) (w' := mz_w A Q U (T.1, T.2)) rfl ?_
    refine ez_ifF (zt_nlt (a := 600) (b := m) (by omega) (by omega)) ?_
    refine ez_go ez_h66 3 (pc' := bif decide ((nI (ti)) < (nI (1))) then 26 else 18) (L' := [some (.ref 0), some (.int (fi)), some (.int (sp)), some (.int (nI (m))), some (.int (nI (ti))), none]) (st' := [.ref 0]) (w' := mz_w A Q U (T.1, T.2)) rfl ?_
    refine ez_ifF (zt_nlt (a := ti) (b := 1) (by omega) (by omega)) ?_
    refine ez_go ez_h66 3 (pc' := bif decide ((nI (ti)) ≤ (nI (600))) then 30 else 26) (L' := [some (.ref 0), some (.int (fi)), some (.int (sp)), some (.int (nI (m))), some (.int (nI (ti))), none]) (st' := [.ref 0]) (w' := mz_w A Q U (T.1, T.2)) rfl ?_
    refine ez_ifT (zt_le (a := ti) (b := 600) (by omega) (by omega)) ?_
    refine ez_go ez_h66 2 (pc' := 34) (L' := [some (.ref 0), some (.int (fi)), some (.int (sp)), some (.int (nI (m))), some (.int (nI (ti))), none]) (st' := [.int (A.1), .ref 0]) (w' := mz_w A Q U (T.1, T.2)) rfl ?_
    refine ez_top (y := nI (n)) (e2) ?_
    refine ez_go ez_h66 2 (pc' := 36) (L' := [some (.ref 0), some (.int (fi)), some (.int (sp)), some (.int (nI (m))), some (.int (nI (ti))), none]) (st' := [.int ((nI (n)) + (nI (m))), .ref 0]) (w' := mz_w A Q U (T.1, T.2)) rfl ?_
    refine ez_top (y := nI (n + m)) (nI_add _ _) ?_
    refine ez_go ez_h66 2 (pc' := bif decide ((nI (n + m)) ≤ (nI (600))) then 46 else 42) (L' := [some (.ref 0), some (.int (fi)), some (.int (sp)), some (.int (nI (m))), some (.int (nI (ti))), none]) (st' := [.ref 0]) (w' := mz_w A Q U (T.1, T.2)) rfl ?_
    refine ez_ifF (zt_nle (a := n + m) (b := 600) (by omega) (by omega)) ?_
    refine ez_go ez_h66 5 (pc' := 53) (L' := [some (.ref 0), some (.int (fi)), some (.int (sp)), some (.int (nI (m))), some (.int (nI (ti))), some (.int (nI (0)))]) (st' := []) (w' := mz_w A Q U (nI (2), T.2)) rfl ?_
    exact zo_lineE e2 (by omega) rfl ⟨rfl, rfl⟩
