/-! ===== the class's world and the reference's, between two calls ===== -/
def zl_R (n : Nat) (tg : Nat → Nat) (r : cz_Row) (q : cz_Qk) (u : cz_Rn) (b : cz_Bn) (A : mz_A) (Q : mz_Q) (U : mz_U) (T : mz_T) : Prop := n ≤ 600 ∧ (∀ k, k < n → tg k < n) ∧ r.1 = nI n ∧ A.1 = nI n ∧ r.2.1 = A.2.1 ∧ ze_or A.2.1 ∧ r.2.2.1 = A.2.2.2.2.2.1 ∧ r.2.2.2.1 = 0 ∧ (∀ k, k < n → r.2.2.2.2.2.2.2 k = nI (tg k)) ∧ (∀ k, k < n → T.2 k = nI (tg k)) ∧
  (∀ k, k < n → A.2.2.2.2.2.2.2.1 k = r.2.2.2.2.2.2.1 (tg k)) ∧ b.2.2.1 = A.2.2.2.2.2.2.1 ∧ b.2.2.2 = Q.2.1 ∧ q.2.2.2.2.2.2.2.1 = Q.1 ∧ q.2.2.2.2.2.2.2.2.1 = Q.2.2.1 ∧ u.2.1 = U.1 ∧ u.2.2.1 = U.2.1
def zl_W (k : Int32) (wc wm : ez_W) : Prop := ∃ (n : Nat) (tg : Nat → Nat) (r : cz_Row) (q : cz_Qk) (u : cz_Rn) (b : cz_Bn) (A : mz_A) (Q : mz_Q) (U : mz_U) (T : mz_T), wc = cz_w r q u b ∧ wm = mz_w A Q U T ∧ zl_R n tg r q u b A Q U T ∧ T.1 = k
/-- both go on, with one answer -/
def zo_P (wc wm : ez_W) (jc : Nat) (Ac : List Value) (jm : Nat) (Am : List Value) : Prop := ∃ (x : Option Value) (wc' wm' : ez_W), zl_W 0 wc' wm' ∧ ez_m jc Ac wc (fun a w => a = x ∧ w = wc') ∧ ez_m jm Am wm (fun a w => a = x ∧ w = wm')
/-- the reference says k: the class throws, and stays as it was -/
def zo_X (wc wm : ez_W) (jm : Nat) (Am : List Value) (k : Int32) : Prop := ∃ (x : Option Value) (wm' : ez_W), zl_W k wc wm' ∧ ez_m jm Am wm (fun a w => a = x ∧ w = wm')
theorem zl_upd {f : Nat → Int32} {tg : Nat → Nat} {n k : Nat} (h : ∀ j, j < n → f j = nI (tg j)) (v : Nat) (N : Nat) (hN : ∀ j, j < N → j ≠ k → j < n) : ∀ j, j < N → upd f k (nI v) j = nI (va_up tg k v j) := fun j hj => by
  by_cases c : j = k
  · subst c; rw [va_up_self]; unfold upd; rw [if_pos rfl]
  · rw [va_up_ne _ _ c]; unfold upd; rw [if_neg c]; exact h j (hN j hj c)
theorem upd_at (f : Nat → Int32) (k : Nat) (v : Int32) : upd f k v k = v := by unfold upd; rw [if_pos rfl]
theorem upd_ne (f : Nat → Int32) {k j : Nat} (v : Int32) (h : j ≠ k) : upd f k v j = f j := by unfold upd; rw [if_neg h]
/-- one more, at the end -/
theorem zo_app {n : Nat} {tg : Nat → Nat} {r : cz_Row} {q : cz_Qk} {u : cz_Rn} {b : cz_Bn} {A : mz_A} {Q : mz_Q} {U : mz_U} {T : mz_T} (hR : zl_R n tg r q u b A Q U T) (hlt : n < 600) (v : Int32) :
    ∃ (r' : cz_Row) (A' : mz_A) (T' : mz_T), zl_R (n + 1) (va_up tg n n) r' q u b A' Q U T' ∧ T'.1 = T.1 ∧ (∀ post : Option Value → ez_W → Prop, post none (cz_w r' q u b) → ez_m 31 [.ref 1, .int v] (cz_w r q u b) post) ∧ (∀ post : Option Value → ez_W → Prop, post none (mz_w A' Q U T') → ez_m 64 [.ref 0, .int v] (mz_w A Q U T) post) := by
  obtain ⟨hn, ht, e1, e2, e3, e4, e5, e6, h1, h2, h3, f1, f2, f3, f4, f5, f6⟩ := hR
  obtain ⟨sz, ord, asked, adv, cand, stl, num, thg⟩ := r
  obtain ⟨msz, mord, madv, mcand, mnx, mcmp, mlat, mnum, mset, mrow⟩ := A
  obtain ⟨mthr, mtag⟩ := T
  replace e1 : sz = nI n := e1
  replace e2 : msz = nI n := e2
  subst e1 e2
  refine ⟨(nI (n + 1), ord, asked, adv, cand, stl, upd num n v, upd thg n (nI n)), (nI (n + 1), mord, madv, mcand, mnx, mcmp, mlat, upd mnum n v, mset, mrow), (mthr, upd mtag n (nI n)), ⟨by omega, ?_, rfl, rfl, e3, e4, e5, e6, zl_upd h1 n (n + 1) (fun j _ _ => by omega), zl_upd h2 n (n + 1) (fun j _ _ => by omega), ?_, f1, f2, f3, f4, f5, f6⟩, rfl, fun post kk => ?_, fun post kk => ?_⟩
  · intro k hk
    by_cases c : k = n
    · rw [c, va_up_self]; omega
    · rw [va_up_ne _ _ c]; have := ht k (by omega); omega
  · intro k hk
    show upd mnum n v k = upd num n v (va_up tg n n k)
    by_cases c : k = n
    · rw [c, va_up_self, upd_at, upd_at]
    · have q1 := ht k (by omega)
      rw [va_up_ne _ _ c, upd_ne _ _ c, upd_ne _ _ (by omega)]
      exact h3 k (by omega)
  · refine ez_m.of (L := [some (.ref 1), some (.int (v))]) rfl rfl rfl ?_
    refine ez_go ez_h31 3 (pc' := bif decide ((nI (n)) < (nI 0)) then 64 else 7) (L' := [some (.ref 1), some (.int (v))]) (st' := []) (w' := cz_w (nI (n), ord, asked, adv, cand, stl, num, thg) q u b) rfl ?_
    refine ez_ifF (zt_nlt (a := n) (b := 0) (by omega) (by omega)) ?_
    refine ez_go ez_h31 6 (pc' := bif decide ((nI (600)) ≤ (nI (n))) then 64 else 19) (L' := [some (.ref 1), some (.int (v))]) (st' := []) (w' := cz_w (nI (n), ord, asked, adv, cand, stl, num, thg) q u b) rfl ?_
    refine ez_ifF (zt_nle (a := 600) (b := n) (by omega) (by omega)) ?_
    refine ez_go ez_h31 6 (pc' := bif decide ((nI (600)) ≤ (nI (n))) then 64 else 31) (L' := [some (.ref 1), some (.int (v))]) (st' := []) (w' := cz_w (nI (n), ord, asked, adv, cand, stl, num, thg) q u b) rfl ?_
    refine ez_ifF (zt_nle (a := 600) (b := n) (by omega) (by omega)) ?_
    refine ez_go ez_h31 5 (pc' := 40) (L' := [some (.ref 1), some (.int (v))]) (st' := [.int (v), .int (nI (n)), .ref 7]) (w' := cz_w (nI (n), ord, asked, adv, cand, stl, num, thg) q u b) rfl ?_
    refine ez_ast ez_h31 rfl rfl (n) rfl (by omega) (by omega) ?_
    refine ez_go ez_h31 6 (pc' := 53) (L' := [some (.ref 1), some (.int (v))]) (st' := [.int (nI (n)), .int (nI (n)), .ref 8]) (w' := cz_w (nI (n), ord, asked, adv, cand, stl, (upd num n (v)), thg) q u b) rfl ?_
    refine ez_ast ez_h31 rfl rfl (n) rfl (by omega) (by omega) ?_
    refine ez_go ez_h31 5 (pc' := 61) (L' := [some (.ref 1), some (.int (v))]) (st' := [.int ((nI (n)) + (nI (1))), .ref 1]) (w' := cz_w (nI (n), ord, asked, adv, cand, stl, (upd num n (v)), (upd thg n (nI (n)))) q u b) rfl ?_
    refine ez_top (y := nI (n + 1)) (nI_add _ _) ?_
    refine ez_go ez_h31 1 (pc' := 64) (L' := [some (.ref 1), some (.int (v))]) (st' := []) (w' := cz_w (nI (n + 1), ord, asked, adv, cand, stl, (upd num n (v)), (upd thg n (nI (n)))) q u b) rfl ?_
    refine ez_vret rfl ez_h31 rfl rfl ?_
    exact kk
  · refine ez_m.of (L := [some (.ref 0), some (.int (v))]) rfl rfl rfl ?_
    refine ez_go ez_h64 5 (pc' := 9) (L' := [some (.ref 0), some (.int (v))]) (st' := [.int (v), .int (nI (n)), .ref 1]) (w' := mz_w (nI (n), mord, madv, mcand, mnx, mcmp, mlat, mnum, mset, mrow) Q U (mthr, mtag)) rfl ?_
    refine ez_ast ez_h64 rfl rfl (n) rfl (by omega) (by omega) ?_
    refine ez_go ez_h64 6 (pc' := 22) (L' := [some (.ref 0), some (.int (v))]) (st' := [.int (nI (n)), .int (nI (n)), .ref 2]) (w' := mz_w (nI (n), mord, madv, mcand, mnx, mcmp, mlat, (upd mnum n (v)), mset, mrow) Q U (mthr, mtag)) rfl ?_
    refine ez_ast ez_h64 rfl rfl (n) rfl (by omega) (by omega) ?_
    refine ez_go ez_h64 5 (pc' := 30) (L' := [some (.ref 0), some (.int (v))]) (st' := [.int ((nI (n)) + (nI (1))), .ref 0]) (w' := mz_w (nI (n), mord, madv, mcand, mnx, mcmp, mlat, (upd mnum n (v)), mset, mrow) Q U (mthr, (upd mtag n (nI (n))))) rfl ?_
    refine ez_top (y := nI (n + 1)) (nI_add _ _) ?_
    refine ez_go ez_h64 1 (pc' := 33) (L' := [some (.ref 0), some (.int (v))]) (st' := []) (w' := mz_w (nI (n + 1), mord, madv, mcand, mnx, mcmp, mlat, (upd mnum n (v)), mset, mrow) Q U (mthr, (upd mtag n (nI (n))))) rfl ?_
    refine ez_vret rfl ez_h64 rfl rfl ?_
    exact kk
theorem zo_put {n : Nat} {tg : Nat → Nat} {r : cz_Row} {q : cz_Qk} {u : cz_Rn} {b : cz_Bn} {A : mz_A} {Q : mz_Q} {U : mz_U} {T : mz_T} (hR : zl_R n tg r q u b A Q U T) (hlt : n < 600) (v : Int32) : zo_P (cz_w r q u b) (mz_w A Q U T) 110 [.ref 0, .int v] 63 [.ref 0, .int v] := by
  have hR0 := hR
  obtain ⟨hn, ht, e1, e2, e3, e4, e5, e6, h1, h2, h3, f1, f2, f3, f4, f5, f6⟩ := hR
  have hRT : zl_R n tg r q u b A Q U (nI 0, T.2) := hR0
  obtain ⟨r1, A1, T1, hR1, hT1, ca, ma⟩ := zo_app hRT hlt v
  refine ⟨some (.int (nI (n + 1))), cz_w r1 q u b, mz_w A1 Q U T1, ⟨n + 1, _, r1, q, u, b, A1, Q, U, T1, rfl, rfl, hR1, hT1⟩, ?_, ?_⟩
  · refine ez_m.of (L := [some (.ref 0), some (.int (v))]) rfl rfl rfl ?_
    refine ez_go ez_h110 2 (pc' := 2) (L' := [some (.ref 0), some (.int (v))]) (st' := [.int (nI (1)), .ref 0]) (w' := cz_w r q u b) rfl ?_
    refine ez_cl ez_h110 rfl rfl ?_
    refine ez_m.of (L := [some (.ref 0), some (.int (nI (1)))]) rfl rfl rfl ?_
    refine ez_go ez_h108 4 (pc' := 8) (L' := [some (.ref 0), some (.int (nI (1)))]) (st' := [.ref 1, .int (nI (600)), .int (nI (1))]) (w' := cz_w r q u b) rfl ?_
    refine ez_cl ez_h108 rfl rfl ?_
    refine ez_m.of (L := [some (.ref 1)]) rfl rfl rfl ?_
    refine ez_go ez_h26 2 (pc' := 4) (L' := [some (.ref 1)]) (st' := [.int (r.1)]) (w' := cz_w r q u b) rfl ?_
    refine ez_top (y := nI (n)) (e1) ?_
    refine ez_iret rfl ez_h26 rfl rfl ?_
    refine ez_go ez_h108 1 (pc' := 12) (L' := [some (.ref 0), some (.int (nI (1)))]) (st' := [.int ((nI (600)) - (nI (n))), .int (nI (1))]) (w' := cz_w r q u b) rfl ?_
    refine ez_top (y := nI (600 - n)) (pk_sub (by omega)) ?_
    refine ez_go ez_h108 1 (pc' := bif decide ((nI (1)) ≤ (nI (600 - n))) then 25 else 15) (L' := [some (.ref 0), some (.int (nI (1)))]) (st' := []) (w' := cz_w r q u b) rfl ?_
    refine ez_ifT (zt_le (a := 1) (b := 600 - n) (by omega) (by omega)) ?_
    refine ez_vret rfl ez_h108 rfl rfl ?_
    refine ez_go ez_h110 3 (pc' := 10) (L' := [some (.ref 0), some (.int (v))]) (st' := [.int (v), .ref 1]) (w' := cz_w r q u b) rfl ?_
    refine ez_cl ez_h110 rfl rfl ?_
    refine ca _ ?_
    refine ez_go ez_h110 2 (pc' := 17) (L' := [some (.ref 0), some (.int (v))]) (st' := [.ref 1]) (w' := cz_w r1 q u b) rfl ?_
    refine ez_cl ez_h110 rfl rfl ?_
    refine ez_m.of (L := [some (.ref 1)]) rfl rfl rfl ?_
    refine ez_go ez_h26 2 (pc' := 4) (L' := [some (.ref 1)]) (st' := [.int (r1.1)]) (w' := cz_w r1 q u b) rfl ?_
    refine ez_top (y := nI (n + 1)) (hR1.2.2.1) ?_
    refine ez_iret rfl ez_h26 rfl rfl ?_
    refine ez_iret rfl ez_h110 rfl rfl ?_
    exact ⟨rfl, rfl⟩
  · refine ez_m.of (L := [some (.ref 0), some (.int (v))]) rfl rfl rfl ?_
    refine ez_go ez_h63 3 (pc' := 5) (L' := [some (.ref 0), some (.int (v))]) (st' := [.int (A.1), .ref 0]) (w' := mz_w A Q U (T.1, T.2)) rfl ?_
    refine ez_top (y := nI (n)) (e2) ?_
    refine ez_go ez_h63 2 (pc' := bif decide (¬ (nI (n)) = (nI (600))) then 15 else 11) (L' := [some (.ref 0), some (.int (v))]) (st' := [.ref 0]) (w' := mz_w A Q U (T.1, T.2)) rfl ?_
    refine ez_ifT (zt_ne (by omega) (by omega) (by omega)) ?_
    refine ez_go ez_h63 5 (pc' := bif decide (¬ (nI (0)) = (nI 0)) then 31 else 26) (L' := [some (.ref 0), some (.int (v))]) (st' := []) (w' := mz_w A Q U (nI (0), T.2)) rfl ?_
    refine ez_ifF (fun z => z (zt_eq (by omega))) ?_
    refine ez_go ez_h63 2 (pc' := 28) (L' := [some (.ref 0), some (.int (v))]) (st' := [.int (v), .ref 0]) (w' := mz_w A Q U (nI (0), T.2)) rfl ?_
    refine ez_cl ez_h63 rfl rfl ?_
    refine ma _ ?_
    refine ez_go ez_h63 2 (pc' := 35) (L' := [some (.ref 0), some (.int (v))]) (st' := [.int (A1.1)]) (w' := mz_w A1 Q U T1) rfl ?_
    refine ez_top (y := nI (n + 1)) (hR1.2.2.2.1) ?_
    refine ez_iret rfl ez_h63 rfl rfl ?_
    exact ⟨rfl, rfl⟩
theorem zo_putX {n : Nat} {tg : Nat → Nat} {r : cz_Row} {q : cz_Qk} {u : cz_Rn} {b : cz_Bn} {A : mz_A} {Q : mz_Q} {U : mz_U} {T : mz_T} (hR : zl_R n tg r q u b A Q U T) (hlt : n = 600) (v : Int32) : zo_X (cz_w r q u b) (mz_w A Q U T) 63 [.ref 0, .int v] 1 := by
  have hR0 := hR
  obtain ⟨hn, ht, e1, e2, e3, e4, e5, e6, h1, h2, h3, f1, f2, f3, f4, f5, f6⟩ := hR
  refine ⟨some (.int (nI n)), mz_w A Q U (nI 1, T.2), ⟨n, tg, r, q, u, b, A, Q, U, (nI 1, T.2), rfl, rfl, hR0, rfl⟩, ?_⟩
  refine ez_m.of (L := [some (.ref 0), some (.int (v))]) rfl rfl rfl ?_
  refine ez_go ez_h63 3 (pc' := 5) (L' := [some (.ref 0), some (.int (v))]) (st' := [.int (A.1), .ref 0]) (w' := mz_w A Q U (T.1, T.2)) rfl ?_
  refine ez_top (y := nI (n)) (e2) ?_
  refine ez_go ez_h63 2 (pc' := bif decide (¬ (nI (n)) = (nI (600))) then 15 else 11) (L' := [some (.ref 0), some (.int (v))]) (st' := [.ref 0]) (w' := mz_w A Q U (T.1, T.2)) rfl ?_
  refine ez_ifF (fun z => z (zt_eq (by omega))) ?_
  refine ez_go ez_h63 6 (pc' := bif decide (¬ (nI (1)) = (nI 0)) then 31 else 26) (L' := [some (.ref 0), some (.int (v))]) (st' := []) (w' := mz_w A Q U (nI (1), T.2)) rfl ?_
  refine ez_ifT (zt_ne (by omega) (by omega) (by omega)) ?_
  refine ez_go ez_h63 2 (pc' := 35) (L' := [some (.ref 0), some (.int (v))]) (st' := [.int (A.1)]) (w' := mz_w A Q U (nI (1), T.2)) rfl ?_
  refine ez_top (y := nI (n)) (e2) ?_
  refine ez_iret rfl ez_h63 rfl rfl ?_
  exact ⟨rfl, rfl⟩
theorem zl_sw {n : Nat} {tg : Nat → Nat} {i j : Nat} (hi : i < n) (hj : j < n) (ht : ∀ k, k < n → tg k < n) : ∀ k, k < n → zs_sw tg i j k < n := fun k hk => by
  unfold zs_sw
  by_cases c1 : k = j
  · rw [c1, va_up_self]; exact ht i hi
  · rw [va_up_ne _ _ c1]
    by_cases c2 : k = i
    · rw [c2, va_up_self]; exact ht j hj
    · rw [va_up_ne _ _ c2]; exact ht k hk
theorem zl_sw1 {f : Nat → Int32} {tg : Nat → Nat} {h : Nat → Int32} {n i j : Nat} (hi : i < n) (hj : j < n) (hf : ∀ k, k < n → f k = h (tg k)) : ∀ k, k < n → upd (upd f i (f j)) j (f i) k = h (zs_sw tg i j k) := fun k hk => by
  unfold zs_sw
  by_cases c1 : k = j
  · rw [c1, va_up_self, upd_at]; exact hf i hi
  · rw [va_up_ne _ _ c1, upd_ne _ _ c1]
    by_cases c2 : k = i
    · rw [c2, va_up_self, upd_at]; exact hf j hj
    · rw [va_up_ne _ _ c2, upd_ne _ _ c2]; exact hf k hk
/-- two change places -/
theorem zo_swp {n : Nat} {tg : Nat → Nat} {r : cz_Row} {q : cz_Qk} {u : cz_Rn} {b : cz_Bn} {A : mz_A} {Q : mz_Q} {U : mz_U} {T : mz_T} (hR : zl_R n tg r q u b A Q U T) {i j : Nat} (hi : i < n) (hj : j < n) :
    ∃ (r' : cz_Row) (A' : mz_A) (T' : mz_T), zl_R n (zs_sw tg i j) r' q u b A' Q U T' ∧ T'.1 = T.1 ∧ (∀ post : Option Value → ez_W → Prop, post none (cz_w r' q u b) → ez_m 35 [.ref 1, .int (nI i), .int (nI j)] (cz_w r q u b) post) ∧ (∀ post : Option Value → ez_W → Prop, post none (mz_w A' Q U T') → ez_m 68 [.ref 0, .int (nI i), .int (nI j)] (mz_w A Q U T) post) := by
  obtain ⟨hn, ht, e1, e2, e3, e4, e5, e6, h1, h2, h3, f1, f2, f3, f4, f5, f6⟩ := hR
  obtain ⟨sz, ord, asked, adv, cand, stl, num, thg⟩ := r
  obtain ⟨msz, mord, madv, mcand, mnx, mcmp, mlat, mnum, mset, mrow⟩ := A
  obtain ⟨mthr, mtag⟩ := T
  refine ⟨(sz, ord, asked, adv, cand, stl, num, upd (upd thg i (thg j)) j (thg i)), (msz, mord, madv, mcand, mnx, mcmp, mlat, upd (upd mnum i (mnum j)) j (mnum i), mset, mrow), (mthr, upd (upd mtag i (mtag j)) j (mtag i)), ⟨hn, zl_sw hi hj ht, e1, e2, e3, e4, e5, e6, zl_sw1 (h := nI) hi hj h1, zl_sw1 (h := nI) hi hj h2, zl_sw1 hi hj h3, f1, f2, f3, f4, f5, f6⟩, rfl, fun post kk => ?_, fun post kk => ?_⟩
  · refine ez_m.of (L := [some (.ref 1), some (.int (nI (i))), some (.int (nI (j))), none]) rfl rfl rfl ?_
    refine ez_go ez_h35 2 (pc' := 2) (L' := [some (.ref 1), some (.int (nI (i))), some (.int (nI (j))), none]) (st' := [.int (nI (i)), .ref 1]) (w' := cz_w (sz, ord, asked, adv, cand, stl, num, thg) q u b) rfl ?_
    refine ez_cl ez_h35 rfl rfl ?_
    refine ez_m.of (L := [some (.ref 1), some (.int (nI (i)))]) rfl rfl rfl ?_
    refine ez_go ez_h32 2 (pc' := bif decide ((nI (i)) < (nI 0)) then 22 else 4) (L' := [some (.ref 1), some (.int (nI (i)))]) (st' := []) (w' := cz_w (sz, ord, asked, adv, cand, stl, num, thg) q u b) rfl ?_
    refine ez_ifF (zt_nlt (a := i) (b := 0) (by omega) (by omega)) ?_
    refine ez_go ez_h32 5 (pc' := bif decide ((nI (600)) ≤ (nI (i))) then 22 else 13) (L' := [some (.ref 1), some (.int (nI (i)))]) (st' := []) (w' := cz_w (sz, ord, asked, adv, cand, stl, num, thg) q u b) rfl ?_
    refine ez_ifF (zt_nle (a := 600) (b := i) (by omega) (by omega)) ?_
    refine ez_go ez_h32 3 (pc' := 18) (L' := [some (.ref 1), some (.int (nI (i)))]) (st' := [.int (nI (i)), .ref 8]) (w' := cz_w (sz, ord, asked, adv, cand, stl, num, thg) q u b) rfl ?_
    refine ez_ald ez_h32 rfl rfl (i) rfl (by omega) (by omega) ?_
    refine ez_go ez_h32 1 (pc' := 23) (L' := [some (.ref 1), some (.int (nI (i)))]) (st' := [.int (thg i)]) (w' := cz_w (sz, ord, asked, adv, cand, stl, num, thg) q u b) rfl ?_
    refine ez_iret rfl ez_h32 rfl rfl ?_
    refine ez_go ez_h35 5 (pc' := 10) (L' := [some (.ref 1), some (.int (nI (i))), some (.int (nI (j))), some (.int (thg i))]) (st' := [.int (nI (j)), .ref 1, .int (nI (i)), .ref 1]) (w' := cz_w (sz, ord, asked, adv, cand, stl, num, thg) q u b) rfl ?_
    refine ez_cl ez_h35 rfl rfl ?_
    refine ez_m.of (L := [some (.ref 1), some (.int (nI (j)))]) rfl rfl rfl ?_
    refine ez_go ez_h32 2 (pc' := bif decide ((nI (j)) < (nI 0)) then 22 else 4) (L' := [some (.ref 1), some (.int (nI (j)))]) (st' := []) (w' := cz_w (sz, ord, asked, adv, cand, stl, num, thg) q u b) rfl ?_
    refine ez_ifF (zt_nlt (a := j) (b := 0) (by omega) (by omega)) ?_
    refine ez_go ez_h32 5 (pc' := bif decide ((nI (600)) ≤ (nI (j))) then 22 else 13) (L' := [some (.ref 1), some (.int (nI (j)))]) (st' := []) (w' := cz_w (sz, ord, asked, adv, cand, stl, num, thg) q u b) rfl ?_
    refine ez_ifF (zt_nle (a := 600) (b := j) (by omega) (by omega)) ?_
    refine ez_go ez_h32 3 (pc' := 18) (L' := [some (.ref 1), some (.int (nI (j)))]) (st' := [.int (nI (j)), .ref 8]) (w' := cz_w (sz, ord, asked, adv, cand, stl, num, thg) q u b) rfl ?_
    refine ez_ald ez_h32 rfl rfl (j) rfl (by omega) (by omega) ?_
    refine ez_go ez_h32 1 (pc' := 23) (L' := [some (.ref 1), some (.int (nI (j)))]) (st' := [.int (thg j)]) (w' := cz_w (sz, ord, asked, adv, cand, stl, num, thg) q u b) rfl ?_
    refine ez_iret rfl ez_h32 rfl rfl ?_
    refine ez_cl ez_h35 rfl rfl ?_
    refine ez_m.of (L := [some (.ref 1), some (.int (nI (i))), some (.int (thg j))]) rfl rfl rfl ?_
    refine ez_go ez_h33 2 (pc' := bif decide ((nI (i)) < (nI 0)) then 20 else 4) (L' := [some (.ref 1), some (.int (nI (i))), some (.int (thg j))]) (st' := []) (w' := cz_w (sz, ord, asked, adv, cand, stl, num, thg) q u b) rfl ?_
    refine ez_ifF (zt_nlt (a := i) (b := 0) (by omega) (by omega)) ?_
    refine ez_go ez_h33 5 (pc' := bif decide ((nI (600)) ≤ (nI (i))) then 20 else 13) (L' := [some (.ref 1), some (.int (nI (i))), some (.int (thg j))]) (st' := []) (w' := cz_w (sz, ord, asked, adv, cand, stl, num, thg) q u b) rfl ?_
    refine ez_ifF (zt_nle (a := 600) (b := i) (by omega) (by omega)) ?_
    refine ez_go ez_h33 4 (pc' := 19) (L' := [some (.ref 1), some (.int (nI (i))), some (.int (thg j))]) (st' := [.int (thg j), .int (nI (i)), .ref 8]) (w' := cz_w (sz, ord, asked, adv, cand, stl, num, thg) q u b) rfl ?_
    refine ez_ast ez_h33 rfl rfl (i) rfl (by omega) (by omega) ?_
    refine ez_vret rfl ez_h33 rfl rfl ?_
    refine ez_go ez_h35 3 (pc' := 19) (L' := [some (.ref 1), some (.int (nI (i))), some (.int (nI (j))), some (.int (thg i))]) (st' := [.int (thg i), .int (nI (j)), .ref 1]) (w' := cz_w (sz, ord, asked, adv, cand, stl, num, (upd thg i (thg j))) q u b) rfl ?_
    refine ez_cl ez_h35 rfl rfl ?_
    refine ez_m.of (L := [some (.ref 1), some (.int (nI (j))), some (.int (thg i))]) rfl rfl rfl ?_
    refine ez_go ez_h33 2 (pc' := bif decide ((nI (j)) < (nI 0)) then 20 else 4) (L' := [some (.ref 1), some (.int (nI (j))), some (.int (thg i))]) (st' := []) (w' := cz_w (sz, ord, asked, adv, cand, stl, num, (upd thg i (thg j))) q u b) rfl ?_
    refine ez_ifF (zt_nlt (a := j) (b := 0) (by omega) (by omega)) ?_
    refine ez_go ez_h33 5 (pc' := bif decide ((nI (600)) ≤ (nI (j))) then 20 else 13) (L' := [some (.ref 1), some (.int (nI (j))), some (.int (thg i))]) (st' := []) (w' := cz_w (sz, ord, asked, adv, cand, stl, num, (upd thg i (thg j))) q u b) rfl ?_
    refine ez_ifF (zt_nle (a := 600) (b := j) (by omega) (by omega)) ?_
    refine ez_go ez_h33 4 (pc' := 19) (L' := [some (.ref 1), some (.int (nI (j))), some (.int (thg i))]) (st' := [.int (thg i), .int (nI (j)), .ref 8]) (w' := cz_w (sz, ord, asked, adv, cand, stl, num, (upd thg i (thg j))) q u b) rfl ?_
    refine ez_ast ez_h33 rfl rfl (j) rfl (by omega) (by omega) ?_
    refine ez_vret rfl ez_h33 rfl rfl ?_
    refine ez_vret rfl ez_h35 rfl rfl ?_
    exact kk
  · refine ez_m.of (L := [some (.ref 0), some (.int (nI (i))), some (.int (nI (j))), none, none]) rfl rfl rfl ?_
    refine ez_go ez_h68 3 (pc' := 5) (L' := [some (.ref 0), some (.int (nI (i))), some (.int (nI (j))), none, none]) (st' := [.int (nI (i)), .ref 1]) (w' := mz_w (msz, mord, madv, mcand, mnx, mcmp, mlat, mnum, mset, mrow) Q U (mthr, mtag)) rfl ?_
    refine ez_ald ez_h68 rfl rfl (i) rfl (by omega) (by omega) ?_
    refine ez_go ez_h68 7 (pc' := 17) (L' := [some (.ref 0), some (.int (nI (i))), some (.int (nI (j))), some (.int (mnum i)), none]) (st' := [.int (nI (j)), .ref 1, .int (nI (i)), .ref 1]) (w' := mz_w (msz, mord, madv, mcand, mnx, mcmp, mlat, mnum, mset, mrow) Q U (mthr, mtag)) rfl ?_
    refine ez_ald ez_h68 rfl rfl (j) rfl (by omega) (by omega) ?_
    refine ez_ast ez_h68 rfl rfl (i) rfl (by omega) (by omega) ?_
    refine ez_go ez_h68 4 (pc' := 25) (L' := [some (.ref 0), some (.int (nI (i))), some (.int (nI (j))), some (.int (mnum i)), none]) (st' := [.int (mnum i), .int (nI (j)), .ref 1]) (w' := mz_w (msz, mord, madv, mcand, mnx, mcmp, mlat, (upd mnum i (mnum j)), mset, mrow) Q U (mthr, mtag)) rfl ?_
    refine ez_ast ez_h68 rfl rfl (j) rfl (by omega) (by omega) ?_
    refine ez_go ez_h68 3 (pc' := 31) (L' := [some (.ref 0), some (.int (nI (i))), some (.int (nI (j))), some (.int (mnum i)), none]) (st' := [.int (nI (i)), .ref 2]) (w' := mz_w (msz, mord, madv, mcand, mnx, mcmp, mlat, (upd (upd mnum i (mnum j)) j (mnum i)), mset, mrow) Q U (mthr, mtag)) rfl ?_
    refine ez_ald ez_h68 rfl rfl (i) rfl (by omega) (by omega) ?_
    refine ez_go ez_h68 7 (pc' := 44) (L' := [some (.ref 0), some (.int (nI (i))), some (.int (nI (j))), some (.int (mnum i)), some (.int (mtag i))]) (st' := [.int (nI (j)), .ref 2, .int (nI (i)), .ref 2]) (w' := mz_w (msz, mord, madv, mcand, mnx, mcmp, mlat, (upd (upd mnum i (mnum j)) j (mnum i)), mset, mrow) Q U (mthr, mtag)) rfl ?_
    refine ez_ald ez_h68 rfl rfl (j) rfl (by omega) (by omega) ?_
    refine ez_ast ez_h68 rfl rfl (i) rfl (by omega) (by omega) ?_
    refine ez_go ez_h68 4 (pc' := 53) (L' := [some (.ref 0), some (.int (nI (i))), some (.int (nI (j))), some (.int (mnum i)), some (.int (mtag i))]) (st' := [.int (mtag i), .int (nI (j)), .ref 2]) (w' := mz_w (msz, mord, madv, mcand, mnx, mcmp, mlat, (upd (upd mnum i (mnum j)) j (mnum i)), mset, mrow) Q U (mthr, (upd mtag i (mtag j)))) rfl ?_
    refine ez_ast ez_h68 rfl rfl (j) rfl (by omega) (by omega) ?_
    refine ez_vret rfl ez_h68 rfl rfl ?_
    exact kk
theorem zo_exch {n : Nat} {tg : Nat → Nat} {r : cz_Row} {q : cz_Qk} {u : cz_Rn} {b : cz_Bn} {A : mz_A} {Q : mz_Q} {U : mz_U} {T : mz_T} (hR : zl_R n tg r q u b A Q U T) {i j : Nat} (hi : i < n) (hj : j < n) : zo_P (cz_w r q u b) (mz_w A Q U T) 113 [.ref 0, .int (nI i), .int (nI j)] 69 [.ref 0, .int (nI i), .int (nI j)] := by
  have hR0 := hR
  obtain ⟨hn, ht, e1, e2, e3, e4, e5, e6, h1, h2, h3, f1, f2, f3, f4, f5, f6⟩ := hR
  have hRT : zl_R n tg r q u b A Q U (nI 0, T.2) := hR0
  obtain ⟨r1, A1, T1, hR1, hT1, ca, ma⟩ := zo_swp hRT hi hj
  refine ⟨none, cz_w r1 q u b, mz_w A1 Q U T1, ⟨n, _, r1, q, u, b, A1, Q, U, T1, rfl, rfl, hR1, hT1⟩, ?_, ?_⟩
  · refine ez_m.of (L := [some (.ref 0), some (.int (nI (i))), some (.int (nI (j)))]) rfl rfl rfl ?_
    refine ez_go ez_h113 2 (pc' := 2) (L' := [some (.ref 0), some (.int (nI (i))), some (.int (nI (j)))]) (st' := [.int (nI (i)), .ref 0]) (w' := cz_w r q u b) rfl ?_
    refine ez_cl ez_h113 rfl rfl ?_
    refine ez_m.of (L := [some (.ref 0), some (.int (nI (i)))]) rfl rfl rfl ?_
    refine ez_go ez_h105 2 (pc' := bif decide ((nI (i)) < (nI 0)) then 15 else 4) (L' := [some (.ref 0), some (.int (nI (i)))]) (st' := []) (w' := cz_w r q u b) rfl ?_
    refine ez_ifF (zt_nlt (a := i) (b := 0) (by omega) (by omega)) ?_
    refine ez_go ez_h105 3 (pc' := 9) (L' := [some (.ref 0), some (.int (nI (i)))]) (st' := [.ref 1, .int (nI (i))]) (w' := cz_w r q u b) rfl ?_
    refine ez_cl ez_h105 rfl rfl ?_
    refine ez_m.of (L := [some (.ref 1)]) rfl rfl rfl ?_
    refine ez_go ez_h26 2 (pc' := 4) (L' := [some (.ref 1)]) (st' := [.int (r.1)]) (w' := cz_w r q u b) rfl ?_
    refine ez_top (y := nI (n)) (e1) ?_
    refine ez_iret rfl ez_h26 rfl rfl ?_
    refine ez_go ez_h105 1 (pc' := bif decide ((nI (i)) < (nI (n))) then 25 else 15) (L' := [some (.ref 0), some (.int (nI (i)))]) (st' := []) (w' := cz_w r q u b) rfl ?_
    refine ez_ifT (zt_lt (a := i) (b := n) (by omega) (by omega)) ?_
    refine ez_vret rfl ez_h105 rfl rfl ?_
    refine ez_go ez_h113 2 (pc' := 7) (L' := [some (.ref 0), some (.int (nI (i))), some (.int (nI (j)))]) (st' := [.int (nI (j)), .ref 0]) (w' := cz_w r q u b) rfl ?_
    refine ez_cl ez_h113 rfl rfl ?_
    refine ez_m.of (L := [some (.ref 0), some (.int (nI (j)))]) rfl rfl rfl ?_
    refine ez_go ez_h105 2 (pc' := bif decide ((nI (j)) < (nI 0)) then 15 else 4) (L' := [some (.ref 0), some (.int (nI (j)))]) (st' := []) (w' := cz_w r q u b) rfl ?_
    refine ez_ifF (zt_nlt (a := j) (b := 0) (by omega) (by omega)) ?_
    refine ez_go ez_h105 3 (pc' := 9) (L' := [some (.ref 0), some (.int (nI (j)))]) (st' := [.ref 1, .int (nI (j))]) (w' := cz_w r q u b) rfl ?_
    refine ez_cl ez_h105 rfl rfl ?_
    refine ez_m.of (L := [some (.ref 1)]) rfl rfl rfl ?_
    refine ez_go ez_h26 2 (pc' := 4) (L' := [some (.ref 1)]) (st' := [.int (r.1)]) (w' := cz_w r q u b) rfl ?_
    refine ez_top (y := nI (n)) (e1) ?_
    refine ez_iret rfl ez_h26 rfl rfl ?_
    refine ez_go ez_h105 1 (pc' := bif decide ((nI (j)) < (nI (n))) then 25 else 15) (L' := [some (.ref 0), some (.int (nI (j)))]) (st' := []) (w' := cz_w r q u b) rfl ?_
    refine ez_ifT (zt_lt (a := j) (b := n) (by omega) (by omega)) ?_
    refine ez_vret rfl ez_h105 rfl rfl ?_
    refine ez_go ez_h113 4 (pc' := 16) (L' := [some (.ref 0), some (.int (nI (i))), some (.int (nI (j)))]) (st' := [.int (nI (j)), .int (nI (i)), .ref 1]) (w' := cz_w r q u b) rfl ?_
    refine ez_cl ez_h113 rfl rfl ?_
    refine ca _ ?_
    refine ez_vret rfl ez_h113 rfl rfl ?_
    exact ⟨rfl, rfl⟩
  · refine ez_m.of (L := [some (.ref 0), some (.int (nI (i))), some (.int (nI (j)))]) rfl rfl rfl ?_
    refine ez_go ez_h69 3 (pc' := 3) (L' := [some (.ref 0), some (.int (nI (i))), some (.int (nI (j)))]) (st' := [.int (nI (i)), .ref 0, .ref 0]) (w' := mz_w A Q U (T.1, T.2)) rfl ?_
    refine ez_cl ez_h69 rfl rfl ?_
    refine ez_m.of (L := [some (.ref 0), some (.int (nI (i)))]) rfl rfl rfl ?_
    refine ez_go ez_h67 2 (pc' := bif decide ((nI (i)) < (nI 0)) then 16 else 4) (L' := [some (.ref 0), some (.int (nI (i)))]) (st' := []) (w' := mz_w A Q U (T.1, T.2)) rfl ?_
    refine ez_ifF (zt_nlt (a := i) (b := 0) (by omega) (by omega)) ?_
    refine ez_go ez_h67 3 (pc' := 9) (L' := [some (.ref 0), some (.int (nI (i)))]) (st' := [.int (A.1), .int (nI (i))]) (w' := mz_w A Q U (T.1, T.2)) rfl ?_
    refine ez_top (y := nI (n)) (e2) ?_
    refine ez_go ez_h67 1 (pc' := bif decide ((nI (n)) ≤ (nI (i))) then 16 else 12) (L' := [some (.ref 0), some (.int (nI (i)))]) (st' := []) (w' := mz_w A Q U (T.1, T.2)) rfl ?_
    refine ez_ifF (zt_nle (a := n) (b := i) (by omega) (by omega)) ?_
    refine ez_go ez_h67 2 (pc' := 17) (L' := [some (.ref 0), some (.int (nI (i)))]) (st' := [.int (nI (1))]) (w' := mz_w A Q U (T.1, T.2)) rfl ?_
    refine ez_zret rfl ez_h67 rfl rfl (by decide) ?_
    refine ez_go ez_h69 1 (pc' := bif decide ((nI (1)) = (nI 0)) then 21 else 9) (L' := [some (.ref 0), some (.int (nI (i))), some (.int (nI (j)))]) (st' := [.ref 0]) (w' := mz_w A Q U (T.1, T.2)) rfl ?_
    refine ez_ifF (by decide) ?_
    refine ez_go ez_h69 2 (pc' := 11) (L' := [some (.ref 0), some (.int (nI (i))), some (.int (nI (j)))]) (st' := [.int (nI (j)), .ref 0, .ref 0]) (w' := mz_w A Q U (T.1, T.2)) rfl ?_
    refine ez_cl ez_h69 rfl rfl ?_
    refine ez_m.of (L := [some (.ref 0), some (.int (nI (j)))]) rfl rfl rfl ?_
    refine ez_go ez_h67 2 (pc' := bif decide ((nI (j)) < (nI 0)) then 16 else 4) (L' := [some (.ref 0), some (.int (nI (j)))]) (st' := []) (w' := mz_w A Q U (T.1, T.2)) rfl ?_
    refine ez_ifF (zt_nlt (a := j) (b := 0) (by omega) (by omega)) ?_
    refine ez_go ez_h67 3 (pc' := 9) (L' := [some (.ref 0), some (.int (nI (j)))]) (st' := [.int (A.1), .int (nI (j))]) (w' := mz_w A Q U (T.1, T.2)) rfl ?_
    refine ez_top (y := nI (n)) (e2) ?_
    refine ez_go ez_h67 1 (pc' := bif decide ((nI (n)) ≤ (nI (j))) then 16 else 12) (L' := [some (.ref 0), some (.int (nI (j)))]) (st' := []) (w' := mz_w A Q U (T.1, T.2)) rfl ?_
    refine ez_ifF (zt_nle (a := n) (b := j) (by omega) (by omega)) ?_
    refine ez_go ez_h67 2 (pc' := 17) (L' := [some (.ref 0), some (.int (nI (j)))]) (st' := [.int (nI (1))]) (w' := mz_w A Q U (T.1, T.2)) rfl ?_
    refine ez_zret rfl ez_h67 rfl rfl (by decide) ?_
    refine ez_go ez_h69 1 (pc' := bif decide ((nI (1)) = (nI 0)) then 21 else 17) (L' := [some (.ref 0), some (.int (nI (i))), some (.int (nI (j)))]) (st' := [.ref 0]) (w' := mz_w A Q U (T.1, T.2)) rfl ?_
    refine ez_ifF (by decide) ?_
    refine ez_go ez_h69 6 (pc' := bif decide (¬ (nI (0)) = (nI 0)) then 38 else 32) (L' := [some (.ref 0), some (.int (nI (i))), some (.int (nI (j)))]) (st' := []) (w' := mz_w A Q U (nI (0), T.2)) rfl ?_
    refine ez_ifF (fun z => z (zt_eq (by omega))) ?_
    refine ez_go ez_h69 3 (pc' := 35) (L' := [some (.ref 0), some (.int (nI (i))), some (.int (nI (j)))]) (st' := [.int (nI (j)), .int (nI (i)), .ref 0]) (w' := mz_w A Q U (nI (0), T.2)) rfl ?_
    refine ez_cl ez_h69 rfl rfl ?_
    refine ma _ ?_
    refine ez_vret rfl ez_h69 rfl rfl ?_
    exact ⟨rfl, rfl⟩
theorem zo_np {n : Nat} {A : mz_A} {Q : mz_Q} {U : mz_U} {T : mz_T} (e2 : A.1 = nI n) {i : Int32} (h : i < 0 ∨ nI n ≤ i) {post : Option Value → ez_W → Prop} (kk : post (some (.int (nI 0))) (mz_w A Q U T)) : ez_m 67 [.ref 0, .int i] (mz_w A Q U T) post := by
  by_cases hi : i < 0
  · refine ez_m.of (L := [some (.ref 0), some (.int (i))]) rfl rfl rfl ?_
    refine ez_go ez_h67 2 (pc' := bif decide (i < (nI 0)) then 16 else 4) (L' := [some (.ref 0), some (.int (i))]) (st' := []) (w' := mz_w A Q U T) rfl ?_
    refine ez_ifT (hi) ?_
    refine ez_go ez_h67 1 (pc' := 17) (L' := [some (.ref 0), some (.int (i))]) (st' := [.int (nI (0))]) (w' := mz_w A Q U T) rfl ?_
    refine ez_zret rfl ez_h67 rfl rfl (by decide) ?_
    exact kk
  · refine ez_m.of (L := [some (.ref 0), some (.int (i))]) rfl rfl rfl ?_
    refine ez_go ez_h67 2 (pc' := bif decide (i < (nI 0)) then 16 else 4) (L' := [some (.ref 0), some (.int (i))]) (st' := []) (w' := mz_w A Q U T) rfl ?_
    refine ez_ifF (hi) ?_
    refine ez_go ez_h67 3 (pc' := 9) (L' := [some (.ref 0), some (.int (i))]) (st' := [.int (A.1), .int (i)]) (w' := mz_w A Q U T) rfl ?_
    refine ez_top (y := nI (n)) (e2) ?_
    refine ez_go ez_h67 1 (pc' := bif decide ((nI (n)) ≤ i) then 16 else 12) (L' := [some (.ref 0), some (.int (i))]) (st' := []) (w' := mz_w A Q U T) rfl ?_
    refine ez_ifT (h.resolve_left hi) ?_
    refine ez_go ez_h67 1 (pc' := 17) (L' := [some (.ref 0), some (.int (i))]) (st' := [.int (nI (0))]) (w' := mz_w A Q U T) rfl ?_
    refine ez_zret rfl ez_h67 rfl rfl (by decide) ?_
    exact kk
theorem zo_exchX1 {n : Nat} {tg : Nat → Nat} {r : cz_Row} {q : cz_Qk} {u : cz_Rn} {b : cz_Bn} {A : mz_A} {Q : mz_Q} {U : mz_U} {T : mz_T} (hR : zl_R n tg r q u b A Q U T) {i j : Int32} (hi : i < 0 ∨ nI n ≤ i) : zo_X (cz_w r q u b) (mz_w A Q U T) 69 [.ref 0, .int i, .int j] 1 := by
  have hR0 := hR
  obtain ⟨hn, ht, e1, e2, e3, e4, e5, e6, h1, h2, h3, f1, f2, f3, f4, f5, f6⟩ := hR
  refine ⟨none, mz_w A Q U (nI 1, T.2), ⟨n, tg, r, q, u, b, A, Q, U, (nI 1, T.2), rfl, rfl, hR0, rfl⟩, ?_⟩
  refine ez_m.of (L := [some (.ref 0), some (.int (i)), some (.int (j))]) rfl rfl rfl ?_
  refine ez_go ez_h69 3 (pc' := 3) (L' := [some (.ref 0), some (.int (i)), some (.int (j))]) (st' := [.int (i), .ref 0, .ref 0]) (w' := mz_w A Q U (T.1, T.2)) rfl ?_
  refine ez_cl ez_h69 rfl rfl ?_
  refine zo_np e2 hi ?_
  refine ez_go ez_h69 1 (pc' := bif decide ((nI (0)) = (nI 0)) then 21 else 9) (L' := [some (.ref 0), some (.int (i)), some (.int (j))]) (st' := [.ref 0]) (w' := mz_w A Q U (T.1, T.2)) rfl ?_
  refine ez_ifT (zt_eq (by omega)) ?_
  refine ez_go ez_h69 5 (pc' := bif decide (¬ (nI (1)) = (nI 0)) then 38 else 32) (L' := [some (.ref 0), some (.int (i)), some (.int (j))]) (st' := []) (w' := mz_w A Q U (nI (1), T.2)) rfl ?_
  refine ez_ifT (zt_ne (by omega) (by omega) (by omega)) ?_
  refine ez_vret rfl ez_h69 rfl rfl ?_
  exact ⟨rfl, rfl⟩
theorem zo_exchX2 {n : Nat} {tg : Nat → Nat} {r : cz_Row} {q : cz_Qk} {u : cz_Rn} {b : cz_Bn} {A : mz_A} {Q : mz_Q} {U : mz_U} {T : mz_T} (hR : zl_R n tg r q u b A Q U T) {i : Nat} {j : Int32} (hi : i < n) (hj : j < 0 ∨ nI n ≤ j) : zo_X (cz_w r q u b) (mz_w A Q U T) 69 [.ref 0, .int (nI i), .int j] 1 := by
  have hR0 := hR
  obtain ⟨hn, ht, e1, e2, e3, e4, e5, e6, h1, h2, h3, f1, f2, f3, f4, f5, f6⟩ := hR
  refine ⟨none, mz_w A Q U (nI 1, T.2), ⟨n, tg, r, q, u, b, A, Q, U, (nI 1, T.2), rfl, rfl, hR0, rfl⟩, ?_⟩
  refine ez_m.of (L := [some (.ref 0), some (.int (nI (i))), some (.int (j))]) rfl rfl rfl ?_
  refine ez_go ez_h69 3 (pc' := 3) (L' := [some (.ref 0), some (.int (nI (i))), some (.int (j))]) (st' := [.int (nI (i)), .ref 0, .ref 0]) (w' := mz_w A Q U (T.1, T.2)) rfl ?_
  refine ez_cl ez_h69 rfl rfl ?_
  refine ez_m.of (L := [some (.ref 0), some (.int (nI (i)))]) rfl rfl rfl ?_
  refine ez_go ez_h67 2 (pc' := bif decide ((nI (i)) < (nI 0)) then 16 else 4) (L' := [some (.ref 0), some (.int (nI (i)))]) (st' := []) (w' := mz_w A Q U (T.1, T.2)) rfl ?_
  refine ez_ifF (zt_nlt (a := i) (b := 0) (by omega) (by omega)) ?_
  refine ez_go ez_h67 3 (pc' := 9) (L' := [some (.ref 0), some (.int (nI (i)))]) (st' := [.int (A.1), .int (nI (i))]) (w' := mz_w A Q U (T.1, T.2)) rfl ?_
  refine ez_top (y := nI (n)) (e2) ?_
  refine ez_go ez_h67 1 (pc' := bif decide ((nI (n)) ≤ (nI (i))) then 16 else 12) (L' := [some (.ref 0), some (.int (nI (i)))]) (st' := []) (w' := mz_w A Q U (T.1, T.2)) rfl ?_
  refine ez_ifF (zt_nle (a := n) (b := i) (by omega) (by omega)) ?_
  refine ez_go ez_h67 2 (pc' := 17) (L' := [some (.ref 0), some (.int (nI (i)))]) (st' := [.int (nI (1))]) (w' := mz_w A Q U (T.1, T.2)) rfl ?_
  refine ez_zret rfl ez_h67 rfl rfl (by decide) ?_
  refine ez_go ez_h69 1 (pc' := bif decide ((nI (1)) = (nI 0)) then 21 else 9) (L' := [some (.ref 0), some (.int (nI (i))), some (.int (j))]) (st' := [.ref 0]) (w' := mz_w A Q U (T.1, T.2)) rfl ?_
  refine ez_ifF (by decide) ?_
  refine ez_go ez_h69 2 (pc' := 11) (L' := [some (.ref 0), some (.int (nI (i))), some (.int (j))]) (st' := [.int (j), .ref 0, .ref 0]) (w' := mz_w A Q U (T.1, T.2)) rfl ?_
  refine ez_cl ez_h69 rfl rfl ?_
  refine zo_np e2 hj ?_
  refine ez_go ez_h69 1 (pc' := bif decide ((nI (0)) = (nI 0)) then 21 else 17) (L' := [some (.ref 0), some (.int (nI (i))), some (.int (j))]) (st' := [.ref 0]) (w' := mz_w A Q U (T.1, T.2)) rfl ?_
  refine ez_ifT (zt_eq (by omega)) ?_
  refine ez_go ez_h69 5 (pc' := bif decide (¬ (nI (1)) = (nI 0)) then 38 else 32) (L' := [some (.ref 0), some (.int (nI (i))), some (.int (j))]) (st' := []) (w' := mz_w A Q U (nI (1), T.2)) rfl ?_
  refine ez_ifT (zt_ne (by omega) (by omega) (by omega)) ?_
  refine ez_vret rfl ez_h69 rfl rfl ?_
  exact ⟨rfl, rfl⟩
theorem zo_get {n : Nat} {tg : Nat → Nat} {r : cz_Row} {q : cz_Qk} {u : cz_Rn} {b : cz_Bn} {A : mz_A} {Q : mz_Q} {U : mz_U} {T : mz_T} (hR : zl_R n tg r q u b A Q U T) {i : Nat} (hi : i < n) : zo_P (cz_w r q u b) (mz_w A Q U T) 116 [.ref 0, .int (nI i)] 100 [.ref 0, .int (nI i)] := by
  have hR0 := hR
  obtain ⟨hn, ht, e1, e2, e3, e4, e5, e6, h1, h2, h3, f1, f2, f3, f4, f5, f6⟩ := hR
  have ht1 := ht i hi
  refine ⟨some (.int (A.2.2.2.2.2.2.2.1 i)), cz_w r q u b, mz_w A Q U (nI 0, T.2), ⟨n, tg, r, q, u, b, A, Q, U, (nI 0, T.2), rfl, rfl, hR0, rfl⟩, ?_, ?_⟩
  · refine ez_m.of (L := [some (.ref 0), some (.int (nI (i)))]) rfl rfl rfl ?_
    refine ez_go ez_h116 2 (pc' := 2) (L' := [some (.ref 0), some (.int (nI (i)))]) (st' := [.int (nI (i)), .ref 0]) (w' := cz_w r q u b) rfl ?_
    refine ez_cl ez_h116 rfl rfl ?_
    refine ez_m.of (L := [some (.ref 0), some (.int (nI (i)))]) rfl rfl rfl ?_
    refine ez_go ez_h105 2 (pc' := bif decide ((nI (i)) < (nI 0)) then 15 else 4) (L' := [some (.ref 0), some (.int (nI (i)))]) (st' := []) (w' := cz_w r q u b) rfl ?_
    refine ez_ifF (zt_nlt (a := i) (b := 0) (by omega) (by omega)) ?_
    refine ez_go ez_h105 3 (pc' := 9) (L' := [some (.ref 0), some (.int (nI (i)))]) (st' := [.ref 1, .int (nI (i))]) (w' := cz_w r q u b) rfl ?_
    refine ez_cl ez_h105 rfl rfl ?_
    refine ez_m.of (L := [some (.ref 1)]) rfl rfl rfl ?_
    refine ez_go ez_h26 2 (pc' := 4) (L' := [some (.ref 1)]) (st' := [.int (r.1)]) (w' := cz_w r q u b) rfl ?_
    refine ez_top (y := nI (n)) (e1) ?_
    refine ez_iret rfl ez_h26 rfl rfl ?_
    refine ez_go ez_h105 1 (pc' := bif decide ((nI (i)) < (nI (n))) then 25 else 15) (L' := [some (.ref 0), some (.int (nI (i)))]) (st' := []) (w' := cz_w r q u b) rfl ?_
    refine ez_ifT (zt_lt (a := i) (b := n) (by omega) (by omega)) ?_
    refine ez_vret rfl ez_h105 rfl rfl ?_
    refine ez_go ez_h116 5 (pc' := 14) (L' := [some (.ref 0), some (.int (nI (i)))]) (st' := [.int (nI (i)), .ref 1, .ref 1]) (w' := cz_w r q u b) rfl ?_
    refine ez_cl ez_h116 rfl rfl ?_
    refine ez_m.of (L := [some (.ref 1), some (.int (nI (i)))]) rfl rfl rfl ?_
    refine ez_go ez_h32 2 (pc' := bif decide ((nI (i)) < (nI 0)) then 22 else 4) (L' := [some (.ref 1), some (.int (nI (i)))]) (st' := []) (w' := cz_w r q u b) rfl ?_
    refine ez_ifF (zt_nlt (a := i) (b := 0) (by omega) (by omega)) ?_
    refine ez_go ez_h32 5 (pc' := bif decide ((nI (600)) ≤ (nI (i))) then 22 else 13) (L' := [some (.ref 1), some (.int (nI (i)))]) (st' := []) (w' := cz_w r q u b) rfl ?_
    refine ez_ifF (zt_nle (a := 600) (b := i) (by omega) (by omega)) ?_
    refine ez_go ez_h32 3 (pc' := 18) (L' := [some (.ref 1), some (.int (nI (i)))]) (st' := [.int (nI (i)), .ref 8]) (w' := cz_w r q u b) rfl ?_
    refine ez_ald ez_h32 rfl rfl (i) rfl (by omega) (by omega) ?_
    refine ez_top (y := nI (tg i)) (h1 i hi) ?_
    refine ez_go ez_h32 1 (pc' := 23) (L' := [some (.ref 1), some (.int (nI (i)))]) (st' := [.int (nI (tg i))]) (w' := cz_w r q u b) rfl ?_
    refine ez_iret rfl ez_h32 rfl rfl ?_
    refine ez_cl ez_h116 rfl rfl ?_
    refine ez_m.of (L := [some (.ref 1), some (.int (nI (tg i)))]) rfl rfl rfl ?_
    refine ez_go ez_h34 2 (pc' := bif decide ((nI (tg i)) < (nI 0)) then 22 else 4) (L' := [some (.ref 1), some (.int (nI (tg i)))]) (st' := []) (w' := cz_w r q u b) rfl ?_
    refine ez_ifF (zt_nlt (a := tg i) (b := 0) (by omega) (by omega)) ?_
    refine ez_go ez_h34 5 (pc' := bif decide ((nI (600)) ≤ (nI (tg i))) then 22 else 13) (L' := [some (.ref 1), some (.int (nI (tg i)))]) (st' := []) (w' := cz_w r q u b) rfl ?_
    refine ez_ifF (zt_nle (a := 600) (b := tg i) (by omega) (by omega)) ?_
    refine ez_go ez_h34 3 (pc' := 18) (L' := [some (.ref 1), some (.int (nI (tg i)))]) (st' := [.int (nI (tg i)), .ref 7]) (w' := cz_w r q u b) rfl ?_
    refine ez_ald ez_h34 rfl rfl (tg i) rfl (by omega) (by omega) ?_
    refine ez_go ez_h34 1 (pc' := 23) (L' := [some (.ref 1), some (.int (nI (tg i)))]) (st' := [.int (r.2.2.2.2.2.2.1 (tg i))]) (w' := cz_w r q u b) rfl ?_
    refine ez_iret rfl ez_h34 rfl rfl ?_
    refine ez_iret rfl ez_h116 rfl rfl ?_
    exact ⟨congrArg (fun z => some (Value.int z)) (h3 i hi).symm, rfl⟩
  · refine ez_m.of (L := [some (.ref 0), some (.int (nI (i)))]) rfl rfl rfl ?_
    refine ez_go ez_h100 3 (pc' := 3) (L' := [some (.ref 0), some (.int (nI (i)))]) (st' := [.int (nI (i)), .ref 0, .ref 0]) (w' := mz_w A Q U (T.1, T.2)) rfl ?_
    refine ez_cl ez_h100 rfl rfl ?_
    refine ez_m.of (L := [some (.ref 0), some (.int (nI (i)))]) rfl rfl rfl ?_
    refine ez_go ez_h67 2 (pc' := bif decide ((nI (i)) < (nI 0)) then 16 else 4) (L' := [some (.ref 0), some (.int (nI (i)))]) (st' := []) (w' := mz_w A Q U (T.1, T.2)) rfl ?_
    refine ez_ifF (zt_nlt (a := i) (b := 0) (by omega) (by omega)) ?_
    refine ez_go ez_h67 3 (pc' := 9) (L' := [some (.ref 0), some (.int (nI (i)))]) (st' := [.int (A.1), .int (nI (i))]) (w' := mz_w A Q U (T.1, T.2)) rfl ?_
    refine ez_top (y := nI (n)) (e2) ?_
    refine ez_go ez_h67 1 (pc' := bif decide ((nI (n)) ≤ (nI (i))) then 16 else 12) (L' := [some (.ref 0), some (.int (nI (i)))]) (st' := []) (w' := mz_w A Q U (T.1, T.2)) rfl ?_
    refine ez_ifF (zt_nle (a := n) (b := i) (by omega) (by omega)) ?_
    refine ez_go ez_h67 2 (pc' := 17) (L' := [some (.ref 0), some (.int (nI (i)))]) (st' := [.int (nI (1))]) (w' := mz_w A Q U (T.1, T.2)) rfl ?_
    refine ez_zret rfl ez_h67 rfl rfl (by decide) ?_
    refine ez_go ez_h100 1 (pc' := bif decide ((nI (1)) = (nI 0)) then 13 else 9) (L' := [some (.ref 0), some (.int (nI (i)))]) (st' := [.ref 0]) (w' := mz_w A Q U (T.1, T.2)) rfl ?_
    refine ez_ifF (by decide) ?_
    refine ez_go ez_h100 6 (pc' := bif decide (¬ (nI (0)) = (nI 0)) then 33 else 24) (L' := [some (.ref 0), some (.int (nI (i)))]) (st' := []) (w' := mz_w A Q U (nI (0), T.2)) rfl ?_
    refine ez_ifF (fun z => z (zt_eq (by omega))) ?_
    refine ez_go ez_h100 3 (pc' := 29) (L' := [some (.ref 0), some (.int (nI (i)))]) (st' := [.int (nI (i)), .ref 1]) (w' := mz_w A Q U (nI (0), T.2)) rfl ?_
    refine ez_ald ez_h100 rfl rfl (i) rfl (by omega) (by omega) ?_
    refine ez_go ez_h100 1 (pc' := 34) (L' := [some (.ref 0), some (.int (nI (i)))]) (st' := [.int (A.2.2.2.2.2.2.2.1 i)]) (w' := mz_w A Q U (nI (0), T.2)) rfl ?_
    refine ez_iret rfl ez_h100 rfl rfl ?_
    exact ⟨rfl, rfl⟩
theorem zo_getX {n : Nat} {tg : Nat → Nat} {r : cz_Row} {q : cz_Qk} {u : cz_Rn} {b : cz_Bn} {A : mz_A} {Q : mz_Q} {U : mz_U} {T : mz_T} (hR : zl_R n tg r q u b A Q U T) {i : Int32} (hi : i < 0 ∨ nI n ≤ i) : zo_X (cz_w r q u b) (mz_w A Q U T) 100 [.ref 0, .int i] 1 := by
  have hR0 := hR
  obtain ⟨hn, ht, e1, e2, e3, e4, e5, e6, h1, h2, h3, f1, f2, f3, f4, f5, f6⟩ := hR
  refine ⟨some (.int (nI 0)), mz_w A Q U (nI 1, T.2), ⟨n, tg, r, q, u, b, A, Q, U, (nI 1, T.2), rfl, rfl, hR0, rfl⟩, ?_⟩
  refine ez_m.of (L := [some (.ref 0), some (.int (i))]) rfl rfl rfl ?_
  refine ez_go ez_h100 3 (pc' := 3) (L' := [some (.ref 0), some (.int (i))]) (st' := [.int (i), .ref 0, .ref 0]) (w' := mz_w A Q U (T.1, T.2)) rfl ?_
  refine ez_cl ez_h100 rfl rfl ?_
  refine zo_np e2 hi ?_
  refine ez_go ez_h100 1 (pc' := bif decide ((nI (0)) = (nI 0)) then 13 else 9) (L' := [some (.ref 0), some (.int (i))]) (st' := [.ref 0]) (w' := mz_w A Q U (T.1, T.2)) rfl ?_
  refine ez_ifT (zt_eq (by omega)) ?_
  refine ez_go ez_h100 5 (pc' := bif decide (¬ (nI (1)) = (nI 0)) then 33 else 24) (L' := [some (.ref 0), some (.int (i))]) (st' := []) (w' := mz_w A Q U (nI (1), T.2)) rfl ?_
  refine ez_ifT (zt_ne (by omega) (by omega) (by omega)) ?_
  refine ez_go ez_h100 1 (pc' := 34) (L' := [some (.ref 0), some (.int (i))]) (st' := [.int (nI (0))]) (w' := mz_w A Q U (nI (1), T.2)) rfl ?_
  refine ez_iret rfl ez_h100 rfl rfl ?_
  exact ⟨rfl, rfl⟩
theorem zo_tag {n : Nat} {tg : Nat → Nat} {r : cz_Row} {q : cz_Qk} {u : cz_Rn} {b : cz_Bn} {A : mz_A} {Q : mz_Q} {U : mz_U} {T : mz_T} (hR : zl_R n tg r q u b A Q U T) {i : Nat} (hi : i < n) : zo_P (cz_w r q u b) (mz_w A Q U T) 117 [.ref 0, .int (nI i)] 101 [.ref 0, .int (nI i)] := by
  have hR0 := hR
  obtain ⟨hn, ht, e1, e2, e3, e4, e5, e6, h1, h2, h3, f1, f2, f3, f4, f5, f6⟩ := hR
  have ht1 := ht i hi
  refine ⟨some (.int (nI (tg i))), cz_w r q u b, mz_w A Q U (nI 0, T.2), ⟨n, tg, r, q, u, b, A, Q, U, (nI 0, T.2), rfl, rfl, hR0, rfl⟩, ?_, ?_⟩
  · refine ez_m.of (L := [some (.ref 0), some (.int (nI (i)))]) rfl rfl rfl ?_
    refine ez_go ez_h117 2 (pc' := 2) (L' := [some (.ref 0), some (.int (nI (i)))]) (st' := [.int (nI (i)), .ref 0]) (w' := cz_w r q u b) rfl ?_
    refine ez_cl ez_h117 rfl rfl ?_
    refine ez_m.of (L := [some (.ref 0), some (.int (nI (i)))]) rfl rfl rfl ?_
    refine ez_go ez_h105 2 (pc' := bif decide ((nI (i)) < (nI 0)) then 15 else 4) (L' := [some (.ref 0), some (.int (nI (i)))]) (st' := []) (w' := cz_w r q u b) rfl ?_
    refine ez_ifF (zt_nlt (a := i) (b := 0) (by omega) (by omega)) ?_
    refine ez_go ez_h105 3 (pc' := 9) (L' := [some (.ref 0), some (.int (nI (i)))]) (st' := [.ref 1, .int (nI (i))]) (w' := cz_w r q u b) rfl ?_
    refine ez_cl ez_h105 rfl rfl ?_
    refine ez_m.of (L := [some (.ref 1)]) rfl rfl rfl ?_
    refine ez_go ez_h26 2 (pc' := 4) (L' := [some (.ref 1)]) (st' := [.int (r.1)]) (w' := cz_w r q u b) rfl ?_
    refine ez_top (y := nI (n)) (e1) ?_
    refine ez_iret rfl ez_h26 rfl rfl ?_
    refine ez_go ez_h105 1 (pc' := bif decide ((nI (i)) < (nI (n))) then 25 else 15) (L' := [some (.ref 0), some (.int (nI (i)))]) (st' := []) (w' := cz_w r q u b) rfl ?_
    refine ez_ifT (zt_lt (a := i) (b := n) (by omega) (by omega)) ?_
    refine ez_vret rfl ez_h105 rfl rfl ?_
    refine ez_go ez_h117 3 (pc' := 10) (L' := [some (.ref 0), some (.int (nI (i)))]) (st' := [.int (nI (i)), .ref 1]) (w' := cz_w r q u b) rfl ?_
    refine ez_cl ez_h117 rfl rfl ?_
    refine ez_m.of (L := [some (.ref 1), some (.int (nI (i)))]) rfl rfl rfl ?_
    refine ez_go ez_h32 2 (pc' := bif decide ((nI (i)) < (nI 0)) then 22 else 4) (L' := [some (.ref 1), some (.int (nI (i)))]) (st' := []) (w' := cz_w r q u b) rfl ?_
    refine ez_ifF (zt_nlt (a := i) (b := 0) (by omega) (by omega)) ?_
    refine ez_go ez_h32 5 (pc' := bif decide ((nI (600)) ≤ (nI (i))) then 22 else 13) (L' := [some (.ref 1), some (.int (nI (i)))]) (st' := []) (w' := cz_w r q u b) rfl ?_
    refine ez_ifF (zt_nle (a := 600) (b := i) (by omega) (by omega)) ?_
    refine ez_go ez_h32 3 (pc' := 18) (L' := [some (.ref 1), some (.int (nI (i)))]) (st' := [.int (nI (i)), .ref 8]) (w' := cz_w r q u b) rfl ?_
    refine ez_ald ez_h32 rfl rfl (i) rfl (by omega) (by omega) ?_
    refine ez_top (y := nI (tg i)) (h1 i hi) ?_
    refine ez_go ez_h32 1 (pc' := 23) (L' := [some (.ref 1), some (.int (nI (i)))]) (st' := [.int (nI (tg i))]) (w' := cz_w r q u b) rfl ?_
    refine ez_iret rfl ez_h32 rfl rfl ?_
    refine ez_iret rfl ez_h117 rfl rfl ?_
    exact ⟨rfl, rfl⟩
  · refine ez_m.of (L := [some (.ref 0), some (.int (nI (i)))]) rfl rfl rfl ?_
    refine ez_go ez_h101 3 (pc' := 3) (L' := [some (.ref 0), some (.int (nI (i)))]) (st' := [.int (nI (i)), .ref 0, .ref 0]) (w' := mz_w A Q U (T.1, T.2)) rfl ?_
    refine ez_cl ez_h101 rfl rfl ?_
    refine ez_m.of (L := [some (.ref 0), some (.int (nI (i)))]) rfl rfl rfl ?_
    refine ez_go ez_h67 2 (pc' := bif decide ((nI (i)) < (nI 0)) then 16 else 4) (L' := [some (.ref 0), some (.int (nI (i)))]) (st' := []) (w' := mz_w A Q U (T.1, T.2)) rfl ?_
    refine ez_ifF (zt_nlt (a := i) (b := 0) (by omega) (by omega)) ?_
    refine ez_go ez_h67 3 (pc' := 9) (L' := [some (.ref 0), some (.int (nI (i)))]) (st' := [.int (A.1), .int (nI (i))]) (w' := mz_w A Q U (T.1, T.2)) rfl ?_
    refine ez_top (y := nI (n)) (e2) ?_
    refine ez_go ez_h67 1 (pc' := bif decide ((nI (n)) ≤ (nI (i))) then 16 else 12) (L' := [some (.ref 0), some (.int (nI (i)))]) (st' := []) (w' := mz_w A Q U (T.1, T.2)) rfl ?_
    refine ez_ifF (zt_nle (a := n) (b := i) (by omega) (by omega)) ?_
    refine ez_go ez_h67 2 (pc' := 17) (L' := [some (.ref 0), some (.int (nI (i)))]) (st' := [.int (nI (1))]) (w' := mz_w A Q U (T.1, T.2)) rfl ?_
    refine ez_zret rfl ez_h67 rfl rfl (by decide) ?_
    refine ez_go ez_h101 1 (pc' := bif decide ((nI (1)) = (nI 0)) then 13 else 9) (L' := [some (.ref 0), some (.int (nI (i)))]) (st' := [.ref 0]) (w' := mz_w A Q U (T.1, T.2)) rfl ?_
    refine ez_ifF (by decide) ?_
    refine ez_go ez_h101 6 (pc' := bif decide (¬ (nI (0)) = (nI 0)) then 33 else 24) (L' := [some (.ref 0), some (.int (nI (i)))]) (st' := []) (w' := mz_w A Q U (nI (0), T.2)) rfl ?_
    refine ez_ifF (fun z => z (zt_eq (by omega))) ?_
    refine ez_go ez_h101 3 (pc' := 29) (L' := [some (.ref 0), some (.int (nI (i)))]) (st' := [.int (nI (i)), .ref 2]) (w' := mz_w A Q U (nI (0), T.2)) rfl ?_
    refine ez_ald ez_h101 rfl rfl (i) rfl (by omega) (by omega) ?_
    refine ez_go ez_h101 1 (pc' := 34) (L' := [some (.ref 0), some (.int (nI (i)))]) (st' := [.int (T.2 i)]) (w' := mz_w A Q U (nI (0), T.2)) rfl ?_
    refine ez_iret rfl ez_h101 rfl rfl ?_
    exact ⟨congrArg (fun z => some (Value.int z)) (h2 i hi), rfl⟩
theorem zo_tagX {n : Nat} {tg : Nat → Nat} {r : cz_Row} {q : cz_Qk} {u : cz_Rn} {b : cz_Bn} {A : mz_A} {Q : mz_Q} {U : mz_U} {T : mz_T} (hR : zl_R n tg r q u b A Q U T) {i : Int32} (hi : i < 0 ∨ nI n ≤ i) : zo_X (cz_w r q u b) (mz_w A Q U T) 101 [.ref 0, .int i] 1 := by
  have hR0 := hR
  obtain ⟨hn, ht, e1, e2, e3, e4, e5, e6, h1, h2, h3, f1, f2, f3, f4, f5, f6⟩ := hR
  refine ⟨some (.int (nI 0)), mz_w A Q U (nI 1, T.2), ⟨n, tg, r, q, u, b, A, Q, U, (nI 1, T.2), rfl, rfl, hR0, rfl⟩, ?_⟩
  refine ez_m.of (L := [some (.ref 0), some (.int (i))]) rfl rfl rfl ?_
  refine ez_go ez_h101 3 (pc' := 3) (L' := [some (.ref 0), some (.int (i))]) (st' := [.int (i), .ref 0, .ref 0]) (w' := mz_w A Q U (T.1, T.2)) rfl ?_
  refine ez_cl ez_h101 rfl rfl ?_
  refine zo_np e2 hi ?_
  refine ez_go ez_h101 1 (pc' := bif decide ((nI (0)) = (nI 0)) then 13 else 9) (L' := [some (.ref 0), some (.int (i))]) (st' := [.ref 0]) (w' := mz_w A Q U (T.1, T.2)) rfl ?_
  refine ez_ifT (zt_eq (by omega)) ?_
  refine ez_go ez_h101 5 (pc' := bif decide (¬ (nI (1)) = (nI 0)) then 33 else 24) (L' := [some (.ref 0), some (.int (i))]) (st' := []) (w' := mz_w A Q U (nI (1), T.2)) rfl ?_
  refine ez_ifT (zt_ne (by omega) (by omega) (by omega)) ?_
  refine ez_go ez_h101 1 (pc' := 34) (L' := [some (.ref 0), some (.int (i))]) (st' := [.int (nI (0))]) (w' := mz_w A Q U (nI (1), T.2)) rfl ?_
  refine ez_iret rfl ez_h101 rfl rfl ?_
  exact ⟨rfl, rfl⟩
theorem zo_clear {n : Nat} {tg : Nat → Nat} {r : cz_Row} {q : cz_Qk} {u : cz_Rn} {b : cz_Bn} {A : mz_A} {Q : mz_Q} {U : mz_U} {T : mz_T} (hR : zl_R n tg r q u b A Q U T)  : zo_P (cz_w r q u b) (mz_w A Q U T) 58 [.ref 0] 104 [.ref 0] := by
  have hR0 := hR
  obtain ⟨hn, ht, e1, e2, e3, e4, e5, e6, h1, h2, h3, f1, f2, f3, f4, f5, f6⟩ := hR
  obtain ⟨sz, ord, asked, adv, cand, stl, num, thg⟩ := r
  obtain ⟨msz, mord, madv, mcand, mnx, mcmp, mlat, mnum, mset, mrow⟩ := A
  obtain ⟨mthr, mtag⟩ := T
  replace e1 : sz = nI n := e1
  replace e2 : msz = nI n := e2
  subst e1 e2
  refine ⟨some (.int (nI n)), cz_w (nI 0, ord, asked, adv, cand, stl, num, thg) q u b, mz_w (nI 0, mord, madv, mcand, mnx, mcmp, mlat, mnum, mset, mrow) Q U (nI 0, mtag), ⟨0, tg, (nI 0, ord, asked, adv, cand, stl, num, thg), q, u, b, (nI 0, mord, madv, mcand, mnx, mcmp, mlat, mnum, mset, mrow), Q, U, (nI 0, mtag), rfl, rfl, ⟨by omega, fun k hk => by omega, rfl, rfl, e3, e4, e5, e6, fun k hk => by omega, fun k hk => by omega, fun k hk => by omega, f1, f2, f3, f4, f5, f6⟩, rfl⟩, ?_, ?_⟩
  · refine ez_m.of (L := [some (.ref 0), none]) rfl rfl rfl ?_
    refine ez_go ez_h58 2 (pc' := 4) (L' := [some (.ref 0), none]) (st' := [.ref 1]) (w' := cz_w (nI (n), ord, asked, adv, cand, stl, num, thg) q u b) rfl ?_
    refine ez_cl ez_h58 rfl rfl ?_
    refine ez_m.of (L := [some (.ref 1)]) rfl rfl rfl ?_
    refine ez_go ez_h26 2 (pc' := 4) (L' := [some (.ref 1)]) (st' := [.int (nI (n))]) (w' := cz_w (nI (n), ord, asked, adv, cand, stl, num, thg) q u b) rfl ?_
    refine ez_iret rfl ez_h26 rfl rfl ?_
    refine ez_go ez_h58 3 (pc' := 12) (L' := [some (.ref 0), some (.int (nI (n)))]) (st' := [.ref 1]) (w' := cz_w (nI (n), ord, asked, adv, cand, stl, num, thg) q u b) rfl ?_
    refine ez_cl ez_h58 rfl rfl ?_
    refine ez_m.of (L := [some (.ref 1)]) rfl rfl rfl ?_
    refine ez_go ez_h30 3 (pc' := 5) (L' := [some (.ref 1)]) (st' := []) (w' := cz_w (nI (0), ord, asked, adv, cand, stl, num, thg) q u b) rfl ?_
    refine ez_vret rfl ez_h30 rfl rfl ?_
    refine ez_go ez_h58 1 (pc' := 16) (L' := [some (.ref 0), some (.int (nI (n)))]) (st' := [.int (nI (n))]) (w' := cz_w (nI (0), ord, asked, adv, cand, stl, num, thg) q u b) rfl ?_
    refine ez_iret rfl ez_h58 rfl rfl ?_
    exact ⟨rfl, rfl⟩
  · refine ez_m.of (L := [some (.ref 0), none]) rfl rfl rfl ?_
    refine ez_go ez_h104 10 (pc' := 16) (L' := [some (.ref 0), some (.int (nI (n)))]) (st' := [.int (nI (n))]) (w' := mz_w (nI (0), mord, madv, mcand, mnx, mcmp, mlat, mnum, mset, mrow) Q U (nI (0), mtag)) rfl ?_
    refine ez_iret rfl ez_h104 rfl rfl ?_
    exact ⟨rfl, rfl⟩
theorem zo_thrown (A : mz_A) (Q : mz_Q) (U : mz_U) (T : mz_T) {post : Option Value → ez_W → Prop} (kk : post (some (.int T.1)) (mz_w A Q U T)) : ez_m 62 [.ref 0] (mz_w A Q U T) post := by
  refine ez_m.of (L := [some (.ref 0)]) rfl rfl rfl ?_
  refine ez_go ez_h62 2 (pc' := 4) (L' := [some (.ref 0)]) (st' := [.int (T.1)]) (w' := mz_w A Q U T) rfl ?_
  refine ez_iret rfl ez_h62 rfl rfl ?_
  exact kk
