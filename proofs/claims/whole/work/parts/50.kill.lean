/-! ===== kill ===== -/
theorem zw_cn0 : ∀ n, zs_cn (fun _ => none) n = 0
  | 0 => rfl
  | n + 1 => by
    show zs_cn (fun _ => none) n + _ = 0
    rw [zw_cn0 n]; rfl
theorem zw_I0 (n : Nat) : zs_I n zw_g0 := ⟨zw_cn0 n, fun k v _ h => (by cases h), fun j k v _ _ h => (by cases h), fun c h => (by cases h)⟩
theorem zw_beg {m : Nat} (hm : m ≤ 600) {ord adv cand stl : Int32} {asked : Int64} {q : cz_Qk} {u : cz_Rn} {b : cz_Bn} {post : Option Value → ez_W → Prop}
    (kk : ∀ num' thg' : Nat → Int32, (∀ j, j < m → num' j = nI m ∧ thg' j = nI j) → ez_E 39 23 [some (.ref 1), none, none] [] (cz_w (nI (m), ord, asked, adv, cand, stl, num', thg') q u b) post) :
    ∀ (s k : Nat) (num thg : Nat → Int32), m ≤ k + s → k ≤ m → (∀ j, j < k → num j = nI m ∧ thg j = nI j) → ez_E 39 7 [some (.ref 1), some (.int (nI (m))), some (.int (nI (k)))] [] (cz_w (nI (k), ord, asked, adv, cand, stl, num, thg) q u b) post := by
  intro s
  induction s with
  | zero =>
    intro k num thg h1 h2 h3
    obtain rfl : k = m := by omega
    refine ez_go ez_h39 3 (pc' := bif decide ((nI (k)) ≤ (nI (k))) then 23 else 12) (L' := [some (.ref 1), some (.int (nI (k))), some (.int (nI (k)))]) (st' := []) (w' := cz_w (nI (k), ord, asked, adv, cand, stl, num, thg) q u b) rfl ?_
    refine ez_ifT (zt_le (a := k) (b := k) (by omega) (by omega)) ?_
    exact ez_E.le (ez_lc (ez_ln (ez_ln ez_l0))) (kk num thg h3)
  | succ s ih =>
    intro k num thg h1 h2 h3
    by_cases hk : m ≤ k
    · skip
      obtain rfl : k = m := by omega
      refine ez_go ez_h39 3 (pc' := bif decide ((nI (k)) ≤ (nI (k))) then 23 else 12) (L' := [some (.ref 1), some (.int (nI (k))), some (.int (nI (k)))]) (st' := []) (w' := cz_w (nI (k), ord, asked, adv, cand, stl, num, thg) q u b) rfl ?_
      refine ez_ifT (zt_le (a := k) (b := k) (by omega) (by omega)) ?_
      exact ez_E.le (ez_lc (ez_ln (ez_ln ez_l0))) (kk num thg h3)
    · skip
      refine ez_go ez_h39 3 (pc' := bif decide ((nI (m)) ≤ (nI (k))) then 23 else 12) (L' := [some (.ref 1), some (.int (nI (m))), some (.int (nI (k)))]) (st' := []) (w' := cz_w (nI (k), ord, asked, adv, cand, stl, num, thg) q u b) rfl ?_
      refine ez_ifF (zt_nle (a := m) (b := k) (by omega) (by omega)) ?_
      refine ez_go ez_h39 2 (pc' := 14) (L' := [some (.ref 1), some (.int (nI (m))), some (.int (nI (k)))]) (st' := [.int (nI (m)), .ref 1]) (w' := cz_w (nI (k), ord, asked, adv, cand, stl, num, thg) q u b) rfl ?_
      refine ez_cl ez_h39 rfl rfl ?_
      refine ez_m.of (L := [some (.ref 1), some (.int (nI (m)))]) rfl rfl rfl ?_
      refine ez_go ez_h31 3 (pc' := bif decide ((nI (k)) < (nI 0)) then 64 else 7) (L' := [some (.ref 1), some (.int (nI (m)))]) (st' := []) (w' := cz_w (nI (k), ord, asked, adv, cand, stl, num, thg) q u b) rfl ?_
      refine ez_ifF (zt_nlt (a := k) (b := 0) (by omega) (by omega)) ?_
      refine ez_go ez_h31 6 (pc' := bif decide ((nI (600)) ≤ (nI (k))) then 64 else 19) (L' := [some (.ref 1), some (.int (nI (m)))]) (st' := []) (w' := cz_w (nI (k), ord, asked, adv, cand, stl, num, thg) q u b) rfl ?_
      refine ez_ifF (zt_nle (a := 600) (b := k) (by omega) (by omega)) ?_
      refine ez_go ez_h31 6 (pc' := bif decide ((nI (600)) ≤ (nI (k))) then 64 else 31) (L' := [some (.ref 1), some (.int (nI (m)))]) (st' := []) (w' := cz_w (nI (k), ord, asked, adv, cand, stl, num, thg) q u b) rfl ?_
      refine ez_ifF (zt_nle (a := 600) (b := k) (by omega) (by omega)) ?_
      refine ez_go ez_h31 5 (pc' := 40) (L' := [some (.ref 1), some (.int (nI (m)))]) (st' := [.int (nI (m)), .int (nI (k)), .ref 7]) (w' := cz_w (nI (k), ord, asked, adv, cand, stl, num, thg) q u b) rfl ?_
      refine ez_ast ez_h31 rfl rfl (k) rfl (by omega) (by omega) ?_
      refine ez_go ez_h31 6 (pc' := 53) (L' := [some (.ref 1), some (.int (nI (m)))]) (st' := [.int (nI (k)), .int (nI (k)), .ref 8]) (w' := cz_w (nI (k), ord, asked, adv, cand, stl, (upd num k (nI (m))), thg) q u b) rfl ?_
      refine ez_ast ez_h31 rfl rfl (k) rfl (by omega) (by omega) ?_
      refine ez_go ez_h31 5 (pc' := 61) (L' := [some (.ref 1), some (.int (nI (m)))]) (st' := [.int ((nI (k)) + (nI (1))), .ref 1]) (w' := cz_w (nI (k), ord, asked, adv, cand, stl, (upd num k (nI (m))), (upd thg k (nI (k)))) q u b) rfl ?_
      refine ez_top (y := nI (k + 1)) (nI_add _ _) ?_
      refine ez_go ez_h31 1 (pc' := 64) (L' := [some (.ref 1), some (.int (nI (m)))]) (st' := []) (w' := cz_w (nI (k + 1), ord, asked, adv, cand, stl, (upd num k (nI (m))), (upd thg k (nI (k)))) q u b) rfl ?_
      refine ez_vret rfl ez_h31 rfl rfl ?_
      refine ez_inc ez_h39 rfl rfl (v := nI (k + 1)) (zi_1 _) rfl ?_
      refine ez_go ez_h39 1 (pc' := 7) (L' := [some (.ref 1), some (.int (nI (m))), some (.int (nI (k + 1)))]) (st' := []) (w' := cz_w (nI (k + 1), ord, asked, adv, cand, stl, (upd num k (nI (m))), (upd thg k (nI (k)))) q u b) rfl ?_
      refine ih (k + 1) _ _ (by omega) (by omega) (fun j hj => ?_)
      by_cases e : j = k
      · rw [e, upd_at, upd_at]; exact ⟨rfl, rfl⟩
      · rw [upd_ne _ _ e, upd_ne _ _ e]; exact h3 j (by omega)
theorem zw_begA {m : Nat} (hm : m ≤ 600) (r : cz_Row) (q : cz_Qk) (u : cz_Rn) (b : cz_Bn) : ∃ num' thg' : Nat → Int32, (∀ j, j < m → num' j = nI m ∧ thg' j = nI j) ∧ ez_is 39 [.ref 1, .int (nI m)] (cz_w r q u b) none (cz_w (nI m, r.2.1, r.2.2.1, 1, -1, nI 0, num', thg') q u b) := by
  suffices hz : ez_m 39 [.ref 1, .int (nI m)] (cz_w r q u b) (fun a v => a = none ∧ ∃ num' thg' : Nat → Int32, (∀ j, j < m → num' j = nI m ∧ thg' j = nI j) ∧ v = cz_w (nI m, r.2.1, r.2.2.1, 1, -1, nI 0, num', thg') q u b) by
    obtain ⟨a, v, ⟨rfl, n1, t1, h1, rfl⟩, hm⟩ := hz.is
    exact ⟨n1, t1, h1, hm⟩
  obtain ⟨sz, ord, asked, adv, cand, stl, num, thg⟩ := r
  refine ez_m.of (L := [some (.ref 1), some (.int (nI (m))), none]) rfl rfl rfl ?_
  refine ez_go ez_h39 5 (pc' := 7) (L' := [some (.ref 1), some (.int (nI (m))), some (.int (nI (0)))]) (st' := []) (w' := cz_w (nI (0), ord, asked, adv, cand, stl, num, thg) q u b) rfl ?_
  refine zw_beg hm (fun n1 t1 h1 => ?_) m 0 num thg (by omega) (by omega) (fun j hj => by omega)
  refine ez_go ez_h39 9 (pc' := 38) (L' := [some (.ref 1), none, none]) (st' := []) (w' := cz_w (nI (m), ord, asked, nI (1), -1, nI (0), n1, t1) q u b) rfl ?_
  refine ez_vret rfl ez_h39 rfl rfl ?_
  exact ⟨rfl, n1, t1, h1, rfl⟩
theorem zw_end {m : Nat} (hm : m ≤ 600) {ord adv cand stl : Int32} {asked : Int64} {num : Nat → Int32} {q : cz_Qk} {u : cz_Rn} {b : cz_Bn} {post : Option Value → ez_W → Prop}
    (kk : ∀ thg' : Nat → Int32, (∀ j, j < m → thg' j = nI j) → post none (cz_w (nI (m), ord, asked, adv, cand, stl, num, thg') q u b)) :
    ∀ (s k : Nat) (thg : Nat → Int32), m ≤ k + s → k ≤ m → (∀ j, j < k → thg j = nI j) → ez_E 40 7 [some (.ref 1), some (.int (nI (k)))] [] (cz_w (nI (m), ord, asked, adv, cand, stl, num, thg) q u b) post := by
  intro s
  induction s with
  | zero =>
    intro k thg h1 h2 h3
    refine ez_go ez_h40 4 (pc' := bif decide ((nI (m)) ≤ (nI (k))) then 27 else 15) (L' := [some (.ref 1), some (.int (nI (k)))]) (st' := []) (w' := cz_w (nI (m), ord, asked, adv, cand, stl, num, thg) q u b) rfl ?_
    refine ez_ifT (zt_le (a := m) (b := k) (by omega) (by omega)) ?_
    refine ez_vret rfl ez_h40 rfl rfl ?_
    exact kk thg (fun j hj => h3 j (by omega))
  | succ s ih =>
    intro k thg h1 h2 h3
    by_cases hk : m ≤ k
    · skip
      refine ez_go ez_h40 4 (pc' := bif decide ((nI (m)) ≤ (nI (k))) then 27 else 15) (L' := [some (.ref 1), some (.int (nI (k)))]) (st' := []) (w' := cz_w (nI (m), ord, asked, adv, cand, stl, num, thg) q u b) rfl ?_
      refine ez_ifT (zt_le (a := m) (b := k) (by omega) (by omega)) ?_
      refine ez_vret rfl ez_h40 rfl rfl ?_
      exact kk thg (fun j hj => h3 j (by omega))
    · skip
      refine ez_go ez_h40 4 (pc' := bif decide ((nI (m)) ≤ (nI (k))) then 27 else 15) (L' := [some (.ref 1), some (.int (nI (k)))]) (st' := []) (w' := cz_w (nI (m), ord, asked, adv, cand, stl, num, thg) q u b) rfl ?_
      refine ez_ifF (zt_nle (a := m) (b := k) (by omega) (by omega)) ?_
      refine ez_go ez_h40 3 (pc' := 18) (L' := [some (.ref 1), some (.int (nI (k)))]) (st' := [.int (nI (k)), .int (nI (k)), .ref 1]) (w' := cz_w (nI (m), ord, asked, adv, cand, stl, num, thg) q u b) rfl ?_
      refine ez_cl ez_h40 rfl rfl ?_
      refine ez_m.of (L := [some (.ref 1), some (.int (nI (k))), some (.int (nI (k)))]) rfl rfl rfl ?_
      refine ez_go ez_h33 2 (pc' := bif decide ((nI (k)) < (nI 0)) then 20 else 4) (L' := [some (.ref 1), some (.int (nI (k))), some (.int (nI (k)))]) (st' := []) (w' := cz_w (nI (m), ord, asked, adv, cand, stl, num, thg) q u b) rfl ?_
      refine ez_ifF (zt_nlt (a := k) (b := 0) (by omega) (by omega)) ?_
      refine ez_go ez_h33 5 (pc' := bif decide ((nI (600)) ≤ (nI (k))) then 20 else 13) (L' := [some (.ref 1), some (.int (nI (k))), some (.int (nI (k)))]) (st' := []) (w' := cz_w (nI (m), ord, asked, adv, cand, stl, num, thg) q u b) rfl ?_
      refine ez_ifF (zt_nle (a := 600) (b := k) (by omega) (by omega)) ?_
      refine ez_go ez_h33 4 (pc' := 19) (L' := [some (.ref 1), some (.int (nI (k))), some (.int (nI (k)))]) (st' := [.int (nI (k)), .int (nI (k)), .ref 8]) (w' := cz_w (nI (m), ord, asked, adv, cand, stl, num, thg) q u b) rfl ?_
      refine ez_ast ez_h33 rfl rfl (k) rfl (by omega) (by omega) ?_
      refine ez_vret rfl ez_h33 rfl rfl ?_
      refine ez_inc ez_h40 rfl rfl (v := nI (k + 1)) (zi_1 _) rfl ?_
      refine ez_go ez_h40 1 (pc' := 7) (L' := [some (.ref 1), some (.int (nI (k + 1)))]) (st' := []) (w' := cz_w (nI (m), ord, asked, adv, cand, stl, num, (upd thg k (nI (k)))) q u b) rfl ?_
      refine ih (k + 1) _ (by omega) (by omega) (fun j hj => ?_)
      by_cases e : j = k
      · rw [e, upd_at]
      · rw [upd_ne _ _ e]; exact h3 j (by omega)
theorem zw_endA {m : Nat} (hm : m ≤ 600) (r : cz_Row) (hr : r.1 = nI m) (q : cz_Qk) (u : cz_Rn) (b : cz_Bn) : ∃ thg' : Nat → Int32, (∀ j, j < m → thg' j = nI j) ∧ ez_is 40 [.ref 1] (cz_w r q u b) none (cz_w (nI m, r.2.1, r.2.2.1, 0, r.2.2.2.2.1, r.2.2.2.2.2.1, r.2.2.2.2.2.2.1, thg') q u b) := by
  suffices hz : ez_m 40 [.ref 1] (cz_w r q u b) (fun a v => a = none ∧ ∃ thg' : Nat → Int32, (∀ j, j < m → thg' j = nI j) ∧ v = cz_w (nI m, r.2.1, r.2.2.1, 0, r.2.2.2.2.1, r.2.2.2.2.2.1, r.2.2.2.2.2.2.1, thg') q u b) by
    obtain ⟨a, v, ⟨rfl, t1, h1, rfl⟩, hm⟩ := hz.is
    exact ⟨t1, h1, hm⟩
  obtain ⟨sz, ord, asked, adv, cand, stl, num, thg⟩ := r
  replace hr : sz = nI m := hr
  subst hr
  refine ez_m.of (L := [some (.ref 1), none]) rfl rfl rfl ?_
  refine ez_go ez_h40 5 (pc' := 7) (L' := [some (.ref 1), some (.int (nI (0)))]) (st' := []) (w' := cz_w (nI (m), ord, asked, nI (0), cand, stl, num, thg) q u b) rfl ?_
  exact zw_end hm (fun t1 h1 => ⟨rfl, t1, h1, rfl⟩) m 0 thg (by omega) (by omega) (fun j hj => by omega)
theorem zw_k1 {m w : Nat} (hm : m ≤ 600) {mord madv mcand mnx x mthr : Int32} {mcmp mlat : Int64} {Q : mz_Q} {U : mz_U} {mnum mrow : Nat → Int32} {post : Option Value → ez_W → Prop}
    (kk : ∀ mset' mtag' : Nat → Int32, (∀ j, j < m → mset' j = -1 ∧ mtag' j = nI j) → ez_E 99 85 [some (.ref 0), some (.int (nI (w))), some (.int (nI (m))), none, none] [] (mz_w (nI (m), mord, madv, mcand, mnx, mcmp, mlat, mnum, mset', mrow) Q U (mthr, mtag')) post) :
    ∀ (s k : Nat) (mset mtag : Nat → Int32), m ≤ k + s → k ≤ m → (∀ j, j < k → mset j = -1 ∧ mtag j = nI j) → ez_E 99 60 [some (.ref 0), some (.int (nI (w))), some (.int (nI (m))), some (.int (nI (k))), none] [] (mz_w (nI (m), mord, madv, mcand, mnx, mcmp, mlat, mnum, mset, mrow) Q U (mthr, mtag)) post := by
  intro s
  induction s with
  | zero =>
    intro k mset mtag h1 h2 h3
    refine ez_go ez_h99 3 (pc' := bif decide ((nI (m)) ≤ (nI (k))) then 85 else 65) (L' := [some (.ref 0), some (.int (nI (w))), some (.int (nI (m))), some (.int (nI (k))), none]) (st' := []) (w' := mz_w (nI (m), mord, madv, mcand, mnx, mcmp, mlat, mnum, mset, mrow) Q U (mthr, mtag)) rfl ?_
    refine ez_ifT (zt_le (a := m) (b := k) (by omega) (by omega)) ?_
    exact ez_E.le (ez_lc (ez_lc (ez_lc (ez_ln (ez_lc ez_l0))))) (kk mset mtag (fun j hj => h3 j (by omega)))
  | succ s ih =>
    intro k mset mtag h1 h2 h3
    by_cases hk : m ≤ k
    · skip
      refine ez_go ez_h99 3 (pc' := bif decide ((nI (m)) ≤ (nI (k))) then 85 else 65) (L' := [some (.ref 0), some (.int (nI (w))), some (.int (nI (m))), some (.int (nI (k))), none]) (st' := []) (w' := mz_w (nI (m), mord, madv, mcand, mnx, mcmp, mlat, mnum, mset, mrow) Q U (mthr, mtag)) rfl ?_
      refine ez_ifT (zt_le (a := m) (b := k) (by omega) (by omega)) ?_
      exact ez_E.le (ez_lc (ez_lc (ez_lc (ez_ln (ez_lc ez_l0))))) (kk mset mtag (fun j hj => h3 j (by omega)))
    · skip
      refine ez_go ez_h99 3 (pc' := bif decide ((nI (m)) ≤ (nI (k))) then 85 else 65) (L' := [some (.ref 0), some (.int (nI (w))), some (.int (nI (m))), some (.int (nI (k))), none]) (st' := []) (w' := mz_w (nI (m), mord, madv, mcand, mnx, mcmp, mlat, mnum, mset, mrow) Q U (mthr, mtag)) rfl ?_
      refine ez_ifF (zt_nle (a := m) (b := k) (by omega) (by omega)) ?_
      refine ez_go ez_h99 4 (pc' := 71) (L' := [some (.ref 0), some (.int (nI (w))), some (.int (nI (m))), some (.int (nI (k))), none]) (st' := [.int (-1), .int (nI (k)), .ref 3]) (w' := mz_w (nI (m), mord, madv, mcand, mnx, mcmp, mlat, mnum, mset, mrow) Q U (mthr, mtag)) rfl ?_
      refine ez_ast ez_h99 rfl rfl (k) rfl (by omega) (by omega) ?_
      refine ez_go ez_h99 4 (pc' := 78) (L' := [some (.ref 0), some (.int (nI (w))), some (.int (nI (m))), some (.int (nI (k))), none]) (st' := [.int (nI (k)), .int (nI (k)), .ref 2]) (w' := mz_w (nI (m), mord, madv, mcand, mnx, mcmp, mlat, mnum, (upd mset k (-1)), mrow) Q U (mthr, mtag)) rfl ?_
      refine ez_ast ez_h99 rfl rfl (k) rfl (by omega) (by omega) ?_
      refine ez_inc ez_h99 rfl rfl (v := nI (k + 1)) (zi_1 _) rfl ?_
      refine ez_go ez_h99 1 (pc' := 60) (L' := [some (.ref 0), some (.int (nI (w))), some (.int (nI (m))), some (.int (nI (k + 1))), none]) (st' := []) (w' := mz_w (nI (m), mord, madv, mcand, mnx, mcmp, mlat, mnum, (upd mset k (-1)), mrow) Q U (mthr, (upd mtag k (nI (k))))) rfl ?_
      refine ih (k + 1) _ _ (by omega) (by omega) (fun j hj => ?_)
      by_cases e : j = k
      · rw [e, upd_at, upd_at]; exact ⟨rfl, rfl⟩
      · rw [upd_ne _ _ e, upd_ne _ _ e]; exact h3 j (by omega)
theorem zw_k2 {m w : Nat} (hm : m ≤ 600) {mord madv mcand mnx x mthr : Int32} {mcmp mlat : Int64} {Q : mz_Q} {U : mz_U} {T : mz_T} {mset mrow : Nat → Int32} {st : Nat → Option Nat} (hst : ∀ k, k < m → mset k = zs_c (st k)) (hlt : ∀ k v, k < m → st k = some v → v < 601) {post : Option Value → ez_W → Prop}
    (kk : ∀ mnum' : Nat → Int32, (∀ j, j < m → mnum' j = nI ((st j).getD m)) → post (some (.int x)) (mz_w (nI (m), mord, madv, mcand, mnx, mcmp, mlat, mnum', mset, mrow) Q U T)) :
    ∀ (s k : Nat) (mnum : Nat → Int32), m ≤ k + s → k ≤ m → (∀ j, j < k → mnum j = nI ((st j).getD m)) → ez_E 99 94 [some (.ref 0), none, some (.int (nI (m))), some (.int (x)), some (.int (nI (k)))] [] (mz_w (nI (m), mord, madv, mcand, mnx, mcmp, mlat, mnum, mset, mrow) Q U T) post := by
  intro s
  induction s with
  | zero =>
    intro k mnum h1 h2 h3
    refine ez_go ez_h99 3 (pc' := bif decide ((nI (m)) ≤ (nI (k))) then 134 else 100) (L' := [some (.ref 0), none, some (.int (nI (m))), some (.int (x)), some (.int (nI (k)))]) (st' := []) (w' := mz_w (nI (m), mord, madv, mcand, mnx, mcmp, mlat, mnum, mset, mrow) Q U T) rfl ?_
    refine ez_ifT (zt_le (a := m) (b := k) (by omega) (by omega)) ?_
    refine ez_go ez_h99 1 (pc' := 135) (L' := [some (.ref 0), none, some (.int (nI (m))), some (.int (x)), some (.int (nI (k)))]) (st' := [.int (x)]) (w' := mz_w (nI (m), mord, madv, mcand, mnx, mcmp, mlat, mnum, mset, mrow) Q U T) rfl ?_
    refine ez_iret rfl ez_h99 rfl rfl ?_
    exact kk mnum (fun j hj => h3 j (by omega))
  | succ s ih =>
    intro k mnum h1 h2 h3
    by_cases hk : m ≤ k
    · skip
      refine ez_go ez_h99 3 (pc' := bif decide ((nI (m)) ≤ (nI (k))) then 134 else 100) (L' := [some (.ref 0), none, some (.int (nI (m))), some (.int (x)), some (.int (nI (k)))]) (st' := []) (w' := mz_w (nI (m), mord, madv, mcand, mnx, mcmp, mlat, mnum, mset, mrow) Q U T) rfl ?_
      refine ez_ifT (zt_le (a := m) (b := k) (by omega) (by omega)) ?_
      refine ez_go ez_h99 1 (pc' := 135) (L' := [some (.ref 0), none, some (.int (nI (m))), some (.int (x)), some (.int (nI (k)))]) (st' := [.int (x)]) (w' := mz_w (nI (m), mord, madv, mcand, mnx, mcmp, mlat, mnum, mset, mrow) Q U T) rfl ?_
      refine ez_iret rfl ez_h99 rfl rfl ?_
      exact kk mnum (fun j hj => h3 j (by omega))
    · cases hv : st k with
      | none =>
        have hv1 : mset k = -1 := by rw [hst k (by omega), hv]; rfl
        refine ez_go ez_h99 3 (pc' := bif decide ((nI (m)) ≤ (nI (k))) then 134 else 100) (L' := [some (.ref 0), none, some (.int (nI (m))), some (.int (x)), some (.int (nI (k)))]) (st' := []) (w' := mz_w (nI (m), mord, madv, mcand, mnx, mcmp, mlat, mnum, mset, mrow) Q U T) rfl ?_
        refine ez_ifF (zt_nle (a := m) (b := k) (by omega) (by omega)) ?_
        refine ez_go ez_h99 6 (pc' := 112) (L' := [some (.ref 0), none, some (.int (nI (m))), some (.int (x)), some (.int (nI (k)))]) (st' := [.int (nI (k)), .ref 3, .int (nI (k)), .ref 1]) (w' := mz_w (nI (m), mord, madv, mcand, mnx, mcmp, mlat, mnum, mset, mrow) Q U T) rfl ?_
        refine ez_ald ez_h99 rfl rfl (k) rfl (by omega) (by omega) ?_
        refine ez_top (y := -1) (hv1) ?_
        refine ez_go ez_h99 1 (pc' := bif decide ((nI 0) ≤ (-1)) then 120 else 116) (L' := [some (.ref 0), none, some (.int (nI (m))), some (.int (x)), some (.int (nI (k)))]) (st' := [.int (nI (k)), .ref 1]) (w' := mz_w (nI (m), mord, madv, mcand, mnx, mcmp, mlat, mnum, mset, mrow) Q U T) rfl ?_
        refine ez_ifF (by decide) ?_
        refine ez_go ez_h99 2 (pc' := 127) (L' := [some (.ref 0), none, some (.int (nI (m))), some (.int (x)), some (.int (nI (k)))]) (st' := [.int (nI (m)), .int (nI (k)), .ref 1]) (w' := mz_w (nI (m), mord, madv, mcand, mnx, mcmp, mlat, mnum, mset, mrow) Q U T) rfl ?_
        refine ez_ast ez_h99 rfl rfl (k) rfl (by omega) (by omega) ?_
        refine ez_inc ez_h99 rfl rfl (v := nI (k + 1)) (zi_1 _) rfl ?_
        refine ez_go ez_h99 1 (pc' := 94) (L' := [some (.ref 0), none, some (.int (nI (m))), some (.int (x)), some (.int (nI (k + 1)))]) (st' := []) (w' := mz_w (nI (m), mord, madv, mcand, mnx, mcmp, mlat, (upd mnum k (nI (m))), mset, mrow) Q U T) rfl ?_
        refine ih (k + 1) _ (by omega) (by omega) (fun j hj => ?_)
        by_cases e : j = k
        · rw [e, upd_at, hv]; rfl
        · rw [upd_ne _ _ e]; exact h3 j (by omega)
      | some v =>
        have hv1 : mset k = nI v := by rw [hst k (by omega), hv]; rfl
        have hv2 := hlt k v (by omega) hv
        refine ez_go ez_h99 3 (pc' := bif decide ((nI (m)) ≤ (nI (k))) then 134 else 100) (L' := [some (.ref 0), none, some (.int (nI (m))), some (.int (x)), some (.int (nI (k)))]) (st' := []) (w' := mz_w (nI (m), mord, madv, mcand, mnx, mcmp, mlat, mnum, mset, mrow) Q U T) rfl ?_
        refine ez_ifF (zt_nle (a := m) (b := k) (by omega) (by omega)) ?_
        refine ez_go ez_h99 6 (pc' := 112) (L' := [some (.ref 0), none, some (.int (nI (m))), some (.int (x)), some (.int (nI (k)))]) (st' := [.int (nI (k)), .ref 3, .int (nI (k)), .ref 1]) (w' := mz_w (nI (m), mord, madv, mcand, mnx, mcmp, mlat, mnum, mset, mrow) Q U T) rfl ?_
        refine ez_ald ez_h99 rfl rfl (k) rfl (by omega) (by omega) ?_
        refine ez_top (y := nI (v)) (hv1) ?_
        refine ez_go ez_h99 1 (pc' := bif decide ((nI 0) ≤ (nI (v))) then 120 else 116) (L' := [some (.ref 0), none, some (.int (nI (m))), some (.int (x)), some (.int (nI (k)))]) (st' := [.int (nI (k)), .ref 1]) (w' := mz_w (nI (m), mord, madv, mcand, mnx, mcmp, mlat, mnum, mset, mrow) Q U T) rfl ?_
        refine ez_ifT (zt_le (a := 0) (b := v) (by omega) (by omega)) ?_
        refine ez_go ez_h99 3 (pc' := 126) (L' := [some (.ref 0), none, some (.int (nI (m))), some (.int (x)), some (.int (nI (k)))]) (st' := [.int (nI (k)), .ref 3, .int (nI (k)), .ref 1]) (w' := mz_w (nI (m), mord, madv, mcand, mnx, mcmp, mlat, mnum, mset, mrow) Q U T) rfl ?_
        refine ez_ald ez_h99 rfl rfl (k) rfl (by omega) (by omega) ?_
        refine ez_top (y := nI (v)) (hv1) ?_
        refine ez_ast ez_h99 rfl rfl (k) rfl (by omega) (by omega) ?_
        refine ez_inc ez_h99 rfl rfl (v := nI (k + 1)) (zi_1 _) rfl ?_
        refine ez_go ez_h99 1 (pc' := 94) (L' := [some (.ref 0), none, some (.int (nI (m))), some (.int (x)), some (.int (nI (k + 1)))]) (st' := []) (w' := mz_w (nI (m), mord, madv, mcand, mnx, mcmp, mlat, (upd mnum k (nI (v))), mset, mrow) Q U T) rfl ?_
        refine ih (k + 1) _ (by omega) (by omega) (fun j hj => ?_)
        by_cases e : j = k
        · rw [e, upd_at, hv]; rfl
        · rw [upd_ne _ _ e]; exact h3 j (by omega)
theorem zo_kill {n : Nat} {tg : Nat → Nat} {r : cz_Row} {q : cz_Qk} {u : cz_Rn} {b : cz_Bn} {A : mz_A} {Q : mz_Q} {U : mz_U} {T : mz_T} (hR : zl_R n tg r q u b A Q U T) {w m : Nat} (hw : w ≤ 4) (hm : m ≤ 600) : ∃ (x : Int32) (r0 r' r2 : cz_Row) (q' : cz_Qk) (u' : cz_Rn) (b1 b' : cz_Bn) (wm' : ez_W), zl_W 0 (cz_w r2 q' u' b') wm' ∧ ez_is 39 [.ref 1, .int (nI m)] (cz_w r q u b) none (cz_w r0 q u b) ∧ ez_is 59 [.ref 0] (cz_w r0 q u b) none (cz_w r0 q u b1) ∧ zw_A w (cz_w r0 q u b1) (cz_w r' q' u' b1) ∧ ez_is 40 [.ref 1] (cz_w r' q' u' b1) none (cz_w r2 q' u' b1) ∧ ez_is 60 [.ref 0] (cz_w r2 q' u' b1) (some (.int x)) (cz_w r2 q' u' b') ∧ ez_is 99 [.ref 0, .int (nI w), .int (nI m)] (mz_w A Q U T) (some (.int x)) wm' := by
  have hR0 := hR
  obtain ⟨hn, ht, e1, e2, e3, e4, e5, e6, h1, h2, h3, f1, f2, f3, f4, f5, f6⟩ := hR
  obtain ⟨num1, thg1, b1, cB⟩ := zw_begA hm r q u b
  obtain ⟨E, hEe⟩ : ∃ E : ze_T, E = (true, m, (fun k => k), (fun _ => 0), A.2.1, (fun _ => 0), (fun _ => 0), r.2.2.1, A.2.2.2.2.2.1) := ⟨_, rfl⟩
  have hE : ze_ok E := by
    rw [hEe]
    exact ⟨hm, fun k hk => hk, fun _ k _ => rfl, fun z => (by cases z)⟩
  have hN : ze_n E = m := by rw [hEe]
  have hw0 : zr_ok E (fun k => k) zw_g0 := ⟨fun k hk => hk, fun _ => by rw [hN]; exact zw_I0 m⟩
  have hcr : cr_R E (fun k => k) zw_g0 (nI m, r.2.1, r.2.2.1, 1, -1, nI 0, num1, thg1) := by
    rw [hEe]
    exact ⟨rfl, e3, (Int64.add_zero _).symm, fun k hk => (b1 k hk).2, rfl, rfl, rfl, fun k hk => (b1 k hk).1⟩
  obtain ⟨row', g', f, p, P', M', o1, hC, hM⟩ := zw_way hE hw0 U.1 U.2.1 hw
  obtain ⟨r', q', u', hr', g1, g2, g3, g4, hAr⟩ := hC _ q u (r.2.2.1, q.2.2.2.2.2.2.2.1, b.2.2.1, b.2.2.2) hcr f5 f6
  have hI : zs_I m g' := by have := o1.2 (by rw [hEe]); rwa [hN] at this
  have k3 : r'.2.2.1 = r.2.2.1 + lN g'.1 := by have := hr'.2.2.1; rw [hEe] at this; exact this
  have k1 : r'.1 = nI m := by have := hr'.1; rw [hEe] at this; exact this
  obtain ⟨thg2, b2, cE⟩ := zw_endA hm r' k1 q' u' (r.2.2.1, q.2.2.2.2.2.2.2.1, b.2.2.1, b.2.2.2)
  have key : ∃ wm', ez_is 99 [.ref 0, .int (nI w), .int (nI m)] (mz_w A Q U T) (some (.int (lN g'.1).toInt32)) wm' ∧ zl_W 0 (cz_w (nI m, r'.2.1, r'.2.2.1, 0, r'.2.2.2.2.1, r'.2.2.2.2.2.1, r'.2.2.2.2.2.2.1, thg2) q' u' (r.2.2.1, q.2.2.2.2.2.2.2.1, lN g'.1, f)) wm' := by
    suffices hz : ez_m 99 [.ref 0, .int (nI w), .int (nI m)] (mz_w A Q U T) (fun a v => a = some (.int (lN g'.1).toInt32) ∧ zl_W 0 (cz_w (nI m, r'.2.1, r'.2.2.1, 0, r'.2.2.2.2.1, r'.2.2.2.2.2.1, r'.2.2.2.2.2.2.1, thg2) q' u' (r.2.2.1, q.2.2.2.2.2.2.2.1, lN g'.1, f)) v) by
      obtain ⟨a, v, ⟨rfl, hv⟩, hm⟩ := hz.is
      exact ⟨v, hm, hv⟩
    obtain ⟨msz, mord, madv, mcand, mnx, mcmp, mlat, mnum, mset, mrow⟩ := A
    obtain ⟨mthr, mtag⟩ := T
    refine ez_m.of (L := [some (.ref 0), some (.int (nI (w))), some (.int (nI (m))), none, none]) rfl rfl rfl ?_
    refine ez_go ez_h99 3 (pc' := bif decide ((nI (w)) < (nI 0)) then 21 else 5) (L' := [some (.ref 0), some (.int (nI (w))), some (.int (nI (m))), none, none]) (st' := [.ref 0]) (w' := mz_w (msz, mord, madv, mcand, mnx, mcmp, mlat, mnum, mset, mrow) Q U (mthr, mtag)) rfl ?_
    refine ez_ifF (zt_nlt (a := w) (b := 0) (by omega) (by omega)) ?_
    refine ez_go ez_h99 3 (pc' := bif decide ((nI (4)) < (nI (w))) then 21 else 10) (L' := [some (.ref 0), some (.int (nI (w))), some (.int (nI (m))), none, none]) (st' := [.ref 0]) (w' := mz_w (msz, mord, madv, mcand, mnx, mcmp, mlat, mnum, mset, mrow) Q U (mthr, mtag)) rfl ?_
    refine ez_ifF (zt_nlt (a := 4) (b := w) (by omega) (by omega)) ?_
    refine ez_go ez_h99 2 (pc' := bif decide ((nI (m)) < (nI 0)) then 21 else 14) (L' := [some (.ref 0), some (.int (nI (w))), some (.int (nI (m))), none, none]) (st' := [.ref 0]) (w' := mz_w (msz, mord, madv, mcand, mnx, mcmp, mlat, mnum, mset, mrow) Q U (mthr, mtag)) rfl ?_
    refine ez_ifF (zt_nlt (a := m) (b := 0) (by omega) (by omega)) ?_
    refine ez_go ez_h99 3 (pc' := bif decide ((nI (m)) ≤ (nI (600))) then 25 else 21) (L' := [some (.ref 0), some (.int (nI (w))), some (.int (nI (m))), none, none]) (st' := [.ref 0]) (w' := mz_w (msz, mord, madv, mcand, mnx, mcmp, mlat, mnum, mset, mrow) Q U (mthr, mtag)) rfl ?_
    refine ez_ifT (zt_le (a := m) (b := 600) (by omega) (by omega)) ?_
    refine ez_go ez_h99 5 (pc' := bif decide ((nI (0)) ≤ (nI 0)) then 38 else 36) (L' := [some (.ref 0), some (.int (nI (w))), some (.int (nI (m))), none, none]) (st' := []) (w' := mz_w (msz, mord, madv, mcand, mnx, mcmp, mlat, mnum, mset, mrow) Q U (nI (0), mtag)) rfl ?_
    refine ez_ifT (zt_le (a := 0) (b := 0) (by omega) (by omega)) ?_
    refine ez_go ez_h99 14 (pc' := 60) (L' := [some (.ref 0), some (.int (nI (w))), some (.int (nI (m))), some (.int (nI (0))), none]) (st' := []) (w' := mz_w (nI (m), mord, nI (1), -1, nI (0), mcmp, mlat, mnum, mset, mrow) Q U (nI (0), mtag)) rfl ?_
    refine zw_k1 (x := 0) hm (fun ms1 mt1 hc1 => ?_) m 0 mset mtag (by omega) (by omega) (fun j hj => by omega)
    refine ez_go ez_h99 2 (pc' := 87) (L' := [some (.ref 0), some (.int (nI (w))), some (.int (nI (m))), none, none]) (st' := [.int (nI (w)), .ref 0]) (w' := mz_w (nI (m), mord, nI (1), -1, nI (0), mcmp, mlat, mnum, ms1, mrow) Q U (nI (0), mt1)) rfl ?_
    refine ez_cl ez_h99 rfl rfl ?_
    refine zw_work hE hM (A := (nI (m), mord, nI (1), -1, nI (0), mcmp, mlat, mnum, ms1, mrow)) (by rw [hEe]; exact ⟨rfl, rfl, rfl, rfl, rfl, rfl, fun k hk => (hc1 k hk).1⟩) rfl rfl (fun A1 Q1 U1 hA1 q1 q2 q3 q4 q5 => ?_)
    obtain ⟨msz1, mord1, madv1, mcand1, mnx1, mcmp1, mlat1, mnum1, mset1, mrow1⟩ := A1
    rw [hEe] at hA1
    obtain ⟨d1, d2, d3, d4, d5, d6, d7, d8, d9⟩ := hA1
    replace d1 : msz1 = nI m := d1
    subst d1
    refine ez_go ez_h99 3 (pc' := 94) (L' := [some (.ref 0), some (.int (nI (w))), some (.int (nI (m))), some (.int ((lN g'.1).toInt32)), some (.int (nI (0)))]) (st' := []) (w' := mz_w (nI (m), mord1, madv1, mcand1, mnx1, mcmp1, mlat1, mnum1, mset1, mrow1) Q1 U1 (nI (0), mt1)) rfl ?_
    refine ez_E.le (ez_lc (ez_ln (ez_lc (ez_lc (ez_lc ez_l0))))) (zw_k2 (w := 0) (mthr := 0) hm (st := g'.2.1) (fun k hk => d9 k hk) (fun k v hk hv => by have := hI.2.1 k v hk hv; have := hI.nx; omega) (fun mn1 hc2 => ⟨rfl, ?_⟩) m 0 mnum1 (by omega) (by omega) (fun j hj => by omega))
    rw [hEe] at hr'
    obtain ⟨x1, x2, x3, x4, x5, x6, x7, x8⟩ := hr'
    refine ⟨m, fun k => k, _, q', u', _, _, _, _, _, rfl, rfl, ⟨hm, fun k hk => hk, rfl, rfl, x2.trans d2.symm, ?_, ?_, rfl, b2, fun k hk => (hc1 k hk).2, ?_, d4.symm, q2.symm, ?_, ?_, g3.trans q4.symm, g4.trans q5.symm⟩, rfl⟩
    · show ze_or mord1
      rw [show mord1 = mord from d2]; exact e4
    · show r'.2.2.1 = mcmp1
      rw [show mcmp1 = mcmp + lN g'.1 from d3, x3]
      show r.2.2.1 + lN g'.1 = mcmp + lN g'.1
      rw [show r.2.2.1 = mcmp from e5]
    · intro k hk
      show mn1 k = r'.2.2.2.2.2.2.1 k
      rw [hc2 k hk]; exact (x8 k hk).symm
    · rw [g1, f3, q1]
    · rw [g2, f4, q3]
  obtain ⟨wm', m1, m2⟩ := key
  exact ⟨(lN g'.1).toInt32, _, r', _, q', u', _, _, wm', m2, cB, zw_begin _ q u b, hAr, cE, zw_stop _ q' u' _ k3 g1, m1⟩
theorem zo_killX {n : Nat} {tg : Nat → Nat} {r : cz_Row} {q : cz_Qk} {u : cz_Rn} {b : cz_Bn} {A : mz_A} {Q : mz_Q} {U : mz_U} {T : mz_T} (hR : zl_R n tg r q u b A Q U T) {x y : Int32} (hx : x < nI 0 ∨ nI 4 < x ∨ y < nI 0 ∨ nI 600 < y) : zo_X (cz_w r q u b) (mz_w A Q U T) 99 [.ref 0, .int x, .int y] 1 := by
  have hR0 := hR
  obtain ⟨hn, ht, e1, e2, e3, e4, e5, e6, h1, h2, h3, f1, f2, f3, f4, f5, f6⟩ := hR
  refine ⟨some (.int (nI 0)), mz_w A Q U (nI 1, T.2), ⟨n, tg, r, q, u, b, A, Q, U, (nI 1, T.2), rfl, rfl, hR0, rfl⟩, ?_⟩
  by_cases a1 : x < nI 0
  · refine ez_m.of (L := [some (.ref 0), some (.int (x)), some (.int (y)), none, none]) rfl rfl rfl ?_
    refine ez_go ez_h99 3 (pc' := bif decide (x < (nI 0)) then 21 else 5) (L' := [some (.ref 0), some (.int (x)), some (.int (y)), none, none]) (st' := [.ref 0]) (w' := mz_w A Q U (T.1, T.2)) rfl ?_
    refine ez_ifT (a1) ?_
    refine ez_go ez_h99 6 (pc' := bif decide ((nI (1)) ≤ (nI 0)) then 38 else 36) (L' := [some (.ref 0), some (.int (x)), some (.int (y)), none, none]) (st' := []) (w' := mz_w A Q U (nI (1), T.2)) rfl ?_
    refine ez_ifF (zt_nle (a := 1) (b := 0) (by omega) (by omega)) ?_
    refine ez_go ez_h99 1 (pc' := 37) (L' := [some (.ref 0), some (.int (x)), some (.int (y)), none, none]) (st' := [.int (nI (0))]) (w' := mz_w A Q U (nI (1), T.2)) rfl ?_
    refine ez_iret rfl ez_h99 rfl rfl ?_
    exact ⟨rfl, rfl⟩
  by_cases a2 : nI 4 < x
  · refine ez_m.of (L := [some (.ref 0), some (.int (x)), some (.int (y)), none, none]) rfl rfl rfl ?_
    refine ez_go ez_h99 3 (pc' := bif decide (x < (nI 0)) then 21 else 5) (L' := [some (.ref 0), some (.int (x)), some (.int (y)), none, none]) (st' := [.ref 0]) (w' := mz_w A Q U (T.1, T.2)) rfl ?_
    refine ez_ifF (a1) ?_
    refine ez_go ez_h99 3 (pc' := bif decide ((nI (4)) < x) then 21 else 10) (L' := [some (.ref 0), some (.int (x)), some (.int (y)), none, none]) (st' := [.ref 0]) (w' := mz_w A Q U (T.1, T.2)) rfl ?_
    refine ez_ifT (a2) ?_
    refine ez_go ez_h99 6 (pc' := bif decide ((nI (1)) ≤ (nI 0)) then 38 else 36) (L' := [some (.ref 0), some (.int (x)), some (.int (y)), none, none]) (st' := []) (w' := mz_w A Q U (nI (1), T.2)) rfl ?_
    refine ez_ifF (zt_nle (a := 1) (b := 0) (by omega) (by omega)) ?_
    refine ez_go ez_h99 1 (pc' := 37) (L' := [some (.ref 0), some (.int (x)), some (.int (y)), none, none]) (st' := [.int (nI (0))]) (w' := mz_w A Q U (nI (1), T.2)) rfl ?_
    refine ez_iret rfl ez_h99 rfl rfl ?_
    exact ⟨rfl, rfl⟩
  by_cases a3 : y < nI 0
  · refine ez_m.of (L := [some (.ref 0), some (.int (x)), some (.int (y)), none, none]) rfl rfl rfl ?_
    refine ez_go ez_h99 3 (pc' := bif decide (x < (nI 0)) then 21 else 5) (L' := [some (.ref 0), some (.int (x)), some (.int (y)), none, none]) (st' := [.ref 0]) (w' := mz_w A Q U (T.1, T.2)) rfl ?_
    refine ez_ifF (a1) ?_
    refine ez_go ez_h99 3 (pc' := bif decide ((nI (4)) < x) then 21 else 10) (L' := [some (.ref 0), some (.int (x)), some (.int (y)), none, none]) (st' := [.ref 0]) (w' := mz_w A Q U (T.1, T.2)) rfl ?_
    refine ez_ifF (a2) ?_
    refine ez_go ez_h99 2 (pc' := bif decide (y < (nI 0)) then 21 else 14) (L' := [some (.ref 0), some (.int (x)), some (.int (y)), none, none]) (st' := [.ref 0]) (w' := mz_w A Q U (T.1, T.2)) rfl ?_
    refine ez_ifT (a3) ?_
    refine ez_go ez_h99 6 (pc' := bif decide ((nI (1)) ≤ (nI 0)) then 38 else 36) (L' := [some (.ref 0), some (.int (x)), some (.int (y)), none, none]) (st' := []) (w' := mz_w A Q U (nI (1), T.2)) rfl ?_
    refine ez_ifF (zt_nle (a := 1) (b := 0) (by omega) (by omega)) ?_
    refine ez_go ez_h99 1 (pc' := 37) (L' := [some (.ref 0), some (.int (x)), some (.int (y)), none, none]) (st' := [.int (nI (0))]) (w' := mz_w A Q U (nI (1), T.2)) rfl ?_
    refine ez_iret rfl ez_h99 rfl rfl ?_
    exact ⟨rfl, rfl⟩
  · refine ez_m.of (L := [some (.ref 0), some (.int (x)), some (.int (y)), none, none]) rfl rfl rfl ?_
    refine ez_go ez_h99 3 (pc' := bif decide (x < (nI 0)) then 21 else 5) (L' := [some (.ref 0), some (.int (x)), some (.int (y)), none, none]) (st' := [.ref 0]) (w' := mz_w A Q U (T.1, T.2)) rfl ?_
    refine ez_ifF (a1) ?_
    refine ez_go ez_h99 3 (pc' := bif decide ((nI (4)) < x) then 21 else 10) (L' := [some (.ref 0), some (.int (x)), some (.int (y)), none, none]) (st' := [.ref 0]) (w' := mz_w A Q U (T.1, T.2)) rfl ?_
    refine ez_ifF (a2) ?_
    refine ez_go ez_h99 2 (pc' := bif decide (y < (nI 0)) then 21 else 14) (L' := [some (.ref 0), some (.int (x)), some (.int (y)), none, none]) (st' := [.ref 0]) (w' := mz_w A Q U (T.1, T.2)) rfl ?_
    refine ez_ifF (a3) ?_
    refine ez_go ez_h99 3 (pc' := bif decide (y ≤ (nI (600))) then 25 else 21) (L' := [some (.ref 0), some (.int (x)), some (.int (y)), none, none]) (st' := [.ref 0]) (w' := mz_w A Q U (T.1, T.2)) rfl ?_
    refine ez_ifF (Int32.not_le.mpr (((hx.resolve_left a1).resolve_left a2).resolve_left a3)) ?_
    refine ez_go ez_h99 6 (pc' := bif decide ((nI (1)) ≤ (nI 0)) then 38 else 36) (L' := [some (.ref 0), some (.int (x)), some (.int (y)), none, none]) (st' := []) (w' := mz_w A Q U (nI (1), T.2)) rfl ?_
    refine ez_ifF (zt_nle (a := 1) (b := 0) (by omega) (by omega)) ?_
    refine ez_go ez_h99 1 (pc' := 37) (L' := [some (.ref 0), some (.int (x)), some (.int (y)), none, none]) (st' := [.int (nI (0))]) (w' := mz_w A Q U (nI (1), T.2)) rfl ?_
    refine ez_iret rfl ez_h99 rfl rfl ?_
    exact ⟨rfl, rfl⟩
