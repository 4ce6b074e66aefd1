def zp_push (p : zp_T) (e : Nat) : zp_T := (p.1 + 1, va_up p.2.1 (p.1 + 1) e, va_up p.2.2.1 p.1 (e - p.2.1 p.1), p.2.2.2.1 + 1, p.2.2.2.2)
theorem zp_ok.push {n : Nat} {p : zp_T} {b e : Nat} (h : zp_ok n p b) (hb : b < e) (he : e ≤ n) (h16 : b + 16 ≤ e ∨ e = n) : zp_ok n (zp_push p e) e := by
  obtain ⟨hh, B, Z, P, M⟩ := p
  obtain ⟨h1, h2, h3, h4, h5⟩ := h
  replace h1 : B 0 = 0 := h1
  replace h2 : ∀ j, j < hh → B j + Z j = B (j + 1) ∧ 1 ≤ Z j := h2
  replace h3 : ∀ j, j < hh → 16 ≤ Z j ∨ (j + 1 = hh ∧ b = n) := h3
  replace h4 : B hh = b := h4
  refine ⟨?_, fun j hj => ?_, fun j hj => ?_, ?_, he⟩
  · show va_up B (hh + 1) e 0 = 0
    rw [va_up_ne _ _ (by omega)]; exact h1
  · replace hj : j < hh + 1 := hj
    show va_up B (hh + 1) e j + va_up Z hh (e - B hh) j = va_up B (hh + 1) e (j + 1) ∧ 1 ≤ va_up Z hh (e - B hh) j
    by_cases c : j = hh
    · subst c
      rw [va_up_ne _ _ (by omega), va_up_self, va_up_self]
      omega
    · rw [va_up_ne _ _ (by omega), va_up_ne _ _ c, va_up_ne _ _ (by omega)]; exact h2 j (by omega)
  · replace hj : j < hh + 1 := hj
    show 16 ≤ va_up Z hh (e - B hh) j ∨ (j + 1 = hh + 1 ∧ e = n)
    by_cases c : j = hh
    · subst c
      rw [va_up_self]
      omega
    · have := h3 j (by omega)
      rw [va_up_ne _ _ c]; omega
  · show va_up B (hh + 1) e (hh + 1) = e
    rw [va_up_self]
theorem cu_push {p : zp_T} {u : cz_Rn} {e : Nat} (hu : cu_R p u) (h38 : p.1 < 40) {bb0 zz : Nat} (hb : p.2.1 p.1 = bb0) (hz : e - p.2.1 p.1 = zz) (r : cz_Row) (q : cz_Qk) (bb : cz_Bn) {post : Option Value → ez_W → Prop} (h : ∀ u' : cz_Rn, cu_R (zp_push p e) u' → post none (cz_w r q u' bb)) : ez_m 48 [.ref 5, .int (nI bb0), .int (nI zz)] (cz_w r q u bb) post := by
  obtain ⟨hh, B, Z, P, M⟩ := p
  obtain ⟨uh, uP, uM, bgs, szs, spr⟩ := u
  obtain ⟨e1, e2, e3, hbz⟩ := hu
  replace e1 : uh = nI hh := e1
  replace e2 : uP = P := e2
  replace e3 : uM = M := e3
  replace h38 : hh < 40 := h38
  replace hb : B hh = bb0 := hb
  replace hz : e - B hh = zz := hz
  subst e1 e2 e3
  replace hbz : ∀ j, j < hh → bgs j = nI (B j) ∧ szs j = nI (Z j) := hbz
  refine ez_m.of (L := [some (.ref 5), some (.int (nI (bb0))), some (.int (nI (zz)))]) rfl rfl rfl ?_
  refine ez_go ez_h48 3 (pc' := bif decide ((nI (hh)) < (nI 0)) then 46 else 7) (L' := [some (.ref 5), some (.int (nI (bb0))), some (.int (nI (zz)))]) (st' := []) (w' := cz_w r q (nI (hh), uP, uM, bgs, szs, spr) bb) rfl ?_
  refine ez_ifF (zt_nlt (a := hh) (b := 0) (by omega) (by omega)) ?_
  refine ez_go ez_h48 4 (pc' := bif decide ((nI (40)) ≤ (nI (hh))) then 46 else 16) (L' := [some (.ref 5), some (.int (nI (bb0))), some (.int (nI (zz)))]) (st' := []) (w' := cz_w r q (nI (hh), uP, uM, bgs, szs, spr) bb) rfl ?_
  refine ez_ifF (zt_nle (a := 40) (b := hh) (by omega) (by omega)) ?_
  refine ez_go ez_h48 5 (pc' := 25) (L' := [some (.ref 5), some (.int (nI (bb0))), some (.int (nI (zz)))]) (st' := [.int (nI (bb0)), .int (nI (hh)), .ref 12]) (w' := cz_w r q (nI (hh), uP, uM, bgs, szs, spr) bb) rfl ?_
  refine ez_ast ez_h48 rfl rfl (hh) rfl (by omega) (by omega) ?_
  refine ez_go ez_h48 5 (pc' := 35) (L' := [some (.ref 5), some (.int (nI (bb0))), some (.int (nI (zz)))]) (st' := [.int (nI (zz)), .int (nI (hh)), .ref 13]) (w' := cz_w r q (nI (hh), uP, uM, (upd bgs hh (nI (bb0))), szs, spr) bb) rfl ?_
  refine ez_ast ez_h48 rfl rfl (hh) rfl (by omega) (by omega) ?_
  refine ez_go ez_h48 5 (pc' := 43) (L' := [some (.ref 5), some (.int (nI (bb0))), some (.int (nI (zz)))]) (st' := [.int ((nI (hh)) + (nI (1))), .ref 5]) (w' := cz_w r q (nI (hh), uP, uM, (upd bgs hh (nI (bb0))), (upd szs hh (nI (zz))), spr) bb) rfl ?_
  refine ez_top (y := nI (hh + 1)) (nI_add _ _) ?_
  refine ez_go ez_h48 7 (pc' := 56) (L' := [some (.ref 5), some (.int (nI (bb0))), some (.int (nI (zz)))]) (st' := []) (w' := cz_w r q (nI (hh + 1), uP + 1, uM, (upd bgs hh (nI (bb0))), (upd szs hh (nI (zz))), spr) bb) rfl ?_
  refine ez_vret rfl ez_h48 rfl rfl (h _ ⟨rfl, rfl, rfl, fun j hj => ?_⟩)
  replace hj : j < hh + 1 := hj
  show upd bgs hh (nI bb0) j = nI (va_up B (hh + 1) e j) ∧ upd szs hh (nI zz) j = nI (va_up Z hh (e - B hh) j)
  rw [va_up_ne _ _ (by omega)]
  by_cases c : j = hh
  · subst c
    rw [pk_us, pk_us, va_up_self, hz, hb]
    exact ⟨rfl, rfl⟩
  · rw [pk_un c, pk_un c, va_up_ne _ _ c]; exact hbz j (by omega)
theorem mu_push {p : zp_T} {U : mz_U} {b e : Nat} (hU : mu_R p U) (h38 : p.1 < 40) (hb : p.2.1 p.1 = b) (hbe : b ≤ e) (A : mz_A) (Q : mz_Q) (T : mz_T) {post : Option Value → ez_W → Prop} (h : ∀ U' : mz_U, mu_R (zp_push p e) U' → ez_E 94 101 [some (.ref 0), some (.int (nI (b))), some (.int (nI (e))), none] [] (mz_w A Q U' T) post) : ez_E 94 61 [some (.ref 0), some (.int (nI (b))), some (.int (nI (e))), none] [] (mz_w A Q U T) post := by
  obtain ⟨hh, B, Z, P, M⟩ := p
  obtain ⟨uP, uM, uh, bgs, ens, oth⟩ := U
  obtain ⟨e2, e3, e1, hbz⟩ := hU
  replace e1 : uh = nI hh := e1
  replace e2 : uP = P := e2
  replace e3 : uM = M := e3
  replace h38 : hh < 40 := h38
  replace hb : B hh = b := hb
  subst e1 e2 e3
  replace hbz : ∀ j, j < hh → bgs j = nI (B j) ∧ ens j = nI (B j + Z j) := hbz
  refine ez_go ez_h94 5 (pc' := 70) (L' := [some (.ref 0), some (.int (nI (b))), some (.int (nI (e))), none]) (st' := [.int (nI (b)), .int (nI (hh)), .ref 6]) (w' := mz_w A Q (uP, uM, nI (hh), bgs, ens, oth) T) rfl ?_
  refine ez_ast ez_h94 rfl rfl (hh) rfl (by omega) (by omega) ?_
  refine ez_go ez_h94 5 (pc' := 80) (L' := [some (.ref 0), some (.int (nI (b))), some (.int (nI (e))), none]) (st' := [.int (nI (e)), .int (nI (hh)), .ref 7]) (w' := mz_w A Q (uP, uM, nI (hh), (upd bgs hh (nI (b))), ens, oth) T) rfl ?_
  refine ez_ast ez_h94 rfl rfl (hh) rfl (by omega) (by omega) ?_
  refine ez_go ez_h94 5 (pc' := 88) (L' := [some (.ref 0), some (.int (nI (b))), some (.int (nI (e))), none]) (st' := [.int ((nI (hh)) + (nI (1))), .ref 0]) (w' := mz_w A Q (uP, uM, nI (hh), (upd bgs hh (nI (b))), (upd ens hh (nI (e))), oth) T) rfl ?_
  refine ez_top (y := nI (hh + 1)) (nI_add _ _) ?_
  refine ez_go ez_h94 7 (pc' := 101) (L' := [some (.ref 0), some (.int (nI (b))), some (.int (nI (e))), none]) (st' := []) (w' := mz_w A Q (uP + 1, uM, nI (hh + 1), (upd bgs hh (nI (b))), (upd ens hh (nI (e))), oth) T) rfl ?_
  refine h _ ⟨rfl, rfl, rfl, fun j hj => ?_⟩
  replace hj : j < hh + 1 := hj
  show upd bgs hh (nI b) j = nI (va_up B (hh + 1) e j) ∧ upd ens hh (nI e) j = nI (va_up B (hh + 1) e j + va_up Z hh (e - B hh) j)
  rw [va_up_ne _ _ (by omega)]
  by_cases c : j = hh
  · subst c
    rw [pk_us, pk_us, va_up_self, hb]
    exact ⟨rfl, by congr 1; omega⟩
  · rw [pk_un c, pk_un c, va_up_ne _ _ c]; exact hbz j (by omega)
theorem zq_all2 {E : ze_T} (hE : ze_ok E) {bd : Nat} {p : zp_T} {row : Nat → Nat} {g : zs_G} (hp : zp_ok (ze_n E) p bd) (hw : zr_ok E row g) :
    ∃ (row' : Nat → Nat) (g' : zs_G) (p' : zp_T), zr_ok E row' g' ∧ zg_le E g g' ∧ zp_in row row' 0 (ze_n E) ∧ zp_ok (ze_n E) p' bd ∧
      cw_M E 52 [.ref 5] row g p none row' g' p' ∧ mw_H E 94 110 [some (.ref 0), none, none, none] row g p none row' g' p' := by
  have hn := hE.1
  have h38 := hp.h hn
  obtain ⟨row', g', p', b1, b2, b3, b4, b5, b6⟩ := zq_all hE p.1 p row g (Nat.le_refl _) hp hw
  refine ⟨row', g', p', b1, b2, b3, b4, ?_, b6⟩
  refine cw_H.m (L := [some (.ref 5), none]) (fun r q u bb post hr hu kk => ?_) rfl rfl rfl
  refine ez_go ez_h52 2 (pc' := 4) (L' := [some (.ref 5), none]) (st' := [.int (u.1)]) (w' := cz_w r q u bb) rfl ?_
  refine ez_top (y := nI (p.1)) (hu.1) ?_
  refine ez_go ez_h52 1 (pc' := 5) (L' := [some (.ref 5), some (.int (nI (p.1)))]) (st' := []) (w' := cz_w r q u bb) rfl ?_
  exact b5 _ q u bb post hr hu kk
theorem zq_loop {E : ze_T} (hE : ze_ok E) : ∀ (m b k : Nat) (p : zp_T) (row : Nat → Nat) (g : zs_G), ze_n E ≤ b + m → k ≤ b → b ≤ ze_n E → zp_ok (ze_n E) p b → zr_ok E row g →
    ∃ (row' : Nat → Nat) (g' : zs_G) (p' : zp_T), zr_ok E row' g' ∧ zg_le E g g' ∧ zp_in row row' 0 (ze_n E) ∧
      cw_H E 44 17 [some (.ref 5), some (.int (nI (ze_n E))), some (.int (nI (b))), some (.int (nI (k))), none] row g p none row' g' p' ∧ mw_H E 94 7 [some (.ref 0), some (.int (nI (b))), none, none] row g p none row' g' p' := by
  have hn := hE.1
  intro m
  induction m with
  | zero =>
    intro b k p row g h1 h2 h3 hp hw
    have h38 := hp.h hn
    obtain ⟨row', g', p', f1, f2, f3, f4, f5, f6⟩ := zq_all2 hE hp hw
    refine ⟨row', g', p', f1, f2, f3, ?_, ?_⟩
    · intro r q u bb post hr hu kk
      by_cases ck : ze_n E ≤ k
      · skip
        refine ez_go ez_h44 3 (pc' := bif decide ((nI (ze_n E)) ≤ (nI (k))) then 63 else 22) (L' := [some (.ref 5), some (.int (nI (ze_n E))), some (.int (nI (b))), some (.int (nI (k))), none]) (st' := []) (w' := cz_w r q u bb) rfl ?_
        refine ez_ifT (zt_le (a := ze_n E) (b := k) (by omega) (by omega)) ?_
        refine ez_go ez_h44 1 (pc' := 64) (L' := [some (.ref 5), some (.int (nI (ze_n E))), some (.int (nI (b))), some (.int (nI (k))), none]) (st' := [.ref 5]) (w' := cz_w r q u bb) rfl ?_
        refine ez_cl ez_h44 rfl rfl ?_
        refine f5 _ q u bb _ hr hu (fun r18 u18 hr18 hu18 => ?_)
        exact ez_vret rfl ez_h44 rfl rfl (kk _ _ hr18 hu18)
      · skip
        refine ez_go ez_h44 3 (pc' := bif decide ((nI (ze_n E)) ≤ (nI (k))) then 63 else 22) (L' := [some (.ref 5), some (.int (nI (ze_n E))), some (.int (nI (b))), some (.int (nI (k))), none]) (st' := []) (w' := cz_w r q u bb) rfl ?_
        refine ez_ifF (zt_nle (a := ze_n E) (b := k) (by omega) (by omega)) ?_
        refine ez_go ez_h44 3 (pc' := bif decide ((nI (ze_n E)) ≤ (nI (b))) then 63 else 27) (L' := [some (.ref 5), some (.int (nI (ze_n E))), some (.int (nI (b))), some (.int (nI (k))), none]) (st' := []) (w' := cz_w r q u bb) rfl ?_
        refine ez_ifT (zt_le (a := ze_n E) (b := b) (by omega) (by omega)) ?_
        refine ez_go ez_h44 1 (pc' := 64) (L' := [some (.ref 5), some (.int (nI (ze_n E))), some (.int (nI (b))), some (.int (nI (k))), none]) (st' := [.ref 5]) (w' := cz_w r q u bb) rfl ?_
        refine ez_cl ez_h44 rfl rfl ?_
        refine f5 _ q u bb _ hr hu (fun r19 u19 hr19 hu19 => ?_)
        exact ez_vret rfl ez_h44 rfl rfl (kk _ _ hr19 hu19)
    · intro A Q U T post hA hU kk
      refine ez_go ez_h94 3 (pc' := 12) (L' := [some (.ref 0), some (.int (nI (b))), none, none]) (st' := [.int (A.1), .int (nI (b))]) (w' := mz_w A Q U T) rfl ?_
      refine ez_top (y := nI (ze_n E)) (hA.1) ?_
      refine ez_go ez_h94 1 (pc' := bif decide ((nI (ze_n E)) ≤ (nI (b))) then 110 else 15) (L' := [some (.ref 0), some (.int (nI (b))), none, none]) (st' := []) (w' := mz_w A Q U T) rfl ?_
      refine ez_ifT (zt_le (a := ze_n E) (b := b) (by omega) (by omega)) ?_
      exact ez_E.le (ez_lc (ez_ln (ez_lc (ez_lc ez_l0)))) (f6 _ Q U T post hA hU kk)
  | succ m ih =>
    intro b k p row g h1 h2 h3 hp hw
    have h38 := hp.h hn
    by_cases hbn : ze_n E ≤ b
    · obtain ⟨row', g', p', f1, f2, f3, f4, f5, f6⟩ := zq_all2 hE hp hw
      refine ⟨row', g', p', f1, f2, f3, ?_, ?_⟩
      · intro r q u bb post hr hu kk
        by_cases ck : ze_n E ≤ k
        · skip
          refine ez_go ez_h44 3 (pc' := bif decide ((nI (ze_n E)) ≤ (nI (k))) then 63 else 22) (L' := [some (.ref 5), some (.int (nI (ze_n E))), some (.int (nI (b))), some (.int (nI (k))), none]) (st' := []) (w' := cz_w r q u bb) rfl ?_
          refine ez_ifT (zt_le (a := ze_n E) (b := k) (by omega) (by omega)) ?_
          refine ez_go ez_h44 1 (pc' := 64) (L' := [some (.ref 5), some (.int (nI (ze_n E))), some (.int (nI (b))), some (.int (nI (k))), none]) (st' := [.ref 5]) (w' := cz_w r q u bb) rfl ?_
          refine ez_cl ez_h44 rfl rfl ?_
          refine f5 _ q u bb _ hr hu (fun r20 u20 hr20 hu20 => ?_)
          exact ez_vret rfl ez_h44 rfl rfl (kk _ _ hr20 hu20)
        · skip
          refine ez_go ez_h44 3 (pc' := bif decide ((nI (ze_n E)) ≤ (nI (k))) then 63 else 22) (L' := [some (.ref 5), some (.int (nI (ze_n E))), some (.int (nI (b))), some (.int (nI (k))), none]) (st' := []) (w' := cz_w r q u bb) rfl ?_
          refine ez_ifF (zt_nle (a := ze_n E) (b := k) (by omega) (by omega)) ?_
          refine ez_go ez_h44 3 (pc' := bif decide ((nI (ze_n E)) ≤ (nI (b))) then 63 else 27) (L' := [some (.ref 5), some (.int (nI (ze_n E))), some (.int (nI (b))), some (.int (nI (k))), none]) (st' := []) (w' := cz_w r q u bb) rfl ?_
          refine ez_ifT (zt_le (a := ze_n E) (b := b) (by omega) (by omega)) ?_
          refine ez_go ez_h44 1 (pc' := 64) (L' := [some (.ref 5), some (.int (nI (ze_n E))), some (.int (nI (b))), some (.int (nI (k))), none]) (st' := [.ref 5]) (w' := cz_w r q u bb) rfl ?_
          refine ez_cl ez_h44 rfl rfl ?_
          refine f5 _ q u bb _ hr hu (fun r21 u21 hr21 hu21 => ?_)
          exact ez_vret rfl ez_h44 rfl rfl (kk _ _ hr21 hu21)
      · intro A Q U T post hA hU kk
        refine ez_go ez_h94 3 (pc' := 12) (L' := [some (.ref 0), some (.int (nI (b))), none, none]) (st' := [.int (A.1), .int (nI (b))]) (w' := mz_w A Q U T) rfl ?_
        refine ez_top (y := nI (ze_n E)) (hA.1) ?_
        refine ez_go ez_h94 1 (pc' := bif decide ((nI (ze_n E)) ≤ (nI (b))) then 110 else 15) (L' := [some (.ref 0), some (.int (nI (b))), none, none]) (st' := []) (w' := mz_w A Q U T) rfl ?_
        refine ez_ifT (zt_le (a := ze_n E) (b := b) (by omega) (by omega)) ?_
        exact ez_E.le (ez_lc (ez_ln (ez_lc (ez_lc ez_l0)))) (f6 _ Q U T post hA hU kk)
    · obtain ⟨row1, g1, e0, a1, a2, a3, a4, a5, a6, a7⟩ := zu_run hE (b := b) (by omega) hw
      obtain ⟨row2, g2, b1, b2, b3, b4, b5, b6⟩ := zu_lengthen hE (b := b) (e := e0) (by omega) a2 a3
      obtain ⟨e1, he1⟩ : ∃ x, x = max e0 (min (b + 16) (ze_n E)) := ⟨_, rfl⟩
      have hpb : p.2.1 p.1 = b := hp.2.2.2.1
      have hp2 : zp_ok (ze_n E) (zp_push p e1) e1 := hp.push (by omega) (by omega) (by omega)
      obtain ⟨row3, g3, p3, d1, d2, d3, d4, d5, d6⟩ := zq_settle hE hp2 b1
      obtain ⟨row', g', p', c1, c2, c3, c4, c5⟩ := ih e1 (k + 1) p3 row3 g3 (by omega) (by omega) (by omega) d4 d1
      refine ⟨row', g', p', c1, ((a4.tr b2).tr d2).tr c2, ((((a5.wide (Nat.zero_le _) (Nat.le_refl _))).tr (b3.wide (Nat.zero_le _) (Nat.le_refl _))).tr d3).tr c3, ?_, ?_⟩
      · intro r q u bb post hr hu kk
        refine ez_go ez_h44 3 (pc' := bif decide ((nI (ze_n E)) ≤ (nI (k))) then 63 else 22) (L' := [some (.ref 5), some (.int (nI (ze_n E))), some (.int (nI (b))), some (.int (nI (k))), none]) (st' := []) (w' := cz_w r q u bb) rfl ?_
        refine ez_ifF (zt_nle (a := ze_n E) (b := k) (by omega) (by omega)) ?_
        refine ez_go ez_h44 3 (pc' := bif decide ((nI (ze_n E)) ≤ (nI (b))) then 63 else 27) (L' := [some (.ref 5), some (.int (nI (ze_n E))), some (.int (nI (b))), some (.int (nI (k))), none]) (st' := []) (w' := cz_w r q u bb) rfl ?_
        refine ez_ifF (zt_nle (a := ze_n E) (b := b) (by omega) (by omega)) ?_
        refine ez_go ez_h44 5 (pc' := 32) (L' := [some (.ref 5), some (.int (nI (ze_n E))), some (.int (nI (b))), some (.int (nI (k))), none]) (st' := [.int (nI (ze_n E)), .int (nI (b)), .ref 5, .int (nI (b)), .ref 5]) (w' := cz_w r q u bb) rfl ?_
        refine ez_cl ez_h44 rfl rfl ?_
        refine a6 _ q u bb _ hr (fun r81 hr81 => ?_)
        refine ez_go ez_h44 1 (pc' := 36) (L' := [some (.ref 5), some (.int (nI (ze_n E))), some (.int (nI (b))), some (.int (nI (k))), none]) (st' := [.int (nI (ze_n E)), .int (nI (e0)), .int (nI (b)), .ref 5]) (w' := cz_w r81 q u bb) rfl ?_
        refine ez_cl ez_h44 rfl rfl ?_
        refine b4 _ q u bb _ hr81 (fun r82 hr82 => ?_)
        rw [← he1]
        refine ez_go ez_h44 6 (pc' := 47) (L' := [some (.ref 5), some (.int (nI (ze_n E))), some (.int (nI (b))), some (.int (nI (k))), some (.int (nI (e1)))]) (st' := [.int ((nI (e1)) - (nI (b))), .int (nI (b)), .ref 5]) (w' := cz_w r82 q u bb) rfl ?_
        refine ez_top (y := nI (e1 - b)) (pk_sub (by omega)) ?_
        refine ez_cl ez_h44 rfl rfl ?_
        refine cu_push (e := e1) hu (by omega) hpb (by rw [hpb]) r82 q bb (fun u83 hu83 => ?_)
        refine ez_go ez_h44 1 (pc' := 51) (L' := [some (.ref 5), some (.int (nI (ze_n E))), some (.int (nI (b))), some (.int (nI (k))), some (.int (nI (e1)))]) (st' := [.ref 5]) (w' := cz_w r82 q u83 bb) rfl ?_
        refine ez_cl ez_h44 rfl rfl ?_
        refine d5 _ q u83 bb _ hr82 hu83 (fun r22 u22 hr22 hu22 => ?_)
        refine ez_go ez_h44 2 (pc' := 57) (L' := [some (.ref 5), some (.int (nI (ze_n E))), some (.int (nI (e1))), some (.int (nI (k))), some (.int (nI (e1)))]) (st' := []) (w' := cz_w r22 q u22 bb) rfl ?_
        refine ez_inc ez_h44 rfl rfl (v := nI (k + 1)) (zi_1 _) rfl ?_
        refine ez_go ez_h44 1 (pc' := 17) (L' := [some (.ref 5), some (.int (nI (ze_n E))), some (.int (nI (e1))), some (.int (nI (k + 1))), some (.int (nI (e1)))]) (st' := []) (w' := cz_w r22 q u22 bb) rfl ?_
        exact ez_E.le (ez_lc (ez_lc (ez_lc (ez_lc (ez_ln ez_l0))))) (c4 _ q u22 bb post hr22 hu22 kk)
      · intro A Q U T post hA hU kk
        by_cases h16 : e0 < b + 16
        · have ee : min (b + 16) (ze_n E) = e1 := by omega
          rw [ee] at b5
          by_cases hto : b + 16 < ze_n E
          · have ee2 : b + 16 = e1 := by omega
            refine ez_go ez_h94 3 (pc' := 12) (L' := [some (.ref 0), some (.int (nI (b))), none, none]) (st' := [.int (A.1), .int (nI (b))]) (w' := mz_w A Q U T) rfl ?_
            refine ez_top (y := nI (ze_n E)) (hA.1) ?_
            refine ez_go ez_h94 1 (pc' := bif decide ((nI (ze_n E)) ≤ (nI (b))) then 110 else 15) (L' := [some (.ref 0), some (.int (nI (b))), none, none]) (st' := []) (w' := mz_w A Q U T) rfl ?_
            refine ez_ifF (zt_nle (a := ze_n E) (b := b) (by omega) (by omega)) ?_
            refine ez_go ez_h94 2 (pc' := 17) (L' := [some (.ref 0), some (.int (nI (b))), none, none]) (st' := [.int (nI (b)), .ref 0]) (w' := mz_w A Q U T) rfl ?_
            refine ez_cl ez_h94 rfl rfl ?_
            refine a7 _ Q U T _ hA (fun A81 hA81 => ?_)
            refine ez_go ez_h94 4 (pc' := 24) (L' := [some (.ref 0), some (.int (nI (b))), some (.int (nI (e0))), none]) (st' := [.int ((nI (e0)) - (nI (b)))]) (w' := mz_w A81 Q U T) rfl ?_
            refine ez_top (y := nI (e0 - b)) (pk_sub (by omega)) ?_
            refine ez_go ez_h94 2 (pc' := bif decide ((nI (16)) ≤ (nI (e0 - b))) then 61 else 29) (L' := [some (.ref 0), some (.int (nI (b))), some (.int (nI (e0))), none]) (st' := []) (w' := mz_w A81 Q U T) rfl ?_
            refine ez_ifF (zt_nle (a := 16) (b := e0 - b) (by omega) (by omega)) ?_
            refine ez_go ez_h94 3 (pc' := 33) (L' := [some (.ref 0), some (.int (nI (b))), some (.int (nI (e0))), none]) (st' := [.int ((nI (b)) + (nI (16)))]) (w' := mz_w A81 Q U T) rfl ?_
            refine ez_top (y := nI (b + 16)) (nI_add _ _) ?_
            refine ez_go ez_h94 2 (pc' := 37) (L' := [some (.ref 0), some (.int (nI (b))), some (.int (nI (e0))), none]) (st' := [.int (A81.1), .int (nI (b + 16))]) (w' := mz_w A81 Q U T) rfl ?_
            refine ez_top (y := nI (ze_n E)) (hA81.1) ?_
            refine ez_go ez_h94 1 (pc' := bif decide ((nI (ze_n E)) ≤ (nI (b + 16))) then 47 else 40) (L' := [some (.ref 0), some (.int (nI (b))), some (.int (nI (e0))), none]) (st' := []) (w' := mz_w A81 Q U T) rfl ?_
            refine ez_ifF (zt_nle (a := ze_n E) (b := b + 16) (by omega) (by omega)) ?_
            refine ez_go ez_h94 3 (pc' := 44) (L' := [some (.ref 0), some (.int (nI (b))), some (.int (nI (e0))), none]) (st' := [.int ((nI (b)) + (nI (16)))]) (w' := mz_w A81 Q U T) rfl ?_
            refine ez_top (y := nI (b + 16)) (nI_add _ _) ?_
            refine ez_go ez_h94 1 (pc' := 51) (L' := [some (.ref 0), some (.int (nI (b))), some (.int (nI (e0))), none]) (st' := [.int (nI (b + 16))]) (w' := mz_w A81 Q U T) rfl ?_
            rw [ee2]
            refine ez_go ez_h94 5 (pc' := 56) (L' := [some (.ref 0), some (.int (nI (b))), some (.int (nI (e0))), some (.int (nI (e1)))]) (st' := [.int (nI (e1)), .int (nI (e0)), .int (nI (b)), .ref 0]) (w' := mz_w A81 Q U T) rfl ?_
            refine ez_cl ez_h94 rfl rfl ?_
            refine b5 (by omega) _ Q U T _ hA81 (fun A82 hA82 => ?_)
            refine ez_go ez_h94 2 (pc' := 61) (L' := [some (.ref 0), some (.int (nI (b))), some (.int (nI (e1))), some (.int (nI (e1)))]) (st' := []) (w' := mz_w A82 Q U T) rfl ?_
            refine ez_E.le (ez_lc (ez_lc (ez_lc (ez_ln ez_l0)))) (mu_push (e := e1) hU (by omega) hpb (by omega) _ Q T (fun U83 hU83 => ?_))
            refine ez_go ez_h94 1 (pc' := 102) (L' := [some (.ref 0), some (.int (nI (b))), some (.int (nI (e1))), none]) (st' := [.ref 0]) (w' := mz_w A82 Q U83 T) rfl ?_
            refine ez_cl ez_h94 rfl rfl ?_
            refine d6 _ Q U83 T _ hA82 hU83 (fun A23 U23 hA23 hU23 => ?_)
            refine ez_go ez_h94 3 (pc' := 7) (L' := [some (.ref 0), some (.int (nI (e1))), some (.int (nI (e1))), none]) (st' := []) (w' := mz_w A23 Q U23 T) rfl ?_
            exact ez_E.le (ez_lc (ez_lc (ez_ln (ez_lc ez_l0)))) (c5 _ Q U23 T post hA23 hU23 kk)
          · have ee2 : ze_n E = e1 := by omega
            refine ez_go ez_h94 3 (pc' := 12) (L' := [some (.ref 0), some (.int (nI (b))), none, none]) (st' := [.int (A.1), .int (nI (b))]) (w' := mz_w A Q U T) rfl ?_
            refine ez_top (y := nI (ze_n E)) (hA.1) ?_
            refine ez_go ez_h94 1 (pc' := bif decide ((nI (ze_n E)) ≤ (nI (b))) then 110 else 15) (L' := [some (.ref 0), some (.int (nI (b))), none, none]) (st' := []) (w' := mz_w A Q U T) rfl ?_
            refine ez_ifF (zt_nle (a := ze_n E) (b := b) (by omega) (by omega)) ?_
            refine ez_go ez_h94 2 (pc' := 17) (L' := [some (.ref 0), some (.int (nI (b))), none, none]) (st' := [.int (nI (b)), .ref 0]) (w' := mz_w A Q U T) rfl ?_
            refine ez_cl ez_h94 rfl rfl ?_
            refine a7 _ Q U T _ hA (fun A81 hA81 => ?_)
            refine ez_go ez_h94 4 (pc' := 24) (L' := [some (.ref 0), some (.int (nI (b))), some (.int (nI (e0))), none]) (st' := [.int ((nI (e0)) - (nI (b)))]) (w' := mz_w A81 Q U T) rfl ?_
            refine ez_top (y := nI (e0 - b)) (pk_sub (by omega)) ?_
            refine ez_go ez_h94 2 (pc' := bif decide ((nI (16)) ≤ (nI (e0 - b))) then 61 else 29) (L' := [some (.ref 0), some (.int (nI (b))), some (.int (nI (e0))), none]) (st' := []) (w' := mz_w A81 Q U T) rfl ?_
            refine ez_ifF (zt_nle (a := 16) (b := e0 - b) (by omega) (by omega)) ?_
            refine ez_go ez_h94 3 (pc' := 33) (L' := [some (.ref 0), some (.int (nI (b))), some (.int (nI (e0))), none]) (st' := [.int ((nI (b)) + (nI (16)))]) (w' := mz_w A81 Q U T) rfl ?_
            refine ez_top (y := nI (b + 16)) (nI_add _ _) ?_
            refine ez_go ez_h94 2 (pc' := 37) (L' := [some (.ref 0), some (.int (nI (b))), some (.int (nI (e0))), none]) (st' := [.int (A81.1), .int (nI (b + 16))]) (w' := mz_w A81 Q U T) rfl ?_
            refine ez_top (y := nI (ze_n E)) (hA81.1) ?_
            refine ez_go ez_h94 1 (pc' := bif decide ((nI (ze_n E)) ≤ (nI (b + 16))) then 47 else 40) (L' := [some (.ref 0), some (.int (nI (b))), some (.int (nI (e0))), none]) (st' := []) (w' := mz_w A81 Q U T) rfl ?_
            refine ez_ifT (zt_le (a := ze_n E) (b := b + 16) (by omega) (by omega)) ?_
            refine ez_go ez_h94 2 (pc' := 51) (L' := [some (.ref 0), some (.int (nI (b))), some (.int (nI (e0))), none]) (st' := [.int (A81.1)]) (w' := mz_w A81 Q U T) rfl ?_
            refine ez_top (y := nI (ze_n E)) (hA81.1) ?_
            rw [ee2]
            refine ez_go ez_h94 5 (pc' := 56) (L' := [some (.ref 0), some (.int (nI (b))), some (.int (nI (e0))), some (.int (nI (e1)))]) (st' := [.int (nI (e1)), .int (nI (e0)), .int (nI (b)), .ref 0]) (w' := mz_w A81 Q U T) rfl ?_
            refine ez_cl ez_h94 rfl rfl ?_
            refine b5 (by omega) _ Q U T _ hA81 (fun A82 hA82 => ?_)
            refine ez_go ez_h94 2 (pc' := 61) (L' := [some (.ref 0), some (.int (nI (b))), some (.int (nI (e1))), some (.int (nI (e1)))]) (st' := []) (w' := mz_w A82 Q U T) rfl ?_
            refine ez_E.le (ez_lc (ez_lc (ez_lc (ez_ln ez_l0)))) (mu_push (e := e1) hU (by omega) hpb (by omega) _ Q T (fun U83 hU83 => ?_))
            refine ez_go ez_h94 1 (pc' := 102) (L' := [some (.ref 0), some (.int (nI (b))), some (.int (nI (e1))), none]) (st' := [.ref 0]) (w' := mz_w A82 Q U83 T) rfl ?_
            refine ez_cl ez_h94 rfl rfl ?_
            refine d6 _ Q U83 T _ hA82 hU83 (fun A24 U24 hA24 hU24 => ?_)
            refine ez_go ez_h94 3 (pc' := 7) (L' := [some (.ref 0), some (.int (nI (e1))), some (.int (nI (e1))), none]) (st' := []) (w' := mz_w A24 Q U24 T) rfl ?_
            exact ez_E.le (ez_lc (ez_lc (ez_ln (ez_lc ez_l0)))) (c5 _ Q U24 T post hA24 hU24 kk)
        · obtain ⟨x1, x2⟩ := b6 (by omega)
          have ee : e0 = e1 := by omega
          refine ez_go ez_h94 3 (pc' := 12) (L' := [some (.ref 0), some (.int (nI (b))), none, none]) (st' := [.int (A.1), .int (nI (b))]) (w' := mz_w A Q U T) rfl ?_
          refine ez_top (y := nI (ze_n E)) (hA.1) ?_
          refine ez_go ez_h94 1 (pc' := bif decide ((nI (ze_n E)) ≤ (nI (b))) then 110 else 15) (L' := [some (.ref 0), some (.int (nI (b))), none, none]) (st' := []) (w' := mz_w A Q U T) rfl ?_
          refine ez_ifF (zt_nle (a := ze_n E) (b := b) (by omega) (by omega)) ?_
          refine ez_go ez_h94 2 (pc' := 17) (L' := [some (.ref 0), some (.int (nI (b))), none, none]) (st' := [.int (nI (b)), .ref 0]) (w' := mz_w A Q U T) rfl ?_
          refine ez_cl ez_h94 rfl rfl ?_
          refine a7 _ Q U T _ hA (fun A81 hA81 => ?_)
          refine ez_go ez_h94 4 (pc' := 24) (L' := [some (.ref 0), some (.int (nI (b))), some (.int (nI (e0))), none]) (st' := [.int ((nI (e0)) - (nI (b)))]) (w' := mz_w A81 Q U T) rfl ?_
          refine ez_top (y := nI (e0 - b)) (pk_sub (by omega)) ?_
          refine ez_go ez_h94 2 (pc' := bif decide ((nI (16)) ≤ (nI (e0 - b))) then 61 else 29) (L' := [some (.ref 0), some (.int (nI (b))), some (.int (nI (e0))), none]) (st' := []) (w' := mz_w A81 Q U T) rfl ?_
          refine ez_ifT (zt_le (a := 16) (b := e0 - b) (by omega) (by omega)) ?_
          rw [← x1, ← x2] at hA81
          rw [ee]
          refine ez_E.le (ez_lc (ez_lc (ez_lc (ez_lc ez_l0)))) (mu_push (e := e1) hU (by omega) hpb (by omega) _ Q T (fun U83 hU83 => ?_))
          refine ez_go ez_h94 1 (pc' := 102) (L' := [some (.ref 0), some (.int (nI (b))), some (.int (nI (e1))), none]) (st' := [.ref 0]) (w' := mz_w A81 Q U83 T) rfl ?_
          refine ez_cl ez_h94 rfl rfl ?_
          refine d6 _ Q U83 T _ hA81 hU83 (fun A25 U25 hA25 hU25 => ?_)
          refine ez_go ez_h94 3 (pc' := 7) (L' := [some (.ref 0), some (.int (nI (e1))), some (.int (nI (e1))), none]) (st' := []) (w' := mz_w A25 Q U25 T) rfl ?_
          exact ez_E.le (ez_lc (ez_lc (ez_ln (ez_lc ez_l0)))) (c5 _ Q U25 T post hA25 hU25 kk)
/-- RUNS: what comes of row, comparator and counts -/
theorem zq_runs {E : ze_T} (hE : ze_ok E) {row : Nat → Nat} {g : zs_G} (hw : zr_ok E row g) (P M : Int64) :
    ∃ (row' : Nat → Nat) (g' : zs_G) (P' M' : Int64), zr_ok E row' g' ∧ zg_le E g g' ∧ zp_in row row' 0 (ze_n E) ∧
      (∀ (r : cz_Row) (q : cz_Qk) (u : cz_Rn) (bb : cz_Bn) (post : Option Value → ez_W → Prop), cr_R E row g r → u.2.1 = P → u.2.2.1 = M → (∀ (r' : cz_Row) (u' : cz_Rn), cr_R E row' g' r' → u'.2.1 = P' → u'.2.2.1 = M' → post none (cz_w r' q u' bb)) → ez_m 44 [.ref 5] (cz_w r q u bb) post) ∧
      (∀ (A : mz_A) (Q : mz_Q) (U : mz_U) (T : mz_T) (post : Option Value → ez_W → Prop), mr_R E row g A → U.1 = P → U.2.1 = M → (∀ (A' : mz_A) (U' : mz_U), mr_R E row' g' A' → U'.1 = P' → U'.2.1 = M' → post none (mz_w A' Q U' T)) → ez_m 94 [.ref 0] (mz_w A Q U T) post) := by
  have hn := hE.1
  have hp : zp_ok (ze_n E) ((0, fun _ => 0, fun _ => 0, P, M) : zp_T) 0 := ⟨rfl, fun k hk => absurd hk (Nat.not_lt_zero _), fun k hk => absurd hk (Nat.not_lt_zero _), rfl, Nat.zero_le _⟩
  obtain ⟨row', g', p', a1, a2, a3, a4, a5⟩ := zq_loop hE (ze_n E) 0 0 _ row g (by omega) (Nat.le_refl _) (Nat.zero_le _) hp hw
  refine ⟨row', g', p'.2.2.2.1, p'.2.2.2.2, a1, a2, a3, fun r q u bb post hr e1 e2 kk => ?_, fun A Q U T post hA e1 e2 kk => ?_⟩
  · obtain ⟨uh, uP, uM, bgs, szs, spr⟩ := u
    replace e1 : uP = P := e1
    replace e2 : uM = M := e2
    subst e1 e2
    refine ez_m.of (L := [some (.ref 5), none, none, none, none]) rfl rfl rfl ?_
    refine ez_go ez_h44 5 (pc' := 9) (L' := [some (.ref 5), none, none, none, none]) (st' := [.ref 1]) (w' := cz_w r q (nI (0), uP, uM, bgs, szs, spr) bb) rfl ?_
    refine ez_cl ez_h44 rfl rfl ?_
    refine cr_size hr q (nI (0), uP, uM, bgs, szs, spr) bb ?_
    refine ez_go ez_h44 5 (pc' := 17) (L' := [some (.ref 5), some (.int (nI (ze_n E))), some (.int (nI (0))), some (.int (nI (0))), none]) (st' := []) (w' := cz_w r q (nI (0), uP, uM, bgs, szs, spr) bb) rfl ?_
    exact ez_E.le (ez_lc (ez_lc (ez_lc (ez_lc (ez_lc ez_l0))))) (a4 _ q (nI (0), uP, uM, bgs, szs, spr) bb post hr ⟨rfl, rfl, rfl, fun k hk => absurd hk (Nat.not_lt_zero _)⟩ (fun r9 u9 hr9 hu9 => kk r9 u9 hr9 hu9.2.1 hu9.2.2.1))
  · obtain ⟨uP, uM, uh, bgs, ens, oth⟩ := U
    replace e1 : uP = P := e1
    replace e2 : uM = M := e2
    subst e1 e2
    refine ez_m.of (L := [some (.ref 0), none, none, none]) rfl rfl rfl ?_
    refine ez_go ez_h94 5 (pc' := 7) (L' := [some (.ref 0), some (.int (nI (0))), none, none]) (st' := []) (w' := mz_w A Q (uP, uM, nI (0), bgs, ens, oth) T) rfl ?_
    exact ez_E.le (ez_lc (ez_lc (ez_lc (ez_lc ez_l0)))) (a5 _ Q (uP, uM, nI (0), bgs, ens, oth) T post hA ⟨rfl, rfl, rfl, fun k hk => absurd hk (Nat.not_lt_zero _)⟩ (fun A9 U9 hA9 hU9 => kk A9 U9 hA9 hU9.1 hU9.2.1))
