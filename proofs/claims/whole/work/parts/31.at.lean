/-- two RUNS of the pile are MERGED -/
theorem zm_at {E : ze_T} (hE : ze_ok E) {p : zp_T} {bd k : Nat} (hp : zp_ok (ze_n E) p bd) (hk : k + 1 < p.1) {row : Nat → Nat} {g : zs_G} (hw : zr_ok E row g) :
    ∃ (row' : Nat → Nat) (g' : zs_G), zr_ok E row' g' ∧ zg_le E g g' ∧ zp_in row row' 0 (ze_n E) ∧ cw_M E 55 [.ref 5, .int (nI k)] row g p none row' g' (zp_mg p k) ∧ mw_M E 91 [.ref 0, .int (nI k)] row g p none row' g' (zp_mg p k) := by
  obtain ⟨hh, B, Z, P, M⟩ := p
  have hn := hE.1
  have h38 := hp.h hn
  replace h38 : hh ≤ 38 := h38
  replace hk : k + 1 < hh := hk
  have q1 : B k + Z k = B (k + 1) ∧ 1 ≤ Z k := hp.2.1 k (by show k < hh; omega)
  have q2 : B (k + 1) + Z (k + 1) = B (k + 1 + 1) ∧ 1 ≤ Z (k + 1) := hp.2.1 (k + 1) hk
  have q3 : B (k + 1 + 1) ≤ bd := hp.le (k := k + 1 + 1) hk
  have q4 : bd ≤ ze_n E := hp.2.2.2.2
  obtain ⟨row', g', a1, a2, a3, a4, a5⟩ := zm_merge hE (b := B k) (c := B (k + 1)) (e := B (k + 1) + Z (k + 1)) (by omega) (by omega) (by omega) hw
  refine ⟨row', g', a1, a2, a3.wide (Nat.zero_le _) (by omega), ?_, ?_⟩
  · refine cw_H.m (L := [some (.ref 5), some (.int (nI (k))), none, none]) (fun r q u bb post hr hu kk => ?_) rfl rfl rfl
    obtain ⟨uh, uP, uM, bgs, szs, spr⟩ := u
    obtain ⟨e1, e2, e3, hbz⟩ := hu
    replace e1 : uh = nI hh := e1
    replace e2 : uP = P := e2
    replace e3 : uM = M := e3
    subst e1 e2 e3
    replace hbz : ∀ j, j < hh → bgs j = nI (B j) ∧ szs j = nI (Z j) := hbz
    refine ez_go ez_h55 2 (pc' := bif decide ((nI (k)) < (nI 0)) then 23 else 4) (L' := [some (.ref 5), some (.int (nI (k))), none, none]) (st' := []) (w' := cz_w r q (nI (hh), uP, uM, bgs, szs, spr) bb) rfl ?_
    refine ez_ifF (zt_nlt (a := k) (b := 0) (by omega) (by omega)) ?_
    refine ez_go ez_h55 3 (pc' := 7) (L' := [some (.ref 5), some (.int (nI (k))), none, none]) (st' := [.int ((nI (k)) + (nI (1)))]) (w' := cz_w r q (nI (hh), uP, uM, bgs, szs, spr) bb) rfl ?_
    refine ez_top (y := nI (k + 1)) (nI_add _ _) ?_
    refine ez_go ez_h55 3 (pc' := bif decide ((nI (hh)) ≤ (nI (k + 1))) then 23 else 14) (L' := [some (.ref 5), some (.int (nI (k))), none, none]) (st' := []) (w' := cz_w r q (nI (hh), uP, uM, bgs, szs, spr) bb) rfl ?_
    refine ez_ifF (zt_nle (a := hh) (b := k + 1) (by omega) (by omega)) ?_
    refine ez_go ez_h55 4 (pc' := bif decide ((nI (hh)) ≤ (nI (40))) then 24 else 23) (L' := [some (.ref 5), some (.int (nI (k))), none, none]) (st' := []) (w' := cz_w r q (nI (hh), uP, uM, bgs, szs, spr) bb) rfl ?_
    refine ez_ifT (zt_le (a := hh) (b := 40) (by omega) (by omega)) ?_
    refine ez_go ez_h55 5 (pc' := 31) (L' := [some (.ref 5), some (.int (nI (k))), none, none]) (st' := [.int ((nI (k)) + (nI (1))), .ref 12]) (w' := cz_w r q (nI (hh), uP, uM, bgs, szs, spr) bb) rfl ?_
    refine ez_top (y := nI (k + 1)) (nI_add _ _) ?_
    refine ez_ald ez_h55 rfl rfl (k + 1) rfl (by omega) (by omega) ?_
    refine ez_top (y := nI (B (k + 1))) ((hbz (k + 1) (by omega)).1) ?_
    refine ez_go ez_h55 5 (pc' := 39) (L' := [some (.ref 5), some (.int (nI (k))), some (.int (nI (B (k + 1)))), none]) (st' := [.int (nI (k)), .ref 12, .ref 5]) (w' := cz_w r q (nI (hh), uP, uM, bgs, szs, spr) bb) rfl ?_
    refine ez_ald ez_h55 rfl rfl (k) rfl (by omega) (by omega) ?_
    refine ez_top (y := nI (B k)) ((hbz k (by omega)).1) ?_
    refine ez_go ez_h55 7 (pc' := 49) (L' := [some (.ref 5), some (.int (nI (k))), some (.int (nI (B (k + 1)))), none]) (st' := [.int ((nI (k)) + (nI (1))), .ref 13, .int (nI (B (k + 1))), .int (nI (B (k + 1))), .int (nI (B k)), .ref 5]) (w' := cz_w r q (nI (hh), uP, uM, bgs, szs, spr) bb) rfl ?_
    refine ez_top (y := nI (k + 1)) (nI_add _ _) ?_
    refine ez_ald ez_h55 rfl rfl (k + 1) rfl (by omega) (by omega) ?_
    refine ez_top (y := nI (Z (k + 1))) ((hbz (k + 1) (by omega)).2) ?_
    refine ez_go ez_h55 1 (pc' := 51) (L' := [some (.ref 5), some (.int (nI (k))), some (.int (nI (B (k + 1)))), none]) (st' := [.int ((nI (B (k + 1))) + (nI (Z (k + 1)))), .int (nI (B (k + 1))), .int (nI (B k)), .ref 5]) (w' := cz_w r q (nI (hh), uP, uM, bgs, szs, spr) bb) rfl ?_
    refine ez_top (y := nI ((B (k + 1)) + (Z (k + 1)))) (nI_add _ _) ?_
    refine ez_cl ez_h55 rfl rfl ?_
    refine a4 _ q (nI (hh), uP, uM, bgs, szs, spr) bb _ hr (fun r9 spr9 hr9 => ?_)
    refine ez_go ez_h55 4 (pc' := 60) (L' := [some (.ref 5), some (.int (nI (k))), some (.int (nI (B (k + 1)))), none]) (st' := [.int (nI (k)), .ref 13, .int (nI (k)), .ref 13]) (w' := cz_w r9 q (nI (hh), uP, uM, bgs, szs, spr9) bb) rfl ?_
    refine ez_ald ez_h55 rfl rfl (k) rfl (by omega) (by omega) ?_
    refine ez_top (y := nI (Z k)) ((hbz k (by omega)).2) ?_
    refine ez_go ez_h55 5 (pc' := 68) (L' := [some (.ref 5), some (.int (nI (k))), some (.int (nI (B (k + 1)))), none]) (st' := [.int ((nI (k)) + (nI (1))), .ref 13, .int (nI (Z k)), .int (nI (k)), .ref 13]) (w' := cz_w r9 q (nI (hh), uP, uM, bgs, szs, spr9) bb) rfl ?_
    refine ez_top (y := nI (k + 1)) (nI_add _ _) ?_
    refine ez_ald ez_h55 rfl rfl (k + 1) rfl (by omega) (by omega) ?_
    refine ez_top (y := nI (Z (k + 1))) ((hbz (k + 1) (by omega)).2) ?_
    refine ez_go ez_h55 1 (pc' := 70) (L' := [some (.ref 5), some (.int (nI (k))), some (.int (nI (B (k + 1)))), none]) (st' := [.int ((nI (Z k)) + (nI (Z (k + 1)))), .int (nI (k)), .ref 13]) (w' := cz_w r9 q (nI (hh), uP, uM, bgs, szs, spr9) bb) rfl ?_
    refine ez_top (y := nI ((Z k) + (Z (k + 1)))) (nI_add _ _) ?_
    refine ez_ast ez_h55 rfl rfl (k) rfl (by omega) (by omega) ?_
    refine ez_go ez_h55 3 (pc' := 74) (L' := [some (.ref 5), some (.int (nI (k))), some (.int (nI (B (k + 1)))), none]) (st' := [.int ((nI (k)) + (nI (2)))]) (w' := cz_w r9 q (nI (hh), uP, uM, bgs, (upd szs k (nI ((Z k) + (Z (k + 1))))), spr9) bb) rfl ?_
    refine ez_top (y := nI (k + 2)) (nI_add _ _) ?_
    refine ez_go ez_h55 1 (pc' := 75) (L' := [some (.ref 5), some (.int (nI (k))), some (.int (nI (B (k + 1)))), some (.int (nI (k + 2)))]) (st' := []) (w' := cz_w r9 q (nI (hh), uP, uM, bgs, (upd szs k (nI ((Z k) + (Z (k + 1))))), spr9) bb) rfl ?_
    refine ez_E.le (ez_lc (ez_lc (ez_ln (ez_lc ez_l0)))) (zp_cdn (B := B) (Z := Z) hk h38 hh (k + 2) _ _ (by omega) (by omega) (by omega) (fun j hj => ?_) (fun j j1 j2 => ?_) _ q uP uM _ bb post (fun bgs' szs' hz => ?_))
    · unfold zp_mB zp_mZ
      by_cases ej : j = k
      · subst ej
        rw [pk_us, if_pos (Nat.le_refl _), if_neg (by omega), if_pos rfl]
        exact ⟨(hbz j (by omega)).1, rfl⟩
      · rw [pk_un ej, if_pos (by omega), if_pos (by omega)]; exact hbz j (by omega)
    · rw [pk_un (by omega)]; exact hbz j (by omega)
    refine ez_go ez_h55 5 (pc' := 122) (L' := [some (.ref 5), some (.int (nI (k))), none, none]) (st' := [.int ((nI (hh)) - (nI (1))), .ref 5]) (w' := cz_w r9 q (nI (hh), uP, uM, bgs', szs', spr9) bb) rfl ?_
    refine ez_top (y := nI (hh - 1)) (pk_sub (by omega)) ?_
    refine ez_go ez_h55 7 (pc' := 135) (L' := [some (.ref 5), some (.int (nI (k))), none, none]) (st' := []) (w' := cz_w r9 q (nI (hh - 1), uP, uM + 1, bgs', szs', spr9) bb) rfl ?_
    exact ez_vret rfl ez_h55 rfl rfl (kk _ _ hr9 ⟨rfl, rfl, rfl, fun j hj => hz j (by have : j < hh - 1 := hj; omega)⟩)
  · refine mw_H.m (L := [some (.ref 0), some (.int (nI (k))), none, none, none, none, none, none, none]) (fun A Q U T post hA hU kk => ?_) rfl rfl rfl
    obtain ⟨uP, uM, uh, bgs, ens, oth⟩ := U
    obtain ⟨e2, e3, e1, hbz⟩ := hU
    replace e1 : uh = nI hh := e1
    replace e2 : uP = P := e2
    replace e3 : uM = M := e3
    subst e1 e2 e3
    replace hbz : ∀ j, j < hh → bgs j = nI (B j) ∧ ens j = nI (B j + Z j) := hbz
    refine ez_go ez_h91 3 (pc' := 5) (L' := [some (.ref 0), some (.int (nI (k))), none, none, none, none, none, none, none]) (st' := [.int (nI (k)), .ref 6]) (w' := mz_w A Q (uP, uM, nI (hh), bgs, ens, oth) T) rfl ?_
    refine ez_ald ez_h91 rfl rfl (k) rfl (by omega) (by omega) ?_
    refine ez_top (y := nI (B k)) ((hbz k (by omega)).1) ?_
    refine ez_go ez_h91 6 (pc' := 14) (L' := [some (.ref 0), some (.int (nI (k))), some (.int (nI (B k))), none, none, none, none, none, none]) (st' := [.int ((nI (k)) + (nI (1))), .ref 6]) (w' := mz_w A Q (uP, uM, nI (hh), bgs, ens, oth) T) rfl ?_
    refine ez_top (y := nI (k + 1)) (nI_add _ _) ?_
    refine ez_ald ez_h91 rfl rfl (k + 1) rfl (by omega) (by omega) ?_
    refine ez_top (y := nI (B (k + 1))) ((hbz (k + 1) (by omega)).1) ?_
    refine ez_go ez_h91 6 (pc' := 23) (L' := [some (.ref 0), some (.int (nI (k))), some (.int (nI (B k))), some (.int (nI (B (k + 1)))), none, none, none, none, none]) (st' := [.int ((nI (k)) + (nI (1))), .ref 7]) (w' := mz_w A Q (uP, uM, nI (hh), bgs, ens, oth) T) rfl ?_
    refine ez_top (y := nI (k + 1)) (nI_add _ _) ?_
    refine ez_ald ez_h91 rfl rfl (k + 1) rfl (by omega) (by omega) ?_
    refine ez_top (y := nI (B (k + 1) + Z (k + 1))) ((hbz (k + 1) (by omega)).2) ?_
    refine ez_go ez_h91 1 (pc' := 26) (L' := [some (.ref 0), some (.int (nI (k))), some (.int (nI (B k))), some (.int (nI (B (k + 1)))), some (.int (nI (B (k + 1) + Z (k + 1)))), none, none, none, none]) (st' := []) (w' := mz_w A Q (uP, uM, nI (hh), bgs, ens, oth) T) rfl ?_
    refine a5 oth _ Q uP uM (nI hh) bgs ens T k post hA (fun A9 mo9 hA9 => ?_)
    refine ez_go ez_h91 4 (pc' := 169) (L' := [some (.ref 0), some (.int (nI (k))), none, none, some (.int (nI (B (k + 1) + Z (k + 1)))), none, none, none, none]) (st' := [.int (nI (B (k + 1) + Z (k + 1))), .int (nI (k)), .ref 7]) (w' := mz_w A9 Q (uP, uM, nI (hh), bgs, ens, mo9) T) rfl ?_
    refine ez_ast ez_h91 rfl rfl (k) rfl (by omega) (by omega) ?_
    refine ez_go ez_h91 3 (pc' := 173) (L' := [some (.ref 0), some (.int (nI (k))), none, none, some (.int (nI (B (k + 1) + Z (k + 1)))), none, none, none, none]) (st' := [.int ((nI (k)) + (nI (1)))]) (w' := mz_w A9 Q (uP, uM, nI (hh), bgs, (upd ens k (nI (B (k + 1) + Z (k + 1)))), mo9) T) rfl ?_
    refine ez_top (y := nI (k + 1)) (nI_add _ _) ?_
    refine ez_go ez_h91 1 (pc' := 175) (L' := [some (.ref 0), some (.int (nI (k))), none, none, some (.int (nI (B (k + 1) + Z (k + 1)))), none, none, some (.int (nI (k + 1))), none]) (st' := []) (w' := mz_w A9 Q (uP, uM, nI (hh), bgs, (upd ens k (nI (B (k + 1) + Z (k + 1)))), mo9) T) rfl ?_
    refine ez_E.le (ez_lc (ez_lc (ez_lc (ez_lc (ez_ln (ez_lc (ez_lc (ez_lc (ez_lc ez_l0))))))))) (zp_mdn (B := B) (Z := Z) hk h38 hh (k + 1) _ _ (by omega) (by omega) (by omega) (fun j hj => ?_) (fun j j1 j2 => ?_) _ Q uP uM _ T post (fun bgs' ens' hz => ?_))
    · unfold zp_mB zp_mZ
      by_cases ej : j = k
      · subst ej
        rw [pk_us, if_pos (Nat.le_refl _), if_neg (by omega), if_pos rfl]
        exact ⟨(hbz j (by omega)).1, by congr 1; omega⟩
      · rw [pk_un ej, if_pos (by omega), if_pos (by omega)]; exact hbz j (by omega)
    · rw [pk_un (by omega)]; exact hbz j (by omega)
    refine ez_go ez_h91 5 (pc' := 231) (L' := [some (.ref 0), some (.int (nI (k))), none, none, none, none, none, none, none]) (st' := [.int ((nI (hh)) - (nI (1))), .ref 0]) (w' := mz_w A9 Q (uP, uM, nI (hh), bgs', ens', mo9) T) rfl ?_
    refine ez_top (y := nI (hh - 1)) (pk_sub (by omega)) ?_
    refine ez_go ez_h91 7 (pc' := 244) (L' := [some (.ref 0), some (.int (nI (k))), none, none, none, none, none, none, none]) (st' := []) (w' := mz_w A9 Q (uP, uM + 1, nI (hh - 1), bgs', ens', mo9) T) rfl ?_
    exact ez_vret rfl ez_h91 rfl rfl (kk _ _ hA9 ⟨rfl, rfl, rfl, fun j hj => hz j (by have : j < hh - 1 := hj; omega)⟩)
/-- is the pile too flat? which two then? -/
def zp_fl (p : zp_T) : Bool := (decide (3 ≤ p.1) && decide (p.2.2.1 (p.1 - 1 - 2) ≤ p.2.2.1 (p.1 - 1 - 1) + p.2.2.1 (p.1 - 1))) || (decide (4 ≤ p.1) && decide (p.2.2.1 (p.1 - 1 - 3) ≤ p.2.2.1 (p.1 - 1 - 2) + p.2.2.1 (p.1 - 1 - 1)))
def zp_sd (p : zp_T) : Nat := if 3 ≤ p.1 ∧ p.2.2.1 (p.1 - 1 - 2) < p.2.2.1 (p.1 - 1) then p.1 - 1 - 2 else p.1 - 1 - 1
theorem zp_ok.z {n : Nat} {p : zp_T} {b : Nat} (h : zp_ok n p b) {k : Nat} (hk : k < p.1) : p.2.2.1 k ≤ n := by
  have h1 := (h.2.1 k hk).1
  have h2 := h.le (k := k + 1) hk
  have h3 := h.2.2.2.2
  omega
theorem zp_flat {E : ze_T} (hE : ze_ok E) {p : zp_T} {bd : Nat} (hp : zp_ok (ze_n E) p bd) (h2 : 2 ≤ p.1) (row : Nat → Nat) (g : zs_G) : cw_M E 53 [.ref 5, .int (nI (p.1 - 1))] row g p (some (.int (zs_z (zp_fl p)))) row g p := by
  obtain ⟨hh, B, Z, P, M⟩ := p
  have hn := hE.1
  have h38 := hp.h hn
  replace h38 : hh ≤ 38 := h38
  replace h2 : 2 ≤ hh := h2
  have hz : ∀ j, j < hh → Z j ≤ ze_n E := fun j hj => hp.z (k := j) hj
  · refine cw_H.m (L := [some (.ref 5), some (.int (nI (hh - 1)))]) (fun r q u bb post hr hu kk => ?_) rfl rfl rfl
    obtain ⟨uh, uP, uM, bgs, szs, spr⟩ := u
    obtain ⟨e1, e2, e3, hbz⟩ := hu
    replace e1 : uh = nI hh := e1
    replace e2 : uP = P := e2
    replace e3 : uM = M := e3
    subst e1 e2 e3
    have hu0 : cu_R (hh, B, Z, uP, uM) (nI hh, uP, uM, bgs, szs, spr) := ⟨rfl, rfl, rfl, hbz⟩
    replace hbz : ∀ j, j < hh → bgs j = nI (B j) ∧ szs j = nI (Z j) := hbz
    have fl : zp_fl (hh, B, Z, uP, uM) = ((decide (3 ≤ hh) && decide (Z (hh - 1 - 2) ≤ Z (hh - 1 - 1) + Z (hh - 1))) || (decide (4 ≤ hh) && decide (Z (hh - 1 - 3) ≤ Z (hh - 1 - 2) + Z (hh - 1 - 1)))) := rfl
    by_cases c3 : 3 ≤ hh
    · have z1 := hz (hh - 1 - 2) (by omega)
      have z2 := hz (hh - 1 - 1) (by omega)
      have z3 := hz (hh - 1) (by omega)
      by_cases d1 : Z (hh - 1 - 2) ≤ Z (hh - 1 - 1) + Z (hh - 1)
      · skip
        have fv : zp_fl (hh, B, Z, uP, uM) = true := by rw [fl]; simp; omega
        rw [fv] at kk
        refine ez_go ez_h53 3 (pc' := bif decide ((nI (hh - 1)) < (nI (2))) then 28 else 5) (L' := [some (.ref 5), some (.int (nI (hh - 1)))]) (st' := []) (w' := cz_w r q (nI (hh), uP, uM, bgs, szs, spr) bb) rfl ?_
        refine ez_ifF (zt_nlt (a := hh - 1) (b := 2) (by omega) (by omega)) ?_
        refine ez_go ez_h53 4 (pc' := 9) (L' := [some (.ref 5), some (.int (nI (hh - 1)))]) (st' := [.int ((nI (hh - 1)) - (nI (2))), .ref 5]) (w' := cz_w r q (nI (hh), uP, uM, bgs, szs, spr) bb) rfl ?_
        refine ez_top (y := nI ((hh - 1) - 2)) (pk_sub (by omega)) ?_
        refine ez_cl ez_h53 rfl rfl ?_
        refine lf_sizeAt ((hh - 1) - 2) (by omega) (nI (hh)) uP uM bgs szs spr r q bb ?_
        refine ez_top (y := nI (Z ((hh - 1) - 2))) ((hbz ((hh - 1) - 2) (by omega)).2) ?_
        refine ez_go ez_h53 4 (pc' := 16) (L' := [some (.ref 5), some (.int (nI (hh - 1)))]) (st' := [.int ((nI (hh - 1)) - (nI (1))), .ref 5, .int (nI (Z ((hh - 1) - 2)))]) (w' := cz_w r q (nI (hh), uP, uM, bgs, szs, spr) bb) rfl ?_
        refine ez_top (y := nI ((hh - 1) - 1)) (pk_sub (by omega)) ?_
        refine ez_cl ez_h53 rfl rfl ?_
        refine lf_sizeAt ((hh - 1) - 1) (by omega) (nI (hh)) uP uM bgs szs spr r q bb ?_
        refine ez_top (y := nI (Z ((hh - 1) - 1))) ((hbz ((hh - 1) - 1) (by omega)).2) ?_
        refine ez_go ez_h53 2 (pc' := 21) (L' := [some (.ref 5), some (.int (nI (hh - 1)))]) (st' := [.int (nI (hh - 1)), .ref 5, .int (nI (Z ((hh - 1) - 1))), .int (nI (Z ((hh - 1) - 2)))]) (w' := cz_w r q (nI (hh), uP, uM, bgs, szs, spr) bb) rfl ?_
        refine ez_cl ez_h53 rfl rfl ?_
        refine lf_sizeAt (hh - 1) (by omega) (nI (hh)) uP uM bgs szs spr r q bb ?_
        refine ez_top (y := nI (Z (hh - 1))) ((hbz (hh - 1) (by omega)).2) ?_
        refine ez_go ez_h53 1 (pc' := 25) (L' := [some (.ref 5), some (.int (nI (hh - 1)))]) (st' := [.int ((nI (Z ((hh - 1) - 1))) + (nI (Z (hh - 1)))), .int (nI (Z ((hh - 1) - 2)))]) (w' := cz_w r q (nI (hh), uP, uM, bgs, szs, spr) bb) rfl ?_
        refine ez_top (y := nI ((Z ((hh - 1) - 1)) + (Z (hh - 1)))) (nI_add _ _) ?_
        refine ez_go ez_h53 1 (pc' := bif decide ((nI (Z ((hh - 1) - 2))) ≤ (nI ((Z ((hh - 1) - 1)) + (Z (hh - 1))))) then 58 else 28) (L' := [some (.ref 5), some (.int (nI (hh - 1)))]) (st' := []) (w' := cz_w r q (nI (hh), uP, uM, bgs, szs, spr) bb) rfl ?_
        refine ez_ifT (zt_le (a := Z ((hh - 1) - 2)) (b := (Z ((hh - 1) - 1)) + (Z (hh - 1))) (by omega) (by omega)) ?_
        refine ez_go ez_h53 2 (pc' := 63) (L' := [some (.ref 5), some (.int (nI (hh - 1)))]) (st' := [.int (nI (1))]) (w' := cz_w r q (nI (hh), uP, uM, bgs, szs, spr) bb) rfl ?_
        exact ez_zret rfl ez_h53 rfl rfl (zz_01 true) (kk _ _ hr hu0)
      · by_cases c4 : 4 ≤ hh
        · have z4 := hz (hh - 1 - 3) (by omega)
          by_cases d2 : Z (hh - 1 - 3) ≤ Z (hh - 1 - 2) + Z (hh - 1 - 1)
          · skip
            have fv : zp_fl (hh, B, Z, uP, uM) = true := by rw [fl]; simp; omega
            rw [fv] at kk
            refine ez_go ez_h53 3 (pc' := bif decide ((nI (hh - 1)) < (nI (2))) then 28 else 5) (L' := [some (.ref 5), some (.int (nI (hh - 1)))]) (st' := []) (w' := cz_w r q (nI (hh), uP, uM, bgs, szs, spr) bb) rfl ?_
            refine ez_ifF (zt_nlt (a := hh - 1) (b := 2) (by omega) (by omega)) ?_
            refine ez_go ez_h53 4 (pc' := 9) (L' := [some (.ref 5), some (.int (nI (hh - 1)))]) (st' := [.int ((nI (hh - 1)) - (nI (2))), .ref 5]) (w' := cz_w r q (nI (hh), uP, uM, bgs, szs, spr) bb) rfl ?_
            refine ez_top (y := nI ((hh - 1) - 2)) (pk_sub (by omega)) ?_
            refine ez_cl ez_h53 rfl rfl ?_
            refine lf_sizeAt ((hh - 1) - 2) (by omega) (nI (hh)) uP uM bgs szs spr r q bb ?_
            refine ez_top (y := nI (Z ((hh - 1) - 2))) ((hbz ((hh - 1) - 2) (by omega)).2) ?_
            refine ez_go ez_h53 4 (pc' := 16) (L' := [some (.ref 5), some (.int (nI (hh - 1)))]) (st' := [.int ((nI (hh - 1)) - (nI (1))), .ref 5, .int (nI (Z ((hh - 1) - 2)))]) (w' := cz_w r q (nI (hh), uP, uM, bgs, szs, spr) bb) rfl ?_
            refine ez_top (y := nI ((hh - 1) - 1)) (pk_sub (by omega)) ?_
            refine ez_cl ez_h53 rfl rfl ?_
            refine lf_sizeAt ((hh - 1) - 1) (by omega) (nI (hh)) uP uM bgs szs spr r q bb ?_
            refine ez_top (y := nI (Z ((hh - 1) - 1))) ((hbz ((hh - 1) - 1) (by omega)).2) ?_
            refine ez_go ez_h53 2 (pc' := 21) (L' := [some (.ref 5), some (.int (nI (hh - 1)))]) (st' := [.int (nI (hh - 1)), .ref 5, .int (nI (Z ((hh - 1) - 1))), .int (nI (Z ((hh - 1) - 2)))]) (w' := cz_w r q (nI (hh), uP, uM, bgs, szs, spr) bb) rfl ?_
            refine ez_cl ez_h53 rfl rfl ?_
            refine lf_sizeAt (hh - 1) (by omega) (nI (hh)) uP uM bgs szs spr r q bb ?_
            refine ez_top (y := nI (Z (hh - 1))) ((hbz (hh - 1) (by omega)).2) ?_
            refine ez_go ez_h53 1 (pc' := 25) (L' := [some (.ref 5), some (.int (nI (hh - 1)))]) (st' := [.int ((nI (Z ((hh - 1) - 1))) + (nI (Z (hh - 1)))), .int (nI (Z ((hh - 1) - 2)))]) (w' := cz_w r q (nI (hh), uP, uM, bgs, szs, spr) bb) rfl ?_
            refine ez_top (y := nI ((Z ((hh - 1) - 1)) + (Z (hh - 1)))) (nI_add _ _) ?_
            refine ez_go ez_h53 1 (pc' := bif decide ((nI (Z ((hh - 1) - 2))) ≤ (nI ((Z ((hh - 1) - 1)) + (Z (hh - 1))))) then 58 else 28) (L' := [some (.ref 5), some (.int (nI (hh - 1)))]) (st' := []) (w' := cz_w r q (nI (hh), uP, uM, bgs, szs, spr) bb) rfl ?_
            refine ez_ifF (zt_nle (a := Z ((hh - 1) - 2)) (b := (Z ((hh - 1) - 1)) + (Z (hh - 1))) (by omega) (by omega)) ?_
            refine ez_go ez_h53 3 (pc' := bif decide ((nI (hh - 1)) < (nI (3))) then 62 else 33) (L' := [some (.ref 5), some (.int (nI (hh - 1)))]) (st' := []) (w' := cz_w r q (nI (hh), uP, uM, bgs, szs, spr) bb) rfl ?_
            refine ez_ifF (zt_nlt (a := hh - 1) (b := 3) (by omega) (by omega)) ?_
            refine ez_go ez_h53 4 (pc' := 37) (L' := [some (.ref 5), some (.int (nI (hh - 1)))]) (st' := [.int ((nI (hh - 1)) - (nI (3))), .ref 5]) (w' := cz_w r q (nI (hh), uP, uM, bgs, szs, spr) bb) rfl ?_
            refine ez_top (y := nI ((hh - 1) - 3)) (pk_sub (by omega)) ?_
            refine ez_cl ez_h53 rfl rfl ?_
            refine lf_sizeAt ((hh - 1) - 3) (by omega) (nI (hh)) uP uM bgs szs spr r q bb ?_
            refine ez_top (y := nI (Z ((hh - 1) - 3))) ((hbz ((hh - 1) - 3) (by omega)).2) ?_
            refine ez_go ez_h53 4 (pc' := 44) (L' := [some (.ref 5), some (.int (nI (hh - 1)))]) (st' := [.int ((nI (hh - 1)) - (nI (2))), .ref 5, .int (nI (Z ((hh - 1) - 3)))]) (w' := cz_w r q (nI (hh), uP, uM, bgs, szs, spr) bb) rfl ?_
            refine ez_top (y := nI ((hh - 1) - 2)) (pk_sub (by omega)) ?_
            refine ez_cl ez_h53 rfl rfl ?_
            refine lf_sizeAt ((hh - 1) - 2) (by omega) (nI (hh)) uP uM bgs szs spr r q bb ?_
            refine ez_top (y := nI (Z ((hh - 1) - 2))) ((hbz ((hh - 1) - 2) (by omega)).2) ?_
            refine ez_go ez_h53 4 (pc' := 51) (L' := [some (.ref 5), some (.int (nI (hh - 1)))]) (st' := [.int ((nI (hh - 1)) - (nI (1))), .ref 5, .int (nI (Z ((hh - 1) - 2))), .int (nI (Z ((hh - 1) - 3)))]) (w' := cz_w r q (nI (hh), uP, uM, bgs, szs, spr) bb) rfl ?_
            refine ez_top (y := nI ((hh - 1) - 1)) (pk_sub (by omega)) ?_
            refine ez_cl ez_h53 rfl rfl ?_
            refine lf_sizeAt ((hh - 1) - 1) (by omega) (nI (hh)) uP uM bgs szs spr r q bb ?_
            refine ez_top (y := nI (Z ((hh - 1) - 1))) ((hbz ((hh - 1) - 1) (by omega)).2) ?_
            refine ez_go ez_h53 1 (pc' := 55) (L' := [some (.ref 5), some (.int (nI (hh - 1)))]) (st' := [.int ((nI (Z ((hh - 1) - 2))) + (nI (Z ((hh - 1) - 1)))), .int (nI (Z ((hh - 1) - 3)))]) (w' := cz_w r q (nI (hh), uP, uM, bgs, szs, spr) bb) rfl ?_
            refine ez_top (y := nI ((Z ((hh - 1) - 2)) + (Z ((hh - 1) - 1)))) (nI_add _ _) ?_
            refine ez_go ez_h53 1 (pc' := bif decide ((nI ((Z ((hh - 1) - 2)) + (Z ((hh - 1) - 1)))) < (nI (Z ((hh - 1) - 3)))) then 62 else 58) (L' := [some (.ref 5), some (.int (nI (hh - 1)))]) (st' := []) (w' := cz_w r q (nI (hh), uP, uM, bgs, szs, spr) bb) rfl ?_
            refine ez_ifF (zt_nlt (a := (Z ((hh - 1) - 2)) + (Z ((hh - 1) - 1))) (b := Z ((hh - 1) - 3)) (by omega) (by omega)) ?_
            refine ez_go ez_h53 2 (pc' := 63) (L' := [some (.ref 5), some (.int (nI (hh - 1)))]) (st' := [.int (nI (1))]) (w' := cz_w r q (nI (hh), uP, uM, bgs, szs, spr) bb) rfl ?_
            exact ez_zret rfl ez_h53 rfl rfl (zz_01 true) (kk _ _ hr hu0)
          · skip
            have fv : zp_fl (hh, B, Z, uP, uM) = false := by rw [fl]; simp; omega
            rw [fv] at kk
            refine ez_go ez_h53 3 (pc' := bif decide ((nI (hh - 1)) < (nI (2))) then 28 else 5) (L' := [some (.ref 5), some (.int (nI (hh - 1)))]) (st' := []) (w' := cz_w r q (nI (hh), uP, uM, bgs, szs, spr) bb) rfl ?_
            refine ez_ifF (zt_nlt (a := hh - 1) (b := 2) (by omega) (by omega)) ?_
            refine ez_go ez_h53 4 (pc' := 9) (L' := [some (.ref 5), some (.int (nI (hh - 1)))]) (st' := [.int ((nI (hh - 1)) - (nI (2))), .ref 5]) (w' := cz_w r q (nI (hh), uP, uM, bgs, szs, spr) bb) rfl ?_
            refine ez_top (y := nI ((hh - 1) - 2)) (pk_sub (by omega)) ?_
            refine ez_cl ez_h53 rfl rfl ?_
            refine lf_sizeAt ((hh - 1) - 2) (by omega) (nI (hh)) uP uM bgs szs spr r q bb ?_
            refine ez_top (y := nI (Z ((hh - 1) - 2))) ((hbz ((hh - 1) - 2) (by omega)).2) ?_
            refine ez_go ez_h53 4 (pc' := 16) (L' := [some (.ref 5), some (.int (nI (hh - 1)))]) (st' := [.int ((nI (hh - 1)) - (nI (1))), .ref 5, .int (nI (Z ((hh - 1) - 2)))]) (w' := cz_w r q (nI (hh), uP, uM, bgs, szs, spr) bb) rfl ?_
            refine ez_top (y := nI ((hh - 1) - 1)) (pk_sub (by omega)) ?_
            refine ez_cl ez_h53 rfl rfl ?_
            refine lf_sizeAt ((hh - 1) - 1) (by omega) (nI (hh)) uP uM bgs szs spr r q bb ?_
            refine ez_top (y := nI (Z ((hh - 1) - 1))) ((hbz ((hh - 1) - 1) (by omega)).2) ?_
            refine ez_go ez_h53 2 (pc' := 21) (L' := [some (.ref 5), some (.int (nI (hh - 1)))]) (st' := [.int (nI (hh - 1)), .ref 5, .int (nI (Z ((hh - 1) - 1))), .int (nI (Z ((hh - 1) - 2)))]) (w' := cz_w r q (nI (hh), uP, uM, bgs, szs, spr) bb) rfl ?_
            refine ez_cl ez_h53 rfl rfl ?_
            refine lf_sizeAt (hh - 1) (by omega) (nI (hh)) uP uM bgs szs spr r q bb ?_
            refine ez_top (y := nI (Z (hh - 1))) ((hbz (hh - 1) (by omega)).2) ?_
            refine ez_go ez_h53 1 (pc' := 25) (L' := [some (.ref 5), some (.int (nI (hh - 1)))]) (st' := [.int ((nI (Z ((hh - 1) - 1))) + (nI (Z (hh - 1)))), .int (nI (Z ((hh - 1) - 2)))]) (w' := cz_w r q (nI (hh), uP, uM, bgs, szs, spr) bb) rfl ?_
            refine ez_top (y := nI ((Z ((hh - 1) - 1)) + (Z (hh - 1)))) (nI_add _ _) ?_
            refine ez_go ez_h53 1 (pc' := bif decide ((nI (Z ((hh - 1) - 2))) ≤ (nI ((Z ((hh - 1) - 1)) + (Z (hh - 1))))) then 58 else 28) (L' := [some (.ref 5), some (.int (nI (hh - 1)))]) (st' := []) (w' := cz_w r q (nI (hh), uP, uM, bgs, szs, spr) bb) rfl ?_
            refine ez_ifF (zt_nle (a := Z ((hh - 1) - 2)) (b := (Z ((hh - 1) - 1)) + (Z (hh - 1))) (by omega) (by omega)) ?_
            refine ez_go ez_h53 3 (pc' := bif decide ((nI (hh - 1)) < (nI (3))) then 62 else 33) (L' := [some (.ref 5), some (.int (nI (hh - 1)))]) (st' := []) (w' := cz_w r q (nI (hh), uP, uM, bgs, szs, spr) bb) rfl ?_
            refine ez_ifF (zt_nlt (a := hh - 1) (b := 3) (by omega) (by omega)) ?_
            refine ez_go ez_h53 4 (pc' := 37) (L' := [some (.ref 5), some (.int (nI (hh - 1)))]) (st' := [.int ((nI (hh - 1)) - (nI (3))), .ref 5]) (w' := cz_w r q (nI (hh), uP, uM, bgs, szs, spr) bb) rfl ?_
            refine ez_top (y := nI ((hh - 1) - 3)) (pk_sub (by omega)) ?_
            refine ez_cl ez_h53 rfl rfl ?_
            refine lf_sizeAt ((hh - 1) - 3) (by omega) (nI (hh)) uP uM bgs szs spr r q bb ?_
            refine ez_top (y := nI (Z ((hh - 1) - 3))) ((hbz ((hh - 1) - 3) (by omega)).2) ?_
            refine ez_go ez_h53 4 (pc' := 44) (L' := [some (.ref 5), some (.int (nI (hh - 1)))]) (st' := [.int ((nI (hh - 1)) - (nI (2))), .ref 5, .int (nI (Z ((hh - 1) - 3)))]) (w' := cz_w r q (nI (hh), uP, uM, bgs, szs, spr) bb) rfl ?_
            refine ez_top (y := nI ((hh - 1) - 2)) (pk_sub (by omega)) ?_
            refine ez_cl ez_h53 rfl rfl ?_
            refine lf_sizeAt ((hh - 1) - 2) (by omega) (nI (hh)) uP uM bgs szs spr r q bb ?_
            refine ez_top (y := nI (Z ((hh - 1) - 2))) ((hbz ((hh - 1) - 2) (by omega)).2) ?_
            refine ez_go ez_h53 4 (pc' := 51) (L' := [some (.ref 5), some (.int (nI (hh - 1)))]) (st' := [.int ((nI (hh - 1)) - (nI (1))), .ref 5, .int (nI (Z ((hh - 1) - 2))), .int (nI (Z ((hh - 1) - 3)))]) (w' := cz_w r q (nI (hh), uP, uM, bgs, szs, spr) bb) rfl ?_
            refine ez_top (y := nI ((hh - 1) - 1)) (pk_sub (by omega)) ?_
            refine ez_cl ez_h53 rfl rfl ?_
            refine lf_sizeAt ((hh - 1) - 1) (by omega) (nI (hh)) uP uM bgs szs spr r q bb ?_
            refine ez_top (y := nI (Z ((hh - 1) - 1))) ((hbz ((hh - 1) - 1) (by omega)).2) ?_
            refine ez_go ez_h53 1 (pc' := 55) (L' := [some (.ref 5), some (.int (nI (hh - 1)))]) (st' := [.int ((nI (Z ((hh - 1) - 2))) + (nI (Z ((hh - 1) - 1)))), .int (nI (Z ((hh - 1) - 3)))]) (w' := cz_w r q (nI (hh), uP, uM, bgs, szs, spr) bb) rfl ?_
            refine ez_top (y := nI ((Z ((hh - 1) - 2)) + (Z ((hh - 1) - 1)))) (nI_add _ _) ?_
            refine ez_go ez_h53 1 (pc' := bif decide ((nI ((Z ((hh - 1) - 2)) + (Z ((hh - 1) - 1)))) < (nI (Z ((hh - 1) - 3)))) then 62 else 58) (L' := [some (.ref 5), some (.int (nI (hh - 1)))]) (st' := []) (w' := cz_w r q (nI (hh), uP, uM, bgs, szs, spr) bb) rfl ?_
            refine ez_ifT (zt_lt (a := (Z ((hh - 1) - 2)) + (Z ((hh - 1) - 1))) (b := Z ((hh - 1) - 3)) (by omega) (by omega)) ?_
            refine ez_go ez_h53 1 (pc' := 63) (L' := [some (.ref 5), some (.int (nI (hh - 1)))]) (st' := [.int (nI (0))]) (w' := cz_w r q (nI (hh), uP, uM, bgs, szs, spr) bb) rfl ?_
            exact ez_zret rfl ez_h53 rfl rfl (zz_01 false) (kk _ _ hr hu0)
        · skip
          have fv : zp_fl (hh, B, Z, uP, uM) = false := by rw [fl]; simp; omega
          rw [fv] at kk
          refine ez_go ez_h53 3 (pc' := bif decide ((nI (hh - 1)) < (nI (2))) then 28 else 5) (L' := [some (.ref 5), some (.int (nI (hh - 1)))]) (st' := []) (w' := cz_w r q (nI (hh), uP, uM, bgs, szs, spr) bb) rfl ?_
          refine ez_ifF (zt_nlt (a := hh - 1) (b := 2) (by omega) (by omega)) ?_
          refine ez_go ez_h53 4 (pc' := 9) (L' := [some (.ref 5), some (.int (nI (hh - 1)))]) (st' := [.int ((nI (hh - 1)) - (nI (2))), .ref 5]) (w' := cz_w r q (nI (hh), uP, uM, bgs, szs, spr) bb) rfl ?_
          refine ez_top (y := nI ((hh - 1) - 2)) (pk_sub (by omega)) ?_
          refine ez_cl ez_h53 rfl rfl ?_
          refine lf_sizeAt ((hh - 1) - 2) (by omega) (nI (hh)) uP uM bgs szs spr r q bb ?_
          refine ez_top (y := nI (Z ((hh - 1) - 2))) ((hbz ((hh - 1) - 2) (by omega)).2) ?_
          refine ez_go ez_h53 4 (pc' := 16) (L' := [some (.ref 5), some (.int (nI (hh - 1)))]) (st' := [.int ((nI (hh - 1)) - (nI (1))), .ref 5, .int (nI (Z ((hh - 1) - 2)))]) (w' := cz_w r q (nI (hh), uP, uM, bgs, szs, spr) bb) rfl ?_
          refine ez_top (y := nI ((hh - 1) - 1)) (pk_sub (by omega)) ?_
          refine ez_cl ez_h53 rfl rfl ?_
          refine lf_sizeAt ((hh - 1) - 1) (by omega) (nI (hh)) uP uM bgs szs spr r q bb ?_
          refine ez_top (y := nI (Z ((hh - 1) - 1))) ((hbz ((hh - 1) - 1) (by omega)).2) ?_
          refine ez_go ez_h53 2 (pc' := 21) (L' := [some (.ref 5), some (.int (nI (hh - 1)))]) (st' := [.int (nI (hh - 1)), .ref 5, .int (nI (Z ((hh - 1) - 1))), .int (nI (Z ((hh - 1) - 2)))]) (w' := cz_w r q (nI (hh), uP, uM, bgs, szs, spr) bb) rfl ?_
          refine ez_cl ez_h53 rfl rfl ?_
          refine lf_sizeAt (hh - 1) (by omega) (nI (hh)) uP uM bgs szs spr r q bb ?_
          refine ez_top (y := nI (Z (hh - 1))) ((hbz (hh - 1) (by omega)).2) ?_
          refine ez_go ez_h53 1 (pc' := 25) (L' := [some (.ref 5), some (.int (nI (hh - 1)))]) (st' := [.int ((nI (Z ((hh - 1) - 1))) + (nI (Z (hh - 1)))), .int (nI (Z ((hh - 1) - 2)))]) (w' := cz_w r q (nI (hh), uP, uM, bgs, szs, spr) bb) rfl ?_
          refine ez_top (y := nI ((Z ((hh - 1) - 1)) + (Z (hh - 1)))) (nI_add _ _) ?_
          refine ez_go ez_h53 1 (pc' := bif decide ((nI (Z ((hh - 1) - 2))) ≤ (nI ((Z ((hh - 1) - 1)) + (Z (hh - 1))))) then 58 else 28) (L' := [some (.ref 5), some (.int (nI (hh - 1)))]) (st' := []) (w' := cz_w r q (nI (hh), uP, uM, bgs, szs, spr) bb) rfl ?_
          refine ez_ifF (zt_nle (a := Z ((hh - 1) - 2)) (b := (Z ((hh - 1) - 1)) + (Z (hh - 1))) (by omega) (by omega)) ?_
          refine ez_go ez_h53 3 (pc' := bif decide ((nI (hh - 1)) < (nI (3))) then 62 else 33) (L' := [some (.ref 5), some (.int (nI (hh - 1)))]) (st' := []) (w' := cz_w r q (nI (hh), uP, uM, bgs, szs, spr) bb) rfl ?_
          refine ez_ifT (zt_lt (a := hh - 1) (b := 3) (by omega) (by omega)) ?_
          refine ez_go ez_h53 1 (pc' := 63) (L' := [some (.ref 5), some (.int (nI (hh - 1)))]) (st' := [.int (nI (0))]) (w' := cz_w r q (nI (hh), uP, uM, bgs, szs, spr) bb) rfl ?_
          exact ez_zret rfl ez_h53 rfl rfl (zz_01 false) (kk _ _ hr hu0)
    · skip
      have fv : zp_fl (hh, B, Z, uP, uM) = false := by rw [fl]; simp; omega
      rw [fv] at kk
      refine ez_go ez_h53 3 (pc' := bif decide ((nI (hh - 1)) < (nI (2))) then 28 else 5) (L' := [some (.ref 5), some (.int (nI (hh - 1)))]) (st' := []) (w' := cz_w r q (nI (hh), uP, uM, bgs, szs, spr) bb) rfl ?_
      refine ez_ifT (zt_lt (a := hh - 1) (b := 2) (by omega) (by omega)) ?_
      refine ez_go ez_h53 3 (pc' := bif decide ((nI (hh - 1)) < (nI (3))) then 62 else 33) (L' := [some (.ref 5), some (.int (nI (hh - 1)))]) (st' := []) (w' := cz_w r q (nI (hh), uP, uM, bgs, szs, spr) bb) rfl ?_
      refine ez_ifT (zt_lt (a := hh - 1) (b := 3) (by omega) (by omega)) ?_
      refine ez_go ez_h53 1 (pc' := 63) (L' := [some (.ref 5), some (.int (nI (hh - 1)))]) (st' := [.int (nI (0))]) (w' := cz_w r q (nI (hh), uP, uM, bgs, szs, spr) bb) rfl ?_
      exact ez_zret rfl ez_h53 rfl rfl (zz_01 false) (kk _ _ hr hu0)
theorem zp_side {E : ze_T} (hE : ze_ok E) {p : zp_T} {bd : Nat} (hp : zp_ok (ze_n E) p bd) (h2 : 2 ≤ p.1) (row : Nat → Nat) (g : zs_G) : cw_M E 54 [.ref 5, .int (nI (p.1 - 1))] row g p (some (.int (nI (zp_sd p)))) row g p := by
  obtain ⟨hh, B, Z, P, M⟩ := p
  have hn := hE.1
  have h38 := hp.h hn
  replace h38 : hh ≤ 38 := h38
  replace h2 : 2 ≤ hh := h2
  have hz : ∀ j, j < hh → Z j ≤ ze_n E := fun j hj => hp.z (k := j) hj
  · refine cw_H.m (L := [some (.ref 5), some (.int (nI (hh - 1)))]) (fun r q u bb post hr hu kk => ?_) rfl rfl rfl
    obtain ⟨uh, uP, uM, bgs, szs, spr⟩ := u
    obtain ⟨e1, e2, e3, hbz⟩ := hu
    replace e1 : uh = nI hh := e1
    replace e2 : uP = P := e2
    replace e3 : uM = M := e3
    subst e1 e2 e3
    have hu0 : cu_R (hh, B, Z, uP, uM) (nI hh, uP, uM, bgs, szs, spr) := ⟨rfl, rfl, rfl, hbz⟩
    replace hbz : ∀ j, j < hh → bgs j = nI (B j) ∧ szs j = nI (Z j) := hbz
    have fl : zp_sd (hh, B, Z, uP, uM) = if 3 ≤ hh ∧ Z (hh - 1 - 2) < Z (hh - 1) then hh - 1 - 2 else hh - 1 - 1 := rfl
    by_cases c3 : 3 ≤ hh
    · have z1 := hz (hh - 1 - 2) (by omega)
      have z3 := hz (hh - 1) (by omega)
      by_cases d1 : Z (hh - 1 - 2) < Z (hh - 1)
      · skip
        rw [fl, if_pos (by omega)] at kk
        refine ez_go ez_h54 3 (pc' := bif decide ((nI (hh - 1)) < (nI (2))) then 26 else 5) (L' := [some (.ref 5), some (.int (nI (hh - 1)))]) (st' := []) (w' := cz_w r q (nI (hh), uP, uM, bgs, szs, spr) bb) rfl ?_
        refine ez_ifF (zt_nlt (a := hh - 1) (b := 2) (by omega) (by omega)) ?_
        refine ez_go ez_h54 4 (pc' := 9) (L' := [some (.ref 5), some (.int (nI (hh - 1)))]) (st' := [.int ((nI (hh - 1)) - (nI (2))), .ref 5]) (w' := cz_w r q (nI (hh), uP, uM, bgs, szs, spr) bb) rfl ?_
        refine ez_top (y := nI ((hh - 1) - 2)) (pk_sub (by omega)) ?_
        refine ez_cl ez_h54 rfl rfl ?_
        refine lf_sizeAt ((hh - 1) - 2) (by omega) (nI (hh)) uP uM bgs szs spr r q bb ?_
        refine ez_top (y := nI (Z ((hh - 1) - 2))) ((hbz ((hh - 1) - 2) (by omega)).2) ?_
        refine ez_go ez_h54 2 (pc' := 14) (L' := [some (.ref 5), some (.int (nI (hh - 1)))]) (st' := [.int (nI (hh - 1)), .ref 5, .int (nI (Z ((hh - 1) - 2)))]) (w' := cz_w r q (nI (hh), uP, uM, bgs, szs, spr) bb) rfl ?_
        refine ez_cl ez_h54 rfl rfl ?_
        refine lf_sizeAt (hh - 1) (by omega) (nI (hh)) uP uM bgs szs spr r q bb ?_
        refine ez_top (y := nI (Z (hh - 1))) ((hbz (hh - 1) (by omega)).2) ?_
        refine ez_go ez_h54 1 (pc' := bif decide ((nI (Z (hh - 1))) ≤ (nI (Z ((hh - 1) - 2)))) then 26 else 20) (L' := [some (.ref 5), some (.int (nI (hh - 1)))]) (st' := []) (w' := cz_w r q (nI (hh), uP, uM, bgs, szs, spr) bb) rfl ?_
        refine ez_ifF (zt_nle (a := Z (hh - 1)) (b := Z ((hh - 1) - 2)) (by omega) (by omega)) ?_
        refine ez_go ez_h54 3 (pc' := 23) (L' := [some (.ref 5), some (.int (nI (hh - 1)))]) (st' := [.int ((nI (hh - 1)) - (nI (2)))]) (w' := cz_w r q (nI (hh), uP, uM, bgs, szs, spr) bb) rfl ?_
        refine ez_top (y := nI ((hh - 1) - 2)) (pk_sub (by omega)) ?_
        refine ez_go ez_h54 1 (pc' := 29) (L' := [some (.ref 5), some (.int (nI (hh - 1)))]) (st' := [.int (nI ((hh - 1) - 2))]) (w' := cz_w r q (nI (hh), uP, uM, bgs, szs, spr) bb) rfl ?_
        exact ez_iret rfl ez_h54 rfl rfl (kk _ _ hr hu0)
      · skip
        rw [fl, if_neg (by omega)] at kk
        refine ez_go ez_h54 3 (pc' := bif decide ((nI (hh - 1)) < (nI (2))) then 26 else 5) (L' := [some (.ref 5), some (.int (nI (hh - 1)))]) (st' := []) (w' := cz_w r q (nI (hh), uP, uM, bgs, szs, spr) bb) rfl ?_
        refine ez_ifF (zt_nlt (a := hh - 1) (b := 2) (by omega) (by omega)) ?_
        refine ez_go ez_h54 4 (pc' := 9) (L' := [some (.ref 5), some (.int (nI (hh - 1)))]) (st' := [.int ((nI (hh - 1)) - (nI (2))), .ref 5]) (w' := cz_w r q (nI (hh), uP, uM, bgs, szs, spr) bb) rfl ?_
        refine ez_top (y := nI ((hh - 1) - 2)) (pk_sub (by omega)) ?_
        refine ez_cl ez_h54 rfl rfl ?_
        refine lf_sizeAt ((hh - 1) - 2) (by omega) (nI (hh)) uP uM bgs szs spr r q bb ?_
        refine ez_top (y := nI (Z ((hh - 1) - 2))) ((hbz ((hh - 1) - 2) (by omega)).2) ?_
        refine ez_go ez_h54 2 (pc' := 14) (L' := [some (.ref 5), some (.int (nI (hh - 1)))]) (st' := [.int (nI (hh - 1)), .ref 5, .int (nI (Z ((hh - 1) - 2)))]) (w' := cz_w r q (nI (hh), uP, uM, bgs, szs, spr) bb) rfl ?_
        refine ez_cl ez_h54 rfl rfl ?_
        refine lf_sizeAt (hh - 1) (by omega) (nI (hh)) uP uM bgs szs spr r q bb ?_
        refine ez_top (y := nI (Z (hh - 1))) ((hbz (hh - 1) (by omega)).2) ?_
        refine ez_go ez_h54 1 (pc' := bif decide ((nI (Z (hh - 1))) ≤ (nI (Z ((hh - 1) - 2)))) then 26 else 20) (L' := [some (.ref 5), some (.int (nI (hh - 1)))]) (st' := []) (w' := cz_w r q (nI (hh), uP, uM, bgs, szs, spr) bb) rfl ?_
        refine ez_ifT (zt_le (a := Z (hh - 1)) (b := Z ((hh - 1) - 2)) (by omega) (by omega)) ?_
        refine ez_go ez_h54 3 (pc' := 29) (L' := [some (.ref 5), some (.int (nI (hh - 1)))]) (st' := [.int ((nI (hh - 1)) - (nI (1)))]) (w' := cz_w r q (nI (hh), uP, uM, bgs, szs, spr) bb) rfl ?_
        refine ez_top (y := nI ((hh - 1) - 1)) (pk_sub (by omega)) ?_
        exact ez_iret rfl ez_h54 rfl rfl (kk _ _ hr hu0)
    · skip
      rw [fl, if_neg (by omega)] at kk
      refine ez_go ez_h54 3 (pc' := bif decide ((nI (hh - 1)) < (nI (2))) then 26 else 5) (L' := [some (.ref 5), some (.int (nI (hh - 1)))]) (st' := []) (w' := cz_w r q (nI (hh), uP, uM, bgs, szs, spr) bb) rfl ?_
      refine ez_ifT (zt_lt (a := hh - 1) (b := 2) (by omega) (by omega)) ?_
      refine ez_go ez_h54 3 (pc' := 29) (L' := [some (.ref 5), some (.int (nI (hh - 1)))]) (st' := [.int ((nI (hh - 1)) - (nI (1)))]) (w' := cz_w r q (nI (hh), uP, uM, bgs, szs, spr) bb) rfl ?_
      refine ez_top (y := nI ((hh - 1) - 1)) (pk_sub (by omega)) ?_
      exact ez_iret rfl ez_h54 rfl rfl (kk _ _ hr hu0)
