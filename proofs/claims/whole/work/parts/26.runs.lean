theorem zu_rloop {E : ze_T} (hE : ze_ok E) {b e : Nat} (he : e ≤ ze_n E) : ∀ (s k h : Nat) (row : Nat → Nat) (g : zs_G), e ≤ k + s → b + k ≤ e → h + k + 1 = e → zr_ok E row g →
    ∃ (row' : Nat → Nat), zr_ok E row' g ∧ zp_in row row' b e ∧ cr_H E 36 7 [some (.ref 1), some (.int (nI (b))), some (.int (nI (e))), some (.int (nI (h))), some (.int (nI (b + k)))] row g none row' g ∧ mr_H E 88 2 [some (.ref 0), some (.int (nI (b))), some (.int (nI (e))), some (.int (nI (k)))] row g none row' g := by
  have hn := hE.1
  intro s
  induction s with
  | zero =>
    intro k h row g h1 h2 h3 hw
    omega
  | succ s ih =>
    intro k h row g h1 h2 h3 hw
    by_cases hk : h ≤ b + k
    · refine ⟨row, hw, zp_in.rf _ _ _, ?_, ?_⟩
      · intro r q u bb post hr kk
        refine ez_go ez_h36 3 (pc' := bif decide ((nI (h)) ≤ (nI (b + k))) then 29 else 13) (L' := [some (.ref 1), some (.int (nI (b))), some (.int (nI (e))), some (.int (nI (h))), some (.int (nI (b + k)))]) (st' := []) (w' := cz_w r q u bb) rfl ?_
        refine ez_ifT (zt_le (a := h) (b := b + k) (by omega) (by omega)) ?_
        exact ez_vret rfl ez_h36 rfl rfl (kk _ hr)
      · intro A Q U T post hA kk
        refine ez_go ez_h88 4 (pc' := 6) (L' := [some (.ref 0), some (.int (nI (b))), some (.int (nI (e))), some (.int (nI (k)))]) (st' := [.int ((nI (e)) - (nI (b))), .int (nI (k))]) (w' := mz_w A Q U T) rfl ?_
        refine ez_top (y := nI (e - b)) (pk_sub (by omega)) ?_
        refine ez_go ez_h88 2 (pc' := 8) (L' := [some (.ref 0), some (.int (nI (b))), some (.int (nI (e))), some (.int (nI (k)))]) (st' := [.int ((nI (e - b)) / (nI (2))), .int (nI (k))]) (w' := mz_w A Q U T) rfl ?_
        refine ez_top (y := nI ((e - b) / 2)) (pk_div (by omega) (by omega) (by omega)) ?_
        refine ez_go ez_h88 1 (pc' := bif decide ((nI ((e - b) / 2)) ≤ (nI (k))) then 29 else 11) (L' := [some (.ref 0), some (.int (nI (b))), some (.int (nI (e))), some (.int (nI (k)))]) (st' := []) (w' := mz_w A Q U T) rfl ?_
        refine ez_ifT (zt_le (a := (e - b) / 2) (b := k) (by omega) (by omega)) ?_
        exact ez_vret rfl ez_h88 rfl rfl (kk _ hA)
    · obtain ⟨row', a1, a2, a3, a4⟩ := ih (k + 1) (h - 1) (zs_sw row (b + k) h) g (by omega) (by omega) (by omega) (hw.sw (by omega) (by omega))
      refine ⟨row', a1, (zp_in.sw row (by omega) (by omega)).tr a2, ?_, ?_⟩
      · intro r q u bb post hr kk
        refine ez_go ez_h36 3 (pc' := bif decide ((nI (h)) ≤ (nI (b + k))) then 29 else 13) (L' := [some (.ref 1), some (.int (nI (b))), some (.int (nI (e))), some (.int (nI (h))), some (.int (nI (b + k)))]) (st' := []) (w' := cz_w r q u bb) rfl ?_
        refine ez_ifF (zt_nle (a := h) (b := b + k) (by omega) (by omega)) ?_
        refine ez_go ez_h36 3 (pc' := 17) (L' := [some (.ref 1), some (.int (nI (b))), some (.int (nI (e))), some (.int (nI (h))), some (.int (nI (b + k)))]) (st' := [.int (nI (h)), .int (nI (b + k)), .ref 1]) (w' := cz_w r q u bb) rfl ?_
        refine ez_cl ez_h36 rfl rfl ?_
        refine cr_swap hE hr (i := b + k) (j := h) (by omega) (by omega) q u bb (fun r4 hr4 => ?_)
        refine ez_inc ez_h36 rfl rfl (v := nI (h - 1)) (zi_m (by omega)) rfl ?_
        refine ez_inc ez_h36 rfl rfl (v := nI ((b + k) + 1)) (zi_1 _) rfl ?_
        refine ez_go ez_h36 1 (pc' := 7) (L' := [some (.ref 1), some (.int (nI (b))), some (.int (nI (e))), some (.int (nI (h - 1))), some (.int (nI ((b + k) + 1)))]) (st' := []) (w' := cz_w r4 q u bb) rfl ?_
        exact a3 _ q u bb post hr4 kk
      · intro A Q U T post hA kk
        refine ez_go ez_h88 4 (pc' := 6) (L' := [some (.ref 0), some (.int (nI (b))), some (.int (nI (e))), some (.int (nI (k)))]) (st' := [.int ((nI (e)) - (nI (b))), .int (nI (k))]) (w' := mz_w A Q U T) rfl ?_
        refine ez_top (y := nI (e - b)) (pk_sub (by omega)) ?_
        refine ez_go ez_h88 2 (pc' := 8) (L' := [some (.ref 0), some (.int (nI (b))), some (.int (nI (e))), some (.int (nI (k)))]) (st' := [.int ((nI (e - b)) / (nI (2))), .int (nI (k))]) (w' := mz_w A Q U T) rfl ?_
        refine ez_top (y := nI ((e - b) / 2)) (pk_div (by omega) (by omega) (by omega)) ?_
        refine ez_go ez_h88 1 (pc' := bif decide ((nI ((e - b) / 2)) ≤ (nI (k))) then 29 else 11) (L' := [some (.ref 0), some (.int (nI (b))), some (.int (nI (e))), some (.int (nI (k)))]) (st' := []) (w' := mz_w A Q U T) rfl ?_
        refine ez_ifF (zt_nle (a := (e - b) / 2) (b := k) (by omega) (by omega)) ?_
        refine ez_go ez_h88 4 (pc' := 15) (L' := [some (.ref 0), some (.int (nI (b))), some (.int (nI (e))), some (.int (nI (k)))]) (st' := [.int ((nI (b)) + (nI (k))), .ref 0]) (w' := mz_w A Q U T) rfl ?_
        refine ez_top (y := nI (b + k)) (nI_add _ _) ?_
        refine ez_go ez_h88 3 (pc' := 18) (L' := [some (.ref 0), some (.int (nI (b))), some (.int (nI (e))), some (.int (nI (k)))]) (st' := [.int ((nI (e)) - (nI (1))), .int (nI (b + k)), .ref 0]) (w' := mz_w A Q U T) rfl ?_
        refine ez_top (y := nI (e - 1)) (pk_sub (by omega)) ?_
        refine ez_go ez_h88 2 (pc' := 20) (L' := [some (.ref 0), some (.int (nI (b))), some (.int (nI (e))), some (.int (nI (k)))]) (st' := [.int ((nI (e - 1)) - (nI (k))), .int (nI (b + k)), .ref 0]) (w' := mz_w A Q U T) rfl ?_
        refine ez_top (y := nI ((e - 1) - k)) (pk_sub (by omega)) ?_
        refine ez_cl ez_h88 rfl rfl ?_
        refine mr_swap hE hA (i := b + k) (j := (e - 1) - k) (by omega) (by omega) Q U T (fun A5 hA5 => ?_)
        refine ez_inc ez_h88 rfl rfl (v := nI (k + 1)) (zi_1 _) rfl ?_
        refine ez_go ez_h88 1 (pc' := 2) (L' := [some (.ref 0), some (.int (nI (b))), some (.int (nI (e))), some (.int (nI (k + 1)))]) (st' := []) (w' := mz_w A5 Q U T) rfl ?_
        rw [show e - 1 - k = h by omega] at hA5
        exact a4 _ Q U T post hA5 kk
/-- a range is turned round -/
theorem zu_rev {E : ze_T} (hE : ze_ok E) {b e : Nat} (hb : b ≤ e) (h1 : 1 ≤ e) (he : e ≤ ze_n E) {row : Nat → Nat} {g : zs_G} (hw : zr_ok E row g) :
    ∃ (row' : Nat → Nat), zr_ok E row' g ∧ zp_in row row' b e ∧ cr_M E 36 [.ref 1, .int (nI b), .int (nI e)] row g none row' g ∧ mr_M E 88 [.ref 0, .int (nI b), .int (nI e)] row g none row' g := by
  have hn := hE.1
  obtain ⟨row', a1, a2, a3, a4⟩ := zu_rloop hE (b := b) he (e + 1) 0 (e - 1) row g (by omega) (by omega) (by omega) hw
  refine ⟨row', a1, a2, ?_, ?_⟩
  · refine cr_H.m (L := [some (.ref 1), some (.int (nI (b))), some (.int (nI (e))), none, none]) (fun r q u bb post hr kk => ?_) rfl rfl rfl
    refine ez_go ez_h36 3 (pc' := 3) (L' := [some (.ref 1), some (.int (nI (b))), some (.int (nI (e))), none, none]) (st' := [.int ((nI (e)) - (nI (1)))]) (w' := cz_w r q u bb) rfl ?_
    refine ez_top (y := nI (e - 1)) (pk_sub (by omega)) ?_
    refine ez_go ez_h36 3 (pc' := 7) (L' := [some (.ref 1), some (.int (nI (b))), some (.int (nI (e))), some (.int (nI (e - 1))), some (.int (nI (b)))]) (st' := []) (w' := cz_w r q u bb) rfl ?_
    exact a3 _ q u bb post hr kk
  · refine mr_H.m (L := [some (.ref 0), some (.int (nI (b))), some (.int (nI (e))), none]) (fun A Q U T post hA kk => ?_) rfl rfl rfl
    refine ez_go ez_h88 2 (pc' := 2) (L' := [some (.ref 0), some (.int (nI (b))), some (.int (nI (e))), some (.int (nI (0)))]) (st' := []) (w' := mz_w A Q U T) rfl ?_
    exact a4 _ Q U T post hA kk
theorem zz_ne {a b : Bool} (h : a ≠ b) : ¬ zs_z a = zs_z b := by cases a <;> cases b <;> first | exact absurd rfl h | decide
theorem zu_scan_true {E : ze_T} (hE : ze_ok E) {b : Nat} : ∀ (s e : Nat) (row : Nat → Nat) (g : zs_G), ze_n E ≤ e + s → e ≤ ze_n E → 1 ≤ e → zr_ok E row g →
    ∃ (e' : Nat) (g' : zs_G), e ≤ e' ∧ e' ≤ ze_n E ∧ zr_ok E row g' ∧ zg_le E g g' ∧ cr_G E 45 39 [some (.ref 5), some (.int (nI (b))), some (.int (nI (ze_n E))), some (.int (nI (e)))] row g 78 [some (.ref 5), some (.int (nI (b))), some (.int (nI (ze_n E))), some (.int (nI (e')))] row g' ∧ mr_G E 89 26 [some (.ref 0), some (.int (nI (b))), some (.int (nI (e))), some (.int (zs_z true))] row g 52 [some (.ref 0), some (.int (nI (b))), some (.int (nI (e'))), some (.int (zs_z true))] row g' := by
  have hn := hE.1
  intro s
  induction s with
  | zero =>
    intro e row g h1 h2 h3 hw
    refine ⟨e, g, Nat.le_refl _, h2, hw, zg_le.rf g, ?_, ?_⟩
    · intro r q u bb post hr kk
      refine ez_go ez_h45 3 (pc' := bif decide ((nI (ze_n E)) ≤ (nI (e))) then 78 else 44) (L' := [some (.ref 5), some (.int (nI (b))), some (.int (nI (ze_n E))), some (.int (nI (e)))]) (st' := []) (w' := cz_w r q u bb) rfl ?_
      refine ez_ifT (zt_le (a := ze_n E) (b := e) (by omega) (by omega)) ?_
      exact kk _ hr
    · intro A Q U T post hA kk
      refine ez_go ez_h89 3 (pc' := 31) (L' := [some (.ref 0), some (.int (nI (b))), some (.int (nI (e))), some (.int (zs_z true))]) (st' := [.int (A.1), .int (nI (e))]) (w' := mz_w A Q U T) rfl ?_
      refine ez_top (y := nI (ze_n E)) (hA.1) ?_
      refine ez_go ez_h89 1 (pc' := bif decide ((nI (ze_n E)) ≤ (nI (e))) then 52 else 34) (L' := [some (.ref 0), some (.int (nI (b))), some (.int (nI (e))), some (.int (zs_z true))]) (st' := []) (w' := mz_w A Q U T) rfl ?_
      refine ez_ifT (zt_le (a := ze_n E) (b := e) (by omega) (by omega)) ?_
      exact kk _ hA
  | succ s ih =>
    intro e row g h1 h2 h3 hw
    by_cases he : ze_n E ≤ e
    · refine ⟨e, g, Nat.le_refl _, h2, hw, zg_le.rf g, ?_, ?_⟩
      · intro r q u bb post hr kk
        refine ez_go ez_h45 3 (pc' := bif decide ((nI (ze_n E)) ≤ (nI (e))) then 78 else 44) (L' := [some (.ref 5), some (.int (nI (b))), some (.int (nI (ze_n E))), some (.int (nI (e)))]) (st' := []) (w' := cz_w r q u bb) rfl ?_
        refine ez_ifT (zt_le (a := ze_n E) (b := e) (by omega) (by omega)) ?_
        exact kk _ hr
      · intro A Q U T post hA kk
        refine ez_go ez_h89 3 (pc' := 31) (L' := [some (.ref 0), some (.int (nI (b))), some (.int (nI (e))), some (.int (zs_z true))]) (st' := [.int (A.1), .int (nI (e))]) (w' := mz_w A Q U T) rfl ?_
        refine ez_top (y := nI (ze_n E)) (hA.1) ?_
        refine ez_go ez_h89 1 (pc' := bif decide ((nI (ze_n E)) ≤ (nI (e))) then 52 else 34) (L' := [some (.ref 0), some (.int (nI (b))), some (.int (nI (e))), some (.int (zs_z true))]) (st' := []) (w' := mz_w A Q U T) rfl ?_
        refine ez_ifT (zt_le (a := ze_n E) (b := e) (by omega) (by omega)) ?_
        exact kk _ hA
    · have hw1 := hw.go (hw.1 e (by omega)) (hw.1 (e - 1) (by omega))
      have hg1 : zg_le E g _ := zg_le.go hw (row e) (row (e - 1))
      cases hb : zs_b (ze_md E) (ze_ka E) (row e) (row (e - 1)) g with
      | false =>
        refine ⟨e, _, Nat.le_refl _, h2, hw1, hg1, ?_, ?_⟩
        · intro r q u bb post hr kk
          refine ez_go ez_h45 3 (pc' := bif decide ((nI (ze_n E)) ≤ (nI (e))) then 78 else 44) (L' := [some (.ref 5), some (.int (nI (b))), some (.int (nI (ze_n E))), some (.int (nI (e)))]) (st' := []) (w' := cz_w r q u bb) rfl ?_
          refine ez_ifF (zt_nle (a := ze_n E) (b := e) (by omega) (by omega)) ?_
          refine ez_go ez_h45 5 (pc' := 53) (L' := [some (.ref 5), some (.int (nI (b))), some (.int (nI (ze_n E))), some (.int (nI (e)))]) (st' := [.int (nI (e)), .ref 1, .ref 1]) (w' := cz_w r q u bb) rfl ?_
          refine ez_cl ez_h45 rfl rfl ?_
          refine cr_at hE hr (k := e) (by omega) q u bb ?_
          refine ez_go ez_h45 5 (pc' := 63) (L' := [some (.ref 5), some (.int (nI (b))), some (.int (nI (ze_n E))), some (.int (nI (e)))]) (st' := [.int ((nI (e)) - (nI (1))), .ref 1, .int (nI (ze_pi E (row e))), .ref 1]) (w' := cz_w r q u bb) rfl ?_
          refine ez_top (y := nI (e - 1)) (pk_sub (by omega)) ?_
          refine ez_cl ez_h45 rfl rfl ?_
          refine cr_at hE hr (k := e - 1) (by omega) q u bb ?_
          refine ez_cl ez_h45 rfl rfl ?_
          refine cr_less hE hr hw.2 (x := row e) (y := row (e - 1)) (hw.1 e (by omega)) (hw.1 (e - 1) (by omega)) q u bb (fun r6 hr6 => ?_)
          refine ez_go ez_h45 1 (pc' := bif decide ((zs_z (zs_b (ze_md E) (ze_ka E) (row e) (row (e - 1)) g)) = 0) then 78 else 72) (L' := [some (.ref 5), some (.int (nI (b))), some (.int (nI (ze_n E))), some (.int (nI (e)))]) (st' := []) (w' := cz_w r6 q u bb) rfl ?_
          refine ez_ifT (zz_f hb) ?_
          exact kk _ hr6
        · intro A Q U T post hA kk
          refine ez_go ez_h89 3 (pc' := 31) (L' := [some (.ref 0), some (.int (nI (b))), some (.int (nI (e))), some (.int (zs_z true))]) (st' := [.int (A.1), .int (nI (e))]) (w' := mz_w A Q U T) rfl ?_
          refine ez_top (y := nI (ze_n E)) (hA.1) ?_
          refine ez_go ez_h89 1 (pc' := bif decide ((nI (ze_n E)) ≤ (nI (e))) then 52 else 34) (L' := [some (.ref 0), some (.int (nI (b))), some (.int (nI (e))), some (.int (zs_z true))]) (st' := []) (w' := mz_w A Q U T) rfl ?_
          refine ez_ifF (zt_nle (a := ze_n E) (b := e) (by omega) (by omega)) ?_
          refine ez_go ez_h89 5 (pc' := 39) (L' := [some (.ref 0), some (.int (nI (b))), some (.int (nI (e))), some (.int (zs_z true))]) (st' := [.int ((nI (e)) - (nI (1))), .int (nI (e)), .ref 0]) (w' := mz_w A Q U T) rfl ?_
          refine ez_top (y := nI (e - 1)) (pk_sub (by omega)) ?_
          refine ez_cl ez_h89 rfl rfl ?_
          refine mr_lessAt hE hA hw (i := e) (j := e - 1) (by omega) (by omega) Q U T (fun A7 hA7 => ?_)
          refine ez_go ez_h89 2 (pc' := bif decide (¬ (zs_z (zs_b (ze_md E) (ze_ka E) (row e) (row (e - 1)) g)) = (zs_z true)) then 52 else 46) (L' := [some (.ref 0), some (.int (nI (b))), some (.int (nI (e))), some (.int (zs_z true))]) (st' := []) (w' := mz_w A7 Q U T) rfl ?_
          refine ez_ifT (zz_ne (by rw [hb]; decide)) ?_
          exact kk _ hA7
      | true =>
        obtain ⟨e', g', a1, a2, a3, a4, a5, a6⟩ := ih (e + 1) row _ (by omega) (by omega) (by omega) hw1
        refine ⟨e', g', by omega, a2, a3, hg1.tr a4, ?_, ?_⟩
        · intro r q u bb post hr kk
          refine ez_go ez_h45 3 (pc' := bif decide ((nI (ze_n E)) ≤ (nI (e))) then 78 else 44) (L' := [some (.ref 5), some (.int (nI (b))), some (.int (nI (ze_n E))), some (.int (nI (e)))]) (st' := []) (w' := cz_w r q u bb) rfl ?_
          refine ez_ifF (zt_nle (a := ze_n E) (b := e) (by omega) (by omega)) ?_
          refine ez_go ez_h45 5 (pc' := 53) (L' := [some (.ref 5), some (.int (nI (b))), some (.int (nI (ze_n E))), some (.int (nI (e)))]) (st' := [.int (nI (e)), .ref 1, .ref 1]) (w' := cz_w r q u bb) rfl ?_
          refine ez_cl ez_h45 rfl rfl ?_
          refine cr_at hE hr (k := e) (by omega) q u bb ?_
          refine ez_go ez_h45 5 (pc' := 63) (L' := [some (.ref 5), some (.int (nI (b))), some (.int (nI (ze_n E))), some (.int (nI (e)))]) (st' := [.int ((nI (e)) - (nI (1))), .ref 1, .int (nI (ze_pi E (row e))), .ref 1]) (w' := cz_w r q u bb) rfl ?_
          refine ez_top (y := nI (e - 1)) (pk_sub (by omega)) ?_
          refine ez_cl ez_h45 rfl rfl ?_
          refine cr_at hE hr (k := e - 1) (by omega) q u bb ?_
          refine ez_cl ez_h45 rfl rfl ?_
          refine cr_less hE hr hw.2 (x := row e) (y := row (e - 1)) (hw.1 e (by omega)) (hw.1 (e - 1) (by omega)) q u bb (fun r8 hr8 => ?_)
          refine ez_go ez_h45 1 (pc' := bif decide ((zs_z (zs_b (ze_md E) (ze_ka E) (row e) (row (e - 1)) g)) = 0) then 78 else 72) (L' := [some (.ref 5), some (.int (nI (b))), some (.int (nI (ze_n E))), some (.int (nI (e)))]) (st' := []) (w' := cz_w r8 q u bb) rfl ?_
          refine ez_ifF (zz_t hb) ?_
          refine ez_inc ez_h45 rfl rfl (v := nI (e + 1)) (zi_1 _) rfl ?_
          refine ez_go ez_h45 1 (pc' := 39) (L' := [some (.ref 5), some (.int (nI (b))), some (.int (nI (ze_n E))), some (.int (nI (e + 1)))]) (st' := []) (w' := cz_w r8 q u bb) rfl ?_
          exact a5 _ q u bb post hr8 kk
        · intro A Q U T post hA kk
          refine ez_go ez_h89 3 (pc' := 31) (L' := [some (.ref 0), some (.int (nI (b))), some (.int (nI (e))), some (.int (zs_z true))]) (st' := [.int (A.1), .int (nI (e))]) (w' := mz_w A Q U T) rfl ?_
          refine ez_top (y := nI (ze_n E)) (hA.1) ?_
          refine ez_go ez_h89 1 (pc' := bif decide ((nI (ze_n E)) ≤ (nI (e))) then 52 else 34) (L' := [some (.ref 0), some (.int (nI (b))), some (.int (nI (e))), some (.int (zs_z true))]) (st' := []) (w' := mz_w A Q U T) rfl ?_
          refine ez_ifF (zt_nle (a := ze_n E) (b := e) (by omega) (by omega)) ?_
          refine ez_go ez_h89 5 (pc' := 39) (L' := [some (.ref 0), some (.int (nI (b))), some (.int (nI (e))), some (.int (zs_z true))]) (st' := [.int ((nI (e)) - (nI (1))), .int (nI (e)), .ref 0]) (w' := mz_w A Q U T) rfl ?_
          refine ez_top (y := nI (e - 1)) (pk_sub (by omega)) ?_
          refine ez_cl ez_h89 rfl rfl ?_
          refine mr_lessAt hE hA hw (i := e) (j := e - 1) (by omega) (by omega) Q U T (fun A9 hA9 => ?_)
          refine ez_go ez_h89 2 (pc' := bif decide (¬ (zs_z (zs_b (ze_md E) (ze_ka E) (row e) (row (e - 1)) g)) = (zs_z true)) then 52 else 46) (L' := [some (.ref 0), some (.int (nI (b))), some (.int (nI (e))), some (.int (zs_z true))]) (st' := []) (w' := mz_w A9 Q U T) rfl ?_
          refine ez_ifF (fun z => z (by rw [hb])) ?_
          refine ez_inc ez_h89 rfl rfl (v := nI (e + 1)) (zi_1 _) rfl ?_
          refine ez_go ez_h89 1 (pc' := 26) (L' := [some (.ref 0), some (.int (nI (b))), some (.int (nI (e + 1))), some (.int (zs_z true))]) (st' := []) (w' := mz_w A9 Q U T) rfl ?_
          exact a6 _ Q U T post hA9 kk
theorem zu_scan_false {E : ze_T} (hE : ze_ok E) {b : Nat} : ∀ (s e : Nat) (row : Nat → Nat) (g : zs_G), ze_n E ≤ e + s → e ≤ ze_n E → 1 ≤ e → zr_ok E row g →
    ∃ (e' : Nat) (g' : zs_G), e ≤ e' ∧ e' ≤ ze_n E ∧ zr_ok E row g' ∧ zg_le E g g' ∧ cr_G E 45 89 [some (.ref 5), some (.int (nI (b))), some (.int (nI (ze_n E))), some (.int (nI (e)))] row g 128 [some (.ref 5), some (.int (nI (b))), some (.int (nI (ze_n E))), some (.int (nI (e')))] row g' ∧ mr_G E 89 26 [some (.ref 0), some (.int (nI (b))), some (.int (nI (e))), some (.int (zs_z false))] row g 52 [some (.ref 0), some (.int (nI (b))), some (.int (nI (e'))), some (.int (zs_z false))] row g' := by
  have hn := hE.1
  intro s
  induction s with
  | zero =>
    intro e row g h1 h2 h3 hw
    refine ⟨e, g, Nat.le_refl _, h2, hw, zg_le.rf g, ?_, ?_⟩
    · intro r q u bb post hr kk
      refine ez_go ez_h45 3 (pc' := bif decide ((nI (ze_n E)) ≤ (nI (e))) then 128 else 94) (L' := [some (.ref 5), some (.int (nI (b))), some (.int (nI (ze_n E))), some (.int (nI (e)))]) (st' := []) (w' := cz_w r q u bb) rfl ?_
      refine ez_ifT (zt_le (a := ze_n E) (b := e) (by omega) (by omega)) ?_
      exact kk _ hr
    · intro A Q U T post hA kk
      refine ez_go ez_h89 3 (pc' := 31) (L' := [some (.ref 0), some (.int (nI (b))), some (.int (nI (e))), some (.int (zs_z false))]) (st' := [.int (A.1), .int (nI (e))]) (w' := mz_w A Q U T) rfl ?_
      refine ez_top (y := nI (ze_n E)) (hA.1) ?_
      refine ez_go ez_h89 1 (pc' := bif decide ((nI (ze_n E)) ≤ (nI (e))) then 52 else 34) (L' := [some (.ref 0), some (.int (nI (b))), some (.int (nI (e))), some (.int (zs_z false))]) (st' := []) (w' := mz_w A Q U T) rfl ?_
      refine ez_ifT (zt_le (a := ze_n E) (b := e) (by omega) (by omega)) ?_
      exact kk _ hA
  | succ s ih =>
    intro e row g h1 h2 h3 hw
    by_cases he : ze_n E ≤ e
    · refine ⟨e, g, Nat.le_refl _, h2, hw, zg_le.rf g, ?_, ?_⟩
      · intro r q u bb post hr kk
        refine ez_go ez_h45 3 (pc' := bif decide ((nI (ze_n E)) ≤ (nI (e))) then 128 else 94) (L' := [some (.ref 5), some (.int (nI (b))), some (.int (nI (ze_n E))), some (.int (nI (e)))]) (st' := []) (w' := cz_w r q u bb) rfl ?_
        refine ez_ifT (zt_le (a := ze_n E) (b := e) (by omega) (by omega)) ?_
        exact kk _ hr
      · intro A Q U T post hA kk
        refine ez_go ez_h89 3 (pc' := 31) (L' := [some (.ref 0), some (.int (nI (b))), some (.int (nI (e))), some (.int (zs_z false))]) (st' := [.int (A.1), .int (nI (e))]) (w' := mz_w A Q U T) rfl ?_
        refine ez_top (y := nI (ze_n E)) (hA.1) ?_
        refine ez_go ez_h89 1 (pc' := bif decide ((nI (ze_n E)) ≤ (nI (e))) then 52 else 34) (L' := [some (.ref 0), some (.int (nI (b))), some (.int (nI (e))), some (.int (zs_z false))]) (st' := []) (w' := mz_w A Q U T) rfl ?_
        refine ez_ifT (zt_le (a := ze_n E) (b := e) (by omega) (by omega)) ?_
        exact kk _ hA
    · have hw1 := hw.go (hw.1 e (by omega)) (hw.1 (e - 1) (by omega))
      have hg1 : zg_le E g _ := zg_le.go hw (row e) (row (e - 1))
      cases hb : zs_b (ze_md E) (ze_ka E) (row e) (row (e - 1)) g with
      | false =>
        obtain ⟨e', g', a1, a2, a3, a4, a5, a6⟩ := ih (e + 1) row _ (by omega) (by omega) (by omega) hw1
        refine ⟨e', g', by omega, a2, a3, hg1.tr a4, ?_, ?_⟩
        · intro r q u bb post hr kk
          refine ez_go ez_h45 3 (pc' := bif decide ((nI (ze_n E)) ≤ (nI (e))) then 128 else 94) (L' := [some (.ref 5), some (.int (nI (b))), some (.int (nI (ze_n E))), some (.int (nI (e)))]) (st' := []) (w' := cz_w r q u bb) rfl ?_
          refine ez_ifF (zt_nle (a := ze_n E) (b := e) (by omega) (by omega)) ?_
          refine ez_go ez_h45 5 (pc' := 103) (L' := [some (.ref 5), some (.int (nI (b))), some (.int (nI (ze_n E))), some (.int (nI (e)))]) (st' := [.int (nI (e)), .ref 1, .ref 1]) (w' := cz_w r q u bb) rfl ?_
          refine ez_cl ez_h45 rfl rfl ?_
          refine cr_at hE hr (k := e) (by omega) q u bb ?_
          refine ez_go ez_h45 5 (pc' := 113) (L' := [some (.ref 5), some (.int (nI (b))), some (.int (nI (ze_n E))), some (.int (nI (e)))]) (st' := [.int ((nI (e)) - (nI (1))), .ref 1, .int (nI (ze_pi E (row e))), .ref 1]) (w' := cz_w r q u bb) rfl ?_
          refine ez_top (y := nI (e - 1)) (pk_sub (by omega)) ?_
          refine ez_cl ez_h45 rfl rfl ?_
          refine cr_at hE hr (k := e - 1) (by omega) q u bb ?_
          refine ez_cl ez_h45 rfl rfl ?_
          refine cr_less hE hr hw.2 (x := row e) (y := row (e - 1)) (hw.1 e (by omega)) (hw.1 (e - 1) (by omega)) q u bb (fun r10 hr10 => ?_)
          refine ez_go ez_h45 1 (pc' := bif decide (¬ (zs_z (zs_b (ze_md E) (ze_ka E) (row e) (row (e - 1)) g)) = 0) then 128 else 122) (L' := [some (.ref 5), some (.int (nI (b))), some (.int (nI (ze_n E))), some (.int (nI (e)))]) (st' := []) (w' := cz_w r10 q u bb) rfl ?_
          refine ez_ifF (fun z => z (zz_f hb)) ?_
          refine ez_inc ez_h45 rfl rfl (v := nI (e + 1)) (zi_1 _) rfl ?_
          refine ez_go ez_h45 1 (pc' := 89) (L' := [some (.ref 5), some (.int (nI (b))), some (.int (nI (ze_n E))), some (.int (nI (e + 1)))]) (st' := []) (w' := cz_w r10 q u bb) rfl ?_
          exact a5 _ q u bb post hr10 kk
        · intro A Q U T post hA kk
          refine ez_go ez_h89 3 (pc' := 31) (L' := [some (.ref 0), some (.int (nI (b))), some (.int (nI (e))), some (.int (zs_z false))]) (st' := [.int (A.1), .int (nI (e))]) (w' := mz_w A Q U T) rfl ?_
          refine ez_top (y := nI (ze_n E)) (hA.1) ?_
          refine ez_go ez_h89 1 (pc' := bif decide ((nI (ze_n E)) ≤ (nI (e))) then 52 else 34) (L' := [some (.ref 0), some (.int (nI (b))), some (.int (nI (e))), some (.int (zs_z false))]) (st' := []) (w' := mz_w A Q U T) rfl ?_
          refine ez_ifF (zt_nle (a := ze_n E) (b := e) (by omega) (by omega)) ?_
          refine ez_go ez_h89 5 (pc' := 39) (L' := [some (.ref 0), some (.int (nI (b))), some (.int (nI (e))), some (.int (zs_z false))]) (st' := [.int ((nI (e)) - (nI (1))), .int (nI (e)), .ref 0]) (w' := mz_w A Q U T) rfl ?_
          refine ez_top (y := nI (e - 1)) (pk_sub (by omega)) ?_
          refine ez_cl ez_h89 rfl rfl ?_
          refine mr_lessAt hE hA hw (i := e) (j := e - 1) (by omega) (by omega) Q U T (fun A11 hA11 => ?_)
          refine ez_go ez_h89 2 (pc' := bif decide (¬ (zs_z (zs_b (ze_md E) (ze_ka E) (row e) (row (e - 1)) g)) = (zs_z false)) then 52 else 46) (L' := [some (.ref 0), some (.int (nI (b))), some (.int (nI (e))), some (.int (zs_z false))]) (st' := []) (w' := mz_w A11 Q U T) rfl ?_
          refine ez_ifF (fun z => z (by rw [hb])) ?_
          refine ez_inc ez_h89 rfl rfl (v := nI (e + 1)) (zi_1 _) rfl ?_
          refine ez_go ez_h89 1 (pc' := 26) (L' := [some (.ref 0), some (.int (nI (b))), some (.int (nI (e + 1))), some (.int (zs_z false))]) (st' := []) (w' := mz_w A11 Q U T) rfl ?_
          exact a6 _ Q U T post hA11 kk
      | true =>
        refine ⟨e, _, Nat.le_refl _, h2, hw1, hg1, ?_, ?_⟩
        · intro r q u bb post hr kk
          refine ez_go ez_h45 3 (pc' := bif decide ((nI (ze_n E)) ≤ (nI (e))) then 128 else 94) (L' := [some (.ref 5), some (.int (nI (b))), some (.int (nI (ze_n E))), some (.int (nI (e)))]) (st' := []) (w' := cz_w r q u bb) rfl ?_
          refine ez_ifF (zt_nle (a := ze_n E) (b := e) (by omega) (by omega)) ?_
          refine ez_go ez_h45 5 (pc' := 103) (L' := [some (.ref 5), some (.int (nI (b))), some (.int (nI (ze_n E))), some (.int (nI (e)))]) (st' := [.int (nI (e)), .ref 1, .ref 1]) (w' := cz_w r q u bb) rfl ?_
          refine ez_cl ez_h45 rfl rfl ?_
          refine cr_at hE hr (k := e) (by omega) q u bb ?_
          refine ez_go ez_h45 5 (pc' := 113) (L' := [some (.ref 5), some (.int (nI (b))), some (.int (nI (ze_n E))), some (.int (nI (e)))]) (st' := [.int ((nI (e)) - (nI (1))), .ref 1, .int (nI (ze_pi E (row e))), .ref 1]) (w' := cz_w r q u bb) rfl ?_
          refine ez_top (y := nI (e - 1)) (pk_sub (by omega)) ?_
          refine ez_cl ez_h45 rfl rfl ?_
          refine cr_at hE hr (k := e - 1) (by omega) q u bb ?_
          refine ez_cl ez_h45 rfl rfl ?_
          refine cr_less hE hr hw.2 (x := row e) (y := row (e - 1)) (hw.1 e (by omega)) (hw.1 (e - 1) (by omega)) q u bb (fun r12 hr12 => ?_)
          refine ez_go ez_h45 1 (pc' := bif decide (¬ (zs_z (zs_b (ze_md E) (ze_ka E) (row e) (row (e - 1)) g)) = 0) then 128 else 122) (L' := [some (.ref 5), some (.int (nI (b))), some (.int (nI (ze_n E))), some (.int (nI (e)))]) (st' := []) (w' := cz_w r12 q u bb) rfl ?_
          refine ez_ifT (zz_t hb) ?_
          exact kk _ hr12
        · intro A Q U T post hA kk
          refine ez_go ez_h89 3 (pc' := 31) (L' := [some (.ref 0), some (.int (nI (b))), some (.int (nI (e))), some (.int (zs_z false))]) (st' := [.int (A.1), .int (nI (e))]) (w' := mz_w A Q U T) rfl ?_
          refine ez_top (y := nI (ze_n E)) (hA.1) ?_
          refine ez_go ez_h89 1 (pc' := bif decide ((nI (ze_n E)) ≤ (nI (e))) then 52 else 34) (L' := [some (.ref 0), some (.int (nI (b))), some (.int (nI (e))), some (.int (zs_z false))]) (st' := []) (w' := mz_w A Q U T) rfl ?_
          refine ez_ifF (zt_nle (a := ze_n E) (b := e) (by omega) (by omega)) ?_
          refine ez_go ez_h89 5 (pc' := 39) (L' := [some (.ref 0), some (.int (nI (b))), some (.int (nI (e))), some (.int (zs_z false))]) (st' := [.int ((nI (e)) - (nI (1))), .int (nI (e)), .ref 0]) (w' := mz_w A Q U T) rfl ?_
          refine ez_top (y := nI (e - 1)) (pk_sub (by omega)) ?_
          refine ez_cl ez_h89 rfl rfl ?_
          refine mr_lessAt hE hA hw (i := e) (j := e - 1) (by omega) (by omega) Q U T (fun A13 hA13 => ?_)
          refine ez_go ez_h89 2 (pc' := bif decide (¬ (zs_z (zs_b (ze_md E) (ze_ka E) (row e) (row (e - 1)) g)) = (zs_z false)) then 52 else 46) (L' := [some (.ref 0), some (.int (nI (b))), some (.int (nI (e))), some (.int (zs_z false))]) (st' := []) (w' := mz_w A13 Q U T) rfl ?_
          refine ez_ifT (zz_ne (by rw [hb]; decide)) ?_
          exact kk _ hA13
/-- a RUN from b on: where it ends -/
theorem zu_run {E : ze_T} (hE : ze_ok E) {b : Nat} (hb : b < ze_n E) {row : Nat → Nat} {g : zs_G} (hw : zr_ok E row g) :
    ∃ (row' : Nat → Nat) (g' : zs_G) (e : Nat), b < e ∧ e ≤ ze_n E ∧ zr_ok E row' g' ∧ zg_le E g g' ∧ zp_in row row' b (ze_n E) ∧
      cr_M E 45 [.ref 5, .int (nI b), .int (nI (ze_n E))] row g (some (.int (nI e))) row' g' ∧ mr_M E 89 [.ref 0, .int (nI b)] row g (some (.int (nI e))) row' g' := by
  have hn := hE.1
  by_cases h1 : b + 1 = ze_n E
  · refine ⟨row, g, b + 1, by omega, by omega, hw, zg_le.rf g, zp_in.rf _ _ _, ?_, ?_⟩
    · rw [h1]
      refine cr_H.m (L := [some (.ref 5), some (.int (nI (b))), some (.int (nI (ze_n E))), none]) (fun r q u bb post hr kk => ?_) rfl rfl rfl
      refine ez_go ez_h45 3 (pc' := 3) (L' := [some (.ref 5), some (.int (nI (b))), some (.int (nI (ze_n E))), none]) (st' := [.int ((nI (b)) + (nI (2)))]) (w' := cz_w r q u bb) rfl ?_
      refine ez_top (y := nI (b + 2)) (nI_add _ _) ?_
      refine ez_go ez_h45 4 (pc' := bif decide ((nI (b + 2)) ≤ (nI (ze_n E))) then 11 else 9) (L' := [some (.ref 5), some (.int (nI (b))), some (.int (nI (ze_n E))), some (.int (nI (b + 2)))]) (st' := []) (w' := cz_w r q u bb) rfl ?_
      refine ez_ifF (zt_nle (a := b + 2) (b := ze_n E) (by omega) (by omega)) ?_
      refine ez_go ez_h45 1 (pc' := 10) (L' := [some (.ref 5), some (.int (nI (b))), some (.int (nI (ze_n E))), some (.int (nI (b + 2)))]) (st' := [.int (nI (ze_n E))]) (w' := cz_w r q u bb) rfl ?_
      exact ez_iret rfl ez_h45 rfl rfl (kk _ hr)
    · refine mr_H.m (L := [some (.ref 0), some (.int (nI (b))), none, none]) (fun A Q U T post hA kk => ?_) rfl rfl rfl
      refine ez_go ez_h89 3 (pc' := 3) (L' := [some (.ref 0), some (.int (nI (b))), none, none]) (st' := [.int ((nI (b)) + (nI (1)))]) (w' := mz_w A Q U T) rfl ?_
      refine ez_top (y := nI (b + 1)) (nI_add _ _) ?_
      refine ez_go ez_h89 4 (pc' := 9) (L' := [some (.ref 0), some (.int (nI (b))), some (.int (nI (b + 1))), none]) (st' := [.int (A.1), .int (nI (b + 1))]) (w' := mz_w A Q U T) rfl ?_
      refine ez_top (y := nI (ze_n E)) (hA.1) ?_
      refine ez_go ez_h89 1 (pc' := bif decide (¬ (nI (b + 1)) = (nI (ze_n E))) then 14 else 12) (L' := [some (.ref 0), some (.int (nI (b))), some (.int (nI (b + 1))), none]) (st' := []) (w' := mz_w A Q U T) rfl ?_
      refine ez_ifF (fun z => z (zt_eq (by omega))) ?_
      refine ez_go ez_h89 1 (pc' := 13) (L' := [some (.ref 0), some (.int (nI (b))), some (.int (nI (b + 1))), none]) (st' := [.int (nI (b + 1))]) (w' := mz_w A Q U T) rfl ?_
      exact ez_iret rfl ez_h89 rfl rfl (kk _ hA)
  · have hw1 := hw.go (hw.1 (b + 1) (by omega)) (hw.1 b (by omega))
    have hg1 : zg_le E g _ := zg_le.go hw (row (b + 1)) (row b)
    cases hf : zs_b (ze_md E) (ze_ka E) (row (b + 1)) (row b) g with
    | false =>
      obtain ⟨e, g1, a1, a2, a3, a4, a5, a6⟩ := zu_scan_false hE (b := b) (ze_n E) (b + 2) row _ (by omega) (by omega) (by omega) hw1
      refine ⟨row, g1, e, by omega, a2, a3, hg1.tr a4, zp_in.rf _ _ _, ?_, ?_⟩
      · refine cr_H.m (L := [some (.ref 5), some (.int (nI (b))), some (.int (nI (ze_n E))), none]) (fun r q u bb post hr kk => ?_) rfl rfl rfl
        refine ez_go ez_h45 3 (pc' := 3) (L' := [some (.ref 5), some (.int (nI (b))), some (.int (nI (ze_n E))), none]) (st' := [.int ((nI (b)) + (nI (2)))]) (w' := cz_w r q u bb) rfl ?_
        refine ez_top (y := nI (b + 2)) (nI_add _ _) ?_
        refine ez_go ez_h45 4 (pc' := bif decide ((nI (b + 2)) ≤ (nI (ze_n E))) then 11 else 9) (L' := [some (.ref 5), some (.int (nI (b))), some (.int (nI (ze_n E))), some (.int (nI (b + 2)))]) (st' := []) (w' := cz_w r q u bb) rfl ?_
        refine ez_ifT (zt_le (a := b + 2) (b := ze_n E) (by omega) (by omega)) ?_
        refine ez_go ez_h45 7 (pc' := 22) (L' := [some (.ref 5), some (.int (nI (b))), some (.int (nI (ze_n E))), some (.int (nI (b + 2)))]) (st' := [.int ((nI (b)) + (nI (1))), .ref 1, .ref 1]) (w' := cz_w r q u bb) rfl ?_
        refine ez_top (y := nI (b + 1)) (nI_add _ _) ?_
        refine ez_cl ez_h45 rfl rfl ?_
        refine cr_at hE hr (k := b + 1) (by omega) q u bb ?_
        refine ez_go ez_h45 3 (pc' := 30) (L' := [some (.ref 5), some (.int (nI (b))), some (.int (nI (ze_n E))), some (.int (nI (b + 2)))]) (st' := [.int (nI (b)), .ref 1, .int (nI (ze_pi E (row (b + 1)))), .ref 1]) (w' := cz_w r q u bb) rfl ?_
        refine ez_cl ez_h45 rfl rfl ?_
        refine cr_at hE hr (k := b) (by omega) q u bb ?_
        refine ez_cl ez_h45 rfl rfl ?_
        refine cr_less hE hr hw.2 (x := row (b + 1)) (y := row b) (hw.1 (b + 1) (by omega)) (hw.1 b (by omega)) q u bb (fun r14 hr14 => ?_)
        refine ez_go ez_h45 1 (pc' := bif decide ((zs_z (zs_b (ze_md E) (ze_ka E) (row (b + 1)) (row b) g)) = 0) then 89 else 39) (L' := [some (.ref 5), some (.int (nI (b))), some (.int (nI (ze_n E))), some (.int (nI (b + 2)))]) (st' := []) (w' := cz_w r14 q u bb) rfl ?_
        refine ez_ifT (zz_f hf) ?_
        refine a5 _ q u bb post hr14 (fun r8 hr8 => ?_)
        refine ez_go ez_h45 1 (pc' := 129) (L' := [some (.ref 5), some (.int (nI (b))), some (.int (nI (ze_n E))), some (.int (nI (e)))]) (st' := [.int (nI (e))]) (w' := cz_w r8 q u bb) rfl ?_
        exact ez_iret rfl ez_h45 rfl rfl (kk _ hr8)
      · refine mr_H.m (L := [some (.ref 0), some (.int (nI (b))), none, none]) (fun A Q U T post hA kk => ?_) rfl rfl rfl
        refine ez_go ez_h89 3 (pc' := 3) (L' := [some (.ref 0), some (.int (nI (b))), none, none]) (st' := [.int ((nI (b)) + (nI (1)))]) (w' := mz_w A Q U T) rfl ?_
        refine ez_top (y := nI (b + 1)) (nI_add _ _) ?_
        refine ez_go ez_h89 4 (pc' := 9) (L' := [some (.ref 0), some (.int (nI (b))), some (.int (nI (b + 1))), none]) (st' := [.int (A.1), .int (nI (b + 1))]) (w' := mz_w A Q U T) rfl ?_
        refine ez_top (y := nI (ze_n E)) (hA.1) ?_
        refine ez_go ez_h89 1 (pc' := bif decide (¬ (nI (b + 1)) = (nI (ze_n E))) then 14 else 12) (L' := [some (.ref 0), some (.int (nI (b))), some (.int (nI (b + 1))), none]) (st' := []) (w' := mz_w A Q U T) rfl ?_
        refine ez_ifT (zt_ne (by omega) (by omega) (by omega)) ?_
        refine ez_go ez_h89 5 (pc' := 19) (L' := [some (.ref 0), some (.int (nI (b))), some (.int (nI (b + 1))), none]) (st' := [.int ((nI (b + 1)) - (nI (1))), .int (nI (b + 1)), .ref 0]) (w' := mz_w A Q U T) rfl ?_
        refine ez_top (y := nI ((b + 1) - 1)) (pk_sub (by omega)) ?_
        refine ez_cl ez_h89 rfl rfl ?_
        refine mr_lessAt hE hA hw (i := b + 1) (j := (b + 1) - 1) (by omega) (by omega) Q U T (fun A15 hA15 => ?_)
        refine ez_go ez_h89 1 (pc' := 23) (L' := [some (.ref 0), some (.int (nI (b))), some (.int (nI (b + 1))), some (.int (zs_z (zs_b (ze_md E) (ze_ka E) (row (b + 1)) (row ((b + 1) - 1)) g)))]) (st' := []) (w' := mz_w A15 Q U T) rfl ?_
        refine ez_inc ez_h89 rfl rfl (v := nI ((b + 1) + 1)) (zi_1 _) rfl ?_
        rw [Nat.add_sub_cancel] at hA15 ⊢
        rw [hf]
        refine a6 _ Q U T post hA15 (fun A8 hA8 => ?_)
        refine ez_go ez_h89 2 (pc' := bif decide ((zs_z false) = 0) then 62 else 56) (L' := [some (.ref 0), some (.int (nI (b))), some (.int (nI (e))), some (.int (zs_z false))]) (st' := []) (w' := mz_w A8 Q U T) rfl ?_
        refine ez_ifT (zz_f rfl) ?_
        refine ez_go ez_h89 1 (pc' := 63) (L' := [some (.ref 0), some (.int (nI (b))), some (.int (nI (e))), some (.int (zs_z false))]) (st' := [.int (nI (e))]) (w' := mz_w A8 Q U T) rfl ?_
        exact ez_iret rfl ez_h89 rfl rfl (kk _ hA8)
    | true =>
      obtain ⟨e, g1, a1, a2, a3, a4, a5, a6⟩ := zu_scan_true hE (b := b) (ze_n E) (b + 2) row _ (by omega) (by omega) (by omega) hw1
      obtain ⟨row', v1, v2, v3, v4⟩ := zu_rev hE (b := b) (e := e) (by omega) (by omega) a2 a3
      refine ⟨row', g1, e, by omega, a2, v1, hg1.tr a4, v2.wide (Nat.le_refl _) a2, ?_, ?_⟩
      · refine cr_H.m (L := [some (.ref 5), some (.int (nI (b))), some (.int (nI (ze_n E))), none]) (fun r q u bb post hr kk => ?_) rfl rfl rfl
        refine ez_go ez_h45 3 (pc' := 3) (L' := [some (.ref 5), some (.int (nI (b))), some (.int (nI (ze_n E))), none]) (st' := [.int ((nI (b)) + (nI (2)))]) (w' := cz_w r q u bb) rfl ?_
        refine ez_top (y := nI (b + 2)) (nI_add _ _) ?_
        refine ez_go ez_h45 4 (pc' := bif decide ((nI (b + 2)) ≤ (nI (ze_n E))) then 11 else 9) (L' := [some (.ref 5), some (.int (nI (b))), some (.int (nI (ze_n E))), some (.int (nI (b + 2)))]) (st' := []) (w' := cz_w r q u bb) rfl ?_
        refine ez_ifT (zt_le (a := b + 2) (b := ze_n E) (by omega) (by omega)) ?_
        refine ez_go ez_h45 7 (pc' := 22) (L' := [some (.ref 5), some (.int (nI (b))), some (.int (nI (ze_n E))), some (.int (nI (b + 2)))]) (st' := [.int ((nI (b)) + (nI (1))), .ref 1, .ref 1]) (w' := cz_w r q u bb) rfl ?_
        refine ez_top (y := nI (b + 1)) (nI_add _ _) ?_
        refine ez_cl ez_h45 rfl rfl ?_
        refine cr_at hE hr (k := b + 1) (by omega) q u bb ?_
        refine ez_go ez_h45 3 (pc' := 30) (L' := [some (.ref 5), some (.int (nI (b))), some (.int (nI (ze_n E))), some (.int (nI (b + 2)))]) (st' := [.int (nI (b)), .ref 1, .int (nI (ze_pi E (row (b + 1)))), .ref 1]) (w' := cz_w r q u bb) rfl ?_
        refine ez_cl ez_h45 rfl rfl ?_
        refine cr_at hE hr (k := b) (by omega) q u bb ?_
        refine ez_cl ez_h45 rfl rfl ?_
        refine cr_less hE hr hw.2 (x := row (b + 1)) (y := row b) (hw.1 (b + 1) (by omega)) (hw.1 b (by omega)) q u bb (fun r16 hr16 => ?_)
        refine ez_go ez_h45 1 (pc' := bif decide ((zs_z (zs_b (ze_md E) (ze_ka E) (row (b + 1)) (row b) g)) = 0) then 89 else 39) (L' := [some (.ref 5), some (.int (nI (b))), some (.int (nI (ze_n E))), some (.int (nI (b + 2)))]) (st' := []) (w' := cz_w r16 q u bb) rfl ?_
        refine ez_ifF (zz_t hf) ?_
        refine a5 _ q u bb post hr16 (fun r8 hr8 => ?_)
        refine ez_go ez_h45 4 (pc' := 84) (L' := [some (.ref 5), some (.int (nI (b))), some (.int (nI (ze_n E))), some (.int (nI (e)))]) (st' := [.int (nI (e)), .int (nI (b)), .ref 1]) (w' := cz_w r8 q u bb) rfl ?_
        refine ez_cl ez_h45 rfl rfl ?_
        refine v3 _ q u bb _ hr8 (fun r7 hr7 => ?_)
        refine ez_go ez_h45 1 (pc' := 88) (L' := [some (.ref 5), some (.int (nI (b))), some (.int (nI (ze_n E))), some (.int (nI (e)))]) (st' := [.int (nI (e))]) (w' := cz_w r7 q u bb) rfl ?_
        exact ez_iret rfl ez_h45 rfl rfl (kk _ hr7)
      · refine mr_H.m (L := [some (.ref 0), some (.int (nI (b))), none, none]) (fun A Q U T post hA kk => ?_) rfl rfl rfl
        refine ez_go ez_h89 3 (pc' := 3) (L' := [some (.ref 0), some (.int (nI (b))), none, none]) (st' := [.int ((nI (b)) + (nI (1)))]) (w' := mz_w A Q U T) rfl ?_
        refine ez_top (y := nI (b + 1)) (nI_add _ _) ?_
        refine ez_go ez_h89 4 (pc' := 9) (L' := [some (.ref 0), some (.int (nI (b))), some (.int (nI (b + 1))), none]) (st' := [.int (A.1), .int (nI (b + 1))]) (w' := mz_w A Q U T) rfl ?_
        refine ez_top (y := nI (ze_n E)) (hA.1) ?_
        refine ez_go ez_h89 1 (pc' := bif decide (¬ (nI (b + 1)) = (nI (ze_n E))) then 14 else 12) (L' := [some (.ref 0), some (.int (nI (b))), some (.int (nI (b + 1))), none]) (st' := []) (w' := mz_w A Q U T) rfl ?_
        refine ez_ifT (zt_ne (by omega) (by omega) (by omega)) ?_
        refine ez_go ez_h89 5 (pc' := 19) (L' := [some (.ref 0), some (.int (nI (b))), some (.int (nI (b + 1))), none]) (st' := [.int ((nI (b + 1)) - (nI (1))), .int (nI (b + 1)), .ref 0]) (w' := mz_w A Q U T) rfl ?_
        refine ez_top (y := nI ((b + 1) - 1)) (pk_sub (by omega)) ?_
        refine ez_cl ez_h89 rfl rfl ?_
        refine mr_lessAt hE hA hw (i := b + 1) (j := (b + 1) - 1) (by omega) (by omega) Q U T (fun A17 hA17 => ?_)
        refine ez_go ez_h89 1 (pc' := 23) (L' := [some (.ref 0), some (.int (nI (b))), some (.int (nI (b + 1))), some (.int (zs_z (zs_b (ze_md E) (ze_ka E) (row (b + 1)) (row ((b + 1) - 1)) g)))]) (st' := []) (w' := mz_w A17 Q U T) rfl ?_
        refine ez_inc ez_h89 rfl rfl (v := nI ((b + 1) + 1)) (zi_1 _) rfl ?_
        rw [Nat.add_sub_cancel] at hA17 ⊢
        rw [hf]
        refine a6 _ Q U T post hA17 (fun A8 hA8 => ?_)
        refine ez_go ez_h89 2 (pc' := bif decide ((zs_z true) = 0) then 62 else 56) (L' := [some (.ref 0), some (.int (nI (b))), some (.int (nI (e))), some (.int (zs_z true))]) (st' := []) (w' := mz_w A8 Q U T) rfl ?_
        refine ez_ifF (zz_t rfl) ?_
        refine ez_go ez_h89 3 (pc' := 59) (L' := [some (.ref 0), some (.int (nI (b))), some (.int (nI (e))), some (.int (zs_z true))]) (st' := [.int (nI (e)), .int (nI (b)), .ref 0]) (w' := mz_w A8 Q U T) rfl ?_
        refine ez_cl ez_h89 rfl rfl ?_
        refine v4 _ Q U T _ hA8 (fun A7 hA7 => ?_)
        refine ez_go ez_h89 1 (pc' := 63) (L' := [some (.ref 0), some (.int (nI (b))), some (.int (nI (e))), some (.int (zs_z true))]) (st' := [.int (nI (e))]) (w' := mz_w A7 Q U T) rfl ?_
        exact ez_iret rfl ez_h89 rfl rfl (kk _ hA7)
