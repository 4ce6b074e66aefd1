theorem zs_L.ir {md : Bool} {ka : Nat → Int64} {g : zs_G} {x : Nat} (h : zs_L md ka g x x) : False := by
  cases md
  · replace h : ka x < ka x := h
    exact Int64.lt_irrefl h
  · obtain ⟨a, h1, h2⟩ := h
    have := h2 a h1
    omega
/-- up to l, till one is greater -/
theorem zk_eb {E : ze_T} (hE : ze_ok E) {x l : Nat} (hx : x < ze_n E) (hl : l < ze_n E) {row : Nat → Nat} : ∀ (s f : Nat) (g : zs_G), l ≤ f + s → f ≤ l → zr_ok E row g →
    ∃ (f' : Nat) (g' : zs_G), f ≤ f' ∧ f' ≤ l ∧ zr_ok E row g' ∧ zx_le E g g' ∧ (f' < l → zs_L (ze_md E) (ze_ka E) g' x (row f')) ∧
      cr_G E 18 37 [some (.ref 4), some (.int (nI (ze_pi E (x)))), some (.int (nI (f))), some (.int (nI (l))), none] row g 74 [some (.ref 4), some (.int (nI (ze_pi E (x)))), some (.int (nI (f'))), some (.int (nI (l))), none] row g' ∧ (∀ b e : Nat, mr_G E 81 52 [some (.ref 0), some (.int (nI (b))), some (.int (nI (e))), some (.int (nI (x))), some (.int (nI (f))), some (.int (nI (l))), none] row g 120 [some (.ref 0), some (.int (nI (b))), some (.int (nI (e))), some (.int (nI (x))), some (.int (nI (f'))), some (.int (nI (l))), none] row g') := by
  have hn := hE.1
  intro s
  induction s with
  | zero =>
    intro f g h1 h2 hw
    refine ⟨f, g, Nat.le_refl _, h2, hw, zx_le.rf g, fun z => by omega, ?_, fun b e => ?_⟩
    · intro r q u bb post hr kk
      refine ez_go ez_h18 3 (pc' := bif decide ((nI (l)) ≤ (nI (f))) then 74 else 42) (L' := [some (.ref 4), some (.int (nI (ze_pi E (x)))), some (.int (nI (f))), some (.int (nI (l))), none]) (st' := []) (w' := cz_w r q u bb) rfl ?_
      refine ez_ifT (zt_le (a := l) (b := f) (by omega) (by omega)) ?_
      exact kk _ hr
    · intro A Q U T post hA kk
      refine ez_go ez_h81 3 (pc' := bif decide ((nI (l)) ≤ (nI (f))) then 120 else 59) (L' := [some (.ref 0), some (.int (nI (b))), some (.int (nI (e))), some (.int (nI (x))), some (.int (nI (f))), some (.int (nI (l))), none]) (st' := []) (w' := mz_w A Q U T) rfl ?_
      refine ez_ifT (zt_le (a := l) (b := f) (by omega) (by omega)) ?_
      exact kk _ hA
  | succ s ih =>
    intro f g h1 h2 hw
    by_cases hf : l ≤ f
    · refine ⟨f, g, Nat.le_refl _, h2, hw, zx_le.rf g, fun z => by omega, ?_, fun b e => ?_⟩
      · intro r q u bb post hr kk
        refine ez_go ez_h18 3 (pc' := bif decide ((nI (l)) ≤ (nI (f))) then 74 else 42) (L' := [some (.ref 4), some (.int (nI (ze_pi E (x)))), some (.int (nI (f))), some (.int (nI (l))), none]) (st' := []) (w' := cz_w r q u bb) rfl ?_
        refine ez_ifT (zt_le (a := l) (b := f) (by omega) (by omega)) ?_
        exact kk _ hr
      · intro A Q U T post hA kk
        refine ez_go ez_h81 3 (pc' := bif decide ((nI (l)) ≤ (nI (f))) then 120 else 59) (L' := [some (.ref 0), some (.int (nI (b))), some (.int (nI (e))), some (.int (nI (x))), some (.int (nI (f))), some (.int (nI (l))), none]) (st' := []) (w' := mz_w A Q U T) rfl ?_
        refine ez_ifT (zt_le (a := l) (b := f) (by omega) (by omega)) ?_
        exact kk _ hA
    · have hw1 := hw.go hx (hw.1 (f + 1) (by omega))
      have hg1 : zx_le E g _ := zx_le.go hw x (row (f + 1))
      cases hb : zs_b (ze_md E) (ze_ka E) x (row (f + 1)) g with
      | false =>
        obtain ⟨f', g', a1, a2, a3, a4, a5, a6, a7⟩ := ih (f + 1) _ (by omega) (by omega) hw1
        refine ⟨f', g', by omega, a2, a3, hg1.tr a4, a5, ?_, fun b e => ?_⟩
        · intro r q u bb post hr kk
          refine ez_go ez_h18 3 (pc' := bif decide ((nI (l)) ≤ (nI (f))) then 74 else 42) (L' := [some (.ref 4), some (.int (nI (ze_pi E (x)))), some (.int (nI (f))), some (.int (nI (l))), none]) (st' := []) (w' := cz_w r q u bb) rfl ?_
          refine ez_ifF (zt_nle (a := l) (b := f) (by omega) (by omega)) ?_
          refine ez_inc ez_h18 rfl rfl (v := nI (f + 1)) (zi_1 _) rfl ?_
          refine ez_go ez_h18 6 (pc' := 55) (L' := [some (.ref 4), some (.int (nI (ze_pi E (x)))), some (.int (nI (f + 1))), some (.int (nI (l))), none]) (st' := [.int (nI (f + 1)), .ref 1, .int (nI (ze_pi E (x))), .ref 1]) (w' := cz_w r q u bb) rfl ?_
          refine ez_cl ez_h18 rfl rfl ?_
          refine cr_at hE hr (k := f + 1) (by omega) q u bb ?_
          refine ez_cl ez_h18 rfl rfl ?_
          refine cr_less hE hr hw.2 (x := x) (y := row (f + 1)) hx (hw.1 (f + 1) (by omega)) q u bb (fun r36 hr36 => ?_)
          refine ez_go ez_h18 1 (pc' := bif decide ((zs_z (zs_b (ze_md E) (ze_ka E) x (row (f + 1)) g)) = 0) then 37 else 64) (L' := [some (.ref 4), some (.int (nI (ze_pi E (x)))), some (.int (nI (f + 1))), some (.int (nI (l))), none]) (st' := []) (w' := cz_w r36 q u bb) rfl ?_
          refine ez_ifT (zz_f hb) ?_
          exact a6 _ q u bb post hr36 kk
        · intro A Q U T post hA kk
          refine ez_go ez_h81 3 (pc' := bif decide ((nI (l)) ≤ (nI (f))) then 120 else 59) (L' := [some (.ref 0), some (.int (nI (b))), some (.int (nI (e))), some (.int (nI (x))), some (.int (nI (f))), some (.int (nI (l))), none]) (st' := []) (w' := mz_w A Q U T) rfl ?_
          refine ez_ifF (zt_nle (a := l) (b := f) (by omega) (by omega)) ?_
          refine ez_inc ez_h81 rfl rfl (v := nI (f + 1)) (zi_1 _) rfl ?_
          refine ez_go ez_h81 5 (pc' := 70) (L' := [some (.ref 0), some (.int (nI (b))), some (.int (nI (e))), some (.int (nI (x))), some (.int (nI (f + 1))), some (.int (nI (l))), none]) (st' := [.int (nI (f + 1)), .ref 4, .int (nI (x)), .ref 0]) (w' := mz_w A Q U T) rfl ?_
          refine mr_ld ez_h81 rfl hE hA (k := f + 1) (by omega) ?_
          refine ez_cl ez_h81 rfl rfl ?_
          refine mr_less hE hA hw.2 (x := x) (y := row (f + 1)) hx (hw.1 (f + 1) (by omega)) Q U T (fun A37 hA37 => ?_)
          refine ez_go ez_h81 1 (pc' := bif decide (¬ (zs_z (zs_b (ze_md E) (ze_ka E) x (row (f + 1)) g)) = 0) then 81 else 77) (L' := [some (.ref 0), some (.int (nI (b))), some (.int (nI (e))), some (.int (nI (x))), some (.int (nI (f + 1))), some (.int (nI (l))), none]) (st' := []) (w' := mz_w A37 Q U T) rfl ?_
          refine ez_ifF (fun z => z (zz_f hb)) ?_
          refine ez_go ez_h81 6 (pc' := bif decide ((nI (1)) = (nI 0)) then 120 else 52) (L' := [some (.ref 0), some (.int (nI (b))), some (.int (nI (e))), some (.int (nI (x))), some (.int (nI (f + 1))), some (.int (nI (l))), some (.int (nI (1)))]) (st' := []) (w' := mz_w A37 Q U T) rfl ?_
          refine ez_ifF (zt_ne (by omega) (by omega) (by omega)) ?_
          exact ez_E.le (ez_lc (ez_lc (ez_lc (ez_lc (ez_lc (ez_lc (ez_ln ez_l0))))))) (a7 b e _ Q U T post hA37 kk)
      | true =>
        refine ⟨f + 1, _, by omega, by omega, hw1, hg1, fun _ => zs_b_L hb, ?_, fun b e => ?_⟩
        · intro r q u bb post hr kk
          refine ez_go ez_h18 3 (pc' := bif decide ((nI (l)) ≤ (nI (f))) then 74 else 42) (L' := [some (.ref 4), some (.int (nI (ze_pi E (x)))), some (.int (nI (f))), some (.int (nI (l))), none]) (st' := []) (w' := cz_w r q u bb) rfl ?_
          refine ez_ifF (zt_nle (a := l) (b := f) (by omega) (by omega)) ?_
          refine ez_inc ez_h18 rfl rfl (v := nI (f + 1)) (zi_1 _) rfl ?_
          refine ez_go ez_h18 6 (pc' := 55) (L' := [some (.ref 4), some (.int (nI (ze_pi E (x)))), some (.int (nI (f + 1))), some (.int (nI (l))), none]) (st' := [.int (nI (f + 1)), .ref 1, .int (nI (ze_pi E (x))), .ref 1]) (w' := cz_w r q u bb) rfl ?_
          refine ez_cl ez_h18 rfl rfl ?_
          refine cr_at hE hr (k := f + 1) (by omega) q u bb ?_
          refine ez_cl ez_h18 rfl rfl ?_
          refine cr_less hE hr hw.2 (x := x) (y := row (f + 1)) hx (hw.1 (f + 1) (by omega)) q u bb (fun r38 hr38 => ?_)
          refine ez_go ez_h18 1 (pc' := bif decide ((zs_z (zs_b (ze_md E) (ze_ka E) x (row (f + 1)) g)) = 0) then 37 else 64) (L' := [some (.ref 4), some (.int (nI (ze_pi E (x)))), some (.int (nI (f + 1))), some (.int (nI (l))), none]) (st' := []) (w' := cz_w r38 q u bb) rfl ?_
          refine ez_ifF (zz_t hb) ?_
          refine ez_go ez_h18 1 (pc' := 74) (L' := [some (.ref 4), some (.int (nI (ze_pi E (x)))), some (.int (nI (f + 1))), some (.int (nI (l))), none]) (st' := []) (w' := cz_w r38 q u bb) rfl ?_
          exact kk _ hr38
        · intro A Q U T post hA kk
          refine ez_go ez_h81 3 (pc' := bif decide ((nI (l)) ≤ (nI (f))) then 120 else 59) (L' := [some (.ref 0), some (.int (nI (b))), some (.int (nI (e))), some (.int (nI (x))), some (.int (nI (f))), some (.int (nI (l))), none]) (st' := []) (w' := mz_w A Q U T) rfl ?_
          refine ez_ifF (zt_nle (a := l) (b := f) (by omega) (by omega)) ?_
          refine ez_inc ez_h81 rfl rfl (v := nI (f + 1)) (zi_1 _) rfl ?_
          refine ez_go ez_h81 5 (pc' := 70) (L' := [some (.ref 0), some (.int (nI (b))), some (.int (nI (e))), some (.int (nI (x))), some (.int (nI (f + 1))), some (.int (nI (l))), none]) (st' := [.int (nI (f + 1)), .ref 4, .int (nI (x)), .ref 0]) (w' := mz_w A Q U T) rfl ?_
          refine mr_ld ez_h81 rfl hE hA (k := f + 1) (by omega) ?_
          refine ez_cl ez_h81 rfl rfl ?_
          refine mr_less hE hA hw.2 (x := x) (y := row (f + 1)) hx (hw.1 (f + 1) (by omega)) Q U T (fun A39 hA39 => ?_)
          refine ez_go ez_h81 1 (pc' := bif decide (¬ (zs_z (zs_b (ze_md E) (ze_ka E) x (row (f + 1)) g)) = 0) then 81 else 77) (L' := [some (.ref 0), some (.int (nI (b))), some (.int (nI (e))), some (.int (nI (x))), some (.int (nI (f + 1))), some (.int (nI (l))), none]) (st' := []) (w' := mz_w A39 Q U T) rfl ?_
          refine ez_ifT (zz_t hb) ?_
          refine ez_go ez_h81 5 (pc' := bif decide ((nI (0)) = (nI 0)) then 120 else 52) (L' := [some (.ref 0), some (.int (nI (b))), some (.int (nI (e))), some (.int (nI (x))), some (.int (nI (f + 1))), some (.int (nI (l))), some (.int (nI (0)))]) (st' := []) (w' := mz_w A39 Q U T) rfl ?_
          refine ez_ifT (zt_eq (by omega)) ?_
          exact ez_E.le (ez_lc (ez_lc (ez_lc (ez_lc (ez_lc (ez_lc (ez_ln ez_l0))))))) (kk _ hA39)
theorem zk_el {E : ze_T} (hE : ze_ok E) {x b e : Nat} (hx : x < ze_n E) (he : e ≤ ze_n E) : ∀ (s f l kn : Nat) (row : Nat → Nat) (g : zs_G), l ≤ f + s → b ≤ f → b ≤ l → l < e → f ≤ e → kn + l ≤ 600 + f → kn ≤ 600 → row b = x → zr_ok E row g → zs_K (ze_md E) (ze_ka E) g (row l) x → (f < l → zs_L (ze_md E) (ze_ka E) g x (row f)) →
    ∃ (l' : Nat) (row' : Nat → Nat) (g' : zs_G), b ≤ l' ∧ l' < e ∧ zr_ok E row' g' ∧ zx_le E g g' ∧ zp_in row row' b e ∧ row' b = x ∧
      cr_G E 18 77 [some (.ref 4), some (.int (nI (ze_pi E (x)))), some (.int (nI (f))), some (.int (nI (l))), some (.int (nI (kn)))] row g 119 [some (.ref 4), some (.int (nI (ze_pi E (x)))), none, some (.int (nI (l'))), none] row' g' ∧ mr_G E 81 120 [some (.ref 0), some (.int (nI (b))), some (.int (nI (e))), some (.int (nI (x))), some (.int (nI (f))), some (.int (nI (l))), none] row g 183 [some (.ref 0), some (.int (nI (b))), none, some (.int (nI (x))), none, some (.int (nI (l'))), none] row' g' := by
  have hn := hE.1
  intro s
  induction s using Nat.strongRecOn with
  | _ s ih =>
    intro f l kn row g h1 h2 h3 h4 h4b h5 h6 hb hw hK hL
    by_cases hfl : l ≤ f
    · refine ⟨l, row, g, h3, h4, hw, zx_le.rf g, zp_in.rf _ _ _, hb, ?_, ?_⟩
      · intro r q u bb post hr kk
        refine ez_go ez_h18 3 (pc' := bif decide ((nI (l)) ≤ (nI (f))) then 119 else 82) (L' := [some (.ref 4), some (.int (nI (ze_pi E (x)))), some (.int (nI (f))), some (.int (nI (l))), some (.int (nI (kn)))]) (st' := []) (w' := cz_w r q u bb) rfl ?_
        refine ez_ifT (zt_le (a := l) (b := f) (by omega) (by omega)) ?_
        exact ez_E.le (ez_lc (ez_lc (ez_ln (ez_lc (ez_ln ez_l0))))) (kk _ hr)
      · intro A Q U T post hA kk
        refine ez_go ez_h81 3 (pc' := bif decide ((nI (l)) ≤ (nI (f))) then 183 else 127) (L' := [some (.ref 0), some (.int (nI (b))), some (.int (nI (e))), some (.int (nI (x))), some (.int (nI (f))), some (.int (nI (l))), none]) (st' := []) (w' := mz_w A Q U T) rfl ?_
        refine ez_ifT (zt_le (a := l) (b := f) (by omega) (by omega)) ?_
        exact ez_E.le (ez_lc (ez_lc (ez_ln (ez_lc (ez_ln (ez_lc (ez_lc ez_l0))))))) (kk _ hA)
    · have hL := hL (by omega)
      have hbf : b ≠ f := fun z => by rw [← z, hb] at hL; exact hL.ir
      have hw1 : zr_ok E (zs_sw row f l) g := hw.sw (by omega) (by omega)
      have e1 : zs_sw row f l f = row l := (zk_swp (by omega)).1
      have e2 : zs_sw row f l l = row f := (zk_swp (by omega)).2
      have e3 : zs_sw row f l b = x := by rw [zk_swo hbf (by omega)]; exact hb
      obtain ⟨l1, g1, a1, a2, a3, a4, a5, a6, a7, a8, a9⟩ := zk_dG hE (lo := f) hx (row := zs_sw row f l) l (l - 1) g (by omega) (by omega) (by omega) hw1 (by rw [e1]; exact hK)
      obtain ⟨f1, g2, b1, b2, b3, b4, b5, b6, b7, b8, b9⟩ := zk_uG hE (hi := l) hx (row := zs_sw row f l) l (f + 1) g1 (by omega) (by omega) (by omega) a3 (by rw [e2]; exact a4.2 _ _ hx hL)
      obtain ⟨l', row', g', d1, d2, d3, d4, d5, d6, d7, d8⟩ := ih (l1 - f1) (by omega) f1 l1 (kn + 1) (zs_sw row f l) g2 (by omega) (by omega) (by omega) (by omega) (by omega) (by omega) (by omega) e3 b3 (b4.1 _ _ (a3.1 l1 (by omega)) a5) (fun _ => b5)
      refine ⟨l', row', g', d1, d2, d3, (a4.tr b4).tr d4, (zp_in.sw row (by omega) (by omega)).tr d5, d6, ?_, ?_⟩
      · intro r q u bb post hr kk
        refine ez_go ez_h18 3 (pc' := bif decide ((nI (l)) ≤ (nI (f))) then 119 else 82) (L' := [some (.ref 4), some (.int (nI (ze_pi E (x)))), some (.int (nI (f))), some (.int (nI (l))), some (.int (nI (kn)))]) (st' := []) (w' := cz_w r q u bb) rfl ?_
        refine ez_ifF (zt_nle (a := l) (b := f) (by omega) (by omega)) ?_
        refine ez_go ez_h18 3 (pc' := bif decide ((nI (600)) ≤ (nI (kn))) then 119 else 90) (L' := [some (.ref 4), some (.int (nI (ze_pi E (x)))), some (.int (nI (f))), some (.int (nI (l))), some (.int (nI (kn)))]) (st' := []) (w' := cz_w r q u bb) rfl ?_
        refine ez_ifF (zt_nle (a := 600) (b := kn) (by omega) (by omega)) ?_
        refine ez_go ez_h18 4 (pc' := 96) (L' := [some (.ref 4), some (.int (nI (ze_pi E (x)))), some (.int (nI (f))), some (.int (nI (l))), some (.int (nI (kn)))]) (st' := [.int (nI (l)), .int (nI (f)), .ref 1]) (w' := cz_w r q u bb) rfl ?_
        refine ez_cl ez_h18 rfl rfl ?_
        refine cr_swap hE hr (i := f) (j := l) (by omega) (by omega) q u bb (fun r40 hr40 => ?_)
        refine ez_go ez_h18 3 (pc' := 102) (L' := [some (.ref 4), some (.int (nI (ze_pi E (x)))), some (.int (nI (f))), some (.int (nI (l))), some (.int (nI (kn)))]) (st' := [.int (nI (ze_pi E (x))), .int (nI (l)), .ref 4]) (w' := cz_w r40 q u bb) rfl ?_
        refine ez_cl ez_h18 rfl rfl ?_
        refine zk_dGm (by omega) (a7 l) _ q u bb _ hr40 (fun r41 hr41 => ?_)
        refine ez_go ez_h18 4 (pc' := 109) (L' := [some (.ref 4), some (.int (nI (ze_pi E (x)))), some (.int (nI (f))), some (.int (nI (l1))), some (.int (nI (kn)))]) (st' := [.int (nI (ze_pi E (x))), .int (nI (f)), .ref 4]) (w' := cz_w r41 q u bb) rfl ?_
        refine ez_cl ez_h18 rfl rfl ?_
        refine zk_uGm (b7 f) _ q u bb _ hr41 (fun r42 hr42 => ?_)
        refine ez_go ez_h18 1 (pc' := 113) (L' := [some (.ref 4), some (.int (nI (ze_pi E (x)))), some (.int (nI (f1))), some (.int (nI (l1))), some (.int (nI (kn)))]) (st' := []) (w' := cz_w r42 q u bb) rfl ?_
        refine ez_inc ez_h18 rfl rfl (v := nI (kn + 1)) (zi_1 _) rfl ?_
        refine ez_go ez_h18 1 (pc' := 77) (L' := [some (.ref 4), some (.int (nI (ze_pi E (x)))), some (.int (nI (f1))), some (.int (nI (l1))), some (.int (nI (kn + 1)))]) (st' := []) (w' := cz_w r42 q u bb) rfl ?_
        exact d7 _ q u bb post hr42 kk
      · intro A Q U T post hA kk
        refine ez_go ez_h81 3 (pc' := bif decide ((nI (l)) ≤ (nI (f))) then 183 else 127) (L' := [some (.ref 0), some (.int (nI (b))), some (.int (nI (e))), some (.int (nI (x))), some (.int (nI (f))), some (.int (nI (l))), none]) (st' := []) (w' := mz_w A Q U T) rfl ?_
        refine ez_ifF (zt_nle (a := l) (b := f) (by omega) (by omega)) ?_
        refine ez_go ez_h81 3 (pc' := 132) (L' := [some (.ref 0), some (.int (nI (b))), some (.int (nI (e))), some (.int (nI (x))), some (.int (nI (f))), some (.int (nI (l))), none]) (st' := [.int (nI (l)), .int (nI (f)), .ref 0]) (w' := mz_w A Q U T) rfl ?_
        refine ez_cl ez_h81 rfl rfl ?_
        refine mr_swap hE hA (i := f) (j := l) (by omega) (by omega) Q U T (fun A43 hA43 => ?_)
        refine ez_inc ez_h81 rfl rfl (v := nI (l - 1)) (zi_m (by omega)) rfl ?_
        refine a9 b e f _ Q U T post hA43 (fun A8 hA8 => ?_)
        refine ez_inc ez_h81 rfl rfl (v := nI (f + 1)) (zi_1 _) rfl ?_
        refine b9 b e l1 _ Q U T post hA8 (fun A9 hA9 => ?_)
        exact d8 _ Q U T post hA9 kk
/-- EQUAL ones go left: the range begins behind l -/
theorem zk_equal {E : ze_T} (hE : ze_ok E) {b e : Nat} (hb : 1 ≤ b) (hs : b + 24 ≤ e) (he : e ≤ ze_n E) {row : Nat → Nat} {g : zs_G} (hw : zr_ok E row g) (hK : ∀ k, b ≤ k → k < e → zs_K (ze_md E) (ze_ka E) g (row b) (row k)) :
    ∃ (row' : Nat → Nat) (g' : zs_G) (l : Nat), b ≤ l ∧ l < e ∧ zr_ok E row' g' ∧ zg_le E g g' ∧ zp_in row row' b e ∧ zs_S E row' g' (l + 1) e ∧
      (∀ (r : cz_Row) (q : cz_Qk) (u : cz_Rn) (bb : cz_Bn) (post : Option Value → ez_W → Prop), cr_R E row g r → q.2.1 = nI b → q.2.2.1 = nI e → (∀ r' : cz_Row, cr_R E row' g' r' → post (some (.int (nI l))) (cz_w r' q u bb)) → ez_m 18 [.ref 4] (cz_w r q u bb) post) ∧
      mr_M E 81 [.ref 0, .int (nI b), .int (nI e)] row g (some (.int (nI (l + 1)))) row' g' := by
  have hn := hE.1
  have hx : row b < ze_n E := hw.1 b (by omega)
  obtain ⟨l1, g1, a1, a2, a3, a4, a5, a6, a7, a8, a9⟩ := zk_dG hE (lo := b) hx (row := row) e (e - 1) g (by omega) (by omega) (by omega) hw (zs_K.rf _)
  have h2 : ∃ (f2 : Nat) (g2 : zs_G), b ≤ f2 ∧ f2 ≤ l1 + 1 ∧ zr_ok E row g2 ∧ zx_le E g1 g2 ∧ (f2 < l1 → zs_L (ze_md E) (ze_ka E) g2 (row b) (row f2)) ∧
      (∀ (r : cz_Row) (q : cz_Qk) (u : cz_Rn) (bb : cz_Bn) (post : Option Value → ez_W → Prop), q.2.1 = nI b → q.2.2.1 = nI e → cr_R E row g1 r → (∀ r' : cz_Row, cr_R E row g2 r' → ez_E 18 74 [some (.ref 4), some (.int (nI (ze_pi E (row b)))), some (.int (nI (f2))), some (.int (nI (l1))), none] [] (cz_w r' q u bb) post) → ez_E 18 27 [some (.ref 4), some (.int (nI (ze_pi E (row b)))), some (.int (nI (b))), some (.int (nI (l1))), none] [] (cz_w r q u bb) post) ∧ mr_G E 81 36 [some (.ref 0), some (.int (nI (b))), some (.int (nI (e))), some (.int (nI (row b))), some (.int (nI (b))), some (.int (nI (l1))), none] row g1 120 [some (.ref 0), some (.int (nI (b))), some (.int (nI (e))), some (.int (nI (row b))), some (.int (nI (f2))), some (.int (nI (l1))), none] row g2 := by
    by_cases hle : l1 + 1 = e
    · obtain ⟨f2, g2, b1, b2, b3, b4, b5, b6, b7⟩ := zk_eb hE hx (l := l1) (by omega) (row := row) l1 b g1 (by omega) a1 a3
      refine ⟨f2, g2, b1, by omega, b3, b4, b5, fun r q u bb post e1 e2 hr kk => ?_, fun A Q U T post hA kk => ?_⟩
      · obtain ⟨wtg, fr, to, bud, fst, mid, wp, fls, prt, wf, wt, wb⟩ := q
        replace e1 : fr = nI b := e1
        replace e2 : to = nI e := e2
        subst e1 e2
        refine ez_go ez_h18 3 (pc' := 30) (L' := [some (.ref 4), some (.int (nI (ze_pi E (row b)))), some (.int (nI (b))), some (.int (nI (l1))), none]) (st' := [.int ((nI (l1)) + (nI (1)))]) (w' := cz_w r (wtg, nI (b), nI (e), bud, fst, mid, wp, fls, prt, wf, wt, wb) u bb) rfl ?_
        refine ez_top (y := nI (l1 + 1)) (nI_add _ _) ?_
        refine ez_go ez_h18 3 (pc' := bif decide (¬ (nI (l1 + 1)) = (nI (e))) then 67 else 37) (L' := [some (.ref 4), some (.int (nI (ze_pi E (row b)))), some (.int (nI (b))), some (.int (nI (l1))), none]) (st' := []) (w' := cz_w r (wtg, nI (b), nI (e), bud, fst, mid, wp, fls, prt, wf, wt, wb) u bb) rfl ?_
        refine ez_ifF (fun z => z (zt_eq (by omega))) ?_
        exact b6 _ (wtg, nI (b), nI (e), bud, fst, mid, wp, fls, prt, wf, wt, wb) u bb post hr kk
      · skip
        refine ez_go ez_h81 5 (pc' := 43) (L' := [some (.ref 0), some (.int (nI (b))), some (.int (nI (e))), some (.int (nI (row b))), some (.int (nI (b))), some (.int (nI (l1))), some (.int (nI (1)))]) (st' := [.int ((nI (l1)) + (nI (1)))]) (w' := mz_w A Q U T) rfl ?_
        refine ez_top (y := nI (l1 + 1)) (nI_add _ _) ?_
        refine ez_go ez_h81 2 (pc' := bif decide (¬ (nI (l1 + 1)) = (nI (e))) then 87 else 47) (L' := [some (.ref 0), some (.int (nI (b))), some (.int (nI (e))), some (.int (nI (row b))), some (.int (nI (b))), some (.int (nI (l1))), some (.int (nI (1)))]) (st' := []) (w' := mz_w A Q U T) rfl ?_
        refine ez_ifF (fun z => z (zt_eq (by omega))) ?_
        refine ez_go ez_h81 2 (pc' := bif decide ((nI (1)) = (nI 0)) then 120 else 52) (L' := [some (.ref 0), some (.int (nI (b))), some (.int (nI (e))), some (.int (nI (row b))), some (.int (nI (b))), some (.int (nI (l1))), some (.int (nI (1)))]) (st' := []) (w' := mz_w A Q U T) rfl ?_
        refine ez_ifF (zt_ne (by omega) (by omega) (by omega)) ?_
        exact ez_E.le (ez_lc (ez_lc (ez_lc (ez_lc (ez_lc (ez_lc (ez_ln ez_l0))))))) (b7 b e _ Q U T post hA kk)
    · obtain ⟨f2, g2, b1, b2, b3, b4, b5, b6, b7, b8, b9⟩ := zk_uG hE (hi := l1 + 1) hx (row := row) (l1 + 1) (b + 1) g1 (by omega) (by omega) (by omega) a3 (a6 (l1 + 1) (by omega) (by omega))
      refine ⟨f2, g2, by omega, b2, b3, b4, fun _ => b5, fun r q u bb post e1 e2 hr kk => ?_, fun A Q U T post hA kk => ?_⟩
      · obtain ⟨wtg, fr, to, bud, fst, mid, wp, fls, prt, wf, wt, wb⟩ := q
        replace e1 : fr = nI b := e1
        replace e2 : to = nI e := e2
        subst e1 e2
        refine ez_go ez_h18 3 (pc' := 30) (L' := [some (.ref 4), some (.int (nI (ze_pi E (row b)))), some (.int (nI (b))), some (.int (nI (l1))), none]) (st' := [.int ((nI (l1)) + (nI (1)))]) (w' := cz_w r (wtg, nI (b), nI (e), bud, fst, mid, wp, fls, prt, wf, wt, wb) u bb) rfl ?_
        refine ez_top (y := nI (l1 + 1)) (nI_add _ _) ?_
        refine ez_go ez_h18 3 (pc' := bif decide (¬ (nI (l1 + 1)) = (nI (e))) then 67 else 37) (L' := [some (.ref 4), some (.int (nI (ze_pi E (row b)))), some (.int (nI (b))), some (.int (nI (l1))), none]) (st' := []) (w' := cz_w r (wtg, nI (b), nI (e), bud, fst, mid, wp, fls, prt, wf, wt, wb) u bb) rfl ?_
        refine ez_ifT (zt_ne (by omega) (by omega) (by omega)) ?_
        refine ez_go ez_h18 3 (pc' := 70) (L' := [some (.ref 4), some (.int (nI (ze_pi E (row b)))), some (.int (nI (b))), some (.int (nI (l1))), none]) (st' := [.int (nI (ze_pi E (row b))), .int (nI (b)), .ref 4]) (w' := cz_w r (wtg, nI (b), nI (e), bud, fst, mid, wp, fls, prt, wf, wt, wb) u bb) rfl ?_
        refine ez_cl ez_h18 rfl rfl ?_
        refine zk_uGm (b7 b) _ (wtg, nI (b), nI (e), bud, fst, mid, wp, fls, prt, wf, wt, wb) u bb _ hr (fun r9 hr9 => ?_)
        refine ez_go ez_h18 1 (pc' := 74) (L' := [some (.ref 4), some (.int (nI (ze_pi E (row b)))), some (.int (nI (f2))), some (.int (nI (l1))), none]) (st' := []) (w' := cz_w r9 (wtg, nI (b), nI (e), bud, fst, mid, wp, fls, prt, wf, wt, wb) u bb) rfl ?_
        exact kk _ hr9
      · skip
        refine ez_go ez_h81 5 (pc' := 43) (L' := [some (.ref 0), some (.int (nI (b))), some (.int (nI (e))), some (.int (nI (row b))), some (.int (nI (b))), some (.int (nI (l1))), some (.int (nI (1)))]) (st' := [.int ((nI (l1)) + (nI (1)))]) (w' := mz_w A Q U T) rfl ?_
        refine ez_top (y := nI (l1 + 1)) (nI_add _ _) ?_
        refine ez_go ez_h81 2 (pc' := bif decide (¬ (nI (l1 + 1)) = (nI (e))) then 87 else 47) (L' := [some (.ref 0), some (.int (nI (b))), some (.int (nI (e))), some (.int (nI (row b))), some (.int (nI (b))), some (.int (nI (l1))), some (.int (nI (1)))]) (st' := []) (w' := mz_w A Q U T) rfl ?_
        refine ez_ifT (zt_ne (by omega) (by omega) (by omega)) ?_
        refine ez_go ez_h81 2 (pc' := bif decide ((nI (1)) = (nI 0)) then 120 else 92) (L' := [some (.ref 0), some (.int (nI (b))), some (.int (nI (e))), some (.int (nI (row b))), some (.int (nI (b))), some (.int (nI (l1))), some (.int (nI (1)))]) (st' := []) (w' := mz_w A Q U T) rfl ?_
        refine ez_ifF (zt_ne (by omega) (by omega) (by omega)) ?_
        refine ez_inc ez_h81 rfl rfl (v := nI (b + 1)) (zi_1 _) rfl ?_
        exact ez_E.le (ez_lc (ez_lc (ez_lc (ez_lc (ez_lc (ez_lc (ez_ln ez_l0))))))) (b8 b e l1 _ Q U T post hA kk)
  obtain ⟨f2, g2, c1, c2, c3, c4, c5, c6, c7⟩ := h2
  obtain ⟨l, row3, g3, d1, d2, d3, d4, d5, d6, d7, d8⟩ := zk_el hE hx he (b := b) (l1 - f2) f2 l1 0 row g2 (by omega) c1 a1 (by omega) (by omega) (by omega) (by omega) rfl c3 (c4.1 _ _ (a3.1 l1 (by omega)) a5) c5
  have hge : zg_le E g g3 := (a4.1.tr c4.1).tr d4.1
  have hp3 : zp_in row (va_up (va_up row3 b (row3 l)) l (row b)) b e := d5.tr (by
    have e9 : va_up (va_up row3 b (row3 l)) l (row b) = zs_sw row3 b l := by unfold zs_sw; rw [d6]
    rw [e9]
    exact zp_in.sw row3 (by omega) (by omega))
  refine ⟨va_up (va_up row3 b (row3 l)) l (row b), g3, l, d1, d2, (d3.set (d3.1 l (by omega))).set hx, hge, hp3, ⟨by omega, fun k k1 k2 => ?_⟩, fun r q u bb post hr e1 e2 kk => ?_, ?_⟩
  · obtain ⟨j, j1, j2, j3⟩ := hp3.1 k (by omega) k2
    rw [j3, show l + 1 - 1 = l by omega, va_up_self]
    exact hge _ _ hx (hK j j1 j2)
  · obtain ⟨wtg, fr, to, bud, fst, mid, wp, fls, prt, wf, wt, wb⟩ := q
    replace e1 : fr = nI b := e1
    replace e2 : to = nI e := e2
    subst e1 e2
    refine ez_m.of (L := [some (.ref 4), none, none, none, none]) rfl rfl rfl ?_
    refine ez_go ez_h18 4 (pc' := 8) (L' := [some (.ref 4), none, none, none, none]) (st' := [.int (nI (b)), .ref 1]) (w' := cz_w r (wtg, nI (b), nI (e), bud, fst, mid, wp, fls, prt, wf, wt, wb) u bb) rfl ?_
    refine ez_cl ez_h18 rfl rfl ?_
    refine cr_at hE hr (k := b) (by omega) (wtg, nI (b), nI (e), bud, fst, mid, wp, fls, prt, wf, wt, wb) u bb ?_
    refine ez_go ez_h18 8 (pc' := 23) (L' := [some (.ref 4), some (.int (nI (ze_pi E (row b)))), some (.int (nI (b))), none, none]) (st' := [.int (nI (ze_pi E (row b))), .int (nI (e)), .ref 4]) (w' := cz_w r (wtg, nI (b), nI (e), bud, fst, mid, wp, fls, prt, wf, wt, wb) u bb) rfl ?_
    refine ez_cl ez_h18 rfl rfl ?_
    refine zk_dGm (by omega) (a7 e) _ (wtg, nI (b), nI (e), bud, fst, mid, wp, fls, prt, wf, wt, wb) u bb _ hr (fun r9 hr9 => ?_)
    refine ez_go ez_h18 1 (pc' := 27) (L' := [some (.ref 4), some (.int (nI (ze_pi E (row b)))), some (.int (nI (b))), some (.int (nI (l1))), none]) (st' := []) (w' := cz_w r9 (wtg, nI (b), nI (e), bud, fst, mid, wp, fls, prt, wf, wt, wb) u bb) rfl ?_
    refine c6 _ (wtg, nI (b), nI (e), bud, fst, mid, wp, fls, prt, wf, wt, wb) u bb post rfl rfl hr9 (fun r10 hr10 => ?_)
    refine ez_go ez_h18 2 (pc' := 77) (L' := [some (.ref 4), some (.int (nI (ze_pi E (row b)))), some (.int (nI (f2))), some (.int (nI (l1))), some (.int (nI (0)))]) (st' := []) (w' := cz_w r10 (wtg, nI (b), nI (e), bud, fst, mid, wp, fls, prt, wf, wt, wb) u bb) rfl ?_
    refine d7 _ (wtg, nI (b), nI (e), bud, fst, mid, wp, fls, prt, wf, wt, wb) u bb post hr10 (fun r11 hr11 => ?_)
    refine ez_go ez_h18 7 (pc' := 132) (L' := [some (.ref 4), some (.int (nI (ze_pi E (row b)))), none, some (.int (nI (l))), none]) (st' := [.int (nI (l)), .ref 1, .int (nI (b)), .ref 1]) (w' := cz_w r11 (wtg, nI (b), nI (e), bud, fst, mid, wp, fls, prt, wf, wt, wb) u bb) rfl ?_
    refine ez_cl ez_h18 rfl rfl ?_
    refine cr_at hE hr11 (k := l) (by omega) (wtg, nI (b), nI (e), bud, fst, mid, wp, fls, prt, wf, wt, wb) u bb ?_
    refine ez_cl ez_h18 rfl rfl ?_
    refine cr_set hE hr11 (k := b) (x := row3 l) (by omega) (wtg, nI (b), nI (e), bud, fst, mid, wp, fls, prt, wf, wt, wb) u bb (fun r44 hr44 => ?_)
    refine ez_go ez_h18 4 (pc' := 144) (L' := [some (.ref 4), some (.int (nI (ze_pi E (row b)))), none, some (.int (nI (l))), none]) (st' := [.int (nI (ze_pi E (row b))), .int (nI (l)), .ref 1]) (w' := cz_w r44 (wtg, nI (b), nI (e), bud, fst, mid, wp, fls, prt, wf, wt, wb) u bb) rfl ?_
    refine ez_cl ez_h18 rfl rfl ?_
    refine cr_set hE hr44 (k := l) (x := row b) (by omega) (wtg, nI (b), nI (e), bud, fst, mid, wp, fls, prt, wf, wt, wb) u bb (fun r45 hr45 => ?_)
    refine ez_go ez_h18 1 (pc' := 148) (L' := [some (.ref 4), some (.int (nI (ze_pi E (row b)))), none, some (.int (nI (l))), none]) (st' := [.int (nI (l))]) (w' := cz_w r45 (wtg, nI (b), nI (e), bud, fst, mid, wp, fls, prt, wf, wt, wb) u bb) rfl ?_
    exact ez_iret rfl ez_h18 rfl rfl (kk _ hr45)
  · refine mr_H.m (L := [some (.ref 0), some (.int (nI (b))), some (.int (nI (e))), none, none, none, none]) (fun A Q U T post hA kk => ?_) rfl rfl rfl
    refine ez_go ez_h81 3 (pc' := 5) (L' := [some (.ref 0), some (.int (nI (b))), some (.int (nI (e))), none, none, none, none]) (st' := [.int (nI (b)), .ref 4]) (w' := mz_w A Q U T) rfl ?_
    refine mr_ld ez_h81 rfl hE hA (k := b) (by omega) ?_
    refine ez_go ez_h81 6 (pc' := 13) (L' := [some (.ref 0), some (.int (nI (b))), some (.int (nI (e))), some (.int (nI (row b))), some (.int (nI (b))), none, none]) (st' := [.int ((nI (e)) - (nI (1)))]) (w' := mz_w A Q U T) rfl ?_
    refine ez_top (y := nI (e - 1)) (pk_sub (by omega)) ?_
    refine ez_go ez_h81 1 (pc' := 15) (L' := [some (.ref 0), some (.int (nI (b))), some (.int (nI (e))), some (.int (nI (row b))), some (.int (nI (b))), some (.int (nI (e - 1))), none]) (st' := []) (w' := mz_w A Q U T) rfl ?_
    refine a8 b e b _ Q U T post hA (fun A8 hA8 => ?_)
    refine c7 _ Q U T post hA8 (fun A9 hA9 => ?_)
    refine d8 _ Q U T post hA9 (fun A10 hA10 => ?_)
    refine ez_go ez_h81 6 (pc' := 194) (L' := [some (.ref 0), some (.int (nI (b))), none, some (.int (nI (row b))), none, some (.int (nI (l))), none]) (st' := [.int (nI (l)), .ref 4, .int (nI (b)), .ref 4]) (w' := mz_w A10 Q U T) rfl ?_
    refine mr_ld ez_h81 rfl hE hA10 (k := l) (by omega) ?_
    refine mr_st ez_h81 rfl hE hA10 (k := b) (x := row3 l) (by omega) (fun A46 hA46 => ?_)
    refine ez_go ez_h81 4 (pc' := 203) (L' := [some (.ref 0), some (.int (nI (b))), none, some (.int (nI (row b))), none, some (.int (nI (l))), none]) (st' := [.int (nI (row b)), .int (nI (l)), .ref 4]) (w' := mz_w A46 Q U T) rfl ?_
    refine mr_st ez_h81 rfl hE hA46 (k := l) (x := row b) (by omega) (fun A47 hA47 => ?_)
    refine ez_go ez_h81 3 (pc' := 208) (L' := [some (.ref 0), some (.int (nI (b))), none, some (.int (nI (row b))), none, some (.int (nI (l))), none]) (st' := [.int ((nI (l)) + (nI (1)))]) (w' := mz_w A47 Q U T) rfl ?_
    refine ez_top (y := nI (l + 1)) (nI_add _ _) ?_
    exact ez_iret rfl ez_h81 rfl rfl (kk _ hA47)
