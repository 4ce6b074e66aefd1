/-- down to f, till one is less -/
theorem zk_pb {E : ze_T} (hE : ze_ok E) {x f e : Nat} (hx : x < ze_n E) (he : e ≤ ze_n E) {row : Nat → Nat} : ∀ (s l : Nat) (g : zs_G), l ≤ f + s → f ≤ l → l ≤ e → zr_ok E row g → (∀ k, l ≤ k → k < e → zs_K (ze_md E) (ze_ka E) g x (row k)) →
    ∃ (l' : Nat) (g' : zs_G), f ≤ l' ∧ l' ≤ l ∧ (f < l' → l' < e) ∧ zr_ok E row g' ∧ zx_le E g g' ∧ (f < l' → zs_L (ze_md E) (ze_ka E) g' (row l') x) ∧ (∀ k, l' < k → k < e → zs_K (ze_md E) (ze_ka E) g' x (row k)) ∧
      cr_G E 19 37 [some (.ref 4), some (.int (nI (ze_pi E (x)))), some (.int (nI (f))), some (.int (nI (l))), none] row g 74 [some (.ref 4), some (.int (nI (ze_pi E (x)))), some (.int (nI (f))), some (.int (nI (l'))), none] row g' ∧ (∀ b : Nat, mr_G E 82 52 [some (.ref 0), some (.int (nI (b))), some (.int (nI (e))), some (.int (nI (x))), some (.int (nI (f))), some (.int (nI (l))), none] row g 120 [some (.ref 0), some (.int (nI (b))), some (.int (nI (e))), some (.int (nI (x))), some (.int (nI (f))), some (.int (nI (l'))), none] row g') := by
  have hn := hE.1
  intro s
  induction s with
  | zero =>
    intro l g h1 h2 h3 hw hK
    refine ⟨l, g, h2, Nat.le_refl _, fun z => by omega, hw, zx_le.rf g, fun z => by omega, fun k k1 k2 => hK k (by omega) k2, ?_, fun b => ?_⟩
    · intro r q u bb post hr kk
      refine ez_go ez_h19 3 (pc' := bif decide ((nI (l)) ≤ (nI (f))) then 74 else 42) (L' := [some (.ref 4), some (.int (nI (ze_pi E (x)))), some (.int (nI (f))), some (.int (nI (l))), none]) (st' := []) (w' := cz_w r q u bb) rfl ?_
      refine ez_ifT (zt_le (a := l) (b := f) (by omega) (by omega)) ?_
      exact kk _ hr
    · intro A Q U T post hA kk
      refine ez_go ez_h82 3 (pc' := bif decide ((nI (l)) ≤ (nI (f))) then 120 else 59) (L' := [some (.ref 0), some (.int (nI (b))), some (.int (nI (e))), some (.int (nI (x))), some (.int (nI (f))), some (.int (nI (l))), none]) (st' := []) (w' := mz_w A Q U T) rfl ?_
      refine ez_ifT (zt_le (a := l) (b := f) (by omega) (by omega)) ?_
      exact kk _ hA
  | succ s ih =>
    intro l g h1 h2 h3 hw hK
    by_cases hf : l ≤ f
    · refine ⟨l, g, h2, Nat.le_refl _, fun z => by omega, hw, zx_le.rf g, fun z => by omega, fun k k1 k2 => hK k (by omega) k2, ?_, fun b => ?_⟩
      · intro r q u bb post hr kk
        refine ez_go ez_h19 3 (pc' := bif decide ((nI (l)) ≤ (nI (f))) then 74 else 42) (L' := [some (.ref 4), some (.int (nI (ze_pi E (x)))), some (.int (nI (f))), some (.int (nI (l))), none]) (st' := []) (w' := cz_w r q u bb) rfl ?_
        refine ez_ifT (zt_le (a := l) (b := f) (by omega) (by omega)) ?_
        exact kk _ hr
      · intro A Q U T post hA kk
        refine ez_go ez_h82 3 (pc' := bif decide ((nI (l)) ≤ (nI (f))) then 120 else 59) (L' := [some (.ref 0), some (.int (nI (b))), some (.int (nI (e))), some (.int (nI (x))), some (.int (nI (f))), some (.int (nI (l))), none]) (st' := []) (w' := mz_w A Q U T) rfl ?_
        refine ez_ifT (zt_le (a := l) (b := f) (by omega) (by omega)) ?_
        exact kk _ hA
    · have hw1 := hw.go (hw.1 (l - 1) (by omega)) hx
      have hg1 : zx_le E g _ := zx_le.go hw (row (l - 1)) x
      cases hb : zs_b (ze_md E) (ze_ka E) (row (l - 1)) x g with
      | false =>
        obtain ⟨l', g', a1, a2, a2b, a3, a4, a5, a6, a7, a8⟩ := ih (l - 1) _ (by omega) (by omega) (by omega) hw1 (fun k k1 k2 => by
          by_cases c : k = l - 1
          · rw [c]; exact zs_b_f hw.2 (hw.1 (l - 1) (by omega)) hx hb
          · exact hg1.1 _ _ hx (hK k (by omega) k2))
        refine ⟨l', g', a1, by omega, a2b, a3, hg1.tr a4, a5, a6, ?_, fun b => ?_⟩
        · intro r q u bb post hr kk
          refine ez_go ez_h19 3 (pc' := bif decide ((nI (l)) ≤ (nI (f))) then 74 else 42) (L' := [some (.ref 4), some (.int (nI (ze_pi E (x)))), some (.int (nI (f))), some (.int (nI (l))), none]) (st' := []) (w' := cz_w r q u bb) rfl ?_
          refine ez_ifF (zt_nle (a := l) (b := f) (by omega) (by omega)) ?_
          refine ez_inc ez_h19 rfl rfl (v := nI (l - 1)) (zi_m (by omega)) rfl ?_
          refine ez_go ez_h19 5 (pc' := 54) (L' := [some (.ref 4), some (.int (nI (ze_pi E (x)))), some (.int (nI (f))), some (.int (nI (l - 1))), none]) (st' := [.int (nI (l - 1)), .ref 1, .ref 1]) (w' := cz_w r q u bb) rfl ?_
          refine ez_cl ez_h19 rfl rfl ?_
          refine cr_at hE hr (k := l - 1) (by omega) q u bb ?_
          refine ez_go ez_h19 1 (pc' := 58) (L' := [some (.ref 4), some (.int (nI (ze_pi E (x)))), some (.int (nI (f))), some (.int (nI (l - 1))), none]) (st' := [.int (nI (ze_pi E (x))), .int (nI (ze_pi E (row (l - 1)))), .ref 1]) (w' := cz_w r q u bb) rfl ?_
          refine ez_cl ez_h19 rfl rfl ?_
          refine cr_less hE hr hw.2 (x := row (l - 1)) (y := x) (hw.1 (l - 1) (by omega)) hx q u bb (fun r48 hr48 => ?_)
          refine ez_go ez_h19 1 (pc' := bif decide ((zs_z (zs_b (ze_md E) (ze_ka E) (row (l - 1)) x g)) = 0) then 37 else 64) (L' := [some (.ref 4), some (.int (nI (ze_pi E (x)))), some (.int (nI (f))), some (.int (nI (l - 1))), none]) (st' := []) (w' := cz_w r48 q u bb) rfl ?_
          refine ez_ifT (zz_f hb) ?_
          exact a7 _ q u bb post hr48 kk
        · intro A Q U T post hA kk
          refine ez_go ez_h82 3 (pc' := bif decide ((nI (l)) ≤ (nI (f))) then 120 else 59) (L' := [some (.ref 0), some (.int (nI (b))), some (.int (nI (e))), some (.int (nI (x))), some (.int (nI (f))), some (.int (nI (l))), none]) (st' := []) (w' := mz_w A Q U T) rfl ?_
          refine ez_ifF (zt_nle (a := l) (b := f) (by omega) (by omega)) ?_
          refine ez_inc ez_h82 rfl rfl (v := nI (l - 1)) (zi_m (by omega)) rfl ?_
          refine ez_go ez_h82 4 (pc' := 69) (L' := [some (.ref 0), some (.int (nI (b))), some (.int (nI (e))), some (.int (nI (x))), some (.int (nI (f))), some (.int (nI (l - 1))), none]) (st' := [.int (nI (l - 1)), .ref 4, .ref 0]) (w' := mz_w A Q U T) rfl ?_
          refine mr_ld ez_h82 rfl hE hA (k := l - 1) (by omega) ?_
          refine ez_go ez_h82 1 (pc' := 71) (L' := [some (.ref 0), some (.int (nI (b))), some (.int (nI (e))), some (.int (nI (x))), some (.int (nI (f))), some (.int (nI (l - 1))), none]) (st' := [.int (nI (x)), .int (nI (row (l - 1))), .ref 0]) (w' := mz_w A Q U T) rfl ?_
          refine ez_cl ez_h82 rfl rfl ?_
          refine mr_less hE hA hw.2 (x := row (l - 1)) (y := x) (hw.1 (l - 1) (by omega)) hx Q U T (fun A49 hA49 => ?_)
          refine ez_go ez_h82 1 (pc' := bif decide (¬ (zs_z (zs_b (ze_md E) (ze_ka E) (row (l - 1)) x g)) = 0) then 81 else 77) (L' := [some (.ref 0), some (.int (nI (b))), some (.int (nI (e))), some (.int (nI (x))), some (.int (nI (f))), some (.int (nI (l - 1))), none]) (st' := []) (w' := mz_w A49 Q U T) rfl ?_
          refine ez_ifF (fun z => z (zz_f hb)) ?_
          refine ez_go ez_h82 6 (pc' := bif decide ((nI (1)) = (nI 0)) then 120 else 52) (L' := [some (.ref 0), some (.int (nI (b))), some (.int (nI (e))), some (.int (nI (x))), some (.int (nI (f))), some (.int (nI (l - 1))), some (.int (nI (1)))]) (st' := []) (w' := mz_w A49 Q U T) rfl ?_
          refine ez_ifF (zt_ne (by omega) (by omega) (by omega)) ?_
          exact ez_E.le (ez_lc (ez_lc (ez_lc (ez_lc (ez_lc (ez_lc (ez_ln ez_l0))))))) (a8 b _ Q U T post hA49 kk)
      | true =>
        refine ⟨l - 1, _, by omega, by omega, fun _ => by omega, hw1, hg1, fun _ => zs_b_L hb, fun k k1 k2 => hg1.1 _ _ hx (hK k (by omega) k2), ?_, fun b => ?_⟩
        · intro r q u bb post hr kk
          refine ez_go ez_h19 3 (pc' := bif decide ((nI (l)) ≤ (nI (f))) then 74 else 42) (L' := [some (.ref 4), some (.int (nI (ze_pi E (x)))), some (.int (nI (f))), some (.int (nI (l))), none]) (st' := []) (w' := cz_w r q u bb) rfl ?_
          refine ez_ifF (zt_nle (a := l) (b := f) (by omega) (by omega)) ?_
          refine ez_inc ez_h19 rfl rfl (v := nI (l - 1)) (zi_m (by omega)) rfl ?_
          refine ez_go ez_h19 5 (pc' := 54) (L' := [some (.ref 4), some (.int (nI (ze_pi E (x)))), some (.int (nI (f))), some (.int (nI (l - 1))), none]) (st' := [.int (nI (l - 1)), .ref 1, .ref 1]) (w' := cz_w r q u bb) rfl ?_
          refine ez_cl ez_h19 rfl rfl ?_
          refine cr_at hE hr (k := l - 1) (by omega) q u bb ?_
          refine ez_go ez_h19 1 (pc' := 58) (L' := [some (.ref 4), some (.int (nI (ze_pi E (x)))), some (.int (nI (f))), some (.int (nI (l - 1))), none]) (st' := [.int (nI (ze_pi E (x))), .int (nI (ze_pi E (row (l - 1)))), .ref 1]) (w' := cz_w r q u bb) rfl ?_
          refine ez_cl ez_h19 rfl rfl ?_
          refine cr_less hE hr hw.2 (x := row (l - 1)) (y := x) (hw.1 (l - 1) (by omega)) hx q u bb (fun r50 hr50 => ?_)
          refine ez_go ez_h19 1 (pc' := bif decide ((zs_z (zs_b (ze_md E) (ze_ka E) (row (l - 1)) x g)) = 0) then 37 else 64) (L' := [some (.ref 4), some (.int (nI (ze_pi E (x)))), some (.int (nI (f))), some (.int (nI (l - 1))), none]) (st' := []) (w' := cz_w r50 q u bb) rfl ?_
          refine ez_ifF (zz_t hb) ?_
          refine ez_go ez_h19 1 (pc' := 74) (L' := [some (.ref 4), some (.int (nI (ze_pi E (x)))), some (.int (nI (f))), some (.int (nI (l - 1))), none]) (st' := []) (w' := cz_w r50 q u bb) rfl ?_
          exact kk _ hr50
        · intro A Q U T post hA kk
          refine ez_go ez_h82 3 (pc' := bif decide ((nI (l)) ≤ (nI (f))) then 120 else 59) (L' := [some (.ref 0), some (.int (nI (b))), some (.int (nI (e))), some (.int (nI (x))), some (.int (nI (f))), some (.int (nI (l))), none]) (st' := []) (w' := mz_w A Q U T) rfl ?_
          refine ez_ifF (zt_nle (a := l) (b := f) (by omega) (by omega)) ?_
          refine ez_inc ez_h82 rfl rfl (v := nI (l - 1)) (zi_m (by omega)) rfl ?_
          refine ez_go ez_h82 4 (pc' := 69) (L' := [some (.ref 0), some (.int (nI (b))), some (.int (nI (e))), some (.int (nI (x))), some (.int (nI (f))), some (.int (nI (l - 1))), none]) (st' := [.int (nI (l - 1)), .ref 4, .ref 0]) (w' := mz_w A Q U T) rfl ?_
          refine mr_ld ez_h82 rfl hE hA (k := l - 1) (by omega) ?_
          refine ez_go ez_h82 1 (pc' := 71) (L' := [some (.ref 0), some (.int (nI (b))), some (.int (nI (e))), some (.int (nI (x))), some (.int (nI (f))), some (.int (nI (l - 1))), none]) (st' := [.int (nI (x)), .int (nI (row (l - 1))), .ref 0]) (w' := mz_w A Q U T) rfl ?_
          refine ez_cl ez_h82 rfl rfl ?_
          refine mr_less hE hA hw.2 (x := row (l - 1)) (y := x) (hw.1 (l - 1) (by omega)) hx Q U T (fun A51 hA51 => ?_)
          refine ez_go ez_h82 1 (pc' := bif decide (¬ (zs_z (zs_b (ze_md E) (ze_ka E) (row (l - 1)) x g)) = 0) then 81 else 77) (L' := [some (.ref 0), some (.int (nI (b))), some (.int (nI (e))), some (.int (nI (x))), some (.int (nI (f))), some (.int (nI (l - 1))), none]) (st' := []) (w' := mz_w A51 Q U T) rfl ?_
          refine ez_ifT (zz_t hb) ?_
          refine ez_go ez_h82 5 (pc' := bif decide ((nI (0)) = (nI 0)) then 120 else 52) (L' := [some (.ref 0), some (.int (nI (b))), some (.int (nI (e))), some (.int (nI (x))), some (.int (nI (f))), some (.int (nI (l - 1))), some (.int (nI (0)))]) (st' := []) (w' := mz_w A51 Q U T) rfl ?_
          refine ez_ifT (zt_eq (by omega)) ?_
          exact ez_E.le (ez_lc (ez_lc (ez_lc (ez_lc (ez_lc (ez_lc (ez_ln ez_l0))))))) (kk _ hA51)
theorem zk_pl {E : ze_T} (hE : ze_ok E) {x b e : Nat} (hx : x < ze_n E) (he : e ≤ ze_n E) : ∀ (s f l kn : Nat) (row : Nat → Nat) (g : zs_G), l ≤ f + s → b < f → b < l → f < e → (f < l → l < e) → kn + l ≤ 600 + f → kn ≤ 600 → row b = x → zr_ok E row g → zs_K (ze_md E) (ze_ka E) g x (row f) → (f < l → zs_L (ze_md E) (ze_ka E) g (row l) x) → (∀ k, l < k → k < e → zs_K (ze_md E) (ze_ka E) g x (row k)) →
    ∃ (f' : Nat) (row' : Nat → Nat) (g' : zs_G), b < f' ∧ f' < e ∧ zr_ok E row' g' ∧ zx_le E g g' ∧ zp_in row row' b e ∧ row' b = x ∧ (∀ k, f' ≤ k → k < e → zs_K (ze_md E) (ze_ka E) g' x (row' k)) ∧
      cr_G E 19 91 [some (.ref 4), some (.int (nI (ze_pi E (x)))), some (.int (nI (f))), some (.int (nI (l))), some (.int (nI (kn)))] row g 133 [some (.ref 4), some (.int (nI (ze_pi E (x)))), some (.int (nI (f'))), none, none] row' g' ∧ mr_G E 82 136 [some (.ref 0), some (.int (nI (b))), some (.int (nI (e))), some (.int (nI (x))), some (.int (nI (f))), some (.int (nI (l))), none] row g 199 [some (.ref 0), some (.int (nI (b))), none, some (.int (nI (x))), some (.int (nI (f'))), none, none] row' g' := by
  have hn := hE.1
  intro s
  induction s using Nat.strongRecOn with
  | _ s ih =>
    intro f l kn row g h1 h2 h3 h4 h4b h5 h6 hb hw hK hL hA1
    by_cases hfl : l ≤ f
    · refine ⟨f, row, g, h2, h4, hw, zx_le.rf g, zp_in.rf _ _ _, hb, fun k k1 k2 => ?_, ?_, ?_⟩
      · by_cases c : k = f
        · rw [c]; exact hK
        · exact hA1 k (by omega) k2
      · intro r q u bb post hr kk
        refine ez_go ez_h19 3 (pc' := bif decide ((nI (l)) ≤ (nI (f))) then 133 else 96) (L' := [some (.ref 4), some (.int (nI (ze_pi E (x)))), some (.int (nI (f))), some (.int (nI (l))), some (.int (nI (kn)))]) (st' := []) (w' := cz_w r q u bb) rfl ?_
        refine ez_ifT (zt_le (a := l) (b := f) (by omega) (by omega)) ?_
        exact ez_E.le (ez_lc (ez_lc (ez_lc (ez_ln (ez_ln ez_l0))))) (kk _ hr)
      · intro A Q U T post hA kk
        refine ez_go ez_h82 3 (pc' := bif decide ((nI (l)) ≤ (nI (f))) then 199 else 143) (L' := [some (.ref 0), some (.int (nI (b))), some (.int (nI (e))), some (.int (nI (x))), some (.int (nI (f))), some (.int (nI (l))), none]) (st' := []) (w' := mz_w A Q U T) rfl ?_
        refine ez_ifT (zt_le (a := l) (b := f) (by omega) (by omega)) ?_
        exact ez_E.le (ez_lc (ez_lc (ez_ln (ez_lc (ez_lc (ez_ln (ez_lc ez_l0))))))) (kk _ hA)
    · have hL := hL (by omega)
      have h4b := h4b (by omega)
      have hw1 : zr_ok E (zs_sw row f l) g := hw.sw (by omega) (by omega)
      have e1 : zs_sw row f l f = row l := (zk_swp (by omega)).1
      have e2 : zs_sw row f l l = row f := (zk_swp (by omega)).2
      have e3 : zs_sw row f l b = x := by rw [zk_swo (by omega) (by omega)]; exact hb
      obtain ⟨f1, g1, a1, a2, a3, a4, a5, a6, a7, a8, a9⟩ := zk_uL hE (hi := l) hx (row := zs_sw row f l) l (f + 1) g (by omega) (by omega) (by omega) hw1 (by rw [e2]; exact hK)
      obtain ⟨l1, g2, b1, b2, b3, b4, b5, b6, b7, b8, b9⟩ := zk_dL hE (lo := f) hx (row := zs_sw row f l) l (l - 1) g1 (by omega) (by omega) (by omega) a3 (by rw [e1]; exact a4.2 _ _ (hw.1 l (by omega)) hL)
      obtain ⟨f', row', g', d1, d2, d3, d4, d5, d6, d6b, d7, d8⟩ := ih (l1 - f1) (by omega) f1 l1 (kn + 1) (zs_sw row f l) g2 (by omega) (by omega) (by omega) (by omega) (by omega) (by omega) (by omega) e3 b3 (b4.1 _ _ hx a5) (fun _ => b5) (fun k k1 k2 => by
        by_cases c1 : k ≤ l - 1
        · exact b6 k k1 c1
        · by_cases c2 : k = l
          · rw [c2, e2]; exact (a4.tr b4).1 _ _ hx hK
          · rw [zk_swo (by omega) c2]; exact (a4.tr b4).1 _ _ hx (hA1 k (by omega) k2))
      refine ⟨f', row', g', d1, d2, d3, (a4.tr b4).tr d4, (zp_in.sw row (by omega) (by omega)).tr d5, d6, d6b, ?_, ?_⟩
      · intro r q u bb post hr kk
        refine ez_go ez_h19 3 (pc' := bif decide ((nI (l)) ≤ (nI (f))) then 133 else 96) (L' := [some (.ref 4), some (.int (nI (ze_pi E (x)))), some (.int (nI (f))), some (.int (nI (l))), some (.int (nI (kn)))]) (st' := []) (w' := cz_w r q u bb) rfl ?_
        refine ez_ifF (zt_nle (a := l) (b := f) (by omega) (by omega)) ?_
        refine ez_go ez_h19 3 (pc' := bif decide ((nI (600)) ≤ (nI (kn))) then 133 else 104) (L' := [some (.ref 4), some (.int (nI (ze_pi E (x)))), some (.int (nI (f))), some (.int (nI (l))), some (.int (nI (kn)))]) (st' := []) (w' := cz_w r q u bb) rfl ?_
        refine ez_ifF (zt_nle (a := 600) (b := kn) (by omega) (by omega)) ?_
        refine ez_go ez_h19 4 (pc' := 110) (L' := [some (.ref 4), some (.int (nI (ze_pi E (x)))), some (.int (nI (f))), some (.int (nI (l))), some (.int (nI (kn)))]) (st' := [.int (nI (l)), .int (nI (f)), .ref 1]) (w' := cz_w r q u bb) rfl ?_
        refine ez_cl ez_h19 rfl rfl ?_
        refine cr_swap hE hr (i := f) (j := l) (by omega) (by omega) q u bb (fun r52 hr52 => ?_)
        refine ez_go ez_h19 3 (pc' := 116) (L' := [some (.ref 4), some (.int (nI (ze_pi E (x)))), some (.int (nI (f))), some (.int (nI (l))), some (.int (nI (kn)))]) (st' := [.int (nI (ze_pi E (x))), .int (nI (f)), .ref 4]) (w' := cz_w r52 q u bb) rfl ?_
        refine ez_cl ez_h19 rfl rfl ?_
        refine zk_uLm (a7 f) _ q u bb _ hr52 (fun r53 hr53 => ?_)
        refine ez_go ez_h19 4 (pc' := 123) (L' := [some (.ref 4), some (.int (nI (ze_pi E (x)))), some (.int (nI (f1))), some (.int (nI (l))), some (.int (nI (kn)))]) (st' := [.int (nI (ze_pi E (x))), .int (nI (l)), .ref 4]) (w' := cz_w r53 q u bb) rfl ?_
        refine ez_cl ez_h19 rfl rfl ?_
        refine zk_dLm (by omega) (b7 l) _ q u bb _ hr53 (fun r54 hr54 => ?_)
        refine ez_go ez_h19 1 (pc' := 127) (L' := [some (.ref 4), some (.int (nI (ze_pi E (x)))), some (.int (nI (f1))), some (.int (nI (l1))), some (.int (nI (kn)))]) (st' := []) (w' := cz_w r54 q u bb) rfl ?_
        refine ez_inc ez_h19 rfl rfl (v := nI (kn + 1)) (zi_1 _) rfl ?_
        refine ez_go ez_h19 1 (pc' := 91) (L' := [some (.ref 4), some (.int (nI (ze_pi E (x)))), some (.int (nI (f1))), some (.int (nI (l1))), some (.int (nI (kn + 1)))]) (st' := []) (w' := cz_w r54 q u bb) rfl ?_
        exact d7 _ q u bb post hr54 kk
      · intro A Q U T post hA kk
        refine ez_go ez_h82 3 (pc' := bif decide ((nI (l)) ≤ (nI (f))) then 199 else 143) (L' := [some (.ref 0), some (.int (nI (b))), some (.int (nI (e))), some (.int (nI (x))), some (.int (nI (f))), some (.int (nI (l))), none]) (st' := []) (w' := mz_w A Q U T) rfl ?_
        refine ez_ifF (zt_nle (a := l) (b := f) (by omega) (by omega)) ?_
        refine ez_go ez_h82 3 (pc' := 148) (L' := [some (.ref 0), some (.int (nI (b))), some (.int (nI (e))), some (.int (nI (x))), some (.int (nI (f))), some (.int (nI (l))), none]) (st' := [.int (nI (l)), .int (nI (f)), .ref 0]) (w' := mz_w A Q U T) rfl ?_
        refine ez_cl ez_h82 rfl rfl ?_
        refine mr_swap hE hA (i := f) (j := l) (by omega) (by omega) Q U T (fun A55 hA55 => ?_)
        refine ez_inc ez_h82 rfl rfl (v := nI (f + 1)) (zi_1 _) rfl ?_
        refine a9 b e l _ Q U T post hA55 (fun A8 hA8 => ?_)
        refine ez_inc ez_h82 rfl rfl (v := nI (l - 1)) (zi_m (by omega)) rfl ?_
        refine b9 b e f1 _ Q U T post hA8 (fun A9 hA9 => ?_)
        exact d8 _ Q U T post hA9 kk
/-- PARTED -/
theorem zk_part {E : ze_T} (hE : ze_ok E) {b e s : Nat} (hs : b + 24 ≤ e) (he : e ≤ ze_n E) (hs1 : b < s) (hs2 : s < e) {row : Nat → Nat} {g : zs_G} (hw : zr_ok E row g) (hK : zs_K (ze_md E) (ze_ka E) g (row b) (row s)) :
    ∃ (row' : Nat → Nat) (g' : zs_G) (m : Nat) (was : Bool), b ≤ m ∧ m + 1 < e ∧ zr_ok E row' g' ∧ zg_le E g g' ∧ zp_in row row' b e ∧ zs_S E row' g' (m + 1) e ∧
      (∀ (r : cz_Row) (q : cz_Qk) (u : cz_Rn) (bb : cz_Bn) (post : Option Value → ez_W → Prop), cr_R E row g r → q.2.1 = nI b → q.2.2.1 = nI e → (∀ r' : cz_Row, cr_R E row' g' r' → post none (cz_w r' (q.1, q.2.1, q.2.2.1, q.2.2.2.1, q.2.2.2.2.1, nI m, zs_z was, q.2.2.2.2.2.2.2.1, q.2.2.2.2.2.2.2.2.1 + 1, q.2.2.2.2.2.2.2.2.2.1, q.2.2.2.2.2.2.2.2.2.2.1, q.2.2.2.2.2.2.2.2.2.2.2) u bb)) → ez_m 19 [.ref 4] (cz_w r q u bb) post) ∧
      (∀ (A : mz_A) (Q : mz_Q) (U : mz_U) (T : mz_T) (post : Option Value → ez_W → Prop), mr_R E row g A → (∀ A' : mz_A, mr_R E row' g' A' → post (some (.int (nI m))) (mz_w A' (Q.1, Q.2.1, Q.2.2.1 + 1, Q.2.2.2.1, zs_z was, Q.2.2.2.2.2.1, Q.2.2.2.2.2.2.1, Q.2.2.2.2.2.2.2) U T)) → ez_m 82 [.ref 0, .int (nI b), .int (nI e)] (mz_w A Q U T) post) := by
  have hn := hE.1
  have hx : row b < ze_n E := hw.1 b (by omega)
  obtain ⟨f1, g1, a1, a2, a3, a4, a5, a6, a7, a8, a9⟩ := zk_uL hE (hi := s) hx (row := row) e (b + 1) g (by omega) (by omega) (by omega) hw hK
  have h2 : ∃ (l2 : Nat) (g2 : zs_G), b < l2 ∧ l2 ≤ e ∧ (f1 < l2 → l2 < e) ∧ zr_ok E row g2 ∧ zx_le E g1 g2 ∧ (f1 < l2 → zs_L (ze_md E) (ze_ka E) g2 (row l2) (row b)) ∧ (∀ k, l2 < k → k < e → zs_K (ze_md E) (ze_ka E) g2 (row b) (row k)) ∧
      (∀ (r : cz_Row) (q : cz_Qk) (u : cz_Rn) (bb : cz_Bn) (post : Option Value → ez_W → Prop), q.2.1 = nI b → q.2.2.1 = nI e → cr_R E row g1 r → (∀ r' : cz_Row, cr_R E row g2 r' → ez_E 19 74 [some (.ref 4), some (.int (nI (ze_pi E (row b)))), some (.int (nI (f1))), some (.int (nI (l2))), none] [] (cz_w r' q u bb) post) → ez_E 19 22 [some (.ref 4), some (.int (nI (ze_pi E (row b)))), some (.int (nI (f1))), none, none] [] (cz_w r q u bb) post) ∧ mr_G E 82 36 [some (.ref 0), some (.int (nI (b))), some (.int (nI (e))), some (.int (nI (row b))), some (.int (nI (f1))), some (.int (nI (e))), none] row g1 120 [some (.ref 0), some (.int (nI (b))), some (.int (nI (e))), some (.int (nI (row b))), some (.int (nI (f1))), some (.int (nI (l2))), none] row g2 := by
    by_cases hf : f1 = b + 1
    · obtain ⟨l2, g2, b1, b2, b2b, b3, b4, b5, b6, b7, b8⟩ := zk_pb hE (f := f1) hx he (row := row) e e g1 (by omega) (by omega) (Nat.le_refl _) a3 (fun k k1 k2 => by omega)
      refine ⟨l2, g2, by omega, b2, b2b, b3, b4, b5, b6, fun r q u bb post e1 e2 hr kk => ?_, fun A Q U T post hA kk => ?_⟩
      · obtain ⟨wtg, fr, to, bud, fst, mid, wp, fls, prt, wf, wt, wb⟩ := q
        replace e1 : fr = nI b := e1
        replace e2 : to = nI e := e2
        subst e1 e2
        refine ez_go ez_h19 6 (pc' := 30) (L' := [some (.ref 4), some (.int (nI (ze_pi E (row b)))), some (.int (nI (f1))), some (.int (nI (e))), none]) (st' := [.int ((nI (f1)) - (nI (1)))]) (w' := cz_w r (wtg, nI (b), nI (e), bud, fst, mid, wp, fls, prt, wf, wt, wb) u bb) rfl ?_
        refine ez_top (y := nI (f1 - 1)) (pk_sub (by omega)) ?_
        refine ez_go ez_h19 3 (pc' := bif decide (¬ (nI (f1 - 1)) = (nI (b))) then 67 else 37) (L' := [some (.ref 4), some (.int (nI (ze_pi E (row b)))), some (.int (nI (f1))), some (.int (nI (e))), none]) (st' := []) (w' := cz_w r (wtg, nI (b), nI (e), bud, fst, mid, wp, fls, prt, wf, wt, wb) u bb) rfl ?_
        refine ez_ifF (fun z => z (zt_eq (by omega))) ?_
        exact b7 _ (wtg, nI (b), nI (e), bud, fst, mid, wp, fls, prt, wf, wt, wb) u bb post hr kk
      · skip
        refine ez_go ez_h82 5 (pc' := 43) (L' := [some (.ref 0), some (.int (nI (b))), some (.int (nI (e))), some (.int (nI (row b))), some (.int (nI (f1))), some (.int (nI (e))), some (.int (nI (1)))]) (st' := [.int ((nI (f1)) - (nI (1)))]) (w' := mz_w A Q U T) rfl ?_
        refine ez_top (y := nI (f1 - 1)) (pk_sub (by omega)) ?_
        refine ez_go ez_h82 2 (pc' := bif decide (¬ (nI (f1 - 1)) = (nI (b))) then 87 else 47) (L' := [some (.ref 0), some (.int (nI (b))), some (.int (nI (e))), some (.int (nI (row b))), some (.int (nI (f1))), some (.int (nI (e))), some (.int (nI (1)))]) (st' := []) (w' := mz_w A Q U T) rfl ?_
        refine ez_ifF (fun z => z (zt_eq (by omega))) ?_
        refine ez_go ez_h82 2 (pc' := bif decide ((nI (1)) = (nI 0)) then 120 else 52) (L' := [some (.ref 0), some (.int (nI (b))), some (.int (nI (e))), some (.int (nI (row b))), some (.int (nI (f1))), some (.int (nI (e))), some (.int (nI (1)))]) (st' := []) (w' := mz_w A Q U T) rfl ?_
        refine ez_ifF (zt_ne (by omega) (by omega) (by omega)) ?_
        exact ez_E.le (ez_lc (ez_lc (ez_lc (ez_lc (ez_lc (ez_lc (ez_ln ez_l0))))))) (b8 b _ Q U T post hA kk)
    · obtain ⟨l2, g2, b1, b2, b3, b4, b5, b6, b7, b8, b9⟩ := zk_dL hE (lo := b + 1) hx (row := row) e (e - 1) g1 (by omega) (by omega) (by omega) a3 (a6 (b + 1) (by omega) (by omega))
      refine ⟨l2, g2, by omega, by omega, fun _ => by omega, b3, b4, fun _ => b5, fun k k1 k2 => b6 k k1 (by omega), fun r q u bb post e1 e2 hr kk => ?_, fun A Q U T post hA kk => ?_⟩
      · obtain ⟨wtg, fr, to, bud, fst, mid, wp, fls, prt, wf, wt, wb⟩ := q
        replace e1 : fr = nI b := e1
        replace e2 : to = nI e := e2
        subst e1 e2
        refine ez_go ez_h19 6 (pc' := 30) (L' := [some (.ref 4), some (.int (nI (ze_pi E (row b)))), some (.int (nI (f1))), some (.int (nI (e))), none]) (st' := [.int ((nI (f1)) - (nI (1)))]) (w' := cz_w r (wtg, nI (b), nI (e), bud, fst, mid, wp, fls, prt, wf, wt, wb) u bb) rfl ?_
        refine ez_top (y := nI (f1 - 1)) (pk_sub (by omega)) ?_
        refine ez_go ez_h19 3 (pc' := bif decide (¬ (nI (f1 - 1)) = (nI (b))) then 67 else 37) (L' := [some (.ref 4), some (.int (nI (ze_pi E (row b)))), some (.int (nI (f1))), some (.int (nI (e))), none]) (st' := []) (w' := cz_w r (wtg, nI (b), nI (e), bud, fst, mid, wp, fls, prt, wf, wt, wb) u bb) rfl ?_
        refine ez_ifT (zt_ne (by omega) (by omega) (by omega)) ?_
        refine ez_go ez_h19 3 (pc' := 70) (L' := [some (.ref 4), some (.int (nI (ze_pi E (row b)))), some (.int (nI (f1))), some (.int (nI (e))), none]) (st' := [.int (nI (ze_pi E (row b))), .int (nI (e)), .ref 4]) (w' := cz_w r (wtg, nI (b), nI (e), bud, fst, mid, wp, fls, prt, wf, wt, wb) u bb) rfl ?_
        refine ez_cl ez_h19 rfl rfl ?_
        refine zk_dLm (by omega) (b7 e) _ (wtg, nI (b), nI (e), bud, fst, mid, wp, fls, prt, wf, wt, wb) u bb _ hr (fun r9 hr9 => ?_)
        refine ez_go ez_h19 1 (pc' := 74) (L' := [some (.ref 4), some (.int (nI (ze_pi E (row b)))), some (.int (nI (f1))), some (.int (nI (l2))), none]) (st' := []) (w' := cz_w r9 (wtg, nI (b), nI (e), bud, fst, mid, wp, fls, prt, wf, wt, wb) u bb) rfl ?_
        exact kk _ hr9
      · skip
        refine ez_go ez_h82 5 (pc' := 43) (L' := [some (.ref 0), some (.int (nI (b))), some (.int (nI (e))), some (.int (nI (row b))), some (.int (nI (f1))), some (.int (nI (e))), some (.int (nI (1)))]) (st' := [.int ((nI (f1)) - (nI (1)))]) (w' := mz_w A Q U T) rfl ?_
        refine ez_top (y := nI (f1 - 1)) (pk_sub (by omega)) ?_
        refine ez_go ez_h82 2 (pc' := bif decide (¬ (nI (f1 - 1)) = (nI (b))) then 87 else 47) (L' := [some (.ref 0), some (.int (nI (b))), some (.int (nI (e))), some (.int (nI (row b))), some (.int (nI (f1))), some (.int (nI (e))), some (.int (nI (1)))]) (st' := []) (w' := mz_w A Q U T) rfl ?_
        refine ez_ifT (zt_ne (by omega) (by omega) (by omega)) ?_
        refine ez_go ez_h82 2 (pc' := bif decide ((nI (1)) = (nI 0)) then 120 else 92) (L' := [some (.ref 0), some (.int (nI (b))), some (.int (nI (e))), some (.int (nI (row b))), some (.int (nI (f1))), some (.int (nI (e))), some (.int (nI (1)))]) (st' := []) (w' := mz_w A Q U T) rfl ?_
        refine ez_ifF (zt_ne (by omega) (by omega) (by omega)) ?_
        refine ez_inc ez_h82 rfl rfl (v := nI (e - 1)) (zi_m (by omega)) rfl ?_
        exact ez_E.le (ez_lc (ez_lc (ez_lc (ez_lc (ez_lc (ez_lc (ez_ln ez_l0))))))) (b8 b e f1 _ Q U T post hA kk)
  obtain ⟨l2, g2, c1, c2, c2b, c3, c4, c5, c6, c7, c8⟩ := h2
  obtain ⟨f, row3, g3, d1, d2, d3, d4, d5, d6, d6b, d7, d8⟩ := zk_pl hE hx he (b := b) (l2 - f1) f1 l2 0 row g2 (by omega) (by omega) c1 (by omega) c2b (by omega) (by omega) rfl c3 (c4.1 _ _ hx a5) c5 c6
  have hge : zg_le E g g3 := (a4.1.tr c4.1).tr d4.1
  have hp3 : zp_in row (va_up (va_up row3 b (row3 (f - 1))) (f - 1) (row b)) b e := d5.tr (by
    have e9 : va_up (va_up row3 b (row3 (f - 1))) (f - 1) (row b) = zs_sw row3 b (f - 1) := by unfold zs_sw; rw [d6]
    rw [e9]
    exact zp_in.sw row3 (by omega) (by omega))
  have hrow : zr_ok E (va_up (va_up row3 b (row3 (f - 1))) (f - 1) (row b)) g3 := (d3.set (d3.1 (f - 1) (by omega))).set hx
  have hS : zs_S E (va_up (va_up row3 b (row3 (f - 1))) (f - 1) (row b)) g3 (f - 1 + 1) e := ⟨by omega, fun k k1 k2 => by
    rw [show f - 1 + 1 - 1 = f - 1 by omega, va_up_self, va_up_ne _ _ (by omega), va_up_ne _ _ (by omega)]
    exact d6b k (by omega) k2⟩
  have hS : zs_S E (va_up (va_up row3 b (row3 (f - 1))) (f - 1) (row b)) g3 (f - 1 + 1) e := hS
  by_cases hwas : l2 ≤ f1
  · refine ⟨_, g3, f - 1, true, by omega, by omega, hrow, hge, hp3, hS, fun r q u bb post hr e1 e2 kk => ?_, fun A Q U T post hA kk => ?_⟩
    · obtain ⟨wtg, fr, to, bud, fst, mid, wp, fls, prt, wf, wt, wb⟩ := q
      replace e1 : fr = nI b := e1
      replace e2 : to = nI e := e2
      subst e1 e2
      refine ez_m.of (L := [some (.ref 4), none, none, none, none]) rfl rfl rfl ?_
      refine ez_go ez_h19 4 (pc' := 8) (L' := [some (.ref 4), none, none, none, none]) (st' := [.int (nI (b)), .ref 1]) (w' := cz_w r (wtg, nI (b), nI (e), bud, fst, mid, wp, fls, prt, wf, wt, wb) u bb) rfl ?_
      refine ez_cl ez_h19 rfl rfl ?_
      refine cr_at hE hr (k := b) (by omega) (wtg, nI (b), nI (e), bud, fst, mid, wp, fls, prt, wf, wt, wb) u bb ?_
      refine ez_go ez_h19 5 (pc' := 18) (L' := [some (.ref 4), some (.int (nI (ze_pi E (row b)))), none, none, none]) (st' := [.int (nI (ze_pi E (row b))), .int (nI (b)), .ref 4]) (w' := cz_w r (wtg, nI (b), nI (e), bud, fst, mid, wp, fls, prt, wf, wt, wb) u bb) rfl ?_
      refine ez_cl ez_h19 rfl rfl ?_
      refine zk_uLm (a7 b) _ (wtg, nI (b), nI (e), bud, fst, mid, wp, fls, prt, wf, wt, wb) u bb _ hr (fun r9 hr9 => ?_)
      refine ez_go ez_h19 1 (pc' := 22) (L' := [some (.ref 4), some (.int (nI (ze_pi E (row b)))), some (.int (nI (f1))), none, none]) (st' := []) (w' := cz_w r9 (wtg, nI (b), nI (e), bud, fst, mid, wp, fls, prt, wf, wt, wb) u bb) rfl ?_
      refine c7 _ (wtg, nI (b), nI (e), bud, fst, mid, wp, fls, prt, wf, wt, wb) u bb post rfl rfl hr9 (fun r10 hr10 => ?_)
      refine ez_go ez_h19 4 (pc' := bif decide ((nI (f1)) < (nI (l2))) then 84 else 80) (L' := [some (.ref 4), some (.int (nI (ze_pi E (row b)))), some (.int (nI (f1))), some (.int (nI (l2))), none]) (st' := [.ref 4]) (w' := cz_w r10 (wtg, nI (b), nI (e), bud, fst, mid, wp, fls, prt, wf, wt, wb) u bb) rfl ?_
      refine ez_ifF (zt_nlt (a := f1) (b := l2) (by omega) (by omega)) ?_
      refine ez_go ez_h19 5 (pc' := 91) (L' := [some (.ref 4), some (.int (nI (ze_pi E (row b)))), some (.int (nI (f1))), some (.int (nI (l2))), some (.int (nI (0)))]) (st' := []) (w' := cz_w r10 (wtg, nI (b), nI (e), bud, fst, mid, nI (1), fls, prt, wf, wt, wb) u bb) rfl ?_
      refine d7 _ (wtg, nI (b), nI (e), bud, fst, mid, nI (1), fls, prt, wf, wt, wb) u bb post hr10 (fun r11 hr11 => ?_)
      refine ez_go ez_h19 4 (pc' := 137) (L' := [some (.ref 4), some (.int (nI (ze_pi E (row b)))), some (.int (nI (f))), none, none]) (st' := [.int ((nI (f)) - (nI (1))), .ref 4]) (w' := cz_w r11 (wtg, nI (b), nI (e), bud, fst, mid, nI (1), fls, prt, wf, wt, wb) u bb) rfl ?_
      refine ez_top (y := nI (f - 1)) (pk_sub (by omega)) ?_
      refine ez_go ez_h19 9 (pc' := 156) (L' := [some (.ref 4), some (.int (nI (ze_pi E (row b)))), some (.int (nI (f))), none, none]) (st' := [.int (nI (f - 1)), .ref 1, .int (nI (b)), .ref 1]) (w' := cz_w r11 (wtg, nI (b), nI (e), bud, fst, nI (f - 1), nI (1), fls, prt, wf, wt, wb) u bb) rfl ?_
      refine ez_cl ez_h19 rfl rfl ?_
      refine cr_at hE hr11 (k := f - 1) (by omega) (wtg, nI (b), nI (e), bud, fst, nI (f - 1), nI (1), fls, prt, wf, wt, wb) u bb ?_
      refine ez_cl ez_h19 rfl rfl ?_
      refine cr_set hE hr11 (k := b) (x := row3 (f - 1)) (by omega) (wtg, nI (b), nI (e), bud, fst, nI (f - 1), nI (1), fls, prt, wf, wt, wb) u bb (fun r56 hr56 => ?_)
      refine ez_go ez_h19 5 (pc' := 171) (L' := [some (.ref 4), some (.int (nI (ze_pi E (row b)))), some (.int (nI (f))), none, none]) (st' := [.int (nI (ze_pi E (row b))), .int (nI (f - 1)), .ref 1]) (w' := cz_w r56 (wtg, nI (b), nI (e), bud, fst, nI (f - 1), nI (1), fls, prt, wf, wt, wb) u bb) rfl ?_
      refine ez_cl ez_h19 rfl rfl ?_
      refine cr_set hE hr56 (k := f - 1) (x := row b) (by omega) (wtg, nI (b), nI (e), bud, fst, nI (f - 1), nI (1), fls, prt, wf, wt, wb) u bb (fun r57 hr57 => ?_)
      refine ez_go ez_h19 6 (pc' := 184) (L' := [some (.ref 4), some (.int (nI (ze_pi E (row b)))), some (.int (nI (f))), none, none]) (st' := []) (w' := cz_w r57 (wtg, nI (b), nI (e), bud, fst, nI (f - 1), nI (1), fls, prt + 1, wf, wt, wb) u bb) rfl ?_
      exact ez_vret rfl ez_h19 rfl rfl (kk _ hr57)
    · obtain ⟨mfls, mfn, mprt, mwtg, mwp, mwf, mwt, mwb⟩ := Q
      refine ez_m.of (L := [some (.ref 0), some (.int (nI (b))), some (.int (nI (e))), none, none, none, none]) rfl rfl rfl ?_
      refine ez_go ez_h82 3 (pc' := 5) (L' := [some (.ref 0), some (.int (nI (b))), some (.int (nI (e))), none, none, none, none]) (st' := [.int (nI (b)), .ref 4]) (w' := mz_w A (mfls, mfn, mprt, mwtg, mwp, mwf, mwt, mwb) U T) rfl ?_
      refine mr_ld ez_h82 rfl hE hA (k := b) (by omega) ?_
      refine ez_go ez_h82 4 (pc' := 10) (L' := [some (.ref 0), some (.int (nI (b))), some (.int (nI (e))), some (.int (nI (row b))), none, none, none]) (st' := [.int ((nI (b)) + (nI (1)))]) (w' := mz_w A (mfls, mfn, mprt, mwtg, mwp, mwf, mwt, mwb) U T) rfl ?_
      refine ez_top (y := nI (b + 1)) (nI_add _ _) ?_
      refine ez_go ez_h82 3 (pc' := 15) (L' := [some (.ref 0), some (.int (nI (b))), some (.int (nI (e))), some (.int (nI (row b))), some (.int (nI (b + 1))), some (.int (nI (e))), none]) (st' := []) (w' := mz_w A (mfls, mfn, mprt, mwtg, mwp, mwf, mwt, mwb) U T) rfl ?_
      refine a8 b e e _ (mfls, mfn, mprt, mwtg, mwp, mwf, mwt, mwb) U T post hA (fun A8 hA8 => ?_)
      refine c8 _ (mfls, mfn, mprt, mwtg, mwp, mwf, mwt, mwb) U T post hA8 (fun A9 hA9 => ?_)
      refine ez_go ez_h82 4 (pc' := bif decide ((nI (f1)) < (nI (l2))) then 132 else 128) (L' := [some (.ref 0), some (.int (nI (b))), some (.int (nI (e))), some (.int (nI (row b))), some (.int (nI (f1))), some (.int (nI (l2))), none]) (st' := [.ref 0]) (w' := mz_w A9 (mfls, mfn, mprt, mwtg, mwp, mwf, mwt, mwb) U T) rfl ?_
      refine ez_ifF (zt_nlt (a := f1) (b := l2) (by omega) (by omega)) ?_
      refine ez_go ez_h82 3 (pc' := 136) (L' := [some (.ref 0), some (.int (nI (b))), some (.int (nI (e))), some (.int (nI (row b))), some (.int (nI (f1))), some (.int (nI (l2))), none]) (st' := []) (w' := mz_w A9 (mfls, mfn, mprt, mwtg, nI (1), mwf, mwt, mwb) U T) rfl ?_
      refine d8 _ (mfls, mfn, mprt, mwtg, nI (1), mwf, mwt, mwb) U T post hA9 (fun A10 hA10 => ?_)
      refine ez_go ez_h82 8 (pc' := 212) (L' := [some (.ref 0), some (.int (nI (b))), none, some (.int (nI (row b))), some (.int (nI (f))), none, none]) (st' := [.int ((nI (f)) - (nI (1))), .ref 4, .int (nI (b)), .ref 4]) (w' := mz_w A10 (mfls, mfn, mprt, mwtg, nI (1), mwf, mwt, mwb) U T) rfl ?_
      refine ez_top (y := nI (f - 1)) (pk_sub (by omega)) ?_
      refine mr_ld ez_h82 rfl hE hA10 (k := f - 1) (by omega) ?_
      refine mr_st ez_h82 rfl hE hA10 (k := b) (x := row3 (f - 1)) (by omega) (fun A58 hA58 => ?_)
      refine ez_go ez_h82 5 (pc' := 222) (L' := [some (.ref 0), some (.int (nI (b))), none, some (.int (nI (row b))), some (.int (nI (f))), none, none]) (st' := [.int ((nI (f)) - (nI (1))), .ref 4]) (w' := mz_w A58 (mfls, mfn, mprt, mwtg, nI (1), mwf, mwt, mwb) U T) rfl ?_
      refine ez_top (y := nI (f - 1)) (pk_sub (by omega)) ?_
      refine ez_go ez_h82 1 (pc' := 223) (L' := [some (.ref 0), some (.int (nI (b))), none, some (.int (nI (row b))), some (.int (nI (f))), none, none]) (st' := [.int (nI (row b)), .int (nI (f - 1)), .ref 4]) (w' := mz_w A58 (mfls, mfn, mprt, mwtg, nI (1), mwf, mwt, mwb) U T) rfl ?_
      refine mr_st ez_h82 rfl hE hA58 (k := f - 1) (x := row b) (by omega) (fun A59 hA59 => ?_)
      refine ez_go ez_h82 9 (pc' := 238) (L' := [some (.ref 0), some (.int (nI (b))), none, some (.int (nI (row b))), some (.int (nI (f))), none, none]) (st' := [.int ((nI (f)) - (nI (1)))]) (w' := mz_w A59 (mfls, mfn, mprt + 1, mwtg, nI (1), mwf, mwt, mwb) U T) rfl ?_
      refine ez_top (y := nI (f - 1)) (pk_sub (by omega)) ?_
      exact ez_iret rfl ez_h82 rfl rfl (kk _ hA59)
  · refine ⟨_, g3, f - 1, false, by omega, by omega, hrow, hge, hp3, hS, fun r q u bb post hr e1 e2 kk => ?_, fun A Q U T post hA kk => ?_⟩
    · obtain ⟨wtg, fr, to, bud, fst, mid, wp, fls, prt, wf, wt, wb⟩ := q
      replace e1 : fr = nI b := e1
      replace e2 : to = nI e := e2
      subst e1 e2
      refine ez_m.of (L := [some (.ref 4), none, none, none, none]) rfl rfl rfl ?_
      refine ez_go ez_h19 4 (pc' := 8) (L' := [some (.ref 4), none, none, none, none]) (st' := [.int (nI (b)), .ref 1]) (w' := cz_w r (wtg, nI (b), nI (e), bud, fst, mid, wp, fls, prt, wf, wt, wb) u bb) rfl ?_
      refine ez_cl ez_h19 rfl rfl ?_
      refine cr_at hE hr (k := b) (by omega) (wtg, nI (b), nI (e), bud, fst, mid, wp, fls, prt, wf, wt, wb) u bb ?_
      refine ez_go ez_h19 5 (pc' := 18) (L' := [some (.ref 4), some (.int (nI (ze_pi E (row b)))), none, none, none]) (st' := [.int (nI (ze_pi E (row b))), .int (nI (b)), .ref 4]) (w' := cz_w r (wtg, nI (b), nI (e), bud, fst, mid, wp, fls, prt, wf, wt, wb) u bb) rfl ?_
      refine ez_cl ez_h19 rfl rfl ?_
      refine zk_uLm (a7 b) _ (wtg, nI (b), nI (e), bud, fst, mid, wp, fls, prt, wf, wt, wb) u bb _ hr (fun r9 hr9 => ?_)
      refine ez_go ez_h19 1 (pc' := 22) (L' := [some (.ref 4), some (.int (nI (ze_pi E (row b)))), some (.int (nI (f1))), none, none]) (st' := []) (w' := cz_w r9 (wtg, nI (b), nI (e), bud, fst, mid, wp, fls, prt, wf, wt, wb) u bb) rfl ?_
      refine c7 _ (wtg, nI (b), nI (e), bud, fst, mid, wp, fls, prt, wf, wt, wb) u bb post rfl rfl hr9 (fun r10 hr10 => ?_)
      refine ez_go ez_h19 4 (pc' := bif decide ((nI (f1)) < (nI (l2))) then 84 else 80) (L' := [some (.ref 4), some (.int (nI (ze_pi E (row b)))), some (.int (nI (f1))), some (.int (nI (l2))), none]) (st' := [.ref 4]) (w' := cz_w r10 (wtg, nI (b), nI (e), bud, fst, mid, wp, fls, prt, wf, wt, wb) u bb) rfl ?_
      refine ez_ifT (zt_lt (a := f1) (b := l2) (by omega) (by omega)) ?_
      refine ez_go ez_h19 4 (pc' := 91) (L' := [some (.ref 4), some (.int (nI (ze_pi E (row b)))), some (.int (nI (f1))), some (.int (nI (l2))), some (.int (nI (0)))]) (st' := []) (w' := cz_w r10 (wtg, nI (b), nI (e), bud, fst, mid, nI (0), fls, prt, wf, wt, wb) u bb) rfl ?_
      refine d7 _ (wtg, nI (b), nI (e), bud, fst, mid, nI (0), fls, prt, wf, wt, wb) u bb post hr10 (fun r11 hr11 => ?_)
      refine ez_go ez_h19 4 (pc' := 137) (L' := [some (.ref 4), some (.int (nI (ze_pi E (row b)))), some (.int (nI (f))), none, none]) (st' := [.int ((nI (f)) - (nI (1))), .ref 4]) (w' := cz_w r11 (wtg, nI (b), nI (e), bud, fst, mid, nI (0), fls, prt, wf, wt, wb) u bb) rfl ?_
      refine ez_top (y := nI (f - 1)) (pk_sub (by omega)) ?_
      refine ez_go ez_h19 9 (pc' := 156) (L' := [some (.ref 4), some (.int (nI (ze_pi E (row b)))), some (.int (nI (f))), none, none]) (st' := [.int (nI (f - 1)), .ref 1, .int (nI (b)), .ref 1]) (w' := cz_w r11 (wtg, nI (b), nI (e), bud, fst, nI (f - 1), nI (0), fls, prt, wf, wt, wb) u bb) rfl ?_
      refine ez_cl ez_h19 rfl rfl ?_
      refine cr_at hE hr11 (k := f - 1) (by omega) (wtg, nI (b), nI (e), bud, fst, nI (f - 1), nI (0), fls, prt, wf, wt, wb) u bb ?_
      refine ez_cl ez_h19 rfl rfl ?_
      refine cr_set hE hr11 (k := b) (x := row3 (f - 1)) (by omega) (wtg, nI (b), nI (e), bud, fst, nI (f - 1), nI (0), fls, prt, wf, wt, wb) u bb (fun r60 hr60 => ?_)
      refine ez_go ez_h19 5 (pc' := 171) (L' := [some (.ref 4), some (.int (nI (ze_pi E (row b)))), some (.int (nI (f))), none, none]) (st' := [.int (nI (ze_pi E (row b))), .int (nI (f - 1)), .ref 1]) (w' := cz_w r60 (wtg, nI (b), nI (e), bud, fst, nI (f - 1), nI (0), fls, prt, wf, wt, wb) u bb) rfl ?_
      refine ez_cl ez_h19 rfl rfl ?_
      refine cr_set hE hr60 (k := f - 1) (x := row b) (by omega) (wtg, nI (b), nI (e), bud, fst, nI (f - 1), nI (0), fls, prt, wf, wt, wb) u bb (fun r61 hr61 => ?_)
      refine ez_go ez_h19 6 (pc' := 184) (L' := [some (.ref 4), some (.int (nI (ze_pi E (row b)))), some (.int (nI (f))), none, none]) (st' := []) (w' := cz_w r61 (wtg, nI (b), nI (e), bud, fst, nI (f - 1), nI (0), fls, prt + 1, wf, wt, wb) u bb) rfl ?_
      exact ez_vret rfl ez_h19 rfl rfl (kk _ hr61)
    · obtain ⟨mfls, mfn, mprt, mwtg, mwp, mwf, mwt, mwb⟩ := Q
      refine ez_m.of (L := [some (.ref 0), some (.int (nI (b))), some (.int (nI (e))), none, none, none, none]) rfl rfl rfl ?_
      refine ez_go ez_h82 3 (pc' := 5) (L' := [some (.ref 0), some (.int (nI (b))), some (.int (nI (e))), none, none, none, none]) (st' := [.int (nI (b)), .ref 4]) (w' := mz_w A (mfls, mfn, mprt, mwtg, mwp, mwf, mwt, mwb) U T) rfl ?_
      refine mr_ld ez_h82 rfl hE hA (k := b) (by omega) ?_
      refine ez_go ez_h82 4 (pc' := 10) (L' := [some (.ref 0), some (.int (nI (b))), some (.int (nI (e))), some (.int (nI (row b))), none, none, none]) (st' := [.int ((nI (b)) + (nI (1)))]) (w' := mz_w A (mfls, mfn, mprt, mwtg, mwp, mwf, mwt, mwb) U T) rfl ?_
      refine ez_top (y := nI (b + 1)) (nI_add _ _) ?_
      refine ez_go ez_h82 3 (pc' := 15) (L' := [some (.ref 0), some (.int (nI (b))), some (.int (nI (e))), some (.int (nI (row b))), some (.int (nI (b + 1))), some (.int (nI (e))), none]) (st' := []) (w' := mz_w A (mfls, mfn, mprt, mwtg, mwp, mwf, mwt, mwb) U T) rfl ?_
      refine a8 b e e _ (mfls, mfn, mprt, mwtg, mwp, mwf, mwt, mwb) U T post hA (fun A8 hA8 => ?_)
      refine c8 _ (mfls, mfn, mprt, mwtg, mwp, mwf, mwt, mwb) U T post hA8 (fun A9 hA9 => ?_)
      refine ez_go ez_h82 4 (pc' := bif decide ((nI (f1)) < (nI (l2))) then 132 else 128) (L' := [some (.ref 0), some (.int (nI (b))), some (.int (nI (e))), some (.int (nI (row b))), some (.int (nI (f1))), some (.int (nI (l2))), none]) (st' := [.ref 0]) (w' := mz_w A9 (mfls, mfn, mprt, mwtg, mwp, mwf, mwt, mwb) U T) rfl ?_
      refine ez_ifT (zt_lt (a := f1) (b := l2) (by omega) (by omega)) ?_
      refine ez_go ez_h82 2 (pc' := 136) (L' := [some (.ref 0), some (.int (nI (b))), some (.int (nI (e))), some (.int (nI (row b))), some (.int (nI (f1))), some (.int (nI (l2))), none]) (st' := []) (w' := mz_w A9 (mfls, mfn, mprt, mwtg, nI (0), mwf, mwt, mwb) U T) rfl ?_
      refine d8 _ (mfls, mfn, mprt, mwtg, nI (0), mwf, mwt, mwb) U T post hA9 (fun A10 hA10 => ?_)
      refine ez_go ez_h82 8 (pc' := 212) (L' := [some (.ref 0), some (.int (nI (b))), none, some (.int (nI (row b))), some (.int (nI (f))), none, none]) (st' := [.int ((nI (f)) - (nI (1))), .ref 4, .int (nI (b)), .ref 4]) (w' := mz_w A10 (mfls, mfn, mprt, mwtg, nI (0), mwf, mwt, mwb) U T) rfl ?_
      refine ez_top (y := nI (f - 1)) (pk_sub (by omega)) ?_
      refine mr_ld ez_h82 rfl hE hA10 (k := f - 1) (by omega) ?_
      refine mr_st ez_h82 rfl hE hA10 (k := b) (x := row3 (f - 1)) (by omega) (fun A62 hA62 => ?_)
      refine ez_go ez_h82 5 (pc' := 222) (L' := [some (.ref 0), some (.int (nI (b))), none, some (.int (nI (row b))), some (.int (nI (f))), none, none]) (st' := [.int ((nI (f)) - (nI (1))), .ref 4]) (w' := mz_w A62 (mfls, mfn, mprt, mwtg, nI (0), mwf, mwt, mwb) U T) rfl ?_
      refine ez_top (y := nI (f - 1)) (pk_sub (by omega)) ?_
      refine ez_go ez_h82 1 (pc' := 223) (L' := [some (.ref 0), some (.int (nI (b))), none, some (.int (nI (row b))), some (.int (nI (f))), none, none]) (st' := [.int (nI (row b)), .int (nI (f - 1)), .ref 4]) (w' := mz_w A62 (mfls, mfn, mprt, mwtg, nI (0), mwf, mwt, mwb) U T) rfl ?_
      refine mr_st ez_h82 rfl hE hA62 (k := f - 1) (x := row b) (by omega) (fun A63 hA63 => ?_)
      refine ez_go ez_h82 9 (pc' := 238) (L' := [some (.ref 0), some (.int (nI (b))), none, some (.int (nI (row b))), some (.int (nI (f))), none, none]) (st' := [.int ((nI (f)) - (nI (1)))]) (w' := mz_w A63 (mfls, mfn, mprt + 1, mwtg, nI (0), mwf, mwt, mwb) U T) rfl ?_
      refine ez_top (y := nI (f - 1)) (pk_sub (by omega)) ?_
      exact ez_iret rfl ez_h82 rfl rfl (kk _ hA63)
