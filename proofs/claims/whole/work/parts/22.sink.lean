/-- the greater one of two below -/
theorem zh_pick {E : ze_T} (hE : ze_ok E) {b m i c x : Nat} (hx : x < ze_n E) (hm : b + m ≤ ze_n E) (hc : c < m) {row : Nat → Nat} {g : zs_G} (hw : zr_ok E row g) :
    ∃ (c' : Nat) (g' : zs_G), c ≤ c' ∧ c' < m ∧ zr_ok E row g' ∧ zg_le E g g' ∧
      (∀ top : Nat, cr_G E 2 29 [some (.ref 3), some (.int (nI (b))), some (.int (nI (top))), some (.int (nI (m))), some (.int (nI (ze_pi E (x)))), some (.int (nI (i))), some (.int (nI (c)))] row g 74 [some (.ref 3), some (.int (nI (b))), some (.int (nI (top))), some (.int (nI (m))), some (.int (nI (ze_pi E (x)))), some (.int (nI (i))), some (.int (nI (c')))] row g') ∧ (∀ top : Nat, mr_G E 77 40 [some (.ref 0), some (.int (nI (b))), some (.int (nI (top))), some (.int (nI (m))), some (.int (nI (i))), some (.int (nI (x))), none, some (.int (nI (c)))] row g 68 [some (.ref 0), some (.int (nI (b))), some (.int (nI (top))), some (.int (nI (m))), some (.int (nI (i))), some (.int (nI (x))), none, some (.int (nI (c')))] row g') := by
  have hn := hE.1
  by_cases h1 : c + 1 < m
  · have hw1 := hw.go (hw.1 (b + c) (by omega)) (hw.1 (b + c + 1) (by omega))
    have hg1 : zg_le E g _ := zg_le.go hw (row (b + c)) (row (b + c + 1))
    cases hb : zs_b (ze_md E) (ze_ka E) (row (b + c)) (row (b + c + 1)) g with
    | false =>
      refine ⟨c, _, Nat.le_refl _, hc, hw1, hg1, fun top => ?_, fun top => ?_⟩
      · intro r q u bb post hr kk
        refine ez_go ez_h2 3 (pc' := 33) (L' := [some (.ref 3), some (.int (nI (b))), some (.int (nI (top))), some (.int (nI (m))), some (.int (nI (ze_pi E (x)))), some (.int (nI (i))), some (.int (nI (c)))]) (st' := [.int ((nI (c)) + (nI (1)))]) (w' := cz_w r q u bb) rfl ?_
        refine ez_top (y := nI (c + 1)) (nI_add _ _) ?_
        refine ez_go ez_h2 2 (pc' := bif decide ((nI (m)) ≤ (nI (c + 1))) then 74 else 37) (L' := [some (.ref 3), some (.int (nI (b))), some (.int (nI (top))), some (.int (nI (m))), some (.int (nI (ze_pi E (x)))), some (.int (nI (i))), some (.int (nI (c)))]) (st' := []) (w' := cz_w r q u bb) rfl ?_
        refine ez_ifF (zt_nle (a := m) (b := c + 1) (by omega) (by omega)) ?_
        refine ez_go ez_h2 7 (pc' := 49) (L' := [some (.ref 3), some (.int (nI (b))), some (.int (nI (top))), some (.int (nI (m))), some (.int (nI (ze_pi E (x)))), some (.int (nI (i))), some (.int (nI (c)))]) (st' := [.int ((nI (b)) + (nI (c))), .ref 1, .ref 1]) (w' := cz_w r q u bb) rfl ?_
        refine ez_top (y := nI (b + c)) (nI_add _ _) ?_
        refine ez_cl ez_h2 rfl rfl ?_
        refine cr_at hE hr (k := b + c) (by omega) q u bb ?_
        refine ez_go ez_h2 5 (pc' := 60) (L' := [some (.ref 3), some (.int (nI (b))), some (.int (nI (top))), some (.int (nI (m))), some (.int (nI (ze_pi E (x)))), some (.int (nI (i))), some (.int (nI (c)))]) (st' := [.int ((nI (b)) + (nI (c))), .ref 1, .int (nI (ze_pi E (row (b + c)))), .ref 1]) (w' := cz_w r q u bb) rfl ?_
        refine ez_top (y := nI (b + c)) (nI_add _ _) ?_
        refine ez_go ez_h2 2 (pc' := 62) (L' := [some (.ref 3), some (.int (nI (b))), some (.int (nI (top))), some (.int (nI (m))), some (.int (nI (ze_pi E (x)))), some (.int (nI (i))), some (.int (nI (c)))]) (st' := [.int ((nI (b + c)) + (nI (1))), .ref 1, .int (nI (ze_pi E (row (b + c)))), .ref 1]) (w' := cz_w r q u bb) rfl ?_
        refine ez_top (y := nI ((b + c) + 1)) (nI_add _ _) ?_
        refine ez_cl ez_h2 rfl rfl ?_
        refine cr_at hE hr (k := (b + c) + 1) (by omega) q u bb ?_
        refine ez_cl ez_h2 rfl rfl ?_
        refine cr_less hE hr hw.2 (x := row (b + c)) (y := row ((b + c) + 1)) (hw.1 (b + c) (by omega)) (hw.1 ((b + c) + 1) (by omega)) q u bb (fun r4 hr4 => ?_)
        refine ez_go ez_h2 1 (pc' := bif decide ((zs_z (zs_b (ze_md E) (ze_ka E) (row (b + c)) (row ((b + c) + 1)) g)) = 0) then 74 else 71) (L' := [some (.ref 3), some (.int (nI (b))), some (.int (nI (top))), some (.int (nI (m))), some (.int (nI (ze_pi E (x)))), some (.int (nI (i))), some (.int (nI (c)))]) (st' := []) (w' := cz_w r4 q u bb) rfl ?_
        refine ez_ifT (zz_f hb) ?_
        exact kk _ hr4
      · intro A Q U T post hA kk
        refine ez_go ez_h77 3 (pc' := 44) (L' := [some (.ref 0), some (.int (nI (b))), some (.int (nI (top))), some (.int (nI (m))), some (.int (nI (i))), some (.int (nI (x))), none, some (.int (nI (c)))]) (st' := [.int ((nI (c)) + (nI (1)))]) (w' := mz_w A Q U T) rfl ?_
        refine ez_top (y := nI (c + 1)) (nI_add _ _) ?_
        refine ez_go ez_h77 2 (pc' := bif decide ((nI (m)) ≤ (nI (c + 1))) then 68 else 48) (L' := [some (.ref 0), some (.int (nI (b))), some (.int (nI (top))), some (.int (nI (m))), some (.int (nI (i))), some (.int (nI (x))), none, some (.int (nI (c)))]) (st' := []) (w' := mz_w A Q U T) rfl ?_
        refine ez_ifF (zt_nle (a := m) (b := c + 1) (by omega) (by omega)) ?_
        refine ez_go ez_h77 4 (pc' := 53) (L' := [some (.ref 0), some (.int (nI (b))), some (.int (nI (top))), some (.int (nI (m))), some (.int (nI (i))), some (.int (nI (x))), none, some (.int (nI (c)))]) (st' := [.int ((nI (b)) + (nI (c))), .ref 0]) (w' := mz_w A Q U T) rfl ?_
        refine ez_top (y := nI (b + c)) (nI_add _ _) ?_
        refine ez_go ez_h77 3 (pc' := 57) (L' := [some (.ref 0), some (.int (nI (b))), some (.int (nI (top))), some (.int (nI (m))), some (.int (nI (i))), some (.int (nI (x))), none, some (.int (nI (c)))]) (st' := [.int ((nI (b)) + (nI (c))), .int (nI (b + c)), .ref 0]) (w' := mz_w A Q U T) rfl ?_
        refine ez_top (y := nI (b + c)) (nI_add _ _) ?_
        refine ez_go ez_h77 2 (pc' := 59) (L' := [some (.ref 0), some (.int (nI (b))), some (.int (nI (top))), some (.int (nI (m))), some (.int (nI (i))), some (.int (nI (x))), none, some (.int (nI (c)))]) (st' := [.int ((nI (b + c)) + (nI (1))), .int (nI (b + c)), .ref 0]) (w' := mz_w A Q U T) rfl ?_
        refine ez_top (y := nI ((b + c) + 1)) (nI_add _ _) ?_
        refine ez_cl ez_h77 rfl rfl ?_
        refine mr_lessAt hE hA hw (i := b + c) (j := (b + c) + 1) (by omega) (by omega) Q U T (fun A5 hA5 => ?_)
        refine ez_go ez_h77 1 (pc' := bif decide ((zs_z (zs_b (ze_md E) (ze_ka E) (row (b + c)) (row ((b + c) + 1)) g)) = 0) then 68 else 65) (L' := [some (.ref 0), some (.int (nI (b))), some (.int (nI (top))), some (.int (nI (m))), some (.int (nI (i))), some (.int (nI (x))), none, some (.int (nI (c)))]) (st' := []) (w' := mz_w A5 Q U T) rfl ?_
        refine ez_ifT (zz_f hb) ?_
        exact kk _ hA5
    | true =>
      refine ⟨c + 1, _, by omega, h1, hw1, hg1, fun top => ?_, fun top => ?_⟩
      · intro r q u bb post hr kk
        refine ez_go ez_h2 3 (pc' := 33) (L' := [some (.ref 3), some (.int (nI (b))), some (.int (nI (top))), some (.int (nI (m))), some (.int (nI (ze_pi E (x)))), some (.int (nI (i))), some (.int (nI (c)))]) (st' := [.int ((nI (c)) + (nI (1)))]) (w' := cz_w r q u bb) rfl ?_
        refine ez_top (y := nI (c + 1)) (nI_add _ _) ?_
        refine ez_go ez_h2 2 (pc' := bif decide ((nI (m)) ≤ (nI (c + 1))) then 74 else 37) (L' := [some (.ref 3), some (.int (nI (b))), some (.int (nI (top))), some (.int (nI (m))), some (.int (nI (ze_pi E (x)))), some (.int (nI (i))), some (.int (nI (c)))]) (st' := []) (w' := cz_w r q u bb) rfl ?_
        refine ez_ifF (zt_nle (a := m) (b := c + 1) (by omega) (by omega)) ?_
        refine ez_go ez_h2 7 (pc' := 49) (L' := [some (.ref 3), some (.int (nI (b))), some (.int (nI (top))), some (.int (nI (m))), some (.int (nI (ze_pi E (x)))), some (.int (nI (i))), some (.int (nI (c)))]) (st' := [.int ((nI (b)) + (nI (c))), .ref 1, .ref 1]) (w' := cz_w r q u bb) rfl ?_
        refine ez_top (y := nI (b + c)) (nI_add _ _) ?_
        refine ez_cl ez_h2 rfl rfl ?_
        refine cr_at hE hr (k := b + c) (by omega) q u bb ?_
        refine ez_go ez_h2 5 (pc' := 60) (L' := [some (.ref 3), some (.int (nI (b))), some (.int (nI (top))), some (.int (nI (m))), some (.int (nI (ze_pi E (x)))), some (.int (nI (i))), some (.int (nI (c)))]) (st' := [.int ((nI (b)) + (nI (c))), .ref 1, .int (nI (ze_pi E (row (b + c)))), .ref 1]) (w' := cz_w r q u bb) rfl ?_
        refine ez_top (y := nI (b + c)) (nI_add _ _) ?_
        refine ez_go ez_h2 2 (pc' := 62) (L' := [some (.ref 3), some (.int (nI (b))), some (.int (nI (top))), some (.int (nI (m))), some (.int (nI (ze_pi E (x)))), some (.int (nI (i))), some (.int (nI (c)))]) (st' := [.int ((nI (b + c)) + (nI (1))), .ref 1, .int (nI (ze_pi E (row (b + c)))), .ref 1]) (w' := cz_w r q u bb) rfl ?_
        refine ez_top (y := nI ((b + c) + 1)) (nI_add _ _) ?_
        refine ez_cl ez_h2 rfl rfl ?_
        refine cr_at hE hr (k := (b + c) + 1) (by omega) q u bb ?_
        refine ez_cl ez_h2 rfl rfl ?_
        refine cr_less hE hr hw.2 (x := row (b + c)) (y := row ((b + c) + 1)) (hw.1 (b + c) (by omega)) (hw.1 ((b + c) + 1) (by omega)) q u bb (fun r6 hr6 => ?_)
        refine ez_go ez_h2 1 (pc' := bif decide ((zs_z (zs_b (ze_md E) (ze_ka E) (row (b + c)) (row ((b + c) + 1)) g)) = 0) then 74 else 71) (L' := [some (.ref 3), some (.int (nI (b))), some (.int (nI (top))), some (.int (nI (m))), some (.int (nI (ze_pi E (x)))), some (.int (nI (i))), some (.int (nI (c)))]) (st' := []) (w' := cz_w r6 q u bb) rfl ?_
        refine ez_ifF (zz_t hb) ?_
        refine ez_inc ez_h2 rfl rfl (v := nI (c + 1)) (zi_1 _) rfl ?_
        exact kk _ hr6
      · intro A Q U T post hA kk
        refine ez_go ez_h77 3 (pc' := 44) (L' := [some (.ref 0), some (.int (nI (b))), some (.int (nI (top))), some (.int (nI (m))), some (.int (nI (i))), some (.int (nI (x))), none, some (.int (nI (c)))]) (st' := [.int ((nI (c)) + (nI (1)))]) (w' := mz_w A Q U T) rfl ?_
        refine ez_top (y := nI (c + 1)) (nI_add _ _) ?_
        refine ez_go ez_h77 2 (pc' := bif decide ((nI (m)) ≤ (nI (c + 1))) then 68 else 48) (L' := [some (.ref 0), some (.int (nI (b))), some (.int (nI (top))), some (.int (nI (m))), some (.int (nI (i))), some (.int (nI (x))), none, some (.int (nI (c)))]) (st' := []) (w' := mz_w A Q U T) rfl ?_
        refine ez_ifF (zt_nle (a := m) (b := c + 1) (by omega) (by omega)) ?_
        refine ez_go ez_h77 4 (pc' := 53) (L' := [some (.ref 0), some (.int (nI (b))), some (.int (nI (top))), some (.int (nI (m))), some (.int (nI (i))), some (.int (nI (x))), none, some (.int (nI (c)))]) (st' := [.int ((nI (b)) + (nI (c))), .ref 0]) (w' := mz_w A Q U T) rfl ?_
        refine ez_top (y := nI (b + c)) (nI_add _ _) ?_
        refine ez_go ez_h77 3 (pc' := 57) (L' := [some (.ref 0), some (.int (nI (b))), some (.int (nI (top))), some (.int (nI (m))), some (.int (nI (i))), some (.int (nI (x))), none, some (.int (nI (c)))]) (st' := [.int ((nI (b)) + (nI (c))), .int (nI (b + c)), .ref 0]) (w' := mz_w A Q U T) rfl ?_
        refine ez_top (y := nI (b + c)) (nI_add _ _) ?_
        refine ez_go ez_h77 2 (pc' := 59) (L' := [some (.ref 0), some (.int (nI (b))), some (.int (nI (top))), some (.int (nI (m))), some (.int (nI (i))), some (.int (nI (x))), none, some (.int (nI (c)))]) (st' := [.int ((nI (b + c)) + (nI (1))), .int (nI (b + c)), .ref 0]) (w' := mz_w A Q U T) rfl ?_
        refine ez_top (y := nI ((b + c) + 1)) (nI_add _ _) ?_
        refine ez_cl ez_h77 rfl rfl ?_
        refine mr_lessAt hE hA hw (i := b + c) (j := (b + c) + 1) (by omega) (by omega) Q U T (fun A7 hA7 => ?_)
        refine ez_go ez_h77 1 (pc' := bif decide ((zs_z (zs_b (ze_md E) (ze_ka E) (row (b + c)) (row ((b + c) + 1)) g)) = 0) then 68 else 65) (L' := [some (.ref 0), some (.int (nI (b))), some (.int (nI (top))), some (.int (nI (m))), some (.int (nI (i))), some (.int (nI (x))), none, some (.int (nI (c)))]) (st' := []) (w' := mz_w A7 Q U T) rfl ?_
        refine ez_ifF (zz_t hb) ?_
        refine ez_inc ez_h77 rfl rfl (v := nI (c + 1)) (zi_1 _) rfl ?_
        exact kk _ hA7
  · refine ⟨c, g, Nat.le_refl _, hc, hw, zg_le.rf g, fun top => ?_, fun top => ?_⟩
    · intro r q u bb post hr kk
      refine ez_go ez_h2 3 (pc' := 33) (L' := [some (.ref 3), some (.int (nI (b))), some (.int (nI (top))), some (.int (nI (m))), some (.int (nI (ze_pi E (x)))), some (.int (nI (i))), some (.int (nI (c)))]) (st' := [.int ((nI (c)) + (nI (1)))]) (w' := cz_w r q u bb) rfl ?_
      refine ez_top (y := nI (c + 1)) (nI_add _ _) ?_
      refine ez_go ez_h2 2 (pc' := bif decide ((nI (m)) ≤ (nI (c + 1))) then 74 else 37) (L' := [some (.ref 3), some (.int (nI (b))), some (.int (nI (top))), some (.int (nI (m))), some (.int (nI (ze_pi E (x)))), some (.int (nI (i))), some (.int (nI (c)))]) (st' := []) (w' := cz_w r q u bb) rfl ?_
      refine ez_ifT (zt_le (a := m) (b := c + 1) (by omega) (by omega)) ?_
      exact kk _ hr
    · intro A Q U T post hA kk
      refine ez_go ez_h77 3 (pc' := 44) (L' := [some (.ref 0), some (.int (nI (b))), some (.int (nI (top))), some (.int (nI (m))), some (.int (nI (i))), some (.int (nI (x))), none, some (.int (nI (c)))]) (st' := [.int ((nI (c)) + (nI (1)))]) (w' := mz_w A Q U T) rfl ?_
      refine ez_top (y := nI (c + 1)) (nI_add _ _) ?_
      refine ez_go ez_h77 2 (pc' := bif decide ((nI (m)) ≤ (nI (c + 1))) then 68 else 48) (L' := [some (.ref 0), some (.int (nI (b))), some (.int (nI (top))), some (.int (nI (m))), some (.int (nI (i))), some (.int (nI (x))), none, some (.int (nI (c)))]) (st' := []) (w' := mz_w A Q U T) rfl ?_
      refine ez_ifT (zt_le (a := m) (b := c + 1) (by omega) (by omega)) ?_
      exact kk _ hA
theorem zh_mv {row : Nat → Nat} {b m i c x : Nat} (hi : i < m) (hc : c < m) (hne : c ≠ i) : zp_in (va_up row (b + i) x) (va_up (va_up row (b + i) (row (b + c))) (b + c) x) b (b + m) := ⟨fun k k1 k2 => by
  by_cases e1 : k = b + c
  · exact ⟨b + i, by omega, by omega, by rw [e1, va_up_self, va_up_self]⟩
  · rw [va_up_ne _ _ e1]
    by_cases e2 : k = b + i
    · exact ⟨b + c, by omega, by omega, by rw [e2, va_up_self, va_up_ne _ _ (by omega)]⟩
    · exact ⟨k, k1, k2, by rw [va_up_ne _ _ e2, va_up_ne _ _ e2]⟩, fun k hk => by
  rw [va_up_ne _ _ (by omega), va_up_ne _ _ (by omega), va_up_ne _ _ (by omega)]⟩
/-- one sinks -/
theorem zh_loop {E : ze_T} (hE : ze_ok E) {b m x : Nat} (hx : x < ze_n E) (hm : b + m ≤ ze_n E) : ∀ (s i : Nat) (row : Nat → Nat) (g : zs_G), m ≤ i + s → i < m → zr_ok E row g →
    ∃ (row' : Nat → Nat) (g' : zs_G) (i' : Nat), i' < m ∧ zr_ok E row' g' ∧ zg_le E g g' ∧ zp_in (va_up row (b + i) x) (va_up row' (b + i') x) b (b + m) ∧
      (∀ top : Nat, cr_G E 2 23 [some (.ref 3), some (.int (nI (b))), some (.int (nI (top))), some (.int (nI (m))), some (.int (nI (ze_pi E (x)))), some (.int (nI (i))), some (.int (nI (2 * i + 1)))] row g 137 [some (.ref 3), some (.int (nI (b))), some (.int (nI (top))), some (.int (nI (m))), some (.int (nI (ze_pi E (x)))), some (.int (nI (i'))), none] row' g') ∧ (∀ top : Nat, mr_G E 77 22 [some (.ref 0), some (.int (nI (b))), some (.int (nI (top))), some (.int (nI (m))), some (.int (nI (i))), some (.int (nI (x))), none, none] row g 115 [some (.ref 0), some (.int (nI (b))), some (.int (nI (top))), some (.int (nI (m))), some (.int (nI (i'))), some (.int (nI (x))), none, none] row' g') := by
  have hn := hE.1
  intro s
  induction s with
  | zero => intro i row g h1 h2; omega
  | succ s ih =>
    intro i row g h1 h2 hw
    by_cases hc : 2 * i + 1 < m
    · obtain ⟨c, g1, p1, p2, p3, p4, p5, p6⟩ := zh_pick hE (i := i) hx hm hc hw
      have hw2 := p3.go hx (p3.1 (b + c) (by omega))
      have hg2 : zg_le E g1 _ := zg_le.go p3 x (row (b + c))
      cases hb : zs_b (ze_md E) (ze_ka E) x (row (b + c)) g1 with
      | false =>
        refine ⟨row, _, i, h2, hw2, p4.tr hg2, zp_in.rf _ _ _, fun top => ?_, fun top => ?_⟩
        · intro r q u bb post hr kk
          refine ez_go ez_h2 3 (pc' := bif decide ((nI (m)) ≤ (nI (2 * i + 1))) then 137 else 29) (L' := [some (.ref 3), some (.int (nI (b))), some (.int (nI (top))), some (.int (nI (m))), some (.int (nI (ze_pi E (x)))), some (.int (nI (i))), some (.int (nI (2 * i + 1)))]) (st' := []) (w' := cz_w r q u bb) rfl ?_
          refine ez_ifF (zt_nle (a := m) (b := 2 * i + 1) (by omega) (by omega)) ?_
          refine p5 top _ q u bb post hr (fun r8 hr8 => ?_)
          refine ez_go ez_h2 8 (pc' := 88) (L' := [some (.ref 3), some (.int (nI (b))), some (.int (nI (top))), some (.int (nI (m))), some (.int (nI (ze_pi E (x)))), some (.int (nI (i))), some (.int (nI (c)))]) (st' := [.int ((nI (b)) + (nI (c))), .ref 1, .int (nI (ze_pi E (x))), .ref 1]) (w' := cz_w r8 q u bb) rfl ?_
          refine ez_top (y := nI (b + c)) (nI_add _ _) ?_
          refine ez_cl ez_h2 rfl rfl ?_
          refine cr_at hE hr8 (k := b + c) (by omega) q u bb ?_
          refine ez_cl ez_h2 rfl rfl ?_
          refine cr_less hE hr8 p3.2 (x := x) (y := row (b + c)) hx (p3.1 (b + c) (by omega)) q u bb (fun r8 hr8 => ?_)
          refine ez_go ez_h2 1 (pc' := bif decide (¬ (zs_z (zs_b (ze_md E) (ze_ka E) x (row (b + c)) g1)) = 0) then 100 else 97) (L' := [some (.ref 3), some (.int (nI (b))), some (.int (nI (top))), some (.int (nI (m))), some (.int (nI (ze_pi E (x)))), some (.int (nI (i))), some (.int (nI (c)))]) (st' := []) (w' := cz_w r8 q u bb) rfl ?_
          refine ez_ifF (fun z => z (zz_f hb)) ?_
          refine ez_go ez_h2 1 (pc' := 137) (L' := [some (.ref 3), some (.int (nI (b))), some (.int (nI (top))), some (.int (nI (m))), some (.int (nI (ze_pi E (x)))), some (.int (nI (i))), some (.int (nI (c)))]) (st' := []) (w' := cz_w r8 q u bb) rfl ?_
          exact ez_E.le (ez_lc (ez_lc (ez_lc (ez_lc (ez_lc (ez_lc (ez_ln ez_l0))))))) (kk _ hr8)
        · intro A Q U T post hA kk
          refine ez_go ez_h77 3 (pc' := 26) (L' := [some (.ref 0), some (.int (nI (b))), some (.int (nI (top))), some (.int (nI (m))), some (.int (nI (i))), some (.int (nI (x))), none, none]) (st' := [.int ((nI (2)) * (nI (i)))]) (w' := mz_w A Q U T) rfl ?_
          refine ez_top (y := nI (2 * i)) (pk_mul _ _) ?_
          refine ez_go ez_h77 2 (pc' := 28) (L' := [some (.ref 0), some (.int (nI (b))), some (.int (nI (top))), some (.int (nI (m))), some (.int (nI (i))), some (.int (nI (x))), none, none]) (st' := [.int ((nI (2 * i)) + (nI (1)))]) (w' := mz_w A Q U T) rfl ?_
          refine ez_top (y := nI ((2 * i) + 1)) (nI_add _ _) ?_
          refine ez_go ez_h77 2 (pc' := bif decide ((nI (m)) ≤ (nI ((2 * i) + 1))) then 115 else 32) (L' := [some (.ref 0), some (.int (nI (b))), some (.int (nI (top))), some (.int (nI (m))), some (.int (nI (i))), some (.int (nI (x))), none, none]) (st' := []) (w' := mz_w A Q U T) rfl ?_
          refine ez_ifF (zt_nle (a := m) (b := (2 * i) + 1) (by omega) (by omega)) ?_
          refine ez_go ez_h77 3 (pc' := 36) (L' := [some (.ref 0), some (.int (nI (b))), some (.int (nI (top))), some (.int (nI (m))), some (.int (nI (i))), some (.int (nI (x))), none, none]) (st' := [.int ((nI (2)) * (nI (i)))]) (w' := mz_w A Q U T) rfl ?_
          refine ez_top (y := nI (2 * i)) (pk_mul _ _) ?_
          refine ez_go ez_h77 2 (pc' := 38) (L' := [some (.ref 0), some (.int (nI (b))), some (.int (nI (top))), some (.int (nI (m))), some (.int (nI (i))), some (.int (nI (x))), none, none]) (st' := [.int ((nI (2 * i)) + (nI (1)))]) (w' := mz_w A Q U T) rfl ?_
          refine ez_top (y := nI ((2 * i) + 1)) (nI_add _ _) ?_
          refine ez_go ez_h77 1 (pc' := 40) (L' := [some (.ref 0), some (.int (nI (b))), some (.int (nI (top))), some (.int (nI (m))), some (.int (nI (i))), some (.int (nI (x))), none, some (.int (nI ((2 * i) + 1)))]) (st' := []) (w' := mz_w A Q U T) rfl ?_
          refine p6 top _ Q U T post hA (fun A8 hA8 => ?_)
          refine ez_go ez_h77 7 (pc' := 79) (L' := [some (.ref 0), some (.int (nI (b))), some (.int (nI (top))), some (.int (nI (m))), some (.int (nI (i))), some (.int (nI (x))), none, some (.int (nI (c)))]) (st' := [.int ((nI (b)) + (nI (c))), .ref 4, .int (nI (x)), .ref 0]) (w' := mz_w A8 Q U T) rfl ?_
          refine ez_top (y := nI (b + c)) (nI_add _ _) ?_
          refine mr_ld ez_h77 rfl hE hA8 (k := b + c) (by omega) ?_
          refine ez_cl ez_h77 rfl rfl ?_
          refine mr_less hE hA8 p3.2 (x := x) (y := row (b + c)) hx (p3.1 (b + c) (by omega)) Q U T (fun A9 hA9 => ?_)
          refine ez_go ez_h77 3 (pc' := bif decide ((zs_z (zs_b (ze_md E) (ze_ka E) x (row (b + c)) g1)) = 0) then 112 else 90) (L' := [some (.ref 0), some (.int (nI (b))), some (.int (nI (top))), some (.int (nI (m))), some (.int (nI (i))), some (.int (nI (x))), some (.int (zs_z (zs_b (ze_md E) (ze_ka E) x (row (b + c)) g1))), some (.int (nI (c)))]) (st' := []) (w' := mz_w A9 Q U T) rfl ?_
          refine ez_ifT (zz_f hb) ?_
          refine ez_go ez_h77 3 (pc' := bif decide ((zs_z (zs_b (ze_md E) (ze_ka E) x (row (b + c)) g1)) = 0) then 115 else 22) (L' := [some (.ref 0), some (.int (nI (b))), some (.int (nI (top))), some (.int (nI (m))), some (.int (nI (i))), some (.int (nI (x))), some (.int (zs_z (zs_b (ze_md E) (ze_ka E) x (row (b + c)) g1))), some (.int (nI (c)))]) (st' := []) (w' := mz_w A9 Q U T) rfl ?_
          refine ez_ifT (zz_f hb) ?_
          exact ez_E.le (ez_lc (ez_lc (ez_lc (ez_lc (ez_lc (ez_lc (ez_ln (ez_ln ez_l0)))))))) (kk _ hA9)
      | true =>
        obtain ⟨row', g', i', a1, a2, a3, a4, a5, a6⟩ := ih c (va_up row (b + i) (row (b + c))) _ (by omega) p2 (hw2.set (p3.1 (b + c) (by omega)))
        refine ⟨row', g', i', a1, a2, (p4.tr hg2).tr a3, (zh_mv h2 p2 (by omega)).tr a4, fun top => ?_, fun top => ?_⟩
        · intro r q u bb post hr kk
          refine ez_go ez_h2 3 (pc' := bif decide ((nI (m)) ≤ (nI (2 * i + 1))) then 137 else 29) (L' := [some (.ref 3), some (.int (nI (b))), some (.int (nI (top))), some (.int (nI (m))), some (.int (nI (ze_pi E (x)))), some (.int (nI (i))), some (.int (nI (2 * i + 1)))]) (st' := []) (w' := cz_w r q u bb) rfl ?_
          refine ez_ifF (zt_nle (a := m) (b := 2 * i + 1) (by omega) (by omega)) ?_
          refine p5 top _ q u bb post hr (fun r8 hr8 => ?_)
          refine ez_go ez_h2 8 (pc' := 88) (L' := [some (.ref 3), some (.int (nI (b))), some (.int (nI (top))), some (.int (nI (m))), some (.int (nI (ze_pi E (x)))), some (.int (nI (i))), some (.int (nI (c)))]) (st' := [.int ((nI (b)) + (nI (c))), .ref 1, .int (nI (ze_pi E (x))), .ref 1]) (w' := cz_w r8 q u bb) rfl ?_
          refine ez_top (y := nI (b + c)) (nI_add _ _) ?_
          refine ez_cl ez_h2 rfl rfl ?_
          refine cr_at hE hr8 (k := b + c) (by omega) q u bb ?_
          refine ez_cl ez_h2 rfl rfl ?_
          refine cr_less hE hr8 p3.2 (x := x) (y := row (b + c)) hx (p3.1 (b + c) (by omega)) q u bb (fun r10 hr10 => ?_)
          refine ez_go ez_h2 1 (pc' := bif decide (¬ (zs_z (zs_b (ze_md E) (ze_ka E) x (row (b + c)) g1)) = 0) then 100 else 97) (L' := [some (.ref 3), some (.int (nI (b))), some (.int (nI (top))), some (.int (nI (m))), some (.int (nI (ze_pi E (x)))), some (.int (nI (i))), some (.int (nI (c)))]) (st' := []) (w' := cz_w r10 q u bb) rfl ?_
          refine ez_ifT (zz_t hb) ?_
          refine ez_go ez_h2 5 (pc' := 108) (L' := [some (.ref 3), some (.int (nI (b))), some (.int (nI (top))), some (.int (nI (m))), some (.int (nI (ze_pi E (x)))), some (.int (nI (i))), some (.int (nI (c)))]) (st' := [.int ((nI (b)) + (nI (i))), .ref 1]) (w' := cz_w r10 q u bb) rfl ?_
          refine ez_top (y := nI (b + i)) (nI_add _ _) ?_
          refine ez_go ez_h2 5 (pc' := 116) (L' := [some (.ref 3), some (.int (nI (b))), some (.int (nI (top))), some (.int (nI (m))), some (.int (nI (ze_pi E (x)))), some (.int (nI (i))), some (.int (nI (c)))]) (st' := [.int ((nI (b)) + (nI (c))), .ref 1, .int (nI (b + i)), .ref 1]) (w' := cz_w r10 q u bb) rfl ?_
          refine ez_top (y := nI (b + c)) (nI_add _ _) ?_
          refine ez_cl ez_h2 rfl rfl ?_
          refine cr_at hE hr10 (k := b + c) (by omega) q u bb ?_
          refine ez_cl ez_h2 rfl rfl ?_
          refine cr_set hE hr10 (k := b + i) (x := row (b + c)) (by omega) q u bb (fun r11 hr11 => ?_)
          refine ez_go ez_h2 5 (pc' := 130) (L' := [some (.ref 3), some (.int (nI (b))), some (.int (nI (top))), some (.int (nI (m))), some (.int (nI (ze_pi E (x)))), some (.int (nI (c))), some (.int (nI (c)))]) (st' := [.int ((nI (2)) * (nI (c)))]) (w' := cz_w r11 q u bb) rfl ?_
          refine ez_top (y := nI (2 * c)) (pk_mul _ _) ?_
          refine ez_go ez_h2 2 (pc' := 132) (L' := [some (.ref 3), some (.int (nI (b))), some (.int (nI (top))), some (.int (nI (m))), some (.int (nI (ze_pi E (x)))), some (.int (nI (c))), some (.int (nI (c)))]) (st' := [.int ((nI (2 * c)) + (nI (1)))]) (w' := cz_w r11 q u bb) rfl ?_
          refine ez_top (y := nI ((2 * c) + 1)) (nI_add _ _) ?_
          refine ez_go ez_h2 2 (pc' := 23) (L' := [some (.ref 3), some (.int (nI (b))), some (.int (nI (top))), some (.int (nI (m))), some (.int (nI (ze_pi E (x)))), some (.int (nI (c))), some (.int (nI ((2 * c) + 1)))]) (st' := []) (w' := cz_w r11 q u bb) rfl ?_
          exact a5 top _ q u bb post hr11 kk
        · intro A Q U T post hA kk
          refine ez_go ez_h77 3 (pc' := 26) (L' := [some (.ref 0), some (.int (nI (b))), some (.int (nI (top))), some (.int (nI (m))), some (.int (nI (i))), some (.int (nI (x))), none, none]) (st' := [.int ((nI (2)) * (nI (i)))]) (w' := mz_w A Q U T) rfl ?_
          refine ez_top (y := nI (2 * i)) (pk_mul _ _) ?_
          refine ez_go ez_h77 2 (pc' := 28) (L' := [some (.ref 0), some (.int (nI (b))), some (.int (nI (top))), some (.int (nI (m))), some (.int (nI (i))), some (.int (nI (x))), none, none]) (st' := [.int ((nI (2 * i)) + (nI (1)))]) (w' := mz_w A Q U T) rfl ?_
          refine ez_top (y := nI ((2 * i) + 1)) (nI_add _ _) ?_
          refine ez_go ez_h77 2 (pc' := bif decide ((nI (m)) ≤ (nI ((2 * i) + 1))) then 115 else 32) (L' := [some (.ref 0), some (.int (nI (b))), some (.int (nI (top))), some (.int (nI (m))), some (.int (nI (i))), some (.int (nI (x))), none, none]) (st' := []) (w' := mz_w A Q U T) rfl ?_
          refine ez_ifF (zt_nle (a := m) (b := (2 * i) + 1) (by omega) (by omega)) ?_
          refine ez_go ez_h77 3 (pc' := 36) (L' := [some (.ref 0), some (.int (nI (b))), some (.int (nI (top))), some (.int (nI (m))), some (.int (nI (i))), some (.int (nI (x))), none, none]) (st' := [.int ((nI (2)) * (nI (i)))]) (w' := mz_w A Q U T) rfl ?_
          refine ez_top (y := nI (2 * i)) (pk_mul _ _) ?_
          refine ez_go ez_h77 2 (pc' := 38) (L' := [some (.ref 0), some (.int (nI (b))), some (.int (nI (top))), some (.int (nI (m))), some (.int (nI (i))), some (.int (nI (x))), none, none]) (st' := [.int ((nI (2 * i)) + (nI (1)))]) (w' := mz_w A Q U T) rfl ?_
          refine ez_top (y := nI ((2 * i) + 1)) (nI_add _ _) ?_
          refine ez_go ez_h77 1 (pc' := 40) (L' := [some (.ref 0), some (.int (nI (b))), some (.int (nI (top))), some (.int (nI (m))), some (.int (nI (i))), some (.int (nI (x))), none, some (.int (nI ((2 * i) + 1)))]) (st' := []) (w' := mz_w A Q U T) rfl ?_
          refine p6 top _ Q U T post hA (fun A8 hA8 => ?_)
          refine ez_go ez_h77 7 (pc' := 79) (L' := [some (.ref 0), some (.int (nI (b))), some (.int (nI (top))), some (.int (nI (m))), some (.int (nI (i))), some (.int (nI (x))), none, some (.int (nI (c)))]) (st' := [.int ((nI (b)) + (nI (c))), .ref 4, .int (nI (x)), .ref 0]) (w' := mz_w A8 Q U T) rfl ?_
          refine ez_top (y := nI (b + c)) (nI_add _ _) ?_
          refine mr_ld ez_h77 rfl hE hA8 (k := b + c) (by omega) ?_
          refine ez_cl ez_h77 rfl rfl ?_
          refine mr_less hE hA8 p3.2 (x := x) (y := row (b + c)) hx (p3.1 (b + c) (by omega)) Q U T (fun A12 hA12 => ?_)
          refine ez_go ez_h77 3 (pc' := bif decide ((zs_z (zs_b (ze_md E) (ze_ka E) x (row (b + c)) g1)) = 0) then 112 else 90) (L' := [some (.ref 0), some (.int (nI (b))), some (.int (nI (top))), some (.int (nI (m))), some (.int (nI (i))), some (.int (nI (x))), some (.int (zs_z (zs_b (ze_md E) (ze_ka E) x (row (b + c)) g1))), some (.int (nI (c)))]) (st' := []) (w' := mz_w A12 Q U T) rfl ?_
          refine ez_ifF (zz_t hb) ?_
          refine ez_go ez_h77 5 (pc' := 98) (L' := [some (.ref 0), some (.int (nI (b))), some (.int (nI (top))), some (.int (nI (m))), some (.int (nI (i))), some (.int (nI (x))), some (.int (zs_z (zs_b (ze_md E) (ze_ka E) x (row (b + c)) g1))), some (.int (nI (c)))]) (st' := [.int ((nI (b)) + (nI (i))), .ref 4]) (w' := mz_w A12 Q U T) rfl ?_
          refine ez_top (y := nI (b + i)) (nI_add _ _) ?_
          refine ez_go ez_h77 5 (pc' := 106) (L' := [some (.ref 0), some (.int (nI (b))), some (.int (nI (top))), some (.int (nI (m))), some (.int (nI (i))), some (.int (nI (x))), some (.int (zs_z (zs_b (ze_md E) (ze_ka E) x (row (b + c)) g1))), some (.int (nI (c)))]) (st' := [.int ((nI (b)) + (nI (c))), .ref 4, .int (nI (b + i)), .ref 4]) (w' := mz_w A12 Q U T) rfl ?_
          refine ez_top (y := nI (b + c)) (nI_add _ _) ?_
          refine mr_ld ez_h77 rfl hE hA12 (k := b + c) (by omega) ?_
          refine mr_st ez_h77 rfl hE hA12 (k := b + i) (x := row (b + c)) (by omega) (fun A13 hA13 => ?_)
          refine ez_go ez_h77 5 (pc' := bif decide ((zs_z (zs_b (ze_md E) (ze_ka E) x (row (b + c)) g1)) = 0) then 115 else 22) (L' := [some (.ref 0), some (.int (nI (b))), some (.int (nI (top))), some (.int (nI (m))), some (.int (nI (c))), some (.int (nI (x))), some (.int (zs_z (zs_b (ze_md E) (ze_ka E) x (row (b + c)) g1))), some (.int (nI (c)))]) (st' := []) (w' := mz_w A13 Q U T) rfl ?_
          refine ez_ifF (zz_t hb) ?_
          exact ez_E.le (ez_lc (ez_lc (ez_lc (ez_lc (ez_lc (ez_lc (ez_ln (ez_ln ez_l0)))))))) (a6 top _ Q U T post hA13 kk)
    · refine ⟨row, g, i, h2, hw, zg_le.rf g, zp_in.rf _ _ _, fun top => ?_, fun top => ?_⟩
      · intro r q u bb post hr kk
        refine ez_go ez_h2 3 (pc' := bif decide ((nI (m)) ≤ (nI (2 * i + 1))) then 137 else 29) (L' := [some (.ref 3), some (.int (nI (b))), some (.int (nI (top))), some (.int (nI (m))), some (.int (nI (ze_pi E (x)))), some (.int (nI (i))), some (.int (nI (2 * i + 1)))]) (st' := []) (w' := cz_w r q u bb) rfl ?_
        refine ez_ifT (zt_le (a := m) (b := 2 * i + 1) (by omega) (by omega)) ?_
        exact ez_E.le (ez_lc (ez_lc (ez_lc (ez_lc (ez_lc (ez_lc (ez_ln ez_l0))))))) (kk _ hr)
      · intro A Q U T post hA kk
        refine ez_go ez_h77 3 (pc' := 26) (L' := [some (.ref 0), some (.int (nI (b))), some (.int (nI (top))), some (.int (nI (m))), some (.int (nI (i))), some (.int (nI (x))), none, none]) (st' := [.int ((nI (2)) * (nI (i)))]) (w' := mz_w A Q U T) rfl ?_
        refine ez_top (y := nI (2 * i)) (pk_mul _ _) ?_
        refine ez_go ez_h77 2 (pc' := 28) (L' := [some (.ref 0), some (.int (nI (b))), some (.int (nI (top))), some (.int (nI (m))), some (.int (nI (i))), some (.int (nI (x))), none, none]) (st' := [.int ((nI (2 * i)) + (nI (1)))]) (w' := mz_w A Q U T) rfl ?_
        refine ez_top (y := nI ((2 * i) + 1)) (nI_add _ _) ?_
        refine ez_go ez_h77 2 (pc' := bif decide ((nI (m)) ≤ (nI ((2 * i) + 1))) then 115 else 32) (L' := [some (.ref 0), some (.int (nI (b))), some (.int (nI (top))), some (.int (nI (m))), some (.int (nI (i))), some (.int (nI (x))), none, none]) (st' := []) (w' := mz_w A Q U T) rfl ?_
        refine ez_ifT (zt_le (a := m) (b := (2 * i) + 1) (by omega) (by omega)) ?_
        exact kk _ hA
theorem va_up_id {α : Type} (f : Nat → α) (k : Nat) : va_up f k (f k) = f := by
  funext j
  by_cases e : j = k
  · rw [e, va_up_self]
  · rw [va_up_ne _ _ e]
/-- SINK top of m, told from b on -/
theorem zh_sink {E : ze_T} (hE : ze_ok E) {b m top : Nat} (hm : b + m ≤ ze_n E) (ht : top < m) {row : Nat → Nat} {g : zs_G} (hw : zr_ok E row g) :
    ∃ (row' : Nat → Nat) (g' : zs_G), zr_ok E row' g' ∧ zg_le E g g' ∧ zp_in row row' b (b + m) ∧
      cr_M E 2 [.ref 3, .int (nI b), .int (nI top), .int (nI m)] row g none row' g' ∧ mr_M E 77 [.ref 0, .int (nI b), .int (nI top), .int (nI m)] row g none row' g' := by
  have hn := hE.1
  have hx : row (b + top) < ze_n E := hw.1 _ (by omega)
  obtain ⟨row', g', i', a1, a2, a3, a4, a5, a6⟩ := zh_loop hE (b := b) hx hm (m - top) top row g (by omega) ht hw
  rw [va_up_id] at a4
  refine ⟨va_up row' (b + i') (row (b + top)), g', a2.set hx, a3, a4, ?_, ?_⟩
  · refine cr_H.m (L := [some (.ref 3), some (.int (nI (b))), some (.int (nI (top))), some (.int (nI (m))), none, none, none]) (fun r q u bb post hr kk => ?_) rfl rfl rfl
    refine ez_go ez_h2 5 (pc' := 7) (L' := [some (.ref 3), some (.int (nI (b))), some (.int (nI (top))), some (.int (nI (m))), none, none, none]) (st' := [.int ((nI (b)) + (nI (top))), .ref 1]) (w' := cz_w r q u bb) rfl ?_
    refine ez_top (y := nI (b + top)) (nI_add _ _) ?_
    refine ez_cl ez_h2 rfl rfl ?_
    refine cr_at hE hr (k := b + top) (by omega) q u bb ?_
    refine ez_go ez_h2 6 (pc' := 19) (L' := [some (.ref 3), some (.int (nI (b))), some (.int (nI (top))), some (.int (nI (m))), some (.int (nI (ze_pi E (row (b + top))))), some (.int (nI (top))), none]) (st' := [.int ((nI (2)) * (nI (top)))]) (w' := cz_w r q u bb) rfl ?_
    refine ez_top (y := nI (2 * top)) (pk_mul _ _) ?_
    refine ez_go ez_h2 2 (pc' := 21) (L' := [some (.ref 3), some (.int (nI (b))), some (.int (nI (top))), some (.int (nI (m))), some (.int (nI (ze_pi E (row (b + top))))), some (.int (nI (top))), none]) (st' := [.int ((nI (2 * top)) + (nI (1)))]) (w' := cz_w r q u bb) rfl ?_
    refine ez_top (y := nI ((2 * top) + 1)) (nI_add _ _) ?_
    refine ez_go ez_h2 1 (pc' := 23) (L' := [some (.ref 3), some (.int (nI (b))), some (.int (nI (top))), some (.int (nI (m))), some (.int (nI (ze_pi E (row (b + top))))), some (.int (nI (top))), some (.int (nI ((2 * top) + 1)))]) (st' := []) (w' := cz_w r q u bb) rfl ?_
    refine a5 top _ q u bb post hr (fun r8 hr8 => ?_)
    refine ez_go ez_h2 5 (pc' := 145) (L' := [some (.ref 3), some (.int (nI (b))), some (.int (nI (top))), some (.int (nI (m))), some (.int (nI (ze_pi E (row (b + top))))), some (.int (nI (i'))), none]) (st' := [.int ((nI (b)) + (nI (i'))), .ref 1]) (w' := cz_w r8 q u bb) rfl ?_
    refine ez_top (y := nI (b + i')) (nI_add _ _) ?_
    refine ez_go ez_h2 1 (pc' := 147) (L' := [some (.ref 3), some (.int (nI (b))), some (.int (nI (top))), some (.int (nI (m))), some (.int (nI (ze_pi E (row (b + top))))), some (.int (nI (i'))), none]) (st' := [.int (nI (ze_pi E (row (b + top)))), .int (nI (b + i')), .ref 1]) (w' := cz_w r8 q u bb) rfl ?_
    refine ez_cl ez_h2 rfl rfl ?_
    refine cr_set hE hr8 (k := b + i') (x := row (b + top)) (by omega) q u bb (fun r14 hr14 => ?_)
    exact ez_vret rfl ez_h2 rfl rfl (kk _ hr14)
  · refine mr_H.m (L := [some (.ref 0), some (.int (nI (b))), some (.int (nI (top))), some (.int (nI (m))), none, none, none, none]) (fun A Q U T post hA kk => ?_) rfl rfl rfl
    refine ez_go ez_h77 7 (pc' := 11) (L' := [some (.ref 0), some (.int (nI (b))), some (.int (nI (top))), some (.int (nI (m))), some (.int (nI (top))), none, none, none]) (st' := [.int ((nI (b)) + (nI (top))), .ref 4]) (w' := mz_w A Q U T) rfl ?_
    refine ez_top (y := nI (b + top)) (nI_add _ _) ?_
    refine mr_ld ez_h77 rfl hE hA (k := b + top) (by omega) ?_
    refine ez_go ez_h77 5 (pc' := bif decide ((nI (1)) = (nI 0)) then 115 else 22) (L' := [some (.ref 0), some (.int (nI (b))), some (.int (nI (top))), some (.int (nI (m))), some (.int (nI (top))), some (.int (nI (row (b + top)))), some (.int (nI (1))), none]) (st' := []) (w' := mz_w A Q U T) rfl ?_
    refine ez_ifF (zt_ne (by omega) (by omega) (by omega)) ?_
    refine ez_E.le (ez_lc (ez_lc (ez_lc (ez_lc (ez_lc (ez_lc (ez_ln (ez_lc ez_l0)))))))) (a6 top _ Q U T post hA (fun A8 hA8 => ?_))
    refine ez_go ez_h77 5 (pc' := 123) (L' := [some (.ref 0), some (.int (nI (b))), some (.int (nI (top))), some (.int (nI (m))), some (.int (nI (i'))), some (.int (nI (row (b + top)))), none, none]) (st' := [.int ((nI (b)) + (nI (i'))), .ref 4]) (w' := mz_w A8 Q U T) rfl ?_
    refine ez_top (y := nI (b + i')) (nI_add _ _) ?_
    refine ez_go ez_h77 1 (pc' := 125) (L' := [some (.ref 0), some (.int (nI (b))), some (.int (nI (top))), some (.int (nI (m))), some (.int (nI (i'))), some (.int (nI (row (b + top)))), none, none]) (st' := [.int (nI (row (b + top))), .int (nI (b + i')), .ref 4]) (w' := mz_w A8 Q U T) rfl ?_
    refine mr_st ez_h77 rfl hE hA8 (k := b + i') (x := row (b + top)) (by omega) (fun A15 hA15 => ?_)
    exact ez_vret rfl ez_h77 rfl rfl (kk _ hA15)
