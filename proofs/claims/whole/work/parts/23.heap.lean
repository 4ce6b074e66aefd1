/-- one less, which may be -1 -/
def zd_n (t : Nat) : Int32 := nI t - nI 1
theorem zd_s (t : Nat) : zd_n (t + 1) = nI t := nI_pred t
theorem zd_p {t : Nat} (h : 0 < t) : zd_n t = nI (t - 1) := pk_sub (by omega)
theorem zd_0 : zd_n 0 < nI 0 := by decide
theorem zd_dec (a : Nat) : nI a + Int32.ofInt (-1) = zd_n a := by
  show nI a + Int32.ofInt (-1) = nI a - nI 1
  rw [Int32.sub_eq_add_neg]
  rfl
theorem zd_c {t : Nat} (h : t ≤ 1) : zd_n t < nI 1 := by
  rcases (show t = 0 ∨ t = 1 by omega) with rfl | rfl <;> decide
theorem zd_m {t : Nat} (h : t ≤ 1) : zd_n t ≤ nI 0 := by
  rcases (show t = 0 ∨ t = 1 by omega) with rfl | rfl <;> decide
theorem zh_l1 {E : ze_T} (hE : ze_ok E) {b e : Nat} (hb : b ≤ e) (he : e ≤ ze_n E) : ∀ (t : Nat) (row : Nat → Nat) (g : zs_G), t ≤ (e - b) / 2 → zr_ok E row g →
    ∃ (row' : Nat → Nat) (g' : zs_G), zr_ok E row' g' ∧ zg_le E g g' ∧ zp_in row row' b e ∧ cr_G E 1 11 [some (.ref 3), some (.int (nI (b))), some (.int (nI (e))), some (.int (nI (e - b))), some (.int (zd_n t))] row g 30 [some (.ref 3), some (.int (nI (b))), some (.int (nI (e))), some (.int (nI (e - b))), none] row' g' ∧ mr_G E 78 11 [some (.ref 0), some (.int (nI (b))), some (.int (nI (e))), some (.int (nI (e - b))), some (.int (zd_n t))] row g 30 [some (.ref 0), some (.int (nI (b))), some (.int (nI (e))), some (.int (nI (e - b))), none] row' g' := by
  have hn := hE.1
  intro t
  induction t with
  | zero =>
    intro row g h1 hw
    refine ⟨row, g, hw, zg_le.rf g, zp_in.rf _ _ _, ?_, ?_⟩
    · intro r q u bb post hr kk
      refine ez_go ez_h1 2 (pc' := bif decide ((zd_n 0) < (nI 0)) then 30 else 16) (L' := [some (.ref 3), some (.int (nI (b))), some (.int (nI (e))), some (.int (nI (e - b))), some (.int (zd_n 0))]) (st' := []) (w' := cz_w r q u bb) rfl ?_
      refine ez_ifT (zd_0) ?_
      exact ez_E.le (ez_lc (ez_lc (ez_lc (ez_lc (ez_ln ez_l0))))) (kk _ hr)
    · intro A Q U T post hA kk
      refine ez_go ez_h78 2 (pc' := bif decide ((zd_n 0) < (nI 0)) then 30 else 16) (L' := [some (.ref 0), some (.int (nI (b))), some (.int (nI (e))), some (.int (nI (e - b))), some (.int (zd_n 0))]) (st' := []) (w' := mz_w A Q U T) rfl ?_
      refine ez_ifT (zd_0) ?_
      exact ez_E.le (ez_lc (ez_lc (ez_lc (ez_lc (ez_ln ez_l0))))) (kk _ hA)
  | succ t ih =>
    intro row g h1 hw
    obtain ⟨row1, g1, a1, a2, a3, a4, a5⟩ := zh_sink hE (b := b) (m := e - b) (top := t) (by omega) (by omega) hw
    have hp1 : zp_in row row1 b e := a3.wide (Nat.le_refl _) (by omega)
    obtain ⟨row', g', b1, b2, b3, b4, b5⟩ := ih row1 g1 (by omega) a1
    rw [zd_s]
    refine ⟨row', g', b1, a2.tr b2, hp1.tr b3, ?_, ?_⟩
    · intro r q u bb post hr kk
      refine ez_go ez_h1 2 (pc' := bif decide ((nI (t)) < (nI 0)) then 30 else 16) (L' := [some (.ref 3), some (.int (nI (b))), some (.int (nI (e))), some (.int (nI (e - b))), some (.int (nI (t)))]) (st' := []) (w' := cz_w r q u bb) rfl ?_
      refine ez_ifF (zt_nlt (a := t) (b := 0) (by omega) (by omega)) ?_
      refine ez_go ez_h1 4 (pc' := 21) (L' := [some (.ref 3), some (.int (nI (b))), some (.int (nI (e))), some (.int (nI (e - b))), some (.int (nI (t)))]) (st' := [.int (nI (e - b)), .int (nI (t)), .int (nI (b)), .ref 3]) (w' := cz_w r q u bb) rfl ?_
      refine ez_cl ez_h1 rfl rfl ?_
      refine a4 _ q u bb _ hr (fun r9 hr9 => ?_)
      refine ez_inc ez_h1 rfl rfl (v := zd_n t) (zd_dec _) rfl ?_
      refine ez_go ez_h1 1 (pc' := 11) (L' := [some (.ref 3), some (.int (nI (b))), some (.int (nI (e))), some (.int (nI (e - b))), some (.int (zd_n t))]) (st' := []) (w' := cz_w r9 q u bb) rfl ?_
      exact b4 _ q u bb post hr9 kk
    · intro A Q U T post hA kk
      refine ez_go ez_h78 2 (pc' := bif decide ((nI (t)) < (nI 0)) then 30 else 16) (L' := [some (.ref 0), some (.int (nI (b))), some (.int (nI (e))), some (.int (nI (e - b))), some (.int (nI (t)))]) (st' := []) (w' := mz_w A Q U T) rfl ?_
      refine ez_ifF (zt_nlt (a := t) (b := 0) (by omega) (by omega)) ?_
      refine ez_go ez_h78 4 (pc' := 21) (L' := [some (.ref 0), some (.int (nI (b))), some (.int (nI (e))), some (.int (nI (e - b))), some (.int (nI (t)))]) (st' := [.int (nI (e - b)), .int (nI (t)), .int (nI (b)), .ref 0]) (w' := mz_w A Q U T) rfl ?_
      refine ez_cl ez_h78 rfl rfl ?_
      refine a5 _ Q U T _ hA (fun A9 hA9 => ?_)
      refine ez_inc ez_h78 rfl rfl (v := zd_n t) (zd_dec _) rfl ?_
      refine ez_go ez_h78 1 (pc' := 11) (L' := [some (.ref 0), some (.int (nI (b))), some (.int (nI (e))), some (.int (nI (e - b))), some (.int (zd_n t))]) (st' := []) (w' := mz_w A9 Q U T) rfl ?_
      exact b5 _ Q U T post hA9 kk
theorem zh_l2 {E : ze_T} (hE : ze_ok E) {b e : Nat} (hb : b ≤ e) (he : e ≤ ze_n E) : ∀ (t : Nat) (row : Nat → Nat) (g : zs_G), t ≤ e - b → zr_ok E row g →
    ∃ (row' : Nat → Nat) (g' : zs_G), zr_ok E row' g' ∧ zg_le E g g' ∧ zp_in row row' b e ∧ cr_H E 1 35 [some (.ref 3), some (.int (nI (b))), some (.int (nI (e))), some (.int (nI (e - b))), some (.int (zd_n t))] row g none row' g' ∧ mr_H E 78 35 [some (.ref 0), some (.int (nI (b))), some (.int (nI (e))), some (.int (nI (e - b))), some (.int (zd_n t))] row g none row' g' := by
  have hn := hE.1
  intro t
  induction t with
  | zero =>
    intro row g h1 hw
    refine ⟨row, g, hw, zg_le.rf g, zp_in.rf _ _ _, ?_, ?_⟩
    · intro r q u bb post hr kk
      refine ez_go ez_h1 3 (pc' := bif decide ((zd_n 0) < (nI (1))) then 67 else 41) (L' := [some (.ref 3), some (.int (nI (b))), some (.int (nI (e))), some (.int (nI (e - b))), some (.int (zd_n 0))]) (st' := []) (w' := cz_w r q u bb) rfl ?_
      refine ez_ifT (zd_c (by omega)) ?_
      exact ez_vret rfl ez_h1 rfl rfl (kk _ hr)
    · intro A Q U T post hA kk
      refine ez_go ez_h78 2 (pc' := bif decide ((zd_n 0) ≤ (nI 0)) then 63 else 40) (L' := [some (.ref 0), some (.int (nI (b))), some (.int (nI (e))), some (.int (nI (e - b))), some (.int (zd_n 0))]) (st' := []) (w' := mz_w A Q U T) rfl ?_
      refine ez_ifT (zd_m (by omega)) ?_
      exact ez_vret rfl ez_h78 rfl rfl (kk _ hA)
  | succ t ih =>
    intro row g h1 hw
    by_cases ht : t = 0
    · refine ⟨row, g, hw, zg_le.rf g, zp_in.rf _ _ _, ?_, ?_⟩
      · intro r q u bb post hr kk
        refine ez_go ez_h1 3 (pc' := bif decide ((zd_n (t + 1)) < (nI (1))) then 67 else 41) (L' := [some (.ref 3), some (.int (nI (b))), some (.int (nI (e))), some (.int (nI (e - b))), some (.int (zd_n (t + 1)))]) (st' := []) (w' := cz_w r q u bb) rfl ?_
        refine ez_ifT (zd_c (by omega)) ?_
        exact ez_vret rfl ez_h1 rfl rfl (kk _ hr)
      · intro A Q U T post hA kk
        refine ez_go ez_h78 2 (pc' := bif decide ((zd_n (t + 1)) ≤ (nI 0)) then 63 else 40) (L' := [some (.ref 0), some (.int (nI (b))), some (.int (nI (e))), some (.int (nI (e - b))), some (.int (zd_n (t + 1)))]) (st' := []) (w' := mz_w A Q U T) rfl ?_
        refine ez_ifT (zd_m (by omega)) ?_
        exact ez_vret rfl ez_h78 rfl rfl (kk _ hA)
    · have hw0 : zr_ok E (zs_sw row b (b + t)) g := hw.sw (by omega) (by omega)
      obtain ⟨row1, g1, a1, a2, a3, a4, a5⟩ := zh_sink hE (b := b) (m := t) (top := 0) (by omega) (by omega) hw0
      have hp0 : zp_in row (zs_sw row b (b + t)) b e := zp_in.sw row (by omega) (by omega)
      have hp1 : zp_in row row1 b e := hp0.tr (a3.wide (Nat.le_refl _) (by omega))
      obtain ⟨row', g', b1, b2, b3, b4, b5⟩ := ih row1 g1 (by omega) a1
      rw [zd_s]
      refine ⟨row', g', b1, a2.tr b2, hp1.tr b3, ?_, ?_⟩
      · intro r q u bb post hr kk
        refine ez_go ez_h1 3 (pc' := bif decide ((nI (t)) < (nI (1))) then 67 else 41) (L' := [some (.ref 3), some (.int (nI (b))), some (.int (nI (e))), some (.int (nI (e - b))), some (.int (nI (t)))]) (st' := []) (w' := cz_w r q u bb) rfl ?_
        refine ez_ifF (zt_nlt (a := t) (b := 1) (by omega) (by omega)) ?_
        refine ez_go ez_h1 6 (pc' := 50) (L' := [some (.ref 3), some (.int (nI (b))), some (.int (nI (e))), some (.int (nI (e - b))), some (.int (nI (t)))]) (st' := [.int ((nI (b)) + (nI (t))), .int (nI (b)), .ref 1]) (w' := cz_w r q u bb) rfl ?_
        refine ez_top (y := nI (b + t)) (nI_add _ _) ?_
        refine ez_cl ez_h1 rfl rfl ?_
        refine cr_swap hE hr (i := b) (j := b + t) (by omega) (by omega) q u bb (fun r4 hr4 => ?_)
        refine ez_go ez_h1 4 (pc' := 58) (L' := [some (.ref 3), some (.int (nI (b))), some (.int (nI (e))), some (.int (nI (e - b))), some (.int (nI (t)))]) (st' := [.int (nI (t)), .int (nI (0)), .int (nI (b)), .ref 3]) (w' := cz_w r4 q u bb) rfl ?_
        refine ez_cl ez_h1 rfl rfl ?_
        refine a4 _ q u bb _ hr4 (fun r9 hr9 => ?_)
        refine ez_inc ez_h1 rfl rfl (v := zd_n t) (zd_dec _) rfl ?_
        refine ez_go ez_h1 1 (pc' := 35) (L' := [some (.ref 3), some (.int (nI (b))), some (.int (nI (e))), some (.int (nI (e - b))), some (.int (zd_n t))]) (st' := []) (w' := cz_w r9 q u bb) rfl ?_
        exact b4 _ q u bb post hr9 kk
      · intro A Q U T post hA kk
        refine ez_go ez_h78 2 (pc' := bif decide ((nI (t)) ≤ (nI 0)) then 63 else 40) (L' := [some (.ref 0), some (.int (nI (b))), some (.int (nI (e))), some (.int (nI (e - b))), some (.int (nI (t)))]) (st' := []) (w' := mz_w A Q U T) rfl ?_
        refine ez_ifF (zt_nle (a := t) (b := 0) (by omega) (by omega)) ?_
        refine ez_go ez_h78 5 (pc' := 46) (L' := [some (.ref 0), some (.int (nI (b))), some (.int (nI (e))), some (.int (nI (e - b))), some (.int (nI (t)))]) (st' := [.int ((nI (b)) + (nI (t))), .int (nI (b)), .ref 0]) (w' := mz_w A Q U T) rfl ?_
        refine ez_top (y := nI (b + t)) (nI_add _ _) ?_
        refine ez_cl ez_h78 rfl rfl ?_
        refine mr_swap hE hA (i := b) (j := b + t) (by omega) (by omega) Q U T (fun A5 hA5 => ?_)
        refine ez_go ez_h78 4 (pc' := 54) (L' := [some (.ref 0), some (.int (nI (b))), some (.int (nI (e))), some (.int (nI (e - b))), some (.int (nI (t)))]) (st' := [.int (nI (t)), .int (nI (0)), .int (nI (b)), .ref 0]) (w' := mz_w A5 Q U T) rfl ?_
        refine ez_cl ez_h78 rfl rfl ?_
        refine a5 _ Q U T _ hA5 (fun A9 hA9 => ?_)
        refine ez_inc ez_h78 rfl rfl (v := zd_n t) (zd_dec _) rfl ?_
        refine ez_go ez_h78 1 (pc' := 35) (L' := [some (.ref 0), some (.int (nI (b))), some (.int (nI (e))), some (.int (nI (e - b))), some (.int (zd_n t))]) (st' := []) (w' := mz_w A9 Q U T) rfl ?_
        exact b5 _ Q U T post hA9 kk
/-- HEAP in b .. e -/
theorem zh_heap {E : ze_T} (hE : ze_ok E) {b e : Nat} (hb : b ≤ e) (he : e ≤ ze_n E) {row : Nat → Nat} {g : zs_G} (hw : zr_ok E row g) :
    ∃ (row' : Nat → Nat) (g' : zs_G), zr_ok E row' g' ∧ zg_le E g g' ∧ zp_in row row' b e ∧
      cr_M E 1 [.ref 3, .int (nI b), .int (nI e)] row g none row' g' ∧ mr_M E 78 [.ref 0, .int (nI b), .int (nI e)] row g none row' g' := by
  have hn := hE.1
  obtain ⟨row1, g1, a1, a2, a3, a4, a5⟩ := zh_l1 hE hb he ((e - b) / 2) row g (Nat.le_refl _) hw
  obtain ⟨row', g', b1, b2, b3, b4, b5⟩ := zh_l2 hE hb he (e - b) row1 g1 (Nat.le_refl _) a1
  refine ⟨row', g', b1, a2.tr b2, a3.tr b3, ?_, ?_⟩
  · refine cr_H.m (L := [some (.ref 3), some (.int (nI (b))), some (.int (nI (e))), none, none]) (fun r q u bb post hr kk => ?_) rfl rfl rfl
    refine ez_go ez_h1 3 (pc' := 3) (L' := [some (.ref 3), some (.int (nI (b))), some (.int (nI (e))), none, none]) (st' := [.int ((nI (e)) - (nI (b)))]) (w' := cz_w r q u bb) rfl ?_
    refine ez_top (y := nI (e - b)) (pk_sub (by omega)) ?_
    refine ez_go ez_h1 4 (pc' := 7) (L' := [some (.ref 3), some (.int (nI (b))), some (.int (nI (e))), some (.int (nI (e - b))), none]) (st' := [.int ((nI (e - b)) / (nI (2)))]) (w' := cz_w r q u bb) rfl ?_
    refine ez_top (y := nI ((e - b) / 2)) (pk_div (by omega) (by omega) (by omega)) ?_
    refine ez_go ez_h1 3 (pc' := 11) (L' := [some (.ref 3), some (.int (nI (b))), some (.int (nI (e))), some (.int (nI (e - b))), some (.int (zd_n (((e - b) / 2))))]) (st' := []) (w' := cz_w r q u bb) rfl ?_
    refine a4 _ q u bb post hr (fun r8 hr8 => ?_)
    refine ez_go ez_h1 4 (pc' := 35) (L' := [some (.ref 3), some (.int (nI (b))), some (.int (nI (e))), some (.int (nI (e - b))), some (.int (zd_n ((e - b))))]) (st' := []) (w' := cz_w r8 q u bb) rfl ?_
    exact b4 _ q u bb post hr8 kk
  · refine mr_H.m (L := [some (.ref 0), some (.int (nI (b))), some (.int (nI (e))), none, none]) (fun A Q U T post hA kk => ?_) rfl rfl rfl
    refine ez_go ez_h78 3 (pc' := 3) (L' := [some (.ref 0), some (.int (nI (b))), some (.int (nI (e))), none, none]) (st' := [.int ((nI (e)) - (nI (b)))]) (w' := mz_w A Q U T) rfl ?_
    refine ez_top (y := nI (e - b)) (pk_sub (by omega)) ?_
    refine ez_go ez_h78 4 (pc' := 7) (L' := [some (.ref 0), some (.int (nI (b))), some (.int (nI (e))), some (.int (nI (e - b))), none]) (st' := [.int ((nI (e - b)) / (nI (2)))]) (w' := mz_w A Q U T) rfl ?_
    refine ez_top (y := nI ((e - b) / 2)) (pk_div (by omega) (by omega) (by omega)) ?_
    refine ez_go ez_h78 3 (pc' := 11) (L' := [some (.ref 0), some (.int (nI (b))), some (.int (nI (e))), some (.int (nI (e - b))), some (.int (zd_n (((e - b) / 2))))]) (st' := []) (w' := mz_w A Q U T) rfl ?_
    refine a5 _ Q U T post hA (fun A8 hA8 => ?_)
    refine ez_go ez_h78 4 (pc' := 35) (L' := [some (.ref 0), some (.int (nI (b))), some (.int (nI (e))), some (.int (nI (e - b))), some (.int (zd_n ((e - b))))]) (st' := []) (w' := mz_w A8 Q U T) rfl ?_
    exact b5 _ Q U T post hA8 kk
