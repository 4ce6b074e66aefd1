/-! ===== PATTERNS are broken: swaps alone ===== -/
def zb_1 (row : Nat → Nat) (b e : Nat) : Nat → Nat := if 24 ≤ e - b then zs_sw (zs_sw row b (b + (e - b) / 4)) (e - 1) (e - (e - b) / 4) else row
def zb_2 (row : Nat → Nat) (b e : Nat) : Nat → Nat := if 128 < e - b then zs_sw (zs_sw (zs_sw (zs_sw row (b + 1) (b + 1 + (e - b) / 4)) (b + 2) (b + 2 + (e - b) / 4)) (e - 2) (e - 1 - (e - b) / 4)) (e - 3) (e - 2 - (e - b) / 4) else row
def zb_r (row : Nat → Nat) (b e : Nat) : Nat → Nat := zb_2 (zb_1 row b e) b e
theorem zb_1.in (row : Nat → Nat) (b e : Nat) : zp_in row (zb_1 row b e) b e := by
  unfold zb_1
  by_cases h : 24 ≤ e - b
  · rw [if_pos h]; exact (zp_in.sw row (by omega) (by omega)).tr (zp_in.sw _ (by omega) (by omega))
  · rw [if_neg h]; exact zp_in.rf _ _ _
theorem zb_2.in (row : Nat → Nat) (b e : Nat) : zp_in row (zb_2 row b e) b e := by
  unfold zb_2
  by_cases h : 128 < e - b
  · rw [if_pos h]; exact (((zp_in.sw row (by omega) (by omega)).tr (zp_in.sw _ (by omega) (by omega))).tr (zp_in.sw _ (by omega) (by omega))).tr (zp_in.sw _ (by omega) (by omega))
  · rw [if_neg h]; exact zp_in.rf _ _ _
theorem zb_r.in (row : Nat → Nat) (b e : Nat) : zp_in row (zb_r row b e) b e := (zb_1.in row b e).tr (zb_2.in _ b e)
theorem zr_ok.pin {E : ze_T} {row row' : Nat → Nat} {g : zs_G} {b e : Nat} (h : zr_ok E row g) (he : e ≤ ze_n E) (hp : zp_in row row' b e) : zr_ok E row' g := ⟨fun k hk => by
  by_cases c : b ≤ k ∧ k < e
  · obtain ⟨j, j1, j2, j3⟩ := hp.1 k c.1 c.2
    rw [j3]; exact h.1 j (by omega)
  · rw [hp.2 k (by omega)]; exact h.1 k hk, h.2⟩
theorem zb_class {E : ze_T} (hE : ze_ok E) {b e : Nat} (hb : b ≤ e) (he : e ≤ ze_n E) {row : Nat → Nat} {g : zs_G} (hw : zr_ok E row g) : cr_M E 25 [.ref 4, .int (nI b), .int (nI e)] row g none (zb_r row b e) g := by
  have hn := hE.1
  by_cases h1 : e - b < 24
  · have e9 : zb_r row b e = row := by unfold zb_r zb_1 zb_2; rw [if_neg (by omega), if_neg (by omega)]
    rw [e9]
    refine cr_H.m (L := [some (.ref 4), some (.int (nI (b))), some (.int (nI (e))), none, none]) (fun r q u bb post hr kk => ?_) rfl rfl rfl
    refine ez_go ez_h25 3 (pc' := 3) (L' := [some (.ref 4), some (.int (nI (b))), some (.int (nI (e))), none, none]) (st' := [.int ((nI (e)) - (nI (b)))]) (w' := cz_w r q u bb) rfl ?_
    refine ez_top (y := nI (e - b)) (pk_sub (by omega)) ?_
    refine ez_go ez_h25 4 (pc' := 7) (L' := [some (.ref 4), some (.int (nI (b))), some (.int (nI (e))), some (.int (nI (e - b))), none]) (st' := [.int ((nI (e - b)) / (nI (4)))]) (w' := cz_w r q u bb) rfl ?_
    refine ez_top (y := nI ((e - b) / 4)) (pk_div (by omega) (by omega) (by omega)) ?_
    refine ez_go ez_h25 4 (pc' := bif decide ((nI (e - b)) < (nI (24))) then 41 else 15) (L' := [some (.ref 4), some (.int (nI (b))), some (.int (nI (e))), some (.int (nI (e - b))), some (.int (nI ((e - b) / 4)))]) (st' := []) (w' := cz_w r q u bb) rfl ?_
    refine ez_ifT (zt_lt (a := e - b) (b := 24) (by omega) (by omega)) ?_
    refine ez_go ez_h25 3 (pc' := bif decide ((nI (e - b)) ≤ (nI (128))) then 112 else 48) (L' := [some (.ref 4), some (.int (nI (b))), some (.int (nI (e))), some (.int (nI (e - b))), some (.int (nI ((e - b) / 4)))]) (st' := []) (w' := cz_w r q u bb) rfl ?_
    refine ez_ifT (zt_le (a := e - b) (b := 128) (by omega) (by omega)) ?_
    exact ez_vret rfl ez_h25 rfl rfl (kk _ hr)
  by_cases h2 : e - b ≤ 128
  · have e9 : zb_r row b e = zb_1 row b e := by unfold zb_r zb_2; rw [if_neg (by omega)]
    unfold zb_1 at e9
    rw [if_pos (by omega)] at e9
    rw [e9]
    refine cr_H.m (L := [some (.ref 4), some (.int (nI (b))), some (.int (nI (e))), none, none]) (fun r q u bb post hr kk => ?_) rfl rfl rfl
    refine ez_go ez_h25 3 (pc' := 3) (L' := [some (.ref 4), some (.int (nI (b))), some (.int (nI (e))), none, none]) (st' := [.int ((nI (e)) - (nI (b)))]) (w' := cz_w r q u bb) rfl ?_
    refine ez_top (y := nI (e - b)) (pk_sub (by omega)) ?_
    refine ez_go ez_h25 4 (pc' := 7) (L' := [some (.ref 4), some (.int (nI (b))), some (.int (nI (e))), some (.int (nI (e - b))), none]) (st' := [.int ((nI (e - b)) / (nI (4)))]) (w' := cz_w r q u bb) rfl ?_
    refine ez_top (y := nI ((e - b) / 4)) (pk_div (by omega) (by omega) (by omega)) ?_
    refine ez_go ez_h25 4 (pc' := bif decide ((nI (e - b)) < (nI (24))) then 41 else 15) (L' := [some (.ref 4), some (.int (nI (b))), some (.int (nI (e))), some (.int (nI (e - b))), some (.int (nI ((e - b) / 4)))]) (st' := []) (w' := cz_w r q u bb) rfl ?_
    refine ez_ifF (zt_nlt (a := e - b) (b := 24) (by omega) (by omega)) ?_
    refine ez_go ez_h25 6 (pc' := 24) (L' := [some (.ref 4), some (.int (nI (b))), some (.int (nI (e))), some (.int (nI (e - b))), some (.int (nI ((e - b) / 4)))]) (st' := [.int ((nI (b)) + (nI ((e - b) / 4))), .int (nI (b)), .ref 1]) (w' := cz_w r q u bb) rfl ?_
    refine ez_top (y := nI (b + ((e - b) / 4))) (nI_add _ _) ?_
    refine ez_cl ez_h25 rfl rfl ?_
    refine cr_swap hE hr (i := b) (j := b + ((e - b) / 4)) (by omega) (by omega) q u bb (fun r64 hr64 => ?_)
    refine ez_go ez_h25 5 (pc' := 34) (L' := [some (.ref 4), some (.int (nI (b))), some (.int (nI (e))), some (.int (nI (e - b))), some (.int (nI ((e - b) / 4)))]) (st' := [.int ((nI (e)) - (nI (1))), .ref 1]) (w' := cz_w r64 q u bb) rfl ?_
    refine ez_top (y := nI (e - 1)) (pk_sub (by omega)) ?_
    refine ez_go ez_h25 3 (pc' := 38) (L' := [some (.ref 4), some (.int (nI (b))), some (.int (nI (e))), some (.int (nI (e - b))), some (.int (nI ((e - b) / 4)))]) (st' := [.int ((nI (e)) - (nI ((e - b) / 4))), .int (nI (e - 1)), .ref 1]) (w' := cz_w r64 q u bb) rfl ?_
    refine ez_top (y := nI (e - ((e - b) / 4))) (pk_sub (by omega)) ?_
    refine ez_cl ez_h25 rfl rfl ?_
    refine cr_swap hE hr64 (i := e - 1) (j := e - ((e - b) / 4)) (by omega) (by omega) q u bb (fun r65 hr65 => ?_)
    refine ez_go ez_h25 3 (pc' := bif decide ((nI (e - b)) ≤ (nI (128))) then 112 else 48) (L' := [some (.ref 4), some (.int (nI (b))), some (.int (nI (e))), some (.int (nI (e - b))), some (.int (nI ((e - b) / 4)))]) (st' := []) (w' := cz_w r65 q u bb) rfl ?_
    refine ez_ifT (zt_le (a := e - b) (b := 128) (by omega) (by omega)) ?_
    exact ez_vret rfl ez_h25 rfl rfl (kk _ hr65)
  · have e9 : zb_r row b e = zb_r row b e := rfl
    conv at e9 => rhs; unfold zb_r zb_1 zb_2; rw [if_pos (by omega), if_pos (by omega)]
    rw [e9]
    refine cr_H.m (L := [some (.ref 4), some (.int (nI (b))), some (.int (nI (e))), none, none]) (fun r q u bb post hr kk => ?_) rfl rfl rfl
    refine ez_go ez_h25 3 (pc' := 3) (L' := [some (.ref 4), some (.int (nI (b))), some (.int (nI (e))), none, none]) (st' := [.int ((nI (e)) - (nI (b)))]) (w' := cz_w r q u bb) rfl ?_
    refine ez_top (y := nI (e - b)) (pk_sub (by omega)) ?_
    refine ez_go ez_h25 4 (pc' := 7) (L' := [some (.ref 4), some (.int (nI (b))), some (.int (nI (e))), some (.int (nI (e - b))), none]) (st' := [.int ((nI (e - b)) / (nI (4)))]) (w' := cz_w r q u bb) rfl ?_
    refine ez_top (y := nI ((e - b) / 4)) (pk_div (by omega) (by omega) (by omega)) ?_
    refine ez_go ez_h25 4 (pc' := bif decide ((nI (e - b)) < (nI (24))) then 41 else 15) (L' := [some (.ref 4), some (.int (nI (b))), some (.int (nI (e))), some (.int (nI (e - b))), some (.int (nI ((e - b) / 4)))]) (st' := []) (w' := cz_w r q u bb) rfl ?_
    refine ez_ifF (zt_nlt (a := e - b) (b := 24) (by omega) (by omega)) ?_
    refine ez_go ez_h25 6 (pc' := 24) (L' := [some (.ref 4), some (.int (nI (b))), some (.int (nI (e))), some (.int (nI (e - b))), some (.int (nI ((e - b) / 4)))]) (st' := [.int ((nI (b)) + (nI ((e - b) / 4))), .int (nI (b)), .ref 1]) (w' := cz_w r q u bb) rfl ?_
    refine ez_top (y := nI (b + ((e - b) / 4))) (nI_add _ _) ?_
    refine ez_cl ez_h25 rfl rfl ?_
    refine cr_swap hE hr (i := b) (j := b + ((e - b) / 4)) (by omega) (by omega) q u bb (fun r66 hr66 => ?_)
    refine ez_go ez_h25 5 (pc' := 34) (L' := [some (.ref 4), some (.int (nI (b))), some (.int (nI (e))), some (.int (nI (e - b))), some (.int (nI ((e - b) / 4)))]) (st' := [.int ((nI (e)) - (nI (1))), .ref 1]) (w' := cz_w r66 q u bb) rfl ?_
    refine ez_top (y := nI (e - 1)) (pk_sub (by omega)) ?_
    refine ez_go ez_h25 3 (pc' := 38) (L' := [some (.ref 4), some (.int (nI (b))), some (.int (nI (e))), some (.int (nI (e - b))), some (.int (nI ((e - b) / 4)))]) (st' := [.int ((nI (e)) - (nI ((e - b) / 4))), .int (nI (e - 1)), .ref 1]) (w' := cz_w r66 q u bb) rfl ?_
    refine ez_top (y := nI (e - ((e - b) / 4))) (pk_sub (by omega)) ?_
    refine ez_cl ez_h25 rfl rfl ?_
    refine cr_swap hE hr66 (i := e - 1) (j := e - ((e - b) / 4)) (by omega) (by omega) q u bb (fun r67 hr67 => ?_)
    refine ez_go ez_h25 3 (pc' := bif decide ((nI (e - b)) ≤ (nI (128))) then 112 else 48) (L' := [some (.ref 4), some (.int (nI (b))), some (.int (nI (e))), some (.int (nI (e - b))), some (.int (nI ((e - b) / 4)))]) (st' := []) (w' := cz_w r67 q u bb) rfl ?_
    refine ez_ifF (zt_nle (a := e - b) (b := 128) (by omega) (by omega)) ?_
    refine ez_go ez_h25 5 (pc' := 55) (L' := [some (.ref 4), some (.int (nI (b))), some (.int (nI (e))), some (.int (nI (e - b))), some (.int (nI ((e - b) / 4)))]) (st' := [.int ((nI (b)) + (nI (1))), .ref 1]) (w' := cz_w r67 q u bb) rfl ?_
    refine ez_top (y := nI (b + 1)) (nI_add _ _) ?_
    refine ez_go ez_h25 3 (pc' := 58) (L' := [some (.ref 4), some (.int (nI (b))), some (.int (nI (e))), some (.int (nI (e - b))), some (.int (nI ((e - b) / 4)))]) (st' := [.int ((nI (b)) + (nI (1))), .int (nI (b + 1)), .ref 1]) (w' := cz_w r67 q u bb) rfl ?_
    refine ez_top (y := nI (b + 1)) (nI_add _ _) ?_
    refine ez_go ez_h25 2 (pc' := 61) (L' := [some (.ref 4), some (.int (nI (b))), some (.int (nI (e))), some (.int (nI (e - b))), some (.int (nI ((e - b) / 4)))]) (st' := [.int ((nI (b + 1)) + (nI ((e - b) / 4))), .int (nI (b + 1)), .ref 1]) (w' := cz_w r67 q u bb) rfl ?_
    refine ez_top (y := nI ((b + 1) + ((e - b) / 4))) (nI_add _ _) ?_
    refine ez_cl ez_h25 rfl rfl ?_
    refine cr_swap hE hr67 (i := b + 1) (j := (b + 1) + ((e - b) / 4)) (by omega) (by omega) q u bb (fun r68 hr68 => ?_)
    refine ez_go ez_h25 5 (pc' := 71) (L' := [some (.ref 4), some (.int (nI (b))), some (.int (nI (e))), some (.int (nI (e - b))), some (.int (nI ((e - b) / 4)))]) (st' := [.int ((nI (b)) + (nI (2))), .ref 1]) (w' := cz_w r68 q u bb) rfl ?_
    refine ez_top (y := nI (b + 2)) (nI_add _ _) ?_
    refine ez_go ez_h25 3 (pc' := 74) (L' := [some (.ref 4), some (.int (nI (b))), some (.int (nI (e))), some (.int (nI (e - b))), some (.int (nI ((e - b) / 4)))]) (st' := [.int ((nI (b)) + (nI (2))), .int (nI (b + 2)), .ref 1]) (w' := cz_w r68 q u bb) rfl ?_
    refine ez_top (y := nI (b + 2)) (nI_add _ _) ?_
    refine ez_go ez_h25 2 (pc' := 77) (L' := [some (.ref 4), some (.int (nI (b))), some (.int (nI (e))), some (.int (nI (e - b))), some (.int (nI ((e - b) / 4)))]) (st' := [.int ((nI (b + 2)) + (nI ((e - b) / 4))), .int (nI (b + 2)), .ref 1]) (w' := cz_w r68 q u bb) rfl ?_
    refine ez_top (y := nI ((b + 2) + ((e - b) / 4))) (nI_add _ _) ?_
    refine ez_cl ez_h25 rfl rfl ?_
    refine cr_swap hE hr68 (i := b + 2) (j := (b + 2) + ((e - b) / 4)) (by omega) (by omega) q u bb (fun r69 hr69 => ?_)
    refine ez_go ez_h25 5 (pc' := 87) (L' := [some (.ref 4), some (.int (nI (b))), some (.int (nI (e))), some (.int (nI (e - b))), some (.int (nI ((e - b) / 4)))]) (st' := [.int ((nI (e)) - (nI (2))), .ref 1]) (w' := cz_w r69 q u bb) rfl ?_
    refine ez_top (y := nI (e - 2)) (pk_sub (by omega)) ?_
    refine ez_go ez_h25 3 (pc' := 90) (L' := [some (.ref 4), some (.int (nI (b))), some (.int (nI (e))), some (.int (nI (e - b))), some (.int (nI ((e - b) / 4)))]) (st' := [.int ((nI (e)) - (nI (1))), .int (nI (e - 2)), .ref 1]) (w' := cz_w r69 q u bb) rfl ?_
    refine ez_top (y := nI (e - 1)) (pk_sub (by omega)) ?_
    refine ez_go ez_h25 2 (pc' := 93) (L' := [some (.ref 4), some (.int (nI (b))), some (.int (nI (e))), some (.int (nI (e - b))), some (.int (nI ((e - b) / 4)))]) (st' := [.int ((nI (e - 1)) - (nI ((e - b) / 4))), .int (nI (e - 2)), .ref 1]) (w' := cz_w r69 q u bb) rfl ?_
    refine ez_top (y := nI ((e - 1) - ((e - b) / 4))) (pk_sub (by omega)) ?_
    refine ez_cl ez_h25 rfl rfl ?_
    refine cr_swap hE hr69 (i := e - 2) (j := (e - 1) - ((e - b) / 4)) (by omega) (by omega) q u bb (fun r70 hr70 => ?_)
    refine ez_go ez_h25 5 (pc' := 103) (L' := [some (.ref 4), some (.int (nI (b))), some (.int (nI (e))), some (.int (nI (e - b))), some (.int (nI ((e - b) / 4)))]) (st' := [.int ((nI (e)) - (nI (3))), .ref 1]) (w' := cz_w r70 q u bb) rfl ?_
    refine ez_top (y := nI (e - 3)) (pk_sub (by omega)) ?_
    refine ez_go ez_h25 3 (pc' := 106) (L' := [some (.ref 4), some (.int (nI (b))), some (.int (nI (e))), some (.int (nI (e - b))), some (.int (nI ((e - b) / 4)))]) (st' := [.int ((nI (e)) - (nI (2))), .int (nI (e - 3)), .ref 1]) (w' := cz_w r70 q u bb) rfl ?_
    refine ez_top (y := nI (e - 2)) (pk_sub (by omega)) ?_
    refine ez_go ez_h25 2 (pc' := 109) (L' := [some (.ref 4), some (.int (nI (b))), some (.int (nI (e))), some (.int (nI (e - b))), some (.int (nI ((e - b) / 4)))]) (st' := [.int ((nI (e - 2)) - (nI ((e - b) / 4))), .int (nI (e - 3)), .ref 1]) (w' := cz_w r70 q u bb) rfl ?_
    refine ez_top (y := nI ((e - 2) - ((e - b) / 4))) (pk_sub (by omega)) ?_
    refine ez_cl ez_h25 rfl rfl ?_
    refine cr_swap hE hr70 (i := e - 3) (j := (e - 2) - ((e - b) / 4)) (by omega) (by omega) q u bb (fun r71 hr71 => ?_)
    exact ez_vret rfl ez_h25 rfl rfl (kk _ hr71)
theorem zb_ref0 {E : ze_T} (hE : ze_ok E) {b m e : Nat} (hb : b ≤ m) (hm : m + 1 ≤ e) (he : e ≤ ze_n E) {row : Nat → Nat} {g : zs_G} (hw : zr_ok E row g) : mr_G E 83 18 [some (.ref 0), some (.int (nI (b))), some (.int (nI (m))), some (.int (nI (e))), some (.int (nI (m - b))), some (.int (nI (e - (m + 1)))), some (.int (nI ((m - b) / 4)))] row g 105 [some (.ref 0), some (.int (nI (b))), some (.int (nI (m))), some (.int (nI (e))), some (.int (nI (m - b))), some (.int (nI (e - (m + 1)))), some (.int (nI ((m - b) / 4)))] (zb_r row b m) g := by
  have hn := hE.1
  by_cases h1 : m - b < 24
  · have e9 : zb_r row b m = row := by unfold zb_r zb_1 zb_2; rw [if_neg (by omega), if_neg (by omega)]
    rw [e9]
    intro A Q U T post hA kk
    refine ez_go ez_h83 3 (pc' := bif decide ((nI (m - b)) < (nI (24))) then 45 else 25) (L' := [some (.ref 0), some (.int (nI (b))), some (.int (nI (m))), some (.int (nI (e))), some (.int (nI (m - b))), some (.int (nI (e - (m + 1)))), some (.int (nI ((m - b) / 4)))]) (st' := []) (w' := mz_w A Q U T) rfl ?_
    refine ez_ifT (zt_lt (a := m - b) (b := 24) (by omega) (by omega)) ?_
    refine ez_go ez_h83 3 (pc' := bif decide ((nI (m - b)) ≤ (nI (128))) then 105 else 53) (L' := [some (.ref 0), some (.int (nI (b))), some (.int (nI (m))), some (.int (nI (e))), some (.int (nI (m - b))), some (.int (nI (e - (m + 1)))), some (.int (nI ((m - b) / 4)))]) (st' := []) (w' := mz_w A Q U T) rfl ?_
    refine ez_ifT (zt_le (a := m - b) (b := 128) (by omega) (by omega)) ?_
    exact kk _ hA
  by_cases h2 : m - b ≤ 128
  · have e9 : zb_r row b m = zb_1 row b m := by unfold zb_r zb_2; rw [if_neg (by omega)]
    unfold zb_1 at e9
    rw [if_pos (by omega)] at e9
    rw [e9]
    intro A Q U T post hA kk
    refine ez_go ez_h83 3 (pc' := bif decide ((nI (m - b)) < (nI (24))) then 45 else 25) (L' := [some (.ref 0), some (.int (nI (b))), some (.int (nI (m))), some (.int (nI (e))), some (.int (nI (m - b))), some (.int (nI (e - (m + 1)))), some (.int (nI ((m - b) / 4)))]) (st' := []) (w' := mz_w A Q U T) rfl ?_
    refine ez_ifF (zt_nlt (a := m - b) (b := 24) (by omega) (by omega)) ?_
    refine ez_go ez_h83 5 (pc' := 31) (L' := [some (.ref 0), some (.int (nI (b))), some (.int (nI (m))), some (.int (nI (e))), some (.int (nI (m - b))), some (.int (nI (e - (m + 1)))), some (.int (nI ((m - b) / 4)))]) (st' := [.int ((nI (b)) + (nI ((m - b) / 4))), .int (nI (b)), .ref 0]) (w' := mz_w A Q U T) rfl ?_
    refine ez_top (y := nI (b + ((m - b) / 4))) (nI_add _ _) ?_
    refine ez_cl ez_h83 rfl rfl ?_
    refine mr_swap hE hA (i := b) (j := b + ((m - b) / 4)) (by omega) (by omega) Q U T (fun A72 hA72 => ?_)
    refine ez_go ez_h83 4 (pc' := 38) (L' := [some (.ref 0), some (.int (nI (b))), some (.int (nI (m))), some (.int (nI (e))), some (.int (nI (m - b))), some (.int (nI (e - (m + 1)))), some (.int (nI ((m - b) / 4)))]) (st' := [.int ((nI (m)) - (nI (1))), .ref 0]) (w' := mz_w A72 Q U T) rfl ?_
    refine ez_top (y := nI (m - 1)) (pk_sub (by omega)) ?_
    refine ez_go ez_h83 3 (pc' := 42) (L' := [some (.ref 0), some (.int (nI (b))), some (.int (nI (m))), some (.int (nI (e))), some (.int (nI (m - b))), some (.int (nI (e - (m + 1)))), some (.int (nI ((m - b) / 4)))]) (st' := [.int ((nI (m)) - (nI ((m - b) / 4))), .int (nI (m - 1)), .ref 0]) (w' := mz_w A72 Q U T) rfl ?_
    refine ez_top (y := nI (m - ((m - b) / 4))) (pk_sub (by omega)) ?_
    refine ez_cl ez_h83 rfl rfl ?_
    refine mr_swap hE hA72 (i := m - 1) (j := m - ((m - b) / 4)) (by omega) (by omega) Q U T (fun A73 hA73 => ?_)
    refine ez_go ez_h83 3 (pc' := bif decide ((nI (m - b)) ≤ (nI (128))) then 105 else 53) (L' := [some (.ref 0), some (.int (nI (b))), some (.int (nI (m))), some (.int (nI (e))), some (.int (nI (m - b))), some (.int (nI (e - (m + 1)))), some (.int (nI ((m - b) / 4)))]) (st' := []) (w' := mz_w A73 Q U T) rfl ?_
    refine ez_ifT (zt_le (a := m - b) (b := 128) (by omega) (by omega)) ?_
    exact kk _ hA73
  · have e9 : zb_r row b m = zb_r row b m := rfl
    conv at e9 => rhs; unfold zb_r zb_1 zb_2; rw [if_pos (by omega), if_pos (by omega)]
    rw [e9]
    intro A Q U T post hA kk
    refine ez_go ez_h83 3 (pc' := bif decide ((nI (m - b)) < (nI (24))) then 45 else 25) (L' := [some (.ref 0), some (.int (nI (b))), some (.int (nI (m))), some (.int (nI (e))), some (.int (nI (m - b))), some (.int (nI (e - (m + 1)))), some (.int (nI ((m - b) / 4)))]) (st' := []) (w' := mz_w A Q U T) rfl ?_
    refine ez_ifF (zt_nlt (a := m - b) (b := 24) (by omega) (by omega)) ?_
    refine ez_go ez_h83 5 (pc' := 31) (L' := [some (.ref 0), some (.int (nI (b))), some (.int (nI (m))), some (.int (nI (e))), some (.int (nI (m - b))), some (.int (nI (e - (m + 1)))), some (.int (nI ((m - b) / 4)))]) (st' := [.int ((nI (b)) + (nI ((m - b) / 4))), .int (nI (b)), .ref 0]) (w' := mz_w A Q U T) rfl ?_
    refine ez_top (y := nI (b + ((m - b) / 4))) (nI_add _ _) ?_
    refine ez_cl ez_h83 rfl rfl ?_
    refine mr_swap hE hA (i := b) (j := b + ((m - b) / 4)) (by omega) (by omega) Q U T (fun A74 hA74 => ?_)
    refine ez_go ez_h83 4 (pc' := 38) (L' := [some (.ref 0), some (.int (nI (b))), some (.int (nI (m))), some (.int (nI (e))), some (.int (nI (m - b))), some (.int (nI (e - (m + 1)))), some (.int (nI ((m - b) / 4)))]) (st' := [.int ((nI (m)) - (nI (1))), .ref 0]) (w' := mz_w A74 Q U T) rfl ?_
    refine ez_top (y := nI (m - 1)) (pk_sub (by omega)) ?_
    refine ez_go ez_h83 3 (pc' := 42) (L' := [some (.ref 0), some (.int (nI (b))), some (.int (nI (m))), some (.int (nI (e))), some (.int (nI (m - b))), some (.int (nI (e - (m + 1)))), some (.int (nI ((m - b) / 4)))]) (st' := [.int ((nI (m)) - (nI ((m - b) / 4))), .int (nI (m - 1)), .ref 0]) (w' := mz_w A74 Q U T) rfl ?_
    refine ez_top (y := nI (m - ((m - b) / 4))) (pk_sub (by omega)) ?_
    refine ez_cl ez_h83 rfl rfl ?_
    refine mr_swap hE hA74 (i := m - 1) (j := m - ((m - b) / 4)) (by omega) (by omega) Q U T (fun A75 hA75 => ?_)
    refine ez_go ez_h83 3 (pc' := bif decide ((nI (m - b)) ≤ (nI (128))) then 105 else 53) (L' := [some (.ref 0), some (.int (nI (b))), some (.int (nI (m))), some (.int (nI (e))), some (.int (nI (m - b))), some (.int (nI (e - (m + 1)))), some (.int (nI ((m - b) / 4)))]) (st' := []) (w' := mz_w A75 Q U T) rfl ?_
    refine ez_ifF (zt_nle (a := m - b) (b := 128) (by omega) (by omega)) ?_
    refine ez_go ez_h83 4 (pc' := 57) (L' := [some (.ref 0), some (.int (nI (b))), some (.int (nI (m))), some (.int (nI (e))), some (.int (nI (m - b))), some (.int (nI (e - (m + 1)))), some (.int (nI ((m - b) / 4)))]) (st' := [.int ((nI (b)) + (nI (1))), .ref 0]) (w' := mz_w A75 Q U T) rfl ?_
    refine ez_top (y := nI (b + 1)) (nI_add _ _) ?_
    refine ez_go ez_h83 3 (pc' := 61) (L' := [some (.ref 0), some (.int (nI (b))), some (.int (nI (m))), some (.int (nI (e))), some (.int (nI (m - b))), some (.int (nI (e - (m + 1)))), some (.int (nI ((m - b) / 4)))]) (st' := [.int ((nI (b)) + (nI ((m - b) / 4))), .int (nI (b + 1)), .ref 0]) (w' := mz_w A75 Q U T) rfl ?_
    refine ez_top (y := nI (b + ((m - b) / 4))) (nI_add _ _) ?_
    refine ez_go ez_h83 2 (pc' := 63) (L' := [some (.ref 0), some (.int (nI (b))), some (.int (nI (m))), some (.int (nI (e))), some (.int (nI (m - b))), some (.int (nI (e - (m + 1)))), some (.int (nI ((m - b) / 4)))]) (st' := [.int ((nI (b + ((m - b) / 4))) + (nI (1))), .int (nI (b + 1)), .ref 0]) (w' := mz_w A75 Q U T) rfl ?_
    refine ez_top (y := nI ((b + ((m - b) / 4)) + 1)) (nI_add _ _) ?_
    refine ez_top (y := nI (b + 1 + (m - b) / 4)) (congrArg nI (by omega)) ?_
    refine ez_cl ez_h83 rfl rfl ?_
    refine mr_swap hE hA75 (i := b + 1) (j := b + 1 + (m - b) / 4) (by omega) (by omega) Q U T (fun A76 hA76 => ?_)
    refine ez_go ez_h83 4 (pc' := 70) (L' := [some (.ref 0), some (.int (nI (b))), some (.int (nI (m))), some (.int (nI (e))), some (.int (nI (m - b))), some (.int (nI (e - (m + 1)))), some (.int (nI ((m - b) / 4)))]) (st' := [.int ((nI (b)) + (nI (2))), .ref 0]) (w' := mz_w A76 Q U T) rfl ?_
    refine ez_top (y := nI (b + 2)) (nI_add _ _) ?_
    refine ez_go ez_h83 3 (pc' := 74) (L' := [some (.ref 0), some (.int (nI (b))), some (.int (nI (m))), some (.int (nI (e))), some (.int (nI (m - b))), some (.int (nI (e - (m + 1)))), some (.int (nI ((m - b) / 4)))]) (st' := [.int ((nI (b)) + (nI ((m - b) / 4))), .int (nI (b + 2)), .ref 0]) (w' := mz_w A76 Q U T) rfl ?_
    refine ez_top (y := nI (b + ((m - b) / 4))) (nI_add _ _) ?_
    refine ez_go ez_h83 2 (pc' := 76) (L' := [some (.ref 0), some (.int (nI (b))), some (.int (nI (m))), some (.int (nI (e))), some (.int (nI (m - b))), some (.int (nI (e - (m + 1)))), some (.int (nI ((m - b) / 4)))]) (st' := [.int ((nI (b + ((m - b) / 4))) + (nI (2))), .int (nI (b + 2)), .ref 0]) (w' := mz_w A76 Q U T) rfl ?_
    refine ez_top (y := nI ((b + ((m - b) / 4)) + 2)) (nI_add _ _) ?_
    refine ez_top (y := nI (b + 2 + (m - b) / 4)) (congrArg nI (by omega)) ?_
    refine ez_cl ez_h83 rfl rfl ?_
    refine mr_swap hE hA76 (i := b + 2) (j := b + 2 + (m - b) / 4) (by omega) (by omega) Q U T (fun A77 hA77 => ?_)
    refine ez_go ez_h83 4 (pc' := 83) (L' := [some (.ref 0), some (.int (nI (b))), some (.int (nI (m))), some (.int (nI (e))), some (.int (nI (m - b))), some (.int (nI (e - (m + 1)))), some (.int (nI ((m - b) / 4)))]) (st' := [.int ((nI (m)) - (nI (2))), .ref 0]) (w' := mz_w A77 Q U T) rfl ?_
    refine ez_top (y := nI (m - 2)) (pk_sub (by omega)) ?_
    refine ez_go ez_h83 3 (pc' := 87) (L' := [some (.ref 0), some (.int (nI (b))), some (.int (nI (m))), some (.int (nI (e))), some (.int (nI (m - b))), some (.int (nI (e - (m + 1)))), some (.int (nI ((m - b) / 4)))]) (st' := [.int ((nI (m)) - (nI ((m - b) / 4))), .int (nI (m - 2)), .ref 0]) (w' := mz_w A77 Q U T) rfl ?_
    refine ez_top (y := nI (m - ((m - b) / 4))) (pk_sub (by omega)) ?_
    refine ez_go ez_h83 2 (pc' := 89) (L' := [some (.ref 0), some (.int (nI (b))), some (.int (nI (m))), some (.int (nI (e))), some (.int (nI (m - b))), some (.int (nI (e - (m + 1)))), some (.int (nI ((m - b) / 4)))]) (st' := [.int ((nI (m - ((m - b) / 4))) - (nI (1))), .int (nI (m - 2)), .ref 0]) (w' := mz_w A77 Q U T) rfl ?_
    refine ez_top (y := nI ((m - ((m - b) / 4)) - 1)) (pk_sub (by omega)) ?_
    refine ez_top (y := nI (m - 1 - (m - b) / 4)) (congrArg nI (by omega)) ?_
    refine ez_cl ez_h83 rfl rfl ?_
    refine mr_swap hE hA77 (i := m - 2) (j := m - 1 - (m - b) / 4) (by omega) (by omega) Q U T (fun A78 hA78 => ?_)
    refine ez_go ez_h83 4 (pc' := 96) (L' := [some (.ref 0), some (.int (nI (b))), some (.int (nI (m))), some (.int (nI (e))), some (.int (nI (m - b))), some (.int (nI (e - (m + 1)))), some (.int (nI ((m - b) / 4)))]) (st' := [.int ((nI (m)) - (nI (3))), .ref 0]) (w' := mz_w A78 Q U T) rfl ?_
    refine ez_top (y := nI (m - 3)) (pk_sub (by omega)) ?_
    refine ez_go ez_h83 3 (pc' := 100) (L' := [some (.ref 0), some (.int (nI (b))), some (.int (nI (m))), some (.int (nI (e))), some (.int (nI (m - b))), some (.int (nI (e - (m + 1)))), some (.int (nI ((m - b) / 4)))]) (st' := [.int ((nI (m)) - (nI ((m - b) / 4))), .int (nI (m - 3)), .ref 0]) (w' := mz_w A78 Q U T) rfl ?_
    refine ez_top (y := nI (m - ((m - b) / 4))) (pk_sub (by omega)) ?_
    refine ez_go ez_h83 2 (pc' := 102) (L' := [some (.ref 0), some (.int (nI (b))), some (.int (nI (m))), some (.int (nI (e))), some (.int (nI (m - b))), some (.int (nI (e - (m + 1)))), some (.int (nI ((m - b) / 4)))]) (st' := [.int ((nI (m - ((m - b) / 4))) - (nI (2))), .int (nI (m - 3)), .ref 0]) (w' := mz_w A78 Q U T) rfl ?_
    refine ez_top (y := nI ((m - ((m - b) / 4)) - 2)) (pk_sub (by omega)) ?_
    refine ez_top (y := nI (m - 2 - (m - b) / 4)) (congrArg nI (by omega)) ?_
    refine ez_cl ez_h83 rfl rfl ?_
    refine mr_swap hE hA78 (i := m - 3) (j := m - 2 - (m - b) / 4) (by omega) (by omega) Q U T (fun A79 hA79 => ?_)
    exact kk _ hA79
theorem zb_ref1 {E : ze_T} (hE : ze_ok E) {b m e : Nat} (hb : b ≤ m) (hm : m + 1 ≤ e) (he : e ≤ ze_n E) {row : Nat → Nat} {g : zs_G} (hw : zr_ok E row g) : mr_G E 83 111 [some (.ref 0), some (.int (nI (b))), some (.int (nI (m))), some (.int (nI (e))), some (.int (nI (m - b))), some (.int (nI (e - (m + 1)))), some (.int (nI ((e - (m + 1)) / 4)))] row g 202 [some (.ref 0), some (.int (nI (b))), some (.int (nI (m))), some (.int (nI (e))), some (.int (nI (m - b))), some (.int (nI (e - (m + 1)))), some (.int (nI ((e - (m + 1)) / 4)))] (zb_r row (m + 1) e) g := by
  have hn := hE.1
  by_cases h1 : e - (m + 1) < 24
  · have e9 : zb_r row (m + 1) e = row := by unfold zb_r zb_1 zb_2; rw [if_neg (by omega), if_neg (by omega)]
    rw [e9]
    intro A Q U T post hA kk
    refine ez_go ez_h83 3 (pc' := bif decide ((nI (e - (m + 1))) < (nI (24))) then 142 else 118) (L' := [some (.ref 0), some (.int (nI (b))), some (.int (nI (m))), some (.int (nI (e))), some (.int (nI (m - b))), some (.int (nI (e - (m + 1)))), some (.int (nI ((e - (m + 1)) / 4)))]) (st' := []) (w' := mz_w A Q U T) rfl ?_
    refine ez_ifT (zt_lt (a := e - (m + 1)) (b := 24) (by omega) (by omega)) ?_
    refine ez_go ez_h83 3 (pc' := bif decide ((nI (e - (m + 1))) ≤ (nI (128))) then 202 else 150) (L' := [some (.ref 0), some (.int (nI (b))), some (.int (nI (m))), some (.int (nI (e))), some (.int (nI (m - b))), some (.int (nI (e - (m + 1)))), some (.int (nI ((e - (m + 1)) / 4)))]) (st' := []) (w' := mz_w A Q U T) rfl ?_
    refine ez_ifT (zt_le (a := e - (m + 1)) (b := 128) (by omega) (by omega)) ?_
    exact kk _ hA
  by_cases h2 : e - (m + 1) ≤ 128
  · have e9 : zb_r row (m + 1) e = zb_1 row (m + 1) e := by unfold zb_r zb_2; rw [if_neg (by omega)]
    unfold zb_1 at e9
    rw [if_pos (by omega)] at e9
    rw [e9]
    intro A Q U T post hA kk
    refine ez_go ez_h83 3 (pc' := bif decide ((nI (e - (m + 1))) < (nI (24))) then 142 else 118) (L' := [some (.ref 0), some (.int (nI (b))), some (.int (nI (m))), some (.int (nI (e))), some (.int (nI (m - b))), some (.int (nI (e - (m + 1)))), some (.int (nI ((e - (m + 1)) / 4)))]) (st' := []) (w' := mz_w A Q U T) rfl ?_
    refine ez_ifF (zt_nlt (a := e - (m + 1)) (b := 24) (by omega) (by omega)) ?_
    refine ez_go ez_h83 4 (pc' := 122) (L' := [some (.ref 0), some (.int (nI (b))), some (.int (nI (m))), some (.int (nI (e))), some (.int (nI (m - b))), some (.int (nI (e - (m + 1)))), some (.int (nI ((e - (m + 1)) / 4)))]) (st' := [.int ((nI (m)) + (nI (1))), .ref 0]) (w' := mz_w A Q U T) rfl ?_
    refine ez_top (y := nI (m + 1)) (nI_add _ _) ?_
    refine ez_go ez_h83 3 (pc' := 125) (L' := [some (.ref 0), some (.int (nI (b))), some (.int (nI (m))), some (.int (nI (e))), some (.int (nI (m - b))), some (.int (nI (e - (m + 1)))), some (.int (nI ((e - (m + 1)) / 4)))]) (st' := [.int ((nI (m)) + (nI (1))), .int (nI (m + 1)), .ref 0]) (w' := mz_w A Q U T) rfl ?_
    refine ez_top (y := nI (m + 1)) (nI_add _ _) ?_
    refine ez_go ez_h83 2 (pc' := 128) (L' := [some (.ref 0), some (.int (nI (b))), some (.int (nI (m))), some (.int (nI (e))), some (.int (nI (m - b))), some (.int (nI (e - (m + 1)))), some (.int (nI ((e - (m + 1)) / 4)))]) (st' := [.int ((nI (m + 1)) + (nI ((e - (m + 1)) / 4))), .int (nI (m + 1)), .ref 0]) (w' := mz_w A Q U T) rfl ?_
    refine ez_top (y := nI ((m + 1) + ((e - (m + 1)) / 4))) (nI_add _ _) ?_
    refine ez_cl ez_h83 rfl rfl ?_
    refine mr_swap hE hA (i := m + 1) (j := (m + 1) + ((e - (m + 1)) / 4)) (by omega) (by omega) Q U T (fun A80 hA80 => ?_)
    refine ez_go ez_h83 4 (pc' := 135) (L' := [some (.ref 0), some (.int (nI (b))), some (.int (nI (m))), some (.int (nI (e))), some (.int (nI (m - b))), some (.int (nI (e - (m + 1)))), some (.int (nI ((e - (m + 1)) / 4)))]) (st' := [.int ((nI (e)) - (nI (1))), .ref 0]) (w' := mz_w A80 Q U T) rfl ?_
    refine ez_top (y := nI (e - 1)) (pk_sub (by omega)) ?_
    refine ez_go ez_h83 3 (pc' := 139) (L' := [some (.ref 0), some (.int (nI (b))), some (.int (nI (m))), some (.int (nI (e))), some (.int (nI (m - b))), some (.int (nI (e - (m + 1)))), some (.int (nI ((e - (m + 1)) / 4)))]) (st' := [.int ((nI (e)) - (nI ((e - (m + 1)) / 4))), .int (nI (e - 1)), .ref 0]) (w' := mz_w A80 Q U T) rfl ?_
    refine ez_top (y := nI (e - ((e - (m + 1)) / 4))) (pk_sub (by omega)) ?_
    refine ez_cl ez_h83 rfl rfl ?_
    refine mr_swap hE hA80 (i := e - 1) (j := e - ((e - (m + 1)) / 4)) (by omega) (by omega) Q U T (fun A81 hA81 => ?_)
    refine ez_go ez_h83 3 (pc' := bif decide ((nI (e - (m + 1))) ≤ (nI (128))) then 202 else 150) (L' := [some (.ref 0), some (.int (nI (b))), some (.int (nI (m))), some (.int (nI (e))), some (.int (nI (m - b))), some (.int (nI (e - (m + 1)))), some (.int (nI ((e - (m + 1)) / 4)))]) (st' := []) (w' := mz_w A81 Q U T) rfl ?_
    refine ez_ifT (zt_le (a := e - (m + 1)) (b := 128) (by omega) (by omega)) ?_
    exact kk _ hA81
  · have e9 : zb_r row (m + 1) e = zb_r row (m + 1) e := rfl
    conv at e9 => rhs; unfold zb_r zb_1 zb_2; rw [if_pos (by omega), if_pos (by omega)]
    rw [e9]
    intro A Q U T post hA kk
    refine ez_go ez_h83 3 (pc' := bif decide ((nI (e - (m + 1))) < (nI (24))) then 142 else 118) (L' := [some (.ref 0), some (.int (nI (b))), some (.int (nI (m))), some (.int (nI (e))), some (.int (nI (m - b))), some (.int (nI (e - (m + 1)))), some (.int (nI ((e - (m + 1)) / 4)))]) (st' := []) (w' := mz_w A Q U T) rfl ?_
    refine ez_ifF (zt_nlt (a := e - (m + 1)) (b := 24) (by omega) (by omega)) ?_
    refine ez_go ez_h83 4 (pc' := 122) (L' := [some (.ref 0), some (.int (nI (b))), some (.int (nI (m))), some (.int (nI (e))), some (.int (nI (m - b))), some (.int (nI (e - (m + 1)))), some (.int (nI ((e - (m + 1)) / 4)))]) (st' := [.int ((nI (m)) + (nI (1))), .ref 0]) (w' := mz_w A Q U T) rfl ?_
    refine ez_top (y := nI (m + 1)) (nI_add _ _) ?_
    refine ez_go ez_h83 3 (pc' := 125) (L' := [some (.ref 0), some (.int (nI (b))), some (.int (nI (m))), some (.int (nI (e))), some (.int (nI (m - b))), some (.int (nI (e - (m + 1)))), some (.int (nI ((e - (m + 1)) / 4)))]) (st' := [.int ((nI (m)) + (nI (1))), .int (nI (m + 1)), .ref 0]) (w' := mz_w A Q U T) rfl ?_
    refine ez_top (y := nI (m + 1)) (nI_add _ _) ?_
    refine ez_go ez_h83 2 (pc' := 128) (L' := [some (.ref 0), some (.int (nI (b))), some (.int (nI (m))), some (.int (nI (e))), some (.int (nI (m - b))), some (.int (nI (e - (m + 1)))), some (.int (nI ((e - (m + 1)) / 4)))]) (st' := [.int ((nI (m + 1)) + (nI ((e - (m + 1)) / 4))), .int (nI (m + 1)), .ref 0]) (w' := mz_w A Q U T) rfl ?_
    refine ez_top (y := nI ((m + 1) + ((e - (m + 1)) / 4))) (nI_add _ _) ?_
    refine ez_cl ez_h83 rfl rfl ?_
    refine mr_swap hE hA (i := m + 1) (j := (m + 1) + ((e - (m + 1)) / 4)) (by omega) (by omega) Q U T (fun A82 hA82 => ?_)
    refine ez_go ez_h83 4 (pc' := 135) (L' := [some (.ref 0), some (.int (nI (b))), some (.int (nI (m))), some (.int (nI (e))), some (.int (nI (m - b))), some (.int (nI (e - (m + 1)))), some (.int (nI ((e - (m + 1)) / 4)))]) (st' := [.int ((nI (e)) - (nI (1))), .ref 0]) (w' := mz_w A82 Q U T) rfl ?_
    refine ez_top (y := nI (e - 1)) (pk_sub (by omega)) ?_
    refine ez_go ez_h83 3 (pc' := 139) (L' := [some (.ref 0), some (.int (nI (b))), some (.int (nI (m))), some (.int (nI (e))), some (.int (nI (m - b))), some (.int (nI (e - (m + 1)))), some (.int (nI ((e - (m + 1)) / 4)))]) (st' := [.int ((nI (e)) - (nI ((e - (m + 1)) / 4))), .int (nI (e - 1)), .ref 0]) (w' := mz_w A82 Q U T) rfl ?_
    refine ez_top (y := nI (e - ((e - (m + 1)) / 4))) (pk_sub (by omega)) ?_
    refine ez_cl ez_h83 rfl rfl ?_
    refine mr_swap hE hA82 (i := e - 1) (j := e - ((e - (m + 1)) / 4)) (by omega) (by omega) Q U T (fun A83 hA83 => ?_)
    refine ez_go ez_h83 3 (pc' := bif decide ((nI (e - (m + 1))) ≤ (nI (128))) then 202 else 150) (L' := [some (.ref 0), some (.int (nI (b))), some (.int (nI (m))), some (.int (nI (e))), some (.int (nI (m - b))), some (.int (nI (e - (m + 1)))), some (.int (nI ((e - (m + 1)) / 4)))]) (st' := []) (w' := mz_w A83 Q U T) rfl ?_
    refine ez_ifF (zt_nle (a := e - (m + 1)) (b := 128) (by omega) (by omega)) ?_
    refine ez_go ez_h83 4 (pc' := 154) (L' := [some (.ref 0), some (.int (nI (b))), some (.int (nI (m))), some (.int (nI (e))), some (.int (nI (m - b))), some (.int (nI (e - (m + 1)))), some (.int (nI ((e - (m + 1)) / 4)))]) (st' := [.int ((nI (m)) + (nI (2))), .ref 0]) (w' := mz_w A83 Q U T) rfl ?_
    refine ez_top (y := nI (m + 2)) (nI_add _ _) ?_
    refine ez_go ez_h83 3 (pc' := 157) (L' := [some (.ref 0), some (.int (nI (b))), some (.int (nI (m))), some (.int (nI (e))), some (.int (nI (m - b))), some (.int (nI (e - (m + 1)))), some (.int (nI ((e - (m + 1)) / 4)))]) (st' := [.int ((nI (m)) + (nI (2))), .int (nI (m + 2)), .ref 0]) (w' := mz_w A83 Q U T) rfl ?_
    refine ez_top (y := nI (m + 2)) (nI_add _ _) ?_
    refine ez_go ez_h83 2 (pc' := 160) (L' := [some (.ref 0), some (.int (nI (b))), some (.int (nI (m))), some (.int (nI (e))), some (.int (nI (m - b))), some (.int (nI (e - (m + 1)))), some (.int (nI ((e - (m + 1)) / 4)))]) (st' := [.int ((nI (m + 2)) + (nI ((e - (m + 1)) / 4))), .int (nI (m + 2)), .ref 0]) (w' := mz_w A83 Q U T) rfl ?_
    refine ez_top (y := nI ((m + 2) + ((e - (m + 1)) / 4))) (nI_add _ _) ?_
    refine ez_cl ez_h83 rfl rfl ?_
    refine mr_swap hE hA83 (i := m + 2) (j := (m + 2) + ((e - (m + 1)) / 4)) (by omega) (by omega) Q U T (fun A84 hA84 => ?_)
    refine ez_go ez_h83 4 (pc' := 167) (L' := [some (.ref 0), some (.int (nI (b))), some (.int (nI (m))), some (.int (nI (e))), some (.int (nI (m - b))), some (.int (nI (e - (m + 1)))), some (.int (nI ((e - (m + 1)) / 4)))]) (st' := [.int ((nI (m)) + (nI (3))), .ref 0]) (w' := mz_w A84 Q U T) rfl ?_
    refine ez_top (y := nI (m + 3)) (nI_add _ _) ?_
    refine ez_go ez_h83 3 (pc' := 170) (L' := [some (.ref 0), some (.int (nI (b))), some (.int (nI (m))), some (.int (nI (e))), some (.int (nI (m - b))), some (.int (nI (e - (m + 1)))), some (.int (nI ((e - (m + 1)) / 4)))]) (st' := [.int ((nI (m)) + (nI (3))), .int (nI (m + 3)), .ref 0]) (w' := mz_w A84 Q U T) rfl ?_
    refine ez_top (y := nI (m + 3)) (nI_add _ _) ?_
    refine ez_go ez_h83 2 (pc' := 173) (L' := [some (.ref 0), some (.int (nI (b))), some (.int (nI (m))), some (.int (nI (e))), some (.int (nI (m - b))), some (.int (nI (e - (m + 1)))), some (.int (nI ((e - (m + 1)) / 4)))]) (st' := [.int ((nI (m + 3)) + (nI ((e - (m + 1)) / 4))), .int (nI (m + 3)), .ref 0]) (w' := mz_w A84 Q U T) rfl ?_
    refine ez_top (y := nI ((m + 3) + ((e - (m + 1)) / 4))) (nI_add _ _) ?_
    refine ez_cl ez_h83 rfl rfl ?_
    refine mr_swap hE hA84 (i := m + 3) (j := (m + 3) + ((e - (m + 1)) / 4)) (by omega) (by omega) Q U T (fun A85 hA85 => ?_)
    refine ez_go ez_h83 4 (pc' := 180) (L' := [some (.ref 0), some (.int (nI (b))), some (.int (nI (m))), some (.int (nI (e))), some (.int (nI (m - b))), some (.int (nI (e - (m + 1)))), some (.int (nI ((e - (m + 1)) / 4)))]) (st' := [.int ((nI (e)) - (nI (2))), .ref 0]) (w' := mz_w A85 Q U T) rfl ?_
    refine ez_top (y := nI (e - 2)) (pk_sub (by omega)) ?_
    refine ez_go ez_h83 3 (pc' := 183) (L' := [some (.ref 0), some (.int (nI (b))), some (.int (nI (m))), some (.int (nI (e))), some (.int (nI (m - b))), some (.int (nI (e - (m + 1)))), some (.int (nI ((e - (m + 1)) / 4)))]) (st' := [.int ((nI (e)) - (nI (1))), .int (nI (e - 2)), .ref 0]) (w' := mz_w A85 Q U T) rfl ?_
    refine ez_top (y := nI (e - 1)) (pk_sub (by omega)) ?_
    refine ez_go ez_h83 2 (pc' := 186) (L' := [some (.ref 0), some (.int (nI (b))), some (.int (nI (m))), some (.int (nI (e))), some (.int (nI (m - b))), some (.int (nI (e - (m + 1)))), some (.int (nI ((e - (m + 1)) / 4)))]) (st' := [.int ((nI (e - 1)) - (nI ((e - (m + 1)) / 4))), .int (nI (e - 2)), .ref 0]) (w' := mz_w A85 Q U T) rfl ?_
    refine ez_top (y := nI ((e - 1) - ((e - (m + 1)) / 4))) (pk_sub (by omega)) ?_
    refine ez_cl ez_h83 rfl rfl ?_
    refine mr_swap hE hA85 (i := e - 2) (j := (e - 1) - ((e - (m + 1)) / 4)) (by omega) (by omega) Q U T (fun A86 hA86 => ?_)
    refine ez_go ez_h83 4 (pc' := 193) (L' := [some (.ref 0), some (.int (nI (b))), some (.int (nI (m))), some (.int (nI (e))), some (.int (nI (m - b))), some (.int (nI (e - (m + 1)))), some (.int (nI ((e - (m + 1)) / 4)))]) (st' := [.int ((nI (e)) - (nI (3))), .ref 0]) (w' := mz_w A86 Q U T) rfl ?_
    refine ez_top (y := nI (e - 3)) (pk_sub (by omega)) ?_
    refine ez_go ez_h83 3 (pc' := 196) (L' := [some (.ref 0), some (.int (nI (b))), some (.int (nI (m))), some (.int (nI (e))), some (.int (nI (m - b))), some (.int (nI (e - (m + 1)))), some (.int (nI ((e - (m + 1)) / 4)))]) (st' := [.int ((nI (e)) - (nI (2))), .int (nI (e - 3)), .ref 0]) (w' := mz_w A86 Q U T) rfl ?_
    refine ez_top (y := nI (e - 2)) (pk_sub (by omega)) ?_
    refine ez_go ez_h83 2 (pc' := 199) (L' := [some (.ref 0), some (.int (nI (b))), some (.int (nI (m))), some (.int (nI (e))), some (.int (nI (m - b))), some (.int (nI (e - (m + 1)))), some (.int (nI ((e - (m + 1)) / 4)))]) (st' := [.int ((nI (e - 2)) - (nI ((e - (m + 1)) / 4))), .int (nI (e - 3)), .ref 0]) (w' := mz_w A86 Q U T) rfl ?_
    refine ez_top (y := nI ((e - 2) - ((e - (m + 1)) / 4))) (pk_sub (by omega)) ?_
    refine ez_cl ez_h83 rfl rfl ?_
    refine mr_swap hE hA86 (i := e - 3) (j := (e - 2) - ((e - (m + 1)) / 4)) (by omega) (by omega) Q U T (fun A87 hA87 => ?_)
    exact kk _ hA87
theorem zb_ref {E : ze_T} (hE : ze_ok E) {b m e : Nat} (hb : b ≤ m) (hm : m + 1 ≤ e) (he : e ≤ ze_n E) {row : Nat → Nat} {g : zs_G} (hw : zr_ok E row g) : mr_M E 83 [.ref 0, .int (nI b), .int (nI m), .int (nI e)] row g none (zb_r (zb_r row b m) (m + 1) e) g := by
  have hn := hE.1
  have hw1 : zr_ok E (zb_r row b m) g := hw.pin (by omega) (zb_r.in row b m)
  refine mr_H.m (L := [some (.ref 0), some (.int (nI (b))), some (.int (nI (m))), some (.int (nI (e))), none, none, none]) (fun A Q U T post hA kk => ?_) rfl rfl rfl
  refine ez_go ez_h83 3 (pc' := 3) (L' := [some (.ref 0), some (.int (nI (b))), some (.int (nI (m))), some (.int (nI (e))), none, none, none]) (st' := [.int ((nI (m)) - (nI (b)))]) (w' := mz_w A Q U T) rfl ?_
  refine ez_top (y := nI (m - b)) (pk_sub (by omega)) ?_
  refine ez_go ez_h83 4 (pc' := 8) (L' := [some (.ref 0), some (.int (nI (b))), some (.int (nI (m))), some (.int (nI (e))), some (.int (nI (m - b))), none, none]) (st' := [.int ((nI (e)) - (nI (m)))]) (w' := mz_w A Q U T) rfl ?_
  refine ez_top (y := nI (e - m)) (pk_sub (by omega)) ?_
  refine ez_go ez_h83 2 (pc' := 10) (L' := [some (.ref 0), some (.int (nI (b))), some (.int (nI (m))), some (.int (nI (e))), some (.int (nI (m - b))), none, none]) (st' := [.int ((nI (e - m)) - (nI (1)))]) (w' := mz_w A Q U T) rfl ?_
  refine ez_top (y := nI ((e - m) - 1)) (pk_sub (by omega)) ?_
  refine ez_top (y := nI (e - (m + 1))) (congrArg nI (by omega)) ?_
  refine ez_go ez_h83 4 (pc' := 16) (L' := [some (.ref 0), some (.int (nI (b))), some (.int (nI (m))), some (.int (nI (e))), some (.int (nI (m - b))), some (.int (nI (e - (m + 1)))), none]) (st' := [.int ((nI (m - b)) / (nI (4)))]) (w' := mz_w A Q U T) rfl ?_
  refine ez_top (y := nI ((m - b) / 4)) (pk_div (by omega) (by omega) (by omega)) ?_
  refine ez_go ez_h83 1 (pc' := 18) (L' := [some (.ref 0), some (.int (nI (b))), some (.int (nI (m))), some (.int (nI (e))), some (.int (nI (m - b))), some (.int (nI (e - (m + 1)))), some (.int (nI ((m - b) / 4)))]) (st' := []) (w' := mz_w A Q U T) rfl ?_
  refine zb_ref0 hE hb hm he hw _ Q U T post hA (fun A8 hA8 => ?_)
  refine ez_go ez_h83 3 (pc' := 109) (L' := [some (.ref 0), some (.int (nI (b))), some (.int (nI (m))), some (.int (nI (e))), some (.int (nI (m - b))), some (.int (nI (e - (m + 1)))), some (.int (nI ((m - b) / 4)))]) (st' := [.int ((nI (e - (m + 1))) / (nI (4)))]) (w' := mz_w A8 Q U T) rfl ?_
  refine ez_top (y := nI ((e - (m + 1)) / 4)) (pk_div (by omega) (by omega) (by omega)) ?_
  refine ez_go ez_h83 1 (pc' := 111) (L' := [some (.ref 0), some (.int (nI (b))), some (.int (nI (m))), some (.int (nI (e))), some (.int (nI (m - b))), some (.int (nI (e - (m + 1)))), some (.int (nI ((e - (m + 1)) / 4)))]) (st' := []) (w' := mz_w A8 Q U T) rfl ?_
  refine zb_ref1 hE hb hm he hw1 _ Q U T post hA8 (fun A9 hA9 => ?_)
  exact ez_vret rfl ez_h83 rfl rfl (kk _ hA9)
