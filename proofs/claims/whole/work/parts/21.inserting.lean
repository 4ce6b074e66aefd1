/-- to the return -/
def cr_H (E : ze_T) (mi pc : Nat) (L : ez_L) (row : Nat → Nat) (g : zs_G) (a : Option Value) (row' : Nat → Nat) (g' : zs_G) : Prop := ∀ (r : cz_Row) (q : cz_Qk) (u : cz_Rn) (b : cz_Bn) (post : Option Value → ez_W → Prop), cr_R E row g r → (∀ r' : cz_Row, cr_R E row' g' r' → post a (cz_w r' q u b)) → ez_E mi pc L [] (cz_w r q u b) post
def mr_H (E : ze_T) (mi pc : Nat) (L : ez_L) (row : Nat → Nat) (g : zs_G) (a : Option Value) (row' : Nat → Nat) (g' : zs_G) : Prop := ∀ (A : mz_A) (Q : mz_Q) (U : mz_U) (T : mz_T) (post : Option Value → ez_W → Prop), mr_R E row g A → (∀ A' : mz_A, mr_R E row' g' A' → post a (mz_w A' Q U T)) → ez_E mi pc L [] (mz_w A Q U T) post
theorem cr_H.m {E : ze_T} {j : Nat} {L : ez_L} {As : List Value} {row row' : Nat → Nat} {g g' : zs_G} {a : Option Value} {N : ez_M} (h : cr_H E j 0 L row g a row' g') (hN : ez_ms[j]? = some N) (hL : ez_en As N.2.2.2.1 = L) (hlen : L.length = N.2.2.2.1) : cr_M E j As row g a row' g' := fun r q u b post hr kk => ez_m.of hN hL hlen (h r q u b post hr kk)
theorem mr_H.m {E : ze_T} {j : Nat} {L : ez_L} {As : List Value} {row row' : Nat → Nat} {g g' : zs_G} {a : Option Value} {N : ez_M} (h : mr_H E j 0 L row g a row' g') (hN : ez_ms[j]? = some N) (hL : ez_en As N.2.2.2.1 = L) (hlen : L.length = N.2.2.2.1) : mr_M E j As row g a row' g' := fun A Q U T post hA kk => ez_m.of hN hL hlen (h A Q U T post hA kk)
/-- known: what stands before b isn't greater than any in b .. e -/
def zs_S (E : ze_T) (row : Nat → Nat) (g : zs_G) (b e : Nat) : Prop := 1 ≤ b ∧ ∀ k, b ≤ k → k < e → zs_K (ze_md E) (ze_ka E) g (row (b - 1)) (row k)
theorem zs_S.go {E : ze_T} {row row' : Nat → Nat} {g g' : zs_G} {b e : Nat} (h : zs_S E row g b e) (he : e ≤ ze_n E) (hw : zr_ok E row g) (hg : zg_le E g g') (hp : zp_in row row' b e) : zs_S E row' g' b e := ⟨h.1, fun k k1 k2 => by
  obtain ⟨j, j1, j2, j3⟩ := hp.1 k k1 k2
  have h1 := h.1
  rw [j3, hp.2 (b - 1) (by omega)]
  exact hg _ _ (hw.1 _ (by omega)) (h.2 j j1 j2)⟩
theorem zi_loop {E : ze_T} (hE : ze_ok E) (gd : Bool) {b e : Nat} (he : e ≤ ze_n E) : ∀ (m i S : Nat) (row : Nat → Nat) (g : zs_G), e ≤ i + m → b < i → i ≤ 601 → zr_ok E row g → (gd = false → zs_S E row g b e) →
    ∃ (row' : Nat → Nat) (g' : zs_G), zr_ok E row' g' ∧ zg_le E g g' ∧ zp_in row row' b e ∧
      (gd = true → cr_H E 4 4 [some (.ref 2), some (.int (nI (b))), some (.int (nI (e))), some (.int (nI (i)))] row g none row' g') ∧ (gd = false → cr_H E 5 4 [some (.ref 2), some (.int (nI (b))), some (.int (nI (e))), some (.int (nI (i)))] row g none row' g') ∧ mr_H E 76 8 [some (.ref 0), some (.int (nI (b))), some (.int (nI (e))), some (.int (nI (bif gd then 1 else 0))), some (.int (nI (0))), some (.int (nI (S))), some (.int (nI (i))), none, none, none] row g (some (.int (zs_z true))) row' g' := by
  have hn := hE.1
  intro m
  induction m with
  | zero =>
    intro i S row g h1 h2 h3 hw hs
    refine ⟨row, g, hw, zg_le.rf g, zp_in.rf _ _ _, fun _ => ?_, fun _ => ?_, ?_⟩
    · intro r q u bb post hr kk
      refine ez_go ez_h4 3 (pc' := bif decide ((nI (e)) ≤ (nI (i))) then 22 else 9) (L' := [some (.ref 2), some (.int (nI (b))), some (.int (nI (e))), some (.int (nI (i)))]) (st' := []) (w' := cz_w r q u bb) rfl ?_
      refine ez_ifT (zt_le (a := e) (b := i) (by omega) (by omega)) ?_
      exact ez_vret rfl ez_h4 rfl rfl (kk _ hr)
    · intro r q u bb post hr kk
      refine ez_go ez_h5 3 (pc' := bif decide ((nI (e)) ≤ (nI (i))) then 22 else 9) (L' := [some (.ref 2), some (.int (nI (b))), some (.int (nI (e))), some (.int (nI (i)))]) (st' := []) (w' := cz_w r q u bb) rfl ?_
      refine ez_ifT (zt_le (a := e) (b := i) (by omega) (by omega)) ?_
      exact ez_vret rfl ez_h5 rfl rfl (kk _ hr)
    · intro A Q U T post hA kk
      refine ez_go ez_h76 3 (pc' := bif decide ((nI (e)) ≤ (nI (i))) then 144 else 14) (L' := [some (.ref 0), some (.int (nI (b))), some (.int (nI (e))), some (.int (nI (bif gd then 1 else 0))), some (.int (nI (0))), some (.int (nI (S))), some (.int (nI (i))), none, none, none]) (st' := []) (w' := mz_w A Q U T) rfl ?_
      refine ez_ifT (zt_le (a := e) (b := i) (by omega) (by omega)) ?_
      refine ez_go ez_h76 1 (pc' := 145) (L' := [some (.ref 0), some (.int (nI (b))), some (.int (nI (e))), some (.int (nI (bif gd then 1 else 0))), some (.int (nI (0))), some (.int (nI (S))), some (.int (nI (i))), none, none, none]) (st' := [.int (nI (1))]) (w' := mz_w A Q U T) rfl ?_
      exact ez_zret rfl ez_h76 rfl rfl (zz_01 true) (kk _ hA)
  | succ m ih =>
    intro i S row g h1 h2 h3 hw hs
    by_cases hie : e ≤ i
    · refine ⟨row, g, hw, zg_le.rf g, zp_in.rf _ _ _, fun _ => ?_, fun _ => ?_, ?_⟩
      · intro r q u bb post hr kk
        refine ez_go ez_h4 3 (pc' := bif decide ((nI (e)) ≤ (nI (i))) then 22 else 9) (L' := [some (.ref 2), some (.int (nI (b))), some (.int (nI (e))), some (.int (nI (i)))]) (st' := []) (w' := cz_w r q u bb) rfl ?_
        refine ez_ifT (zt_le (a := e) (b := i) (by omega) (by omega)) ?_
        exact ez_vret rfl ez_h4 rfl rfl (kk _ hr)
      · intro r q u bb post hr kk
        refine ez_go ez_h5 3 (pc' := bif decide ((nI (e)) ≤ (nI (i))) then 22 else 9) (L' := [some (.ref 2), some (.int (nI (b))), some (.int (nI (e))), some (.int (nI (i)))]) (st' := []) (w' := cz_w r q u bb) rfl ?_
        refine ez_ifT (zt_le (a := e) (b := i) (by omega) (by omega)) ?_
        exact ez_vret rfl ez_h5 rfl rfl (kk _ hr)
      · intro A Q U T post hA kk
        refine ez_go ez_h76 3 (pc' := bif decide ((nI (e)) ≤ (nI (i))) then 144 else 14) (L' := [some (.ref 0), some (.int (nI (b))), some (.int (nI (e))), some (.int (nI (bif gd then 1 else 0))), some (.int (nI (0))), some (.int (nI (S))), some (.int (nI (i))), none, none, none]) (st' := []) (w' := mz_w A Q U T) rfl ?_
        refine ez_ifT (zt_le (a := e) (b := i) (by omega) (by omega)) ?_
        refine ez_go ez_h76 1 (pc' := 145) (L' := [some (.ref 0), some (.int (nI (b))), some (.int (nI (e))), some (.int (nI (bif gd then 1 else 0))), some (.int (nI (0))), some (.int (nI (S))), some (.int (nI (i))), none, none, none]) (st' := [.int (nI (1))]) (w' := mz_w A Q U T) rfl ?_
        exact ez_zret rfl ez_h76 rfl rfl (zz_01 true) (kk _ hA)
    · obtain ⟨row1, g1, d, a1, a2, a3, a4, a5, a6⟩ := zi_one hE gd (lo := b) (i := i) h2 (by omega) hw (fun z => ⟨(hs z).1, (hs z).2 i (by omega) (by omega)⟩)
      have hp1 : zp_in row row1 b e := a4.wide (Nat.le_refl _) (by omega)
      obtain ⟨row', g', b1, b2, b3, b4, b5, b6⟩ := ih (i + 1) (S + d) row1 g1 (by omega) (by omega) (by omega) a2 (fun z => (hs z).go he hw a3 hp1)
      refine ⟨row', g', b1, a3.tr b2, hp1.tr b3, fun z => ?_, fun z => ?_, ?_⟩
      · intro r q u bb post hr kk
        refine ez_go ez_h4 3 (pc' := bif decide ((nI (e)) ≤ (nI (i))) then 22 else 9) (L' := [some (.ref 2), some (.int (nI (b))), some (.int (nI (e))), some (.int (nI (i)))]) (st' := []) (w' := cz_w r q u bb) rfl ?_
        refine ez_ifF (zt_nle (a := e) (b := i) (by omega) (by omega)) ?_
        refine ez_go ez_h4 3 (pc' := 12) (L' := [some (.ref 2), some (.int (nI (b))), some (.int (nI (e))), some (.int (nI (i)))]) (st' := [.int (nI (b)), .int (nI (i)), .ref 2]) (w' := cz_w r q u bb) rfl ?_
        refine ez_cl ez_h4 rfl rfl ?_
        refine a5 b (by omega) (fun _ => rfl) (fun y => by rw [z] at y; cases y) _ q u bb _ hr (fun r9 hr9 => ?_)
        refine ez_go ez_h4 1 (pc' := 16) (L' := [some (.ref 2), some (.int (nI (b))), some (.int (nI (e))), some (.int (nI (i)))]) (st' := []) (w' := cz_w r9 q u bb) rfl ?_
        refine ez_inc ez_h4 rfl rfl (v := nI (i + 1)) (zi_1 _) rfl ?_
        refine ez_go ez_h4 1 (pc' := 4) (L' := [some (.ref 2), some (.int (nI (b))), some (.int (nI (e))), some (.int (nI (i + 1)))]) (st' := []) (w' := cz_w r9 q u bb) rfl ?_
        exact b4 z _ q u bb post hr9 kk
      · intro r q u bb post hr kk
        have hs1 := (hs z).1
        refine ez_go ez_h5 3 (pc' := bif decide ((nI (e)) ≤ (nI (i))) then 22 else 9) (L' := [some (.ref 2), some (.int (nI (b))), some (.int (nI (e))), some (.int (nI (i)))]) (st' := []) (w' := cz_w r q u bb) rfl ?_
        refine ez_ifF (zt_nle (a := e) (b := i) (by omega) (by omega)) ?_
        refine ez_go ez_h5 3 (pc' := 12) (L' := [some (.ref 2), some (.int (nI (b))), some (.int (nI (e))), some (.int (nI (i)))]) (st' := [.int (nI (0)), .int (nI (i)), .ref 2]) (w' := cz_w r q u bb) rfl ?_
        refine ez_cl ez_h5 rfl rfl ?_
        refine a5 0 (by omega) (fun y => by rw [z] at y; cases y) (fun _ => by omega) _ q u bb _ hr (fun r9 hr9 => ?_)
        refine ez_go ez_h5 1 (pc' := 16) (L' := [some (.ref 2), some (.int (nI (b))), some (.int (nI (e))), some (.int (nI (i)))]) (st' := []) (w' := cz_w r9 q u bb) rfl ?_
        refine ez_inc ez_h5 rfl rfl (v := nI (i + 1)) (zi_1 _) rfl ?_
        refine ez_go ez_h5 1 (pc' := 4) (L' := [some (.ref 2), some (.int (nI (b))), some (.int (nI (e))), some (.int (nI (i + 1)))]) (st' := []) (w' := cz_w r9 q u bb) rfl ?_
        exact b5 z _ q u bb post hr9 kk
      · intro A Q U T post hA kk
        refine ez_go ez_h76 3 (pc' := bif decide ((nI (e)) ≤ (nI (i))) then 144 else 14) (L' := [some (.ref 0), some (.int (nI (b))), some (.int (nI (e))), some (.int (nI (bif gd then 1 else 0))), some (.int (nI (0))), some (.int (nI (S))), some (.int (nI (i))), none, none, none]) (st' := []) (w' := mz_w A Q U T) rfl ?_
        refine ez_ifF (zt_nle (a := e) (b := i) (by omega) (by omega)) ?_
        refine ez_go ez_h76 2 (pc' := bif decide ((nI (0)) = (nI 0)) then 28 else 19) (L' := [some (.ref 0), some (.int (nI (b))), some (.int (nI (e))), some (.int (nI (bif gd then 1 else 0))), some (.int (nI (0))), some (.int (nI (S))), some (.int (nI (i))), none, none, none]) (st' := []) (w' := mz_w A Q U T) rfl ?_
        refine ez_ifT (zt_eq (by omega)) ?_
        refine a6 b e S (nI 0) (fun _ => rfl) _ Q U T post hA (fun A9 hA9 => ?_)
        refine ez_inc ez_h76 rfl rfl (v := nI (i + 1)) (zi_1 _) rfl ?_
        refine ez_go ez_h76 1 (pc' := 8) (L' := [some (.ref 0), some (.int (nI (b))), some (.int (nI (e))), some (.int (nI (bif gd then 1 else 0))), some (.int (nI (0))), some (.int (nI (S + d))), some (.int (nI (i + 1))), none, none, none]) (st' := []) (w' := mz_w A9 Q U T) rfl ?_
        exact b6 _ Q U T post hA9 kk
/-- INSERTING and UNGUARDED in b .. e -/
theorem zi_all {E : ze_T} (hE : ze_ok E) (gd : Bool) {b e : Nat} (he : e ≤ ze_n E) (hb : b ≤ 600) {row : Nat → Nat} {g : zs_G} (hw : zr_ok E row g) (hs : gd = false → zs_S E row g b e) :
    ∃ (row' : Nat → Nat) (g' : zs_G), zr_ok E row' g' ∧ zg_le E g g' ∧ zp_in row row' b e ∧
      (gd = true → cr_M E 4 [.ref 2, .int (nI b), .int (nI e)] row g none row' g') ∧ (gd = false → cr_M E 5 [.ref 2, .int (nI b), .int (nI e)] row g none row' g') ∧ mr_M E 76 [.ref 0, .int (nI b), .int (nI e), .int (nI (bif gd then 1 else 0)), .int (nI 0)] row g (some (.int (zs_z true))) row' g' := by
  have hn := hE.1
  obtain ⟨row', g', b1, b2, b3, b4, b5, b6⟩ := zi_loop (b := b) hE gd he (e - (b + 1)) (b + 1) 0 row g (by omega) (by omega) (by omega) hw hs
  refine ⟨row', g', b1, b2, b3, fun z => ?_, fun z => ?_, ?_⟩
  · refine cr_H.m (L := [some (.ref 2), some (.int (nI (b))), some (.int (nI (e))), none]) (fun r q u bb post hr kk => ?_) rfl rfl rfl
    refine ez_go ez_h4 3 (pc' := 3) (L' := [some (.ref 2), some (.int (nI (b))), some (.int (nI (e))), none]) (st' := [.int ((nI (b)) + (nI (1)))]) (w' := cz_w r q u bb) rfl ?_
    refine ez_top (y := nI (b + 1)) (nI_add _ _) ?_
    refine ez_go ez_h4 1 (pc' := 4) (L' := [some (.ref 2), some (.int (nI (b))), some (.int (nI (e))), some (.int (nI (b + 1)))]) (st' := []) (w' := cz_w r q u bb) rfl ?_
    exact b4 z _ q u bb post hr kk
  · refine cr_H.m (L := [some (.ref 2), some (.int (nI (b))), some (.int (nI (e))), none]) (fun r q u bb post hr kk => ?_) rfl rfl rfl
    refine ez_go ez_h5 3 (pc' := 3) (L' := [some (.ref 2), some (.int (nI (b))), some (.int (nI (e))), none]) (st' := [.int ((nI (b)) + (nI (1)))]) (w' := cz_w r q u bb) rfl ?_
    refine ez_top (y := nI (b + 1)) (nI_add _ _) ?_
    refine ez_go ez_h5 1 (pc' := 4) (L' := [some (.ref 2), some (.int (nI (b))), some (.int (nI (e))), some (.int (nI (b + 1)))]) (st' := []) (w' := cz_w r q u bb) rfl ?_
    exact b5 z _ q u bb post hr kk
  · refine mr_H.m (L := [some (.ref 0), some (.int (nI (b))), some (.int (nI (e))), some (.int (nI (bif gd then 1 else 0))), some (.int (nI (0))), none, none, none, none, none]) (fun A Q U T post hA kk => ?_) rfl rfl rfl
    refine ez_go ez_h76 5 (pc' := 6) (L' := [some (.ref 0), some (.int (nI (b))), some (.int (nI (e))), some (.int (nI (bif gd then 1 else 0))), some (.int (nI (0))), some (.int (nI (0))), none, none, none, none]) (st' := [.int ((nI (b)) + (nI (1)))]) (w' := mz_w A Q U T) rfl ?_
    refine ez_top (y := nI (b + 1)) (nI_add _ _) ?_
    refine ez_go ez_h76 1 (pc' := 8) (L' := [some (.ref 0), some (.int (nI (b))), some (.int (nI (e))), some (.int (nI (bif gd then 1 else 0))), some (.int (nI (0))), some (.int (nI (0))), some (.int (nI (b + 1))), none, none, none]) (st' := []) (w' := mz_w A Q U T) rfl ?_
    exact b6 _ Q U T post hA kk
theorem zi_ploop {E : ze_T} (hE : ze_ok E) {b e : Nat} (he : e ≤ ze_n E) : ∀ (m i S : Nat) (row : Nat → Nat) (g : zs_G), e ≤ i + m → b < i → i ≤ 601 → S < 100000 → zr_ok E row g →
    ∃ (row' : Nat → Nat) (g' : zs_G) (res : Bool), zr_ok E row' g' ∧ zg_le E g g' ∧ zp_in row row' b e ∧
      cr_H E 6 7 [some (.ref 2), some (.int (nI (b))), some (.int (nI (e))), some (.int (nI (S))), some (.int (nI (i)))] row g (some (.int (zs_z res))) row' g' ∧ mr_H E 76 8 [some (.ref 0), some (.int (nI (b))), some (.int (nI (e))), some (.int (nI (1))), some (.int (nI (1))), some (.int (nI (S))), some (.int (nI (i))), none, none, none] row g (some (.int (zs_z res))) row' g' := by
  have hn := hE.1
  intro m
  induction m with
  | zero =>
    intro i S row g h1 h2 h3 hS hw
    refine ⟨row, g, true, hw, zg_le.rf g, zp_in.rf _ _ _, ?_, ?_⟩
    · intro r q u bb post hr kk
      refine ez_go ez_h6 3 (pc' := bif decide ((nI (e)) ≤ (nI (i))) then 37 else 13) (L' := [some (.ref 2), some (.int (nI (b))), some (.int (nI (e))), some (.int (nI (S))), some (.int (nI (i)))]) (st' := []) (w' := cz_w r q u bb) rfl ?_
      refine ez_ifT (zt_le (a := e) (b := i) (by omega) (by omega)) ?_
      refine ez_go ez_h6 1 (pc' := 38) (L' := [some (.ref 2), some (.int (nI (b))), some (.int (nI (e))), some (.int (nI (S))), some (.int (nI (i)))]) (st' := [.int (nI (1))]) (w' := cz_w r q u bb) rfl ?_
      exact ez_zret rfl ez_h6 rfl rfl (zz_01 true) (kk _ hr)
    · intro A Q U T post hA kk
      refine ez_go ez_h76 3 (pc' := bif decide ((nI (e)) ≤ (nI (i))) then 144 else 14) (L' := [some (.ref 0), some (.int (nI (b))), some (.int (nI (e))), some (.int (nI (1))), some (.int (nI (1))), some (.int (nI (S))), some (.int (nI (i))), none, none, none]) (st' := []) (w' := mz_w A Q U T) rfl ?_
      refine ez_ifT (zt_le (a := e) (b := i) (by omega) (by omega)) ?_
      refine ez_go ez_h76 1 (pc' := 145) (L' := [some (.ref 0), some (.int (nI (b))), some (.int (nI (e))), some (.int (nI (1))), some (.int (nI (1))), some (.int (nI (S))), some (.int (nI (i))), none, none, none]) (st' := [.int (nI (1))]) (w' := mz_w A Q U T) rfl ?_
      exact ez_zret rfl ez_h76 rfl rfl (zz_01 true) (kk _ hA)
  | succ m ih =>
    intro i S row g h1 h2 h3 hS hw
    by_cases hie : e ≤ i
    · refine ⟨row, g, true, hw, zg_le.rf g, zp_in.rf _ _ _, ?_, ?_⟩
      · intro r q u bb post hr kk
        refine ez_go ez_h6 3 (pc' := bif decide ((nI (e)) ≤ (nI (i))) then 37 else 13) (L' := [some (.ref 2), some (.int (nI (b))), some (.int (nI (e))), some (.int (nI (S))), some (.int (nI (i)))]) (st' := []) (w' := cz_w r q u bb) rfl ?_
        refine ez_ifT (zt_le (a := e) (b := i) (by omega) (by omega)) ?_
        refine ez_go ez_h6 1 (pc' := 38) (L' := [some (.ref 2), some (.int (nI (b))), some (.int (nI (e))), some (.int (nI (S))), some (.int (nI (i)))]) (st' := [.int (nI (1))]) (w' := cz_w r q u bb) rfl ?_
        exact ez_zret rfl ez_h6 rfl rfl (zz_01 true) (kk _ hr)
      · intro A Q U T post hA kk
        refine ez_go ez_h76 3 (pc' := bif decide ((nI (e)) ≤ (nI (i))) then 144 else 14) (L' := [some (.ref 0), some (.int (nI (b))), some (.int (nI (e))), some (.int (nI (1))), some (.int (nI (1))), some (.int (nI (S))), some (.int (nI (i))), none, none, none]) (st' := []) (w' := mz_w A Q U T) rfl ?_
        refine ez_ifT (zt_le (a := e) (b := i) (by omega) (by omega)) ?_
        refine ez_go ez_h76 1 (pc' := 145) (L' := [some (.ref 0), some (.int (nI (b))), some (.int (nI (e))), some (.int (nI (1))), some (.int (nI (1))), some (.int (nI (S))), some (.int (nI (i))), none, none, none]) (st' := [.int (nI (1))]) (w' := mz_w A Q U T) rfl ?_
        exact ez_zret rfl ez_h76 rfl rfl (zz_01 true) (kk _ hA)
    · by_cases h8 : 8 < S
      · refine ⟨row, g, false, hw, zg_le.rf g, zp_in.rf _ _ _, ?_, ?_⟩
        · intro r q u bb post hr kk
          refine ez_go ez_h6 3 (pc' := bif decide ((nI (e)) ≤ (nI (i))) then 37 else 13) (L' := [some (.ref 2), some (.int (nI (b))), some (.int (nI (e))), some (.int (nI (S))), some (.int (nI (i)))]) (st' := []) (w' := cz_w r q u bb) rfl ?_
          refine ez_ifF (zt_nle (a := e) (b := i) (by omega) (by omega)) ?_
          refine ez_go ez_h6 3 (pc' := bif decide ((nI (S)) ≤ (nI (8))) then 21 else 19) (L' := [some (.ref 2), some (.int (nI (b))), some (.int (nI (e))), some (.int (nI (S))), some (.int (nI (i)))]) (st' := []) (w' := cz_w r q u bb) rfl ?_
          refine ez_ifF (zt_nle (a := S) (b := 8) (by omega) (by omega)) ?_
          refine ez_go ez_h6 1 (pc' := 20) (L' := [some (.ref 2), some (.int (nI (b))), some (.int (nI (e))), some (.int (nI (S))), some (.int (nI (i)))]) (st' := [.int (nI (0))]) (w' := cz_w r q u bb) rfl ?_
          exact ez_zret rfl ez_h6 rfl rfl (zz_01 false) (kk _ hr)
        · intro A Q U T post hA kk
          refine ez_go ez_h76 3 (pc' := bif decide ((nI (e)) ≤ (nI (i))) then 144 else 14) (L' := [some (.ref 0), some (.int (nI (b))), some (.int (nI (e))), some (.int (nI (1))), some (.int (nI (1))), some (.int (nI (S))), some (.int (nI (i))), none, none, none]) (st' := []) (w' := mz_w A Q U T) rfl ?_
          refine ez_ifF (zt_nle (a := e) (b := i) (by omega) (by omega)) ?_
          refine ez_go ez_h76 2 (pc' := bif decide ((nI (1)) = (nI 0)) then 28 else 19) (L' := [some (.ref 0), some (.int (nI (b))), some (.int (nI (e))), some (.int (nI (1))), some (.int (nI (1))), some (.int (nI (S))), some (.int (nI (i))), none, none, none]) (st' := []) (w' := mz_w A Q U T) rfl ?_
          refine ez_ifF (zt_ne (by omega) (by omega) (by omega)) ?_
          refine ez_go ez_h76 3 (pc' := bif decide ((nI (S)) ≤ (nI (8))) then 28 else 26) (L' := [some (.ref 0), some (.int (nI (b))), some (.int (nI (e))), some (.int (nI (1))), some (.int (nI (1))), some (.int (nI (S))), some (.int (nI (i))), none, none, none]) (st' := []) (w' := mz_w A Q U T) rfl ?_
          refine ez_ifF (zt_nle (a := S) (b := 8) (by omega) (by omega)) ?_
          refine ez_go ez_h76 1 (pc' := 27) (L' := [some (.ref 0), some (.int (nI (b))), some (.int (nI (e))), some (.int (nI (1))), some (.int (nI (1))), some (.int (nI (S))), some (.int (nI (i))), none, none, none]) (st' := [.int (nI (0))]) (w' := mz_w A Q U T) rfl ?_
          exact ez_zret rfl ez_h76 rfl rfl (zz_01 false) (kk _ hA)
      · obtain ⟨row1, g1, d, a1, a2, a3, a4, a5, a6⟩ := zi_one hE true (lo := b) (i := i) h2 (by omega) hw (fun z => by cases z)
        have hp1 : zp_in row row1 b e := a4.wide (Nat.le_refl _) (by omega)
        obtain ⟨row', g', res, b1, b2, b3, b4, b5⟩ := ih (i + 1) (S + d) row1 g1 (by omega) (by omega) (by omega) (by omega) a2
        refine ⟨row', g', res, b1, a3.tr b2, hp1.tr b3, ?_, ?_⟩
        · intro r q u bb post hr kk
          refine ez_go ez_h6 3 (pc' := bif decide ((nI (e)) ≤ (nI (i))) then 37 else 13) (L' := [some (.ref 2), some (.int (nI (b))), some (.int (nI (e))), some (.int (nI (S))), some (.int (nI (i)))]) (st' := []) (w' := cz_w r q u bb) rfl ?_
          refine ez_ifF (zt_nle (a := e) (b := i) (by omega) (by omega)) ?_
          refine ez_go ez_h6 3 (pc' := bif decide ((nI (S)) ≤ (nI (8))) then 21 else 19) (L' := [some (.ref 2), some (.int (nI (b))), some (.int (nI (e))), some (.int (nI (S))), some (.int (nI (i)))]) (st' := []) (w' := cz_w r q u bb) rfl ?_
          refine ez_ifT (zt_le (a := S) (b := 8) (by omega) (by omega)) ?_
          refine ez_go ez_h6 4 (pc' := 26) (L' := [some (.ref 2), some (.int (nI (b))), some (.int (nI (e))), some (.int (nI (S))), some (.int (nI (i)))]) (st' := [.int (nI (b)), .int (nI (i)), .ref 2, .int (nI (S))]) (w' := cz_w r q u bb) rfl ?_
          refine ez_cl ez_h6 rfl rfl ?_
          refine a5 b (by omega) (fun _ => rfl) (fun y => by cases y) _ q u bb _ hr (fun r9 hr9 => ?_)
          refine ez_go ez_h6 1 (pc' := 30) (L' := [some (.ref 2), some (.int (nI (b))), some (.int (nI (e))), some (.int (nI (S))), some (.int (nI (i)))]) (st' := [.int ((nI (S)) + (nI (d)))]) (w' := cz_w r9 q u bb) rfl ?_
          refine ez_top (y := nI (S + d)) (nI_add _ _) ?_
          refine ez_go ez_h6 1 (pc' := 31) (L' := [some (.ref 2), some (.int (nI (b))), some (.int (nI (e))), some (.int (nI (S + d))), some (.int (nI (i)))]) (st' := []) (w' := cz_w r9 q u bb) rfl ?_
          refine ez_inc ez_h6 rfl rfl (v := nI (i + 1)) (zi_1 _) rfl ?_
          refine ez_go ez_h6 1 (pc' := 7) (L' := [some (.ref 2), some (.int (nI (b))), some (.int (nI (e))), some (.int (nI (S + d))), some (.int (nI (i + 1)))]) (st' := []) (w' := cz_w r9 q u bb) rfl ?_
          exact b4 _ q u bb post hr9 kk
        · intro A Q U T post hA kk
          refine ez_go ez_h76 3 (pc' := bif decide ((nI (e)) ≤ (nI (i))) then 144 else 14) (L' := [some (.ref 0), some (.int (nI (b))), some (.int (nI (e))), some (.int (nI (1))), some (.int (nI (1))), some (.int (nI (S))), some (.int (nI (i))), none, none, none]) (st' := []) (w' := mz_w A Q U T) rfl ?_
          refine ez_ifF (zt_nle (a := e) (b := i) (by omega) (by omega)) ?_
          refine ez_go ez_h76 2 (pc' := bif decide ((nI (1)) = (nI 0)) then 28 else 19) (L' := [some (.ref 0), some (.int (nI (b))), some (.int (nI (e))), some (.int (nI (1))), some (.int (nI (1))), some (.int (nI (S))), some (.int (nI (i))), none, none, none]) (st' := []) (w' := mz_w A Q U T) rfl ?_
          refine ez_ifF (zt_ne (by omega) (by omega) (by omega)) ?_
          refine ez_go ez_h76 3 (pc' := bif decide ((nI (S)) ≤ (nI (8))) then 28 else 26) (L' := [some (.ref 0), some (.int (nI (b))), some (.int (nI (e))), some (.int (nI (1))), some (.int (nI (1))), some (.int (nI (S))), some (.int (nI (i))), none, none, none]) (st' := []) (w' := mz_w A Q U T) rfl ?_
          refine ez_ifT (zt_le (a := S) (b := 8) (by omega) (by omega)) ?_
          refine a6 b e S (nI 1) (fun _ => rfl) _ Q U T post hA (fun A9 hA9 => ?_)
          refine ez_inc ez_h76 rfl rfl (v := nI (i + 1)) (zi_1 _) rfl ?_
          refine ez_go ez_h76 1 (pc' := 8) (L' := [some (.ref 0), some (.int (nI (b))), some (.int (nI (e))), some (.int (nI (1))), some (.int (nI (1))), some (.int (nI (S + d))), some (.int (nI (i + 1))), none, none, none]) (st' := []) (w' := mz_w A9 Q U T) rfl ?_
          exact b5 _ Q U T post hA9 kk
/-- PARTLY in b .. e: does it come to the end? -/
theorem zi_partly {E : ze_T} (hE : ze_ok E) {b e : Nat} (he : e ≤ ze_n E) (hb : b ≤ 600) {row : Nat → Nat} {g : zs_G} (hw : zr_ok E row g) :
    ∃ (row' : Nat → Nat) (g' : zs_G) (res : Bool), zr_ok E row' g' ∧ zg_le E g g' ∧ zp_in row row' b e ∧
      cr_M E 6 [.ref 2, .int (nI b), .int (nI e)] row g (some (.int (zs_z res))) row' g' ∧ mr_M E 76 [.ref 0, .int (nI b), .int (nI e), .int (nI 1), .int (nI 1)] row g (some (.int (zs_z res))) row' g' := by
  have hn := hE.1
  obtain ⟨row', g', res, b1, b2, b3, b4, b5⟩ := zi_ploop (b := b) hE he (e - (b + 1)) (b + 1) 0 row g (by omega) (by omega) (by omega) (by omega) hw
  refine ⟨row', g', res, b1, b2, b3, ?_, ?_⟩
  · refine cr_H.m (L := [some (.ref 2), some (.int (nI (b))), some (.int (nI (e))), none, none]) (fun r q u bb post hr kk => ?_) rfl rfl rfl
    refine ez_go ez_h6 5 (pc' := 5) (L' := [some (.ref 2), some (.int (nI (b))), some (.int (nI (e))), some (.int (nI (0))), none]) (st' := [.int ((nI (b)) + (nI (1)))]) (w' := cz_w r q u bb) rfl ?_
    refine ez_top (y := nI (b + 1)) (nI_add _ _) ?_
    refine ez_go ez_h6 1 (pc' := 7) (L' := [some (.ref 2), some (.int (nI (b))), some (.int (nI (e))), some (.int (nI (0))), some (.int (nI (b + 1)))]) (st' := []) (w' := cz_w r q u bb) rfl ?_
    exact b4 _ q u bb post hr kk
  · refine mr_H.m (L := [some (.ref 0), some (.int (nI (b))), some (.int (nI (e))), some (.int (nI (1))), some (.int (nI (1))), none, none, none, none, none]) (fun A Q U T post hA kk => ?_) rfl rfl rfl
    refine ez_go ez_h76 5 (pc' := 6) (L' := [some (.ref 0), some (.int (nI (b))), some (.int (nI (e))), some (.int (nI (1))), some (.int (nI (1))), some (.int (nI (0))), none, none, none, none]) (st' := [.int ((nI (b)) + (nI (1)))]) (w' := mz_w A Q U T) rfl ?_
    refine ez_top (y := nI (b + 1)) (nI_add _ _) ?_
    refine ez_go ez_h76 1 (pc' := 8) (L' := [some (.ref 0), some (.int (nI (b))), some (.int (nI (e))), some (.int (nI (1))), some (.int (nI (1))), some (.int (nI (0))), some (.int (nI (b + 1))), none, none, none]) (st' := []) (w' := mz_w A Q U T) rfl ?_
    exact b5 _ Q U T post hA kk
