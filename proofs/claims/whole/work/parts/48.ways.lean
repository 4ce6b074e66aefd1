/-! ===== the five ways, the class's and the reference's ===== -/
def ez_is (j : Nat) (As : List Value) (w : ez_W) (a : Option Value) (v : ez_W) : Prop := ez_m j As w (fun a' v' => a' = a ∧ v' = v)
theorem ez_m.is {j : Nat} {As : List Value} {w : ez_W} {post : Option Value → ez_W → Prop} (h : ez_m j As w post) : ∃ (a : Option Value) (v : ez_W), post a v ∧ ez_is j As w a v := by
  obtain ⟨N, h1, h2, n, r, w1, h3, h4⟩ := h
  exact ⟨r, w1, h4, N, h1, h2, n, r, w1, h3, rfl, rfl⟩
def zw_sz (n : Nat) (w : ez_W) : Prop := ez_is 26 [.ref 1] w (some (.int (nI n))) w
/-- the calls of stepDown with one gap -/
def zw_st (n gp : Nat) (q : cz_Qk) (u : cz_Rn) (b : cz_Bn) : Nat → Nat → cz_Row → cz_Row → Prop
  | 0, i, r, r' => zw_sz n (cz_w r q u b) ∧ n ≤ i ∧ r' = r
  | m + 1, i, r, r' => zw_sz n (cz_w r q u b) ∧ ((n ≤ i ∧ r' = r) ∨ (i < n ∧ ∃ r1, ez_is 57 [.ref 6, .int (nI i), .int (nI gp)] (cz_w r q u b) none (cz_w r1 q u b) ∧ zw_st n gp q u b m (i + 1) r1 r'))
def zw_7 (n : Nat) (q : cz_Qk) (u : cz_Rn) (b : cz_Bn) (r r' : cz_Row) : Prop := ∃ V : Nat → cz_Row, V 0 = r ∧ V 7 = r' ∧ ∀ k gp, ([301, 132, 57, 23, 10, 4, 1] : List Nat)[k]? = some gp → zw_st n gp q u b 600 gp (V k) (V (k + 1))
def zw_A (w : Nat) (wc wc' : ez_W) : Prop := match w with
  | 0 => ez_is 3 [.ref 2] wc none wc'
  | 1 => ez_is 0 [.ref 3] wc none wc'
  | 2 => ez_is 10 [.ref 4] wc none wc'
  | 3 => ez_is 44 [.ref 5] wc none wc'
  | _ => ∃ (n : Nat) (r r' : cz_Row) (q : cz_Qk) (u : cz_Rn) (b : cz_Bn), n ≤ 600 ∧ wc = cz_w r q u b ∧ wc' = cz_w r' q u b ∧ zw_7 n q u b r r'
theorem zw_sz.of {E : ze_T} {row : Nat → Nat} {g : zs_G} {r : cz_Row} (hr : cr_R E row g r) (q : cz_Qk) (u : cz_Rn) (b : cz_Bn) : zw_sz (ze_n E) (cz_w r q u b) := cr_size hr q u b ⟨rfl, rfl⟩
theorem zw_st.of {E : ze_T} {gp : Nat} {q : cz_Qk} {u : cz_Rn} {b : cz_Bn} : ∀ (m i : Nat) {row row' : Nat → Nat} {g g' : zs_G}, zt_P E gp m i row g row' g' → ∀ r : cz_Row, cr_R E row g r → ∃ r' : cz_Row, cr_R E row' g' r' ∧ zw_st (ze_n E) gp q u b m i r r'
  | 0, i, row, row', g, g', h, r, hr => by
    obtain ⟨h1, rfl, rfl⟩ := h
    exact ⟨r, hr, zw_sz.of hr q u b, h1, rfl⟩
  | m + 1, i, row, row', g, g', h, r, hr => by
    rcases h with ⟨h1, rfl, rfl⟩ | ⟨h1, row1, g1, h2, h3⟩
    · exact ⟨r, hr, zw_sz.of hr q u b, Or.inl ⟨h1, rfl⟩⟩
    · obtain ⟨a, v, ⟨rfl, r1, hr1, rfl⟩, h4⟩ := (h2 r q u b (fun a v => a = none ∧ ∃ r1 : cz_Row, cr_R E row1 g1 r1 ∧ v = cz_w r1 q u b) hr (fun r1 hr1 => ⟨rfl, r1, hr1, rfl⟩)).is
      obtain ⟨r', hr', h5⟩ := zw_st.of m (i + 1) h3 r1 hr1
      exact ⟨r', hr', zw_sz.of hr q u b, Or.inr ⟨h1, _, h4, h5⟩⟩
def zw_M (E : ze_T) (w : Nat) (row : Nat → Nat) (g : zs_G) (row' : Nat → Nat) (g' : zs_G) (f p P M P' M' : Int64) : Prop := ∀ (A : mz_A) (Q : mz_Q) (U : mz_U) (T : mz_T) (post : Option Value → ez_W → Prop), mr_R E row g A → U.1 = P → U.2.1 = M →
  (∀ (A' : mz_A) (Q' : mz_Q) (U' : mz_U), mr_R E row' g' A' → Q'.1 = Q.1 + f → Q'.2.1 = Q.2.1 + f → Q'.2.2.1 = Q.2.2.1 + p → U'.1 = P' → U'.2.1 = M' → ez_E 97 114 [some (.ref 0), none, none] [] (mz_w A' Q' U' T) post) → ez_E 97 33 [some (.ref 0), some (.int (nI (w))), none] [] (mz_w A Q U T) post
def zw_C (E : ze_T) (w : Nat) (row : Nat → Nat) (g : zs_G) (row' : Nat → Nat) (g' : zs_G) (f p P M P' M' : Int64) : Prop := ∀ (r : cz_Row) (q : cz_Qk) (u : cz_Rn) (b : cz_Bn), cr_R E row g r → u.2.1 = P → u.2.2.1 = M →
  ∃ (r' : cz_Row) (q' : cz_Qk) (u' : cz_Rn), cr_R E row' g' r' ∧ q'.2.2.2.2.2.2.2.1 = q.2.2.2.2.2.2.2.1 + f ∧ q'.2.2.2.2.2.2.2.2.1 = q.2.2.2.2.2.2.2.2.1 + p ∧ u'.2.1 = P' ∧ u'.2.2.1 = M' ∧ zw_A w (cz_w r q u b) (cz_w r' q' u' b)
def zw_ok (E : ze_T) (w : Nat) (row : Nat → Nat) (g : zs_G) (P M : Int64) : Prop := ∃ (row' : Nat → Nat) (g' : zs_G) (f p P' M' : Int64), zr_ok E row' g' ∧ zw_C E w row g row' g' f p P M P' M' ∧ zw_M E w row g row' g' f p P M P' M'
theorem zw_Cs {E : ze_T} {w j a : Nat} {row row' : Nat → Nat} {g g' : zs_G} (hA : ∀ wc wc', ez_is j [.ref a] wc none wc' → zw_A w wc wc') (h : cr_M E j [.ref a] row g none row' g') (P M : Int64) : zw_C E w row g row' g' 0 0 P M P M := fun r q u b hr e1 e2 => by
  obtain ⟨x, v, ⟨rfl, r1, hr1, rfl⟩, h4⟩ := (h r q u b (fun a v => a = none ∧ ∃ r1 : cz_Row, cr_R E row' g' r1 ∧ v = cz_w r1 q u b) hr (fun r1 hr1 => ⟨rfl, r1, hr1, rfl⟩)).is
  exact ⟨r1, q, u, hr1, (Int64.add_zero _).symm, (Int64.add_zero _).symm, e1, e2, hA _ _ h4⟩
theorem zw_0 {E : ze_T} (hE : ze_ok E) {row : Nat → Nat} {g : zs_G} (hw : zr_ok E row g) (P M : Int64) : zw_ok E 0 row g P M := by
  have hn := hE.1
  obtain ⟨row1, g1, o1, l1, p1, cT, cF, mM⟩ := zi_all hE true (b := 0) (e := ze_n E) (Nat.le_refl _) (by omega) hw (fun z => by cases z)
  refine ⟨row1, g1, 0, 0, P, M, o1, zw_Cs (w := 0) (j := 3) (a := 2) (fun _ _ h => h) ?_ P M, ?_⟩
  · refine cr_H.m (L := [some (.ref 2)]) (fun r q u bb post hr kk => ?_) rfl rfl rfl
    refine ez_go ez_h3 4 (pc' := 6) (L' := [some (.ref 2)]) (st' := [.ref 1, .int (nI (0)), .ref 2]) (w' := cz_w r q u bb) rfl ?_
    refine ez_cl ez_h3 rfl rfl ?_
    refine cr_size hr q u bb ?_
    refine ez_cl ez_h3 rfl rfl ?_
    refine (cT rfl) _ q u bb _ hr (fun r108 hr108 => ?_)
    exact ez_vret rfl ez_h3 rfl rfl (kk _ hr108)
  · intro A Q U T post hA e1 e2 kk
    refine ez_go ez_h97 2 (pc' := bif decide (¬ (nI (0)) = (nI 0)) then 52 else 37) (L' := [some (.ref 0), some (.int (nI (0))), none]) (st' := []) (w' := mz_w A Q U T) rfl ?_
    refine ez_ifF (fun z => z (zt_eq (by omega))) ?_
    refine ez_go ez_h97 4 (pc' := 43) (L' := [some (.ref 0), some (.int (nI (0))), none]) (st' := [.int (A.1), .int (nI (0)), .ref 0]) (w' := mz_w A Q U T) rfl ?_
    refine ez_top (y := nI (ze_n E)) (hA.1) ?_
    refine ez_go ez_h97 2 (pc' := 45) (L' := [some (.ref 0), some (.int (nI (0))), none]) (st' := [.int (nI (0)), .int (nI (1)), .int (nI (ze_n E)), .int (nI (0)), .ref 0]) (w' := mz_w A Q U T) rfl ?_
    refine ez_cl ez_h97 rfl rfl ?_
    refine mM _ Q U T _ hA (fun A109 hA109 => ?_)
    refine ez_go ez_h97 2 (pc' := 114) (L' := [some (.ref 0), some (.int (nI (0))), some (.int (zs_z true))]) (st' := []) (w' := mz_w A109 Q U T) rfl ?_
    exact ez_E.le (ez_lc (ez_ln (ez_ln ez_l0))) (kk _ _ _ hA109 (Int64.add_zero _).symm (Int64.add_zero _).symm (Int64.add_zero _).symm e1 e2)
theorem zw_1 {E : ze_T} (hE : ze_ok E) {row : Nat → Nat} {g : zs_G} (hw : zr_ok E row g) (P M : Int64) : zw_ok E 1 row g P M := by
  have hn := hE.1
  obtain ⟨row1, g1, o1, l1, p1, c1, m1⟩ := zh_heap hE (b := 0) (e := ze_n E) (by omega) (Nat.le_refl _) hw
  refine ⟨row1, g1, 0, 0, P, M, o1, zw_Cs (w := 1) (j := 0) (a := 3) (fun _ _ h => h) ?_ P M, ?_⟩
  · refine cr_H.m (L := [some (.ref 3)]) (fun r q u bb post hr kk => ?_) rfl rfl rfl
    refine ez_go ez_h0 4 (pc' := 6) (L' := [some (.ref 3)]) (st' := [.ref 1, .int (nI (0)), .ref 3]) (w' := cz_w r q u bb) rfl ?_
    refine ez_cl ez_h0 rfl rfl ?_
    refine cr_size hr q u bb ?_
    refine ez_cl ez_h0 rfl rfl ?_
    refine c1 _ q u bb _ hr (fun r110 hr110 => ?_)
    exact ez_vret rfl ez_h0 rfl rfl (kk _ hr110)
  · intro A Q U T post hA e1 e2 kk
    refine ez_go ez_h97 2 (pc' := bif decide (¬ (nI (1)) = (nI 0)) then 52 else 37) (L' := [some (.ref 0), some (.int (nI (1))), none]) (st' := []) (w' := mz_w A Q U T) rfl ?_
    refine ez_ifT (zt_ne (by omega) (by omega) (by omega)) ?_
    refine ez_go ez_h97 3 (pc' := bif decide (¬ (nI (1)) = (nI (1))) then 69 else 57) (L' := [some (.ref 0), some (.int (nI (1))), none]) (st' := []) (w' := mz_w A Q U T) rfl ?_
    refine ez_ifF (fun z => z (zt_eq (by omega))) ?_
    refine ez_go ez_h97 4 (pc' := 63) (L' := [some (.ref 0), some (.int (nI (1))), none]) (st' := [.int (A.1), .int (nI (0)), .ref 0]) (w' := mz_w A Q U T) rfl ?_
    refine ez_top (y := nI (ze_n E)) (hA.1) ?_
    refine ez_cl ez_h97 rfl rfl ?_
    refine m1 _ Q U T _ hA (fun A111 hA111 => ?_)
    refine ez_go ez_h97 1 (pc' := 114) (L' := [some (.ref 0), some (.int (nI (1))), none]) (st' := []) (w' := mz_w A111 Q U T) rfl ?_
    exact ez_E.le (ez_lc (ez_ln (ez_lc ez_l0))) (kk _ _ _ hA111 (Int64.add_zero _).symm (Int64.add_zero _).symm (Int64.add_zero _).symm e1 e2)
theorem zw_2 {E : ze_T} (hE : ze_ok E) {row : Nat → Nat} {g : zs_G} (hw : zr_ok E row g) (P M : Int64) : zw_ok E 2 row g P M := by
  have hn := hE.1
  by_cases h2 : ze_n E < 2
  · refine ⟨row, g, 0, 0, P, M, hw, fun r q u b hr e1 e2 => ?_, ?_⟩
    · obtain ⟨x, v, ⟨rfl, q1, g1, g2, rfl⟩, h4⟩ := (zq_none hE h2 hr q u b (post := fun a v => a = none ∧ ∃ q1 : cz_Qk, q1.2.2.2.2.2.2.2.1 = q.2.2.2.2.2.2.2.1 ∧ q1.2.2.2.2.2.2.2.2.1 = q.2.2.2.2.2.2.2.2.1 ∧ v = cz_w r q1 u b) (fun q1 g1 g2 => ⟨rfl, q1, g1, g2, rfl⟩)).is
      exact ⟨r, q1, u, hr, by rw [g1, Int64.add_zero], by rw [g2, Int64.add_zero], e1, e2, h4⟩
    · intro A Q U T post hA e1 e2 kk
      refine ez_go ez_h97 2 (pc' := bif decide (¬ (nI (2)) = (nI 0)) then 52 else 37) (L' := [some (.ref 0), some (.int (nI (2))), none]) (st' := []) (w' := mz_w A Q U T) rfl ?_
      refine ez_ifT (zt_ne (by omega) (by omega) (by omega)) ?_
      refine ez_go ez_h97 3 (pc' := bif decide (¬ (nI (2)) = (nI (1))) then 69 else 57) (L' := [some (.ref 0), some (.int (nI (2))), none]) (st' := []) (w' := mz_w A Q U T) rfl ?_
      refine ez_ifT (zt_ne (by omega) (by omega) (by omega)) ?_
      refine ez_go ez_h97 3 (pc' := bif decide (¬ (nI (2)) = (nI (2))) then 93 else 74) (L' := [some (.ref 0), some (.int (nI (2))), none]) (st' := []) (w' := mz_w A Q U T) rfl ?_
      refine ez_ifF (fun z => z (zt_eq (by omega))) ?_
      refine ez_go ez_h97 2 (pc' := 78) (L' := [some (.ref 0), some (.int (nI (2))), none]) (st' := [.int (A.1)]) (w' := mz_w A Q U T) rfl ?_
      refine ez_top (y := nI (ze_n E)) (hA.1) ?_
      refine ez_go ez_h97 2 (pc' := bif decide ((nI (ze_n E)) ≤ (nI (1))) then 93 else 82) (L' := [some (.ref 0), some (.int (nI (2))), none]) (st' := []) (w' := mz_w A Q U T) rfl ?_
      refine ez_ifT (zt_le (a := ze_n E) (b := 1) (by omega) (by omega)) ?_
      refine ez_go ez_h97 3 (pc' := bif decide (¬ (nI (2)) = (nI (3))) then 105 else 98) (L' := [some (.ref 0), some (.int (nI (2))), none]) (st' := []) (w' := mz_w A Q U T) rfl ?_
      refine ez_ifT (zt_ne (by omega) (by omega) (by omega)) ?_
      refine ez_go ez_h97 3 (pc' := bif decide (¬ (nI (2)) = (nI (4))) then 114 else 110) (L' := [some (.ref 0), some (.int (nI (2))), none]) (st' := []) (w' := mz_w A Q U T) rfl ?_
      refine ez_ifT (zt_ne (by omega) (by omega) (by omega)) ?_
      exact ez_E.le (ez_lc (ez_ln (ez_lc ez_l0))) (kk _ _ _ hA (Int64.add_zero _).symm (Int64.add_zero _).symm (Int64.add_zero _).symm e1 e2)
  · obtain ⟨row1, g1, f, p, o1, hc, hm⟩ := zq_quick hE (by omega) hw
    refine ⟨row1, g1, f, p, P, M, o1, fun r q u b hr e1 e2 => ?_, ?_⟩
    · obtain ⟨x, v, ⟨rfl, r1, q1, hr1, g2, g3, rfl⟩, h4⟩ := (hc r q u b (fun a v => a = none ∧ ∃ (r1 : cz_Row) (q1 : cz_Qk), cr_R E row1 g1 r1 ∧ q1.2.2.2.2.2.2.2.1 = q.2.2.2.2.2.2.2.1 + f ∧ q1.2.2.2.2.2.2.2.2.1 = q.2.2.2.2.2.2.2.2.1 + p ∧ v = cz_w r1 q1 u b) hr (fun r1 q1 hr1 g2 g3 => ⟨rfl, r1, q1, hr1, g2, g3, rfl⟩)).is
      exact ⟨r1, q1, u, hr1, g2, g3, e1, e2, h4⟩
    · intro A Q U T post hA e1 e2 kk
      refine ez_go ez_h97 2 (pc' := bif decide (¬ (nI (2)) = (nI 0)) then 52 else 37) (L' := [some (.ref 0), some (.int (nI (2))), none]) (st' := []) (w' := mz_w A Q U T) rfl ?_
      refine ez_ifT (zt_ne (by omega) (by omega) (by omega)) ?_
      refine ez_go ez_h97 3 (pc' := bif decide (¬ (nI (2)) = (nI (1))) then 69 else 57) (L' := [some (.ref 0), some (.int (nI (2))), none]) (st' := []) (w' := mz_w A Q U T) rfl ?_
      refine ez_ifT (zt_ne (by omega) (by omega) (by omega)) ?_
      refine ez_go ez_h97 3 (pc' := bif decide (¬ (nI (2)) = (nI (2))) then 93 else 74) (L' := [some (.ref 0), some (.int (nI (2))), none]) (st' := []) (w' := mz_w A Q U T) rfl ?_
      refine ez_ifF (fun z => z (zt_eq (by omega))) ?_
      refine ez_go ez_h97 2 (pc' := 78) (L' := [some (.ref 0), some (.int (nI (2))), none]) (st' := [.int (A.1)]) (w' := mz_w A Q U T) rfl ?_
      refine ez_top (y := nI (ze_n E)) (hA.1) ?_
      refine ez_go ez_h97 2 (pc' := bif decide ((nI (ze_n E)) ≤ (nI (1))) then 93 else 82) (L' := [some (.ref 0), some (.int (nI (2))), none]) (st' := []) (w' := mz_w A Q U T) rfl ?_
      refine ez_ifF (zt_nle (a := ze_n E) (b := 1) (by omega) (by omega)) ?_
      refine ez_go ez_h97 3 (pc' := 87) (L' := [some (.ref 0), some (.int (nI (2))), none]) (st' := [.int (A.1), .ref 0]) (w' := mz_w A Q U T) rfl ?_
      refine ez_top (y := nI (ze_n E)) (hA.1) ?_
      refine ez_cl ez_h97 rfl rfl ?_
      refine hm _ Q U T _ hA (fun A1 Q1 hA1 g1 g2 g3 => ?_)
      refine ez_go ez_h97 1 (pc' := 114) (L' := [some (.ref 0), some (.int (nI (2))), none]) (st' := []) (w' := mz_w A1 Q1 U T) rfl ?_
      exact ez_E.le (ez_lc (ez_ln (ez_lc ez_l0))) (kk _ _ _ hA1 g1 g2 g3 e1 e2)
theorem zw_3 {E : ze_T} (hE : ze_ok E) {row : Nat → Nat} {g : zs_G} (hw : zr_ok E row g) (P M : Int64) : zw_ok E 3 row g P M := by
  have hn := hE.1
  obtain ⟨row1, g1, P', M', o1, l1, p1, hc, hm⟩ := zq_runs hE hw P M
  refine ⟨row1, g1, 0, 0, P', M', o1, fun r q u b hr e1 e2 => ?_, ?_⟩
  · obtain ⟨x, v, ⟨rfl, r1, u1, hr1, g2, g3, rfl⟩, h4⟩ := (hc r q u b (fun a v => a = none ∧ ∃ (r1 : cz_Row) (u1 : cz_Rn), cr_R E row1 g1 r1 ∧ u1.2.1 = P' ∧ u1.2.2.1 = M' ∧ v = cz_w r1 q u1 b) hr e1 e2 (fun r1 u1 hr1 g2 g3 => ⟨rfl, r1, u1, hr1, g2, g3, rfl⟩)).is
    exact ⟨r1, q, u1, hr1, (Int64.add_zero _).symm, (Int64.add_zero _).symm, g2, g3, h4⟩
  · intro A Q U T post hA e1 e2 kk
    refine ez_go ez_h97 2 (pc' := bif decide (¬ (nI (3)) = (nI 0)) then 52 else 37) (L' := [some (.ref 0), some (.int (nI (3))), none]) (st' := []) (w' := mz_w A Q U T) rfl ?_
    refine ez_ifT (zt_ne (by omega) (by omega) (by omega)) ?_
    refine ez_go ez_h97 3 (pc' := bif decide (¬ (nI (3)) = (nI (1))) then 69 else 57) (L' := [some (.ref 0), some (.int (nI (3))), none]) (st' := []) (w' := mz_w A Q U T) rfl ?_
    refine ez_ifT (zt_ne (by omega) (by omega) (by omega)) ?_
    refine ez_go ez_h97 3 (pc' := bif decide (¬ (nI (3)) = (nI (2))) then 93 else 74) (L' := [some (.ref 0), some (.int (nI (3))), none]) (st' := []) (w' := mz_w A Q U T) rfl ?_
    refine ez_ifT (zt_ne (by omega) (by omega) (by omega)) ?_
    refine ez_go ez_h97 3 (pc' := bif decide (¬ (nI (3)) = (nI (3))) then 105 else 98) (L' := [some (.ref 0), some (.int (nI (3))), none]) (st' := []) (w' := mz_w A Q U T) rfl ?_
    refine ez_ifF (fun z => z (zt_eq (by omega))) ?_
    refine ez_go ez_h97 1 (pc' := 99) (L' := [some (.ref 0), some (.int (nI (3))), none]) (st' := [.ref 0]) (w' := mz_w A Q U T) rfl ?_
    refine ez_cl ez_h97 rfl rfl ?_
    refine hm _ Q U T _ hA e1 e2 (fun A1 U1 hA1 g2 g3 => ?_)
    refine ez_go ez_h97 1 (pc' := 114) (L' := [some (.ref 0), some (.int (nI (3))), none]) (st' := []) (w' := mz_w A1 Q U1 T) rfl ?_
    exact ez_E.le (ez_lc (ez_ln (ez_lc ez_l0))) (kk _ _ _ hA1 (Int64.add_zero _).symm (Int64.add_zero _).symm (Int64.add_zero _).symm g2 g3)
theorem zw_4 {E : ze_T} (hE : ze_ok E) {row : Nat → Nat} {g : zs_G} (hw : zr_ok E row g) (P M : Int64) : zw_ok E 4 row g P M := by
  have hn := hE.1
  obtain ⟨row1, g1, o1, l1, p1, ⟨R, G, s1, s2, s3, s4, s5⟩, m1⟩ := zt_steps hE hw
  refine ⟨row1, g1, 0, 0, P, M, o1, fun r q u b hr e1 e2 => ?_, ?_⟩
  · have hr0 : cr_R E (R 0) (G 0) r := by rw [s1, s2]; exact hr
    obtain ⟨r1, hr1, t1⟩ := zw_st.of (q := q) (u := u) (b := b) 600 301 (s5 0 301 rfl) r hr0
    obtain ⟨r2, hr2, t2⟩ := zw_st.of (q := q) (u := u) (b := b) 600 132 (s5 1 132 rfl) r1 hr1
    obtain ⟨r3, hr3, t3⟩ := zw_st.of (q := q) (u := u) (b := b) 600 57 (s5 2 57 rfl) r2 hr2
    obtain ⟨r4, hr4, t4⟩ := zw_st.of (q := q) (u := u) (b := b) 600 23 (s5 3 23 rfl) r3 hr3
    obtain ⟨r5, hr5, t5⟩ := zw_st.of (q := q) (u := u) (b := b) 600 10 (s5 4 10 rfl) r4 hr4
    obtain ⟨r6, hr6, t6⟩ := zw_st.of (q := q) (u := u) (b := b) 600 4 (s5 5 4 rfl) r5 hr5
    obtain ⟨r7, hr7, t7⟩ := zw_st.of (q := q) (u := u) (b := b) 600 1 (s5 6 1 rfl) r6 hr6
    rw [s3, s4] at hr7
    refine ⟨r7, q, u, hr7, (Int64.add_zero _).symm, (Int64.add_zero _).symm, e1, e2, ze_n E, r, r7, q, u, b, hn, rfl, rfl, fun k => match k with
      | 0 => r
      | 1 => r1
      | 2 => r2
      | 3 => r3
      | 4 => r4
      | 5 => r5
      | 6 => r6
      | _ => r7, rfl, rfl, fun k gp hk => ?_⟩
    match k, hk with
    | 0, hk => cases hk; exact t1
    | 1, hk => cases hk; exact t2
    | 2, hk => cases hk; exact t3
    | 3, hk => cases hk; exact t4
    | 4, hk => cases hk; exact t5
    | 5, hk => cases hk; exact t6
    | 6, hk => cases hk; exact t7
    | k + 7, hk => simp at hk
  · intro A Q U T post hA e1 e2 kk
    refine ez_go ez_h97 2 (pc' := bif decide (¬ (nI (4)) = (nI 0)) then 52 else 37) (L' := [some (.ref 0), some (.int (nI (4))), none]) (st' := []) (w' := mz_w A Q U T) rfl ?_
    refine ez_ifT (zt_ne (by omega) (by omega) (by omega)) ?_
    refine ez_go ez_h97 3 (pc' := bif decide (¬ (nI (4)) = (nI (1))) then 69 else 57) (L' := [some (.ref 0), some (.int (nI (4))), none]) (st' := []) (w' := mz_w A Q U T) rfl ?_
    refine ez_ifT (zt_ne (by omega) (by omega) (by omega)) ?_
    refine ez_go ez_h97 3 (pc' := bif decide (¬ (nI (4)) = (nI (2))) then 93 else 74) (L' := [some (.ref 0), some (.int (nI (4))), none]) (st' := []) (w' := mz_w A Q U T) rfl ?_
    refine ez_ifT (zt_ne (by omega) (by omega) (by omega)) ?_
    refine ez_go ez_h97 3 (pc' := bif decide (¬ (nI (4)) = (nI (3))) then 105 else 98) (L' := [some (.ref 0), some (.int (nI (4))), none]) (st' := []) (w' := mz_w A Q U T) rfl ?_
    refine ez_ifT (zt_ne (by omega) (by omega) (by omega)) ?_
    refine ez_go ez_h97 3 (pc' := bif decide (¬ (nI (4)) = (nI (4))) then 114 else 110) (L' := [some (.ref 0), some (.int (nI (4))), none]) (st' := []) (w' := mz_w A Q U T) rfl ?_
    refine ez_ifF (fun z => z (zt_eq (by omega))) ?_
    refine ez_go ez_h97 1 (pc' := 111) (L' := [some (.ref 0), some (.int (nI (4))), none]) (st' := [.ref 0]) (w' := mz_w A Q U T) rfl ?_
    refine ez_cl ez_h97 rfl rfl ?_
    refine m1 _ Q U T _ hA (fun A112 hA112 => ?_)
    exact ez_E.le (ez_lc (ez_ln (ez_lc ez_l0))) (kk _ _ _ hA112 (Int64.add_zero _).symm (Int64.add_zero _).symm (Int64.add_zero _).symm e1 e2)
theorem zw_way {E : ze_T} (hE : ze_ok E) {row : Nat → Nat} {g : zs_G} (hw : zr_ok E row g) (P M : Int64) {w : Nat} (h : w ≤ 4) : zw_ok E w row g P M := by
  match w, h with
  | 0, _ => exact zw_0 hE hw P M
  | 1, _ => exact zw_1 hE hw P M
  | 2, _ => exact zw_2 hE hw P M
  | 3, _ => exact zw_3 hE hw P M
  | 4, _ => exact zw_4 hE hw P M
