/-! ===== one turn of QUICK ===== -/
def zq_f (b : Nat) : Nat := if b = 0 then 1 else 0
abbrev zq_Sc : Type := Nat → ez_W → (Option Value → ez_W → Prop) → Prop
abbrev zq_Sm : Type := ez_W → (Option Value → ez_W → Prop) → Prop
def zq_cD (E : ze_T) (S : zq_Sc) (w b e bud : Nat) (row : Nat → Nat) (g : zs_G) (row' : Nat → Nat) (g' : zs_G) (f p : Int64) : Prop := ∀ (r : cz_Row) (mid wp : Int32) (fls prt : Int64) (wf wt wb : Nat → Int32) (u : cz_Rn) (bb : cz_Bn) (post : Option Value → ez_W → Prop) (tn : Nat), cr_R E row g r →
  (∀ (r' : cz_Row) (fr to bd fst mid' wp' : Int32) (fl' pr' : Int64), cr_R E row' g' r' → fl' = fls + f → pr' = prt + p → ez_m 12 [.ref 4] (cz_w r' (nI w, fr, to, bd, fst, mid', wp', fl', pr', wf, wt, wb) u bb) (fun v w1 => ∃ x : Int32, v = some (.int x) ∧ ez_E 10 161 [some (.ref 4), some (.int x), some (.int (nI (tn))), none] [] w1 post)) → S tn (cz_w r (nI w, nI b, nI e, nI bud, nI (zq_f b), mid, wp, fls, prt, wf, wt, wb) u bb) post
def zq_mD (E : ze_T) (S : zq_Sm) (w : Nat) (row : Nat → Nat) (g : zs_G) (row' : Nat → Nat) (g' : zs_G) (f p : Int64) : Prop := ∀ (A : mz_A) (mfls mfn mprt : Int64) (mwp : Int32) (mwf mwt mwb : Nat → Int32) (U : mz_U) (T : mz_T) (post : Option Value → ez_W → Prop), mr_R E row g A →
  (∀ (A' : mz_A) (m1 m2 m3 : Int64) (mwp' : Int32), mr_R E row' g' A' → m1 = mfls + f → m2 = mfn + f → m3 = mprt + p → post none (mz_w A' (m1, m2, m3, nI w, mwp', mwf, mwt, mwb) U T)) → S (mz_w A (mfls, mfn, mprt, nI w, mwp, mwf, mwt, mwb) U T) post
def zq_cG (E : ze_T) (S : zq_Sc) (w : Nat) (pf pt pb : Nat → Nat) (b e bud : Nat) (row : Nat → Nat) (g : zs_G) (w2 : Nat) (pf2 pt2 pb2 : Nat → Nat) (b2 e2 bud2 : Nat) (row' : Nat → Nat) (g' : zs_G) (f p : Int64) : Prop := ∀ (r : cz_Row) (mid wp : Int32) (fls prt : Int64) (wf wt wb : Nat → Int32) (u : cz_Rn) (bb : cz_Bn) (post : Option Value → ez_W → Prop) (tn : Nat), cr_R E row g r → zq_a w pf pt pb wf wt wb →
  (∀ (r' : cz_Row) (mid' wp' : Int32) (fl' pr' : Int64) (wf' wt' wb' : Nat → Int32), cr_R E row' g' r' → zq_a w2 pf2 pt2 pb2 wf' wt' wb' → fl' = fls + f → pr' = prt + p → ez_E 10 161 [some (.ref 4), some (.int (nI 1)), some (.int (nI (tn))), none] [] (cz_w r' (nI w2, nI b2, nI e2, nI bud2, nI (zq_f b2), mid', wp', fl', pr', wf', wt', wb') u bb) post) → S tn (cz_w r (nI w, nI b, nI e, nI bud, nI (zq_f b), mid, wp, fls, prt, wf, wt, wb) u bb) post
def zq_mG (E : ze_T) (S : zq_Sm) (w : Nat) (pf pt pb : Nat → Nat) (row : Nat → Nat) (g : zs_G) (w2 : Nat) (pf2 pt2 pb2 : Nat → Nat) (b2 e2 bud2 : Nat) (row' : Nat → Nat) (g' : zs_G) (f p : Int64) : Prop := ∀ (A : mz_A) (mfls mfn mprt : Int64) (mwp : Int32) (mwf mwt mwb : Nat → Int32) (U : mz_U) (T : mz_T) (post : Option Value → ez_W → Prop), mr_R E row g A → zq_a w pf pt pb mwf mwt mwb →
  (∀ (A' : mz_A) (m1 m2 m3 : Int64) (mwp' : Int32) (wf' wt' wb' : Nat → Int32), mr_R E row' g' A' → zq_a (w2 + 1) (va_up pf2 w2 b2) (va_up pt2 w2 e2) (va_up pb2 w2 bud2) wf' wt' wb' → m1 = mfls + f → m2 = mfn + f → m3 = mprt + p → post none (mz_w A' (m1, m2, m3, nI (w2 + 1), mwp', wf', wt', wb') U T)) → S (mz_w A (mfls, mfn, mprt, nI w, mwp, mwf, mwt, mwb) U T) post
def zq_O (E : ze_T) (Sc : zq_Sc) (Sm : zq_Sm) (w : Nat) (pf pt pb : Nat → Nat) (b e bud : Nat) (row : Nat → Nat) (g : zs_G) : Prop := ∃ (row' : Nat → Nat) (g' : zs_G) (f p : Int64), zr_ok E row' g' ∧ zg_le E g g' ∧ zp_in row row' b e ∧
  ((zq_cD E Sc w b e bud row g row' g' f p ∧ zq_mD E Sm w row g row' g' f p) ∨ ∃ (w2 : Nat) (pf2 pt2 pb2 : Nat → Nat) (b2 e2 bud2 : Nat), zq_W E row' g' w2 pf2 pt2 pb2 e2 ∧ zq_B E row' g' w2 b2 e2 bud2 ∧ zq_p pf2 pt2 w2 + 2 * (e2 - b2) < zq_p pf pt w + 2 * (e - b) ∧
    zq_cG E Sc w pf pt pb b e bud row g w2 pf2 pt2 pb2 b2 e2 bud2 row' g' f p ∧ zq_mG E Sm w pf pt pb row g w2 pf2 pt2 pb2 b2 e2 bud2 row' g' f p)
theorem zq_O.pre {E : ze_T} {Sc Sc1 : zq_Sc} {Sm Sm1 : zq_Sm} {w : Nat} {pf pt pb : Nat → Nat} {b e bud : Nat} {row row1 : Nat → Nat} {g g1 : zs_G} (hg : zg_le E g g1) (hp : zp_in row row1 b e)
    (hc : ∀ (r : cz_Row) (mid wp : Int32) (fls prt : Int64) (wf wt wb : Nat → Int32) (u : cz_Rn) (bb : cz_Bn) (post : Option Value → ez_W → Prop) (tn : Nat), cr_R E row g r → (∀ r' : cz_Row, cr_R E row1 g1 r' → Sc1 tn (cz_w r' (nI w, nI b, nI e, nI bud, nI (zq_f b), mid, wp, fls, prt, wf, wt, wb) u bb) post) → Sc tn (cz_w r (nI w, nI b, nI e, nI bud, nI (zq_f b), mid, wp, fls, prt, wf, wt, wb) u bb) post)
    (hm : ∀ (A : mz_A) (Q : mz_Q) (U : mz_U) (T : mz_T) (post : Option Value → ez_W → Prop), mr_R E row g A → (∀ A' : mz_A, mr_R E row1 g1 A' → Sm1 (mz_w A' Q U T) post) → Sm (mz_w A Q U T) post)
    (h : zq_O E Sc1 Sm1 w pf pt pb b e bud row1 g1) : zq_O E Sc Sm w pf pt pb b e bud row g := by
  obtain ⟨row', g', f, p, a1, a2, a3, a4⟩ := h
  refine ⟨row', g', f, p, a1, hg.tr a2, hp.tr a3, ?_⟩
  rcases a4 with ⟨d1, d2⟩ | ⟨w2, pf2, pt2, pb2, b2, e2, bud2, c1, c2, c3, c4, c5⟩
  · exact Or.inl ⟨fun r mid wp fls prt wf wt wb u bb post tn hr kk => hc r mid wp fls prt wf wt wb u bb post tn hr (fun r1 hr1 => d1 r1 mid wp fls prt wf wt wb u bb post tn hr1 kk), fun A mfls mfn mprt mwp mwf mwt mwb U T post hA kk => hm A _ U T post hA (fun A1 hA1 => d2 A1 mfls mfn mprt mwp mwf mwt mwb U T post hA1 kk)⟩
  · exact Or.inr ⟨w2, pf2, pt2, pb2, b2, e2, bud2, c1, c2, c3, fun r mid wp fls prt wf wt wb u bb post tn hr ha kk => hc r mid wp fls prt wf wt wb u bb post tn hr (fun r1 hr1 => c4 r1 mid wp fls prt wf wt wb u bb post tn hr1 ha kk), fun A mfls mfn mprt mwp mwf mwt mwb U T post hA ha kk => hm A _ U T post hA (fun A1 hA1 => c5 A1 mfls mfn mprt mwp mwf mwt mwb U T post hA1 ha kk)⟩
theorem zq_after {E : ze_T} (hE : ze_ok E) {w b e bud s : Nat} {pf pt pb : Nat → Nat} (hs : b + 24 ≤ e) (hs1 : b < s) (hs2 : s < e) {row : Nat → Nat} {g : zs_G} (hw : zr_ok E row g) (hK : zs_K (ze_md E) (ze_ka E) g (row b) (row s)) (hW : zq_W E row g w pf pt pb e) (hB : zq_B E row g w b e bud) :
    zq_O E (fun tn w post => ez_E 10 134 [some (.ref 4), some (.int (nI (1))), some (.int (nI (tn))), some (.int (nI (e - b)))] [] w post) (fun w post => ez_E 87 69 [some (.ref 0), some (.int (nI (b))), some (.int (nI (e))), some (.int (nI (bud))), some (.int (nI (e - b))), none, none, none] [] w post) w pf pt pb b e bud row g := by
  have hn := hE.1
  obtain ⟨b1, b2, b3, b4, b5⟩ := hB
  have hz1 : 1 ≤ zq_h (e - b) := zq_h_1 (by omega) (by omega)
  obtain ⟨row1, g1, m, was, a1, a2, a3, a4, a5, a6, cP, mP⟩ := zk_part hE (b := b) (e := e) hs b2 hs1 hs2 hw hK
  obtain ⟨row2, g2, res, bud', f, d1, d2, d3, d4, cD, mD⟩ := zq_done hE (was := was) (bud := bud) a1 a2 hs b2 b4 (by omega) a3 a6
  cases res with
  | true =>
    refine ⟨row2, g2, f, 1, d1, a4.tr d2, a5.tr d3, Or.inl ⟨?_, ?_⟩⟩
    · intro r mid wp fls prt wf wt wb u bb post tn hr kk
      refine ez_go ez_h10 1 (pc' := 135) (L' := [some (.ref 4), some (.int (nI (1))), some (.int (nI (tn))), some (.int (nI (e - b)))]) (st' := [.ref 4]) (w' := cz_w r (nI (w), nI (b), nI (e), nI (bud), nI (zq_f b), mid, wp, fls, prt, wf, wt, wb) u bb) rfl ?_
      refine ez_cl ez_h10 rfl rfl ?_
      refine cP _ (nI (w), nI (b), nI (e), nI (bud), nI (zq_f b), mid, wp, fls, prt, wf, wt, wb) u bb _ hr rfl rfl (fun r1 hr1 => ?_)
      refine ez_go ez_h10 4 (pc' := 143) (L' := [some (.ref 4), some (.int (nI (1))), some (.int (nI (tn))), some (.int (nI (e - b)))]) (st' := [.int ((nI (e - b)) / (nI (8))), .ref 4]) (w' := cz_w r1 (nI (w), nI (b), nI (e), nI (bud), nI (zq_f b), nI (m), zs_z was, fls, prt + 1, wf, wt, wb) u bb) rfl ?_
      refine ez_top (y := nI ((e - b) / 8)) (pk_div (by omega) (by omega) (by omega)) ?_
      refine ez_cl ez_h10 rfl rfl ?_
      refine cD _ (nI w) (nI (zq_f b)) fls (prt + 1) wf wt wb u bb _ hr1 (fun r2 fl2 hr2 hf2 => ?_)
      refine ez_go ez_h10 1 (pc' := bif decide ((zs_z true) = 0) then 157 else 149) (L' := [some (.ref 4), some (.int (nI (1))), some (.int (nI (tn))), some (.int (nI (e - b)))]) (st' := []) (w' := cz_w r2 (nI (w), nI (b), nI (e), nI (bud'), nI (zq_f b), nI (m), zs_z was, fl2, prt + 1, wf, wt, wb) u bb) rfl ?_
      refine ez_ifF (zz_t rfl) ?_
      refine ez_go ez_h10 1 (pc' := 150) (L' := [some (.ref 4), some (.int (nI (1))), some (.int (nI (tn))), some (.int (nI (e - b)))]) (st' := [.ref 4]) (w' := cz_w r2 (nI (w), nI (b), nI (e), nI (bud'), nI (zq_f b), nI (m), zs_z was, fl2, prt + 1, wf, wt, wb) u bb) rfl ?_
      refine ez_cl ez_h10 rfl rfl ?_
      refine ez_m.imp (kk _ _ _ _ _ _ _ _ _ hr2 hf2 rfl) (fun v w1 hz => ?_)
      obtain ⟨x, hx, hz⟩ := hz
      subst hx
      refine ez_go ez_h10 2 (pc' := 161) (L' := [some (.ref 4), some (.int (x)), some (.int (nI (tn))), some (.int (nI (e - b)))]) (st' := []) (w' := w1) rfl ?_
      exact ez_E.le (ez_lc (ez_lc (ez_lc (ez_ln ez_l0)))) hz
    · intro A mfls mfn mprt mwp mwf mwt mwb U T post hA kk
      refine ez_go ez_h87 3 (pc' := 72) (L' := [some (.ref 0), some (.int (nI (b))), some (.int (nI (e))), some (.int (nI (bud))), some (.int (nI (e - b))), none, none, none]) (st' := [.int (nI (e)), .int (nI (b)), .ref 0]) (w' := mz_w A (mfls, mfn, mprt, nI (w), mwp, mwf, mwt, mwb) U T) rfl ?_
      refine ez_cl ez_h87 rfl rfl ?_
      refine mP _ (mfls, mfn, mprt, nI (w), mwp, mwf, mwt, mwb) U T _ hA (fun A1 hA1 => ?_)
      refine ez_go ez_h87 1 (pc' := 77) (L' := [some (.ref 0), some (.int (nI (b))), some (.int (nI (e))), some (.int (nI (bud))), some (.int (nI (e - b))), some (.int (nI (m))), none, none]) (st' := []) (w' := mz_w A1 (mfls, mfn, mprt + 1, nI (w), zs_z was, mwf, mwt, mwb) U T) rfl ?_
      exact mD _ mfls mfn (mprt + 1) (nI w) mwf mwt mwb U T post hA1 (fun _ A2 m1 m2 hA2 e1 e2 => kk _ _ _ _ _ hA2 e1 e2 rfl) (fun z => by cases z)
  | false =>
    obtain ⟨k1, k2, k3⟩ := d4 rfl
    have hl : bud' + (zq_h (m - b) + 1) ≤ bud + zq_h (e - b) ∧ bud' + zq_h (e - (m + 1)) ≤ bud + zq_h (e - b) := by
      rcases k3 with ⟨z1, z2, z3⟩ | z1
      · have y1 := zq_h_st1 (s := e - b) (l := m - b) (by omega) (by omega) (by omega)
        have y2 := zq_h_st1 (s := e - b) (l := e - (m + 1)) (by omega) (by omega) (by omega)
        omega
      · have y1 := zq_h_le (a := m - b) (b := e - b) (by omega)
        have y2 := zq_h_le (a := e - (m + 1)) (b := e - b) (by omega)
        omega
    have hW2 : zq_W E row2 g2 w pf pt pb e := hW.go (Nat.le_refl _) (Nat.le_refl _) hw (a4.tr d2) (a5.tr d3)
    refine ⟨row2, g2, f, 1, d1, a4.tr d2, a5.tr d3, Or.inr ⟨w + 1, va_up pf w (m + 1), va_up pt w e, va_up pb w bud', b, m, bud', hW2.push (by omega) (by omega) (Nat.le_refl _) b2 k1 (by omega) k2, ⟨a1, by omega, fun z => ((b3 z).go b2 hw (a4.tr d2) (a5.tr d3)).sub (by omega), k2, by omega⟩, ?_, ?_, ?_⟩⟩
    · show zq_p (va_up pf w (m + 1)) (va_up pt w e) w + (2 * (va_up pt w e w - va_up pf w (m + 1) w) + 1) + 2 * (m - b) < _
      rw [zq_p_up _ _ _ _ _ w (Nat.le_refl _), va_up_self, va_up_self]
      omega
    · intro r mid wp fls prt wf wt wb u bb post tn hr ha kk
      refine ez_go ez_h10 1 (pc' := 135) (L' := [some (.ref 4), some (.int (nI (1))), some (.int (nI (tn))), some (.int (nI (e - b)))]) (st' := [.ref 4]) (w' := cz_w r (nI (w), nI (b), nI (e), nI (bud), nI (zq_f b), mid, wp, fls, prt, wf, wt, wb) u bb) rfl ?_
      refine ez_cl ez_h10 rfl rfl ?_
      refine cP _ (nI (w), nI (b), nI (e), nI (bud), nI (zq_f b), mid, wp, fls, prt, wf, wt, wb) u bb _ hr rfl rfl (fun r1 hr1 => ?_)
      refine ez_go ez_h10 4 (pc' := 143) (L' := [some (.ref 4), some (.int (nI (1))), some (.int (nI (tn))), some (.int (nI (e - b)))]) (st' := [.int ((nI (e - b)) / (nI (8))), .ref 4]) (w' := cz_w r1 (nI (w), nI (b), nI (e), nI (bud), nI (zq_f b), nI (m), zs_z was, fls, prt + 1, wf, wt, wb) u bb) rfl ?_
      refine ez_top (y := nI ((e - b) / 8)) (pk_div (by omega) (by omega) (by omega)) ?_
      refine ez_cl ez_h10 rfl rfl ?_
      refine cD _ (nI w) (nI (zq_f b)) fls (prt + 1) wf wt wb u bb _ hr1 (fun r2 fl2 hr2 hf2 => ?_)
      refine ez_go ez_h10 1 (pc' := bif decide ((zs_z false) = 0) then 157 else 149) (L' := [some (.ref 4), some (.int (nI (1))), some (.int (nI (tn))), some (.int (nI (e - b)))]) (st' := []) (w' := cz_w r2 (nI (w), nI (b), nI (e), nI (bud'), nI (zq_f b), nI (m), zs_z was, fl2, prt + 1, wf, wt, wb) u bb) rfl ?_
      refine ez_ifT (zz_f rfl) ?_
      refine ez_go ez_h10 1 (pc' := 158) (L' := [some (.ref 4), some (.int (nI (1))), some (.int (nI (tn))), some (.int (nI (e - b)))]) (st' := [.ref 4]) (w' := cz_w r2 (nI (w), nI (b), nI (e), nI (bud'), nI (zq_f b), nI (m), zs_z was, fl2, prt + 1, wf, wt, wb) u bb) rfl ?_
      refine ez_cl ez_h10 rfl rfl ?_
      refine ez_m.of (L := [some (.ref 4)]) rfl rfl rfl ?_
      refine ez_go ez_h13 3 (pc' := bif decide ((nI (w)) < (nI 0)) then 67 else 7) (L' := [some (.ref 4)]) (st' := []) (w' := cz_w r2 (nI (w), nI (b), nI (e), nI (bud'), nI (zq_f b), nI (m), zs_z was, fl2, prt + 1, wf, wt, wb) u bb) rfl ?_
      refine ez_ifF (zt_nlt (a := w) (b := 0) (by omega) (by omega)) ?_
      refine ez_go ez_h13 4 (pc' := bif decide ((nI (64)) ≤ (nI (w))) then 67 else 16) (L' := [some (.ref 4)]) (st' := []) (w' := cz_w r2 (nI (w), nI (b), nI (e), nI (bud'), nI (zq_f b), nI (m), zs_z was, fl2, prt + 1, wf, wt, wb) u bb) rfl ?_
      refine ez_ifF (zt_nle (a := 64) (b := w) (by omega) (by omega)) ?_
      refine ez_go ez_h13 8 (pc' := 30) (L' := [some (.ref 4)]) (st' := [.int ((nI (m)) + (nI (1))), .int (nI (w)), .ref 9]) (w' := cz_w r2 (nI (w), nI (b), nI (e), nI (bud'), nI (zq_f b), nI (m), zs_z was, fl2, prt + 1, wf, wt, wb) u bb) rfl ?_
      refine ez_top (y := nI (m + 1)) (nI_add _ _) ?_
      refine ez_ast ez_h13 rfl rfl (w) rfl (by omega) (by omega) ?_
      refine ez_go ez_h13 6 (pc' := 43) (L' := [some (.ref 4)]) (st' := [.int (nI (e)), .int (nI (w)), .ref 10]) (w' := cz_w r2 (nI (w), nI (b), nI (e), nI (bud'), nI (zq_f b), nI (m), zs_z was, fl2, prt + 1, (upd wf w (nI (m + 1))), wt, wb) u bb) rfl ?_
      refine ez_ast ez_h13 rfl rfl (w) rfl (by omega) (by omega) ?_
      refine ez_go ez_h13 6 (pc' := 56) (L' := [some (.ref 4)]) (st' := [.int (nI (bud')), .int (nI (w)), .ref 11]) (w' := cz_w r2 (nI (w), nI (b), nI (e), nI (bud'), nI (zq_f b), nI (m), zs_z was, fl2, prt + 1, (upd wf w (nI (m + 1))), (upd wt w (nI (e))), wb) u bb) rfl ?_
      refine ez_ast ez_h13 rfl rfl (w) rfl (by omega) (by omega) ?_
      refine ez_go ez_h13 5 (pc' := 64) (L' := [some (.ref 4)]) (st' := [.int ((nI (w)) + (nI (1))), .ref 4]) (w' := cz_w r2 (nI (w), nI (b), nI (e), nI (bud'), nI (zq_f b), nI (m), zs_z was, fl2, prt + 1, (upd wf w (nI (m + 1))), (upd wt w (nI (e))), (upd wb w (nI (bud')))) u bb) rfl ?_
      refine ez_top (y := nI (w + 1)) (nI_add _ _) ?_
      refine ez_go ez_h13 5 (pc' := 75) (L' := [some (.ref 4)]) (st' := []) (w' := cz_w r2 (nI (w + 1), nI (b), nI (m), nI (bud'), nI (zq_f b), nI (m), zs_z was, fl2, prt + 1, (upd wf w (nI (m + 1))), (upd wt w (nI (e))), (upd wb w (nI (bud')))) u bb) rfl ?_
      refine ez_vret rfl ez_h13 rfl rfl ?_
      exact ez_E.le (ez_lc (ez_lc (ez_lc (ez_ln ez_l0)))) (kk _ _ _ _ _ _ _ _ hr2 (ha.up (m + 1) e bud') hf2 rfl)
    · intro A mfls mfn mprt mwp mwf mwt mwb U T post hA ha kk
      refine ez_go ez_h87 3 (pc' := 72) (L' := [some (.ref 0), some (.int (nI (b))), some (.int (nI (e))), some (.int (nI (bud))), some (.int (nI (e - b))), none, none, none]) (st' := [.int (nI (e)), .int (nI (b)), .ref 0]) (w' := mz_w A (mfls, mfn, mprt, nI (w), mwp, mwf, mwt, mwb) U T) rfl ?_
      refine ez_cl ez_h87 rfl rfl ?_
      refine mP _ (mfls, mfn, mprt, nI (w), mwp, mwf, mwt, mwb) U T _ hA (fun A1 hA1 => ?_)
      refine ez_go ez_h87 1 (pc' := 77) (L' := [some (.ref 0), some (.int (nI (b))), some (.int (nI (e))), some (.int (nI (bud))), some (.int (nI (e - b))), some (.int (nI (m))), none, none]) (st' := []) (w' := mz_w A1 (mfls, mfn, mprt + 1, nI (w), zs_z was, mwf, mwt, mwb) U T) rfl ?_
      refine mD _ mfls mfn (mprt + 1) (nI w) mwf mwt mwb U T post hA1 (fun z => by cases z) (fun _ A2 m1 m2 hA2 e1 e2 => ?_)
      refine ez_go ez_h87 4 (pc' := 195) (L' := [some (.ref 0), some (.int (nI (b))), some (.int (nI (e))), none, none, some (.int (nI (m))), none, some (.int (nI (bud')))]) (st' := [.int ((nI (m)) + (nI (1))), .ref 0]) (w' := mz_w A2 (m1, m2, mprt + 1, nI (w), zs_z was, mwf, mwt, mwb) U T) rfl ?_
      refine ez_top (y := nI (m + 1)) (nI_add _ _) ?_
      refine ez_go ez_h87 2 (pc' := 198) (L' := [some (.ref 0), some (.int (nI (b))), some (.int (nI (e))), none, none, some (.int (nI (m))), none, some (.int (nI (bud')))]) (st' := [.int (nI (bud')), .int (nI (e)), .int (nI (m + 1)), .ref 0]) (w' := mz_w A2 (m1, m2, mprt + 1, nI (w), zs_z was, mwf, mwt, mwb) U T) rfl ?_
      refine ez_cl ez_h87 rfl rfl ?_
      refine ez_m.of (L := [some (.ref 0), some (.int (nI (m + 1))), some (.int (nI (e))), some (.int (nI (bud')))]) rfl rfl rfl ?_
      refine ez_go ez_h86 5 (pc' := 9) (L' := [some (.ref 0), some (.int (nI (m + 1))), some (.int (nI (e))), some (.int (nI (bud')))]) (st' := [.int (nI (m + 1)), .int (nI (w)), .ref 8]) (w' := mz_w A2 (m1, m2, mprt + 1, nI (w), zs_z was, mwf, mwt, mwb) U T) rfl ?_
      refine ez_ast ez_h86 rfl rfl (w) rfl (by omega) (by omega) ?_
      refine ez_go ez_h86 5 (pc' := 19) (L' := [some (.ref 0), some (.int (nI (m + 1))), some (.int (nI (e))), some (.int (nI (bud')))]) (st' := [.int (nI (e)), .int (nI (w)), .ref 9]) (w' := mz_w A2 (m1, m2, mprt + 1, nI (w), zs_z was, (upd mwf w (nI (m + 1))), mwt, mwb) U T) rfl ?_
      refine ez_ast ez_h86 rfl rfl (w) rfl (by omega) (by omega) ?_
      refine ez_go ez_h86 5 (pc' := 29) (L' := [some (.ref 0), some (.int (nI (m + 1))), some (.int (nI (e))), some (.int (nI (bud')))]) (st' := [.int (nI (bud')), .int (nI (w)), .ref 10]) (w' := mz_w A2 (m1, m2, mprt + 1, nI (w), zs_z was, (upd mwf w (nI (m + 1))), (upd mwt w (nI (e))), mwb) U T) rfl ?_
      refine ez_ast ez_h86 rfl rfl (w) rfl (by omega) (by omega) ?_
      refine ez_go ez_h86 5 (pc' := 37) (L' := [some (.ref 0), some (.int (nI (m + 1))), some (.int (nI (e))), some (.int (nI (bud')))]) (st' := [.int ((nI (w)) + (nI (1))), .ref 0]) (w' := mz_w A2 (m1, m2, mprt + 1, nI (w), zs_z was, (upd mwf w (nI (m + 1))), (upd mwt w (nI (e))), (upd mwb w (nI (bud')))) U T) rfl ?_
      refine ez_top (y := nI (w + 1)) (nI_add _ _) ?_
      refine ez_go ez_h86 1 (pc' := 40) (L' := [some (.ref 0), some (.int (nI (m + 1))), some (.int (nI (e))), some (.int (nI (bud')))]) (st' := []) (w' := mz_w A2 (m1, m2, mprt + 1, nI (w + 1), zs_z was, (upd mwf w (nI (m + 1))), (upd mwt w (nI (e))), (upd mwb w (nI (bud')))) U T) rfl ?_
      refine ez_vret rfl ez_h86 rfl rfl ?_
      refine ez_go ez_h87 4 (pc' := 207) (L' := [some (.ref 0), some (.int (nI (b))), some (.int (nI (e))), none, none, some (.int (nI (m))), none, some (.int (nI (bud')))]) (st' := [.int (nI (bud')), .int (nI (m)), .int (nI (b)), .ref 0]) (w' := mz_w A2 (m1, m2, mprt + 1, nI (w + 1), zs_z was, (upd mwf w (nI (m + 1))), (upd mwt w (nI (e))), (upd mwb w (nI (bud')))) U T) rfl ?_
      refine ez_cl ez_h87 rfl rfl ?_
      refine ez_m.of (L := [some (.ref 0), some (.int (nI (b))), some (.int (nI (m))), some (.int (nI (bud')))]) rfl rfl rfl ?_
      refine ez_go ez_h86 5 (pc' := 9) (L' := [some (.ref 0), some (.int (nI (b))), some (.int (nI (m))), some (.int (nI (bud')))]) (st' := [.int (nI (b)), .int (nI (w + 1)), .ref 8]) (w' := mz_w A2 (m1, m2, mprt + 1, nI (w + 1), zs_z was, (upd mwf w (nI (m + 1))), (upd mwt w (nI (e))), (upd mwb w (nI (bud')))) U T) rfl ?_
      refine ez_ast ez_h86 rfl rfl (w + 1) rfl (by omega) (by omega) ?_
      refine ez_go ez_h86 5 (pc' := 19) (L' := [some (.ref 0), some (.int (nI (b))), some (.int (nI (m))), some (.int (nI (bud')))]) (st' := [.int (nI (m)), .int (nI (w + 1)), .ref 9]) (w' := mz_w A2 (m1, m2, mprt + 1, nI (w + 1), zs_z was, (upd (upd mwf w (nI (m + 1))) (w + 1) (nI (b))), (upd mwt w (nI (e))), (upd mwb w (nI (bud')))) U T) rfl ?_
      refine ez_ast ez_h86 rfl rfl (w + 1) rfl (by omega) (by omega) ?_
      refine ez_go ez_h86 5 (pc' := 29) (L' := [some (.ref 0), some (.int (nI (b))), some (.int (nI (m))), some (.int (nI (bud')))]) (st' := [.int (nI (bud')), .int (nI (w + 1)), .ref 10]) (w' := mz_w A2 (m1, m2, mprt + 1, nI (w + 1), zs_z was, (upd (upd mwf w (nI (m + 1))) (w + 1) (nI (b))), (upd (upd mwt w (nI (e))) (w + 1) (nI (m))), (upd mwb w (nI (bud')))) U T) rfl ?_
      refine ez_ast ez_h86 rfl rfl (w + 1) rfl (by omega) (by omega) ?_
      refine ez_go ez_h86 5 (pc' := 37) (L' := [some (.ref 0), some (.int (nI (b))), some (.int (nI (m))), some (.int (nI (bud')))]) (st' := [.int ((nI (w + 1)) + (nI (1))), .ref 0]) (w' := mz_w A2 (m1, m2, mprt + 1, nI (w + 1), zs_z was, (upd (upd mwf w (nI (m + 1))) (w + 1) (nI (b))), (upd (upd mwt w (nI (e))) (w + 1) (nI (m))), (upd (upd mwb w (nI (bud'))) (w + 1) (nI (bud')))) U T) rfl ?_
      refine ez_top (y := nI ((w + 1) + 1)) (nI_add _ _) ?_
      refine ez_go ez_h86 1 (pc' := 40) (L' := [some (.ref 0), some (.int (nI (b))), some (.int (nI (m))), some (.int (nI (bud')))]) (st' := []) (w' := mz_w A2 (m1, m2, mprt + 1, nI ((w + 1) + 1), zs_z was, (upd (upd mwf w (nI (m + 1))) (w + 1) (nI (b))), (upd (upd mwt w (nI (e))) (w + 1) (nI (m))), (upd (upd mwb w (nI (bud'))) (w + 1) (nI (bud')))) U T) rfl ?_
      refine ez_vret rfl ez_h86 rfl rfl ?_
      exact ez_vret rfl ez_h87 rfl rfl (kk _ _ _ _ _ _ _ _ hA2 ((ha.up (m + 1) e bud').up b m bud') e1 e2 rfl)
theorem zq_ch {E : ze_T} (hE : ze_ok E) {w b e bud : Nat} (hs : b + 24 ≤ e) (he : e ≤ ze_n E) {row row1 : Nat → Nat} {g g1 : zs_G} (hw : zr_ok E row g)
    (h : ∀ (r : cz_Row) (q : cz_Qk) (u : cz_Rn) (bb : cz_Bn) (post : Option Value → ez_W → Prop), cr_R E row g r → q.2.1 = nI b → q.2.2.1 = nI e → (∀ r' : cz_Row, cr_R E row1 g1 r' → post none (cz_w r' q u bb)) → ez_m 15 [.ref 4, .int (nI ((e - b) / 2)), .int (nI (if 128 < e - b then 1 else 0))] (cz_w r q u bb) post)
    (r : cz_Row) (mid wp : Int32) (fls prt : Int64) (wf wt wb : Nat → Int32) (u : cz_Rn) (bb : cz_Bn) (post : Option Value → ez_W → Prop) (tn : Nat) (hr : cr_R E row g r) (kk : ∀ r' : cz_Row, cr_R E row1 g1 r' → ez_E 10 80 [some (.ref 4), some (.int (nI (1))), some (.int (nI (tn))), some (.int (nI (e - b)))] [] (cz_w r' (nI w, nI b, nI e, nI bud, nI (zq_f b), mid, wp, fls, prt, wf, wt, wb) u bb) post) : ez_E 10 33 [some (.ref 4), some (.int (nI (1))), some (.int (nI (tn))), none] [] (cz_w r (nI w, nI b, nI e, nI bud, nI (zq_f b), mid, wp, fls, prt, wf, wt, wb) u bb) post := by
  have hn := hE.1
  by_cases hl : 128 < e - b
  · rw [if_pos hl] at h
    refine ez_go ez_h10 5 (pc' := 42) (L' := [some (.ref 4), some (.int (nI (1))), some (.int (nI (tn))), none]) (st' := [.int ((nI (e)) - (nI (b)))]) (w' := cz_w r (nI (w), nI (b), nI (e), nI (bud), nI (zq_f b), mid, wp, fls, prt, wf, wt, wb) u bb) rfl ?_
    refine ez_top (y := nI (e - b)) (pk_sub (by omega)) ?_
    refine ez_go ez_h10 4 (pc' := bif decide ((nI (24)) ≤ (nI (e - b))) then 61 else 49) (L' := [some (.ref 4), some (.int (nI (1))), some (.int (nI (tn))), some (.int (nI (e - b)))]) (st' := []) (w' := cz_w r (nI (w), nI (b), nI (e), nI (bud), nI (zq_f b), mid, wp, fls, prt, wf, wt, wb) u bb) rfl ?_
    refine ez_ifT (zt_le (a := 24) (b := e - b) (by omega) (by omega)) ?_
    refine ez_go ez_h10 4 (pc' := 65) (L' := [some (.ref 4), some (.int (nI (1))), some (.int (nI (tn))), some (.int (nI (e - b)))]) (st' := [.int ((nI (e - b)) / (nI (2))), .ref 4]) (w' := cz_w r (nI (w), nI (b), nI (e), nI (bud), nI (zq_f b), mid, wp, fls, prt, wf, wt, wb) u bb) rfl ?_
    refine ez_top (y := nI ((e - b) / 2)) (pk_div (by omega) (by omega) (by omega)) ?_
    refine ez_go ez_h10 3 (pc' := bif decide ((nI (e - b)) ≤ (nI (128))) then 76 else 72) (L' := [some (.ref 4), some (.int (nI (1))), some (.int (nI (tn))), some (.int (nI (e - b)))]) (st' := [.int (nI ((e - b) / 2)), .ref 4]) (w' := cz_w r (nI (w), nI (b), nI (e), nI (bud), nI (zq_f b), mid, wp, fls, prt, wf, wt, wb) u bb) rfl ?_
    refine ez_ifF (zt_nle (a := e - b) (b := 128) (by omega) (by omega)) ?_
    refine ez_go ez_h10 2 (pc' := 77) (L' := [some (.ref 4), some (.int (nI (1))), some (.int (nI (tn))), some (.int (nI (e - b)))]) (st' := [.int (nI (1)), .int (nI ((e - b) / 2)), .ref 4]) (w' := cz_w r (nI (w), nI (b), nI (e), nI (bud), nI (zq_f b), mid, wp, fls, prt, wf, wt, wb) u bb) rfl ?_
    refine ez_cl ez_h10 rfl rfl ?_
    refine h _ (nI (w), nI (b), nI (e), nI (bud), nI (zq_f b), mid, wp, fls, prt, wf, wt, wb) u bb _ hr rfl rfl (fun r1 hr1 => ?_)
    exact kk _ hr1
  · rw [if_neg hl] at h
    refine ez_go ez_h10 5 (pc' := 42) (L' := [some (.ref 4), some (.int (nI (1))), some (.int (nI (tn))), none]) (st' := [.int ((nI (e)) - (nI (b)))]) (w' := cz_w r (nI (w), nI (b), nI (e), nI (bud), nI (zq_f b), mid, wp, fls, prt, wf, wt, wb) u bb) rfl ?_
    refine ez_top (y := nI (e - b)) (pk_sub (by omega)) ?_
    refine ez_go ez_h10 4 (pc' := bif decide ((nI (24)) ≤ (nI (e - b))) then 61 else 49) (L' := [some (.ref 4), some (.int (nI (1))), some (.int (nI (tn))), some (.int (nI (e - b)))]) (st' := []) (w' := cz_w r (nI (w), nI (b), nI (e), nI (bud), nI (zq_f b), mid, wp, fls, prt, wf, wt, wb) u bb) rfl ?_
    refine ez_ifT (zt_le (a := 24) (b := e - b) (by omega) (by omega)) ?_
    refine ez_go ez_h10 4 (pc' := 65) (L' := [some (.ref 4), some (.int (nI (1))), some (.int (nI (tn))), some (.int (nI (e - b)))]) (st' := [.int ((nI (e - b)) / (nI (2))), .ref 4]) (w' := cz_w r (nI (w), nI (b), nI (e), nI (bud), nI (zq_f b), mid, wp, fls, prt, wf, wt, wb) u bb) rfl ?_
    refine ez_top (y := nI ((e - b) / 2)) (pk_div (by omega) (by omega) (by omega)) ?_
    refine ez_go ez_h10 3 (pc' := bif decide ((nI (e - b)) ≤ (nI (128))) then 76 else 72) (L' := [some (.ref 4), some (.int (nI (1))), some (.int (nI (tn))), some (.int (nI (e - b)))]) (st' := [.int (nI ((e - b) / 2)), .ref 4]) (w' := cz_w r (nI (w), nI (b), nI (e), nI (bud), nI (zq_f b), mid, wp, fls, prt, wf, wt, wb) u bb) rfl ?_
    refine ez_ifT (zt_le (a := e - b) (b := 128) (by omega) (by omega)) ?_
    refine ez_go ez_h10 1 (pc' := 77) (L' := [some (.ref 4), some (.int (nI (1))), some (.int (nI (tn))), some (.int (nI (e - b)))]) (st' := [.int (nI (0)), .int (nI ((e - b) / 2)), .ref 4]) (w' := cz_w r (nI (w), nI (b), nI (e), nI (bud), nI (zq_f b), mid, wp, fls, prt, wf, wt, wb) u bb) rfl ?_
    refine ez_cl ez_h10 rfl rfl ?_
    refine h _ (nI (w), nI (b), nI (e), nI (bud), nI (zq_f b), mid, wp, fls, prt, wf, wt, wb) u bb _ hr rfl rfl (fun r1 hr1 => ?_)
    exact kk _ hr1
/-- one turn -/
theorem zq_turn {E : ze_T} (hE : ze_ok E) {w b e bud : Nat} {pf pt pb : Nat → Nat} {row : Nat → Nat} {g : zs_G} (hw : zr_ok E row g) (hW : zq_W E row g w pf pt pb e) (hB : zq_B E row g w b e bud) :
    zq_O E (fun tn w post => ez_E 10 33 [some (.ref 4), some (.int (nI (1))), some (.int (nI (tn))), none] [] w post) (fun w post => ez_m 87 [.ref 0, .int (nI b), .int (nI e), .int (nI bud)] w post) w pf pt pb b e bud row g := by
  have hn := hE.1
  have hB' := hB
  obtain ⟨b1, b2, b3, b4, b5⟩ := hB'
  by_cases hsm : e - b < 24
  · by_cases hb0 : b = 0
    · obtain ⟨row1, g1, o1, l1, p1, cT, cF, mM⟩ := zi_all hE true (b := b) (e := e) b2 (by omega) hw (fun z => by cases z)
      have hf : zq_f b = 1 := if_pos hb0
      refine ⟨row1, g1, 0, 0, o1, l1, p1, Or.inl ⟨?_, ?_⟩⟩
      · intro r mid wp fls prt wf wt wb u bb post tn hr kk
        show ez_E 10 33 _ _ (cz_w r (nI w, nI b, nI e, nI bud, nI (zq_f b), mid, wp, fls, prt, wf, wt, wb) u bb) post
        rw [hf]
        refine ez_go ez_h10 5 (pc' := 42) (L' := [some (.ref 4), some (.int (nI (1))), some (.int (nI (tn))), none]) (st' := [.int ((nI (e)) - (nI (b)))]) (w' := cz_w r (nI (w), nI (b), nI (e), nI (bud), nI (1), mid, wp, fls, prt, wf, wt, wb) u bb) rfl ?_
        refine ez_top (y := nI (e - b)) (pk_sub (by omega)) ?_
        refine ez_go ez_h10 4 (pc' := bif decide ((nI (24)) ≤ (nI (e - b))) then 61 else 49) (L' := [some (.ref 4), some (.int (nI (1))), some (.int (nI (tn))), some (.int (nI (e - b)))]) (st' := []) (w' := cz_w r (nI (w), nI (b), nI (e), nI (bud), nI (1), mid, wp, fls, prt, wf, wt, wb) u bb) rfl ?_
        refine ez_ifF (zt_nle (a := 24) (b := e - b) (by omega) (by omega)) ?_
        refine ez_go ez_h10 1 (pc' := 50) (L' := [some (.ref 4), some (.int (nI (1))), some (.int (nI (tn))), some (.int (nI (e - b)))]) (st' := [.ref 4]) (w' := cz_w r (nI (w), nI (b), nI (e), nI (bud), nI (1), mid, wp, fls, prt, wf, wt, wb) u bb) rfl ?_
        refine ez_cl ez_h10 rfl rfl ?_
        refine ez_m.of (L := [some (.ref 4)]) rfl rfl rfl ?_
        refine ez_go ez_h14 3 (pc' := bif decide ((nI (1)) = (nI 0)) then 25 else 7) (L' := [some (.ref 4)]) (st' := []) (w' := cz_w r (nI (w), nI (b), nI (e), nI (bud), nI (1), mid, wp, fls, prt, wf, wt, wb) u bb) rfl ?_
        refine ez_ifF (zt_ne (by omega) (by omega) (by omega)) ?_
        refine ez_go ez_h14 6 (pc' := 19) (L' := [some (.ref 4)]) (st' := [.int (nI (e)), .int (nI (b)), .ref 2]) (w' := cz_w r (nI (w), nI (b), nI (e), nI (bud), nI (1), mid, wp, fls, prt, wf, wt, wb) u bb) rfl ?_
        refine ez_cl ez_h14 rfl rfl ?_
        refine (cT rfl) _ (nI (w), nI (b), nI (e), nI (bud), nI (1), mid, wp, fls, prt, wf, wt, wb) u bb _ hr (fun r108 hr108 => ?_)
        refine ez_go ez_h14 1 (pc' := 40) (L' := [some (.ref 4)]) (st' := []) (w' := cz_w r108 (nI (w), nI (b), nI (e), nI (bud), nI (1), mid, wp, fls, prt, wf, wt, wb) u bb) rfl ?_
        refine ez_vret rfl ez_h14 rfl rfl ?_
        refine ez_go ez_h10 1 (pc' := 54) (L' := [some (.ref 4), some (.int (nI (1))), some (.int (nI (tn))), some (.int (nI (e - b)))]) (st' := [.ref 4]) (w' := cz_w r108 (nI (w), nI (b), nI (e), nI (bud), nI (1), mid, wp, fls, prt, wf, wt, wb) u bb) rfl ?_
        refine ez_cl ez_h10 rfl rfl ?_
        refine ez_m.imp (kk _ _ _ _ _ _ _ _ _ hr108 (Int64.add_zero _).symm (Int64.add_zero _).symm) (fun v w1 hz => ?_)
        obtain ⟨x, hx, hz⟩ := hz
        subst hx
        refine ez_go ez_h10 2 (pc' := 161) (L' := [some (.ref 4), some (.int (x)), some (.int (nI (tn))), some (.int (nI (e - b)))]) (st' := []) (w' := w1) rfl ?_
        exact ez_E.le (ez_lc (ez_lc (ez_lc (ez_ln ez_l0)))) hz
      · intro A mfls mfn mprt mwp mwf mwt mwb U T post hA kk
        refine ez_m.of (L := [some (.ref 0), some (.int (nI (b))), some (.int (nI (e))), some (.int (nI (bud))), none, none, none, none]) rfl rfl rfl ?_
        refine ez_go ez_h87 3 (pc' := 3) (L' := [some (.ref 0), some (.int (nI (b))), some (.int (nI (e))), some (.int (nI (bud))), none, none, none, none]) (st' := [.int ((nI (e)) - (nI (b)))]) (w' := mz_w A (mfls, mfn, mprt, nI (w), mwp, mwf, mwt, mwb) U T) rfl ?_
        refine ez_top (y := nI (e - b)) (pk_sub (by omega)) ?_
        refine ez_go ez_h87 4 (pc' := bif decide ((nI (24)) ≤ (nI (e - b))) then 31 else 12) (L' := [some (.ref 0), some (.int (nI (b))), some (.int (nI (e))), some (.int (nI (bud))), some (.int (nI (e - b))), none, none, none]) (st' := []) (w' := mz_w A (mfls, mfn, mprt, nI (w), mwp, mwf, mwt, mwb) U T) rfl ?_
        refine ez_ifF (zt_nle (a := 24) (b := e - b) (by omega) (by omega)) ?_
        refine ez_go ez_h87 5 (pc' := bif decide (¬ (nI (b)) = (nI 0)) then 23 else 19) (L' := [some (.ref 0), some (.int (nI (b))), some (.int (nI (e))), some (.int (nI (bud))), some (.int (nI (e - b))), none, none, none]) (st' := [.int (nI (e)), .int (nI (b)), .ref 0]) (w' := mz_w A (mfls, mfn, mprt, nI (w), mwp, mwf, mwt, mwb) U T) rfl ?_
        refine ez_ifF (fun z => z (zt_eq (by omega))) ?_
        refine ez_go ez_h87 3 (pc' := 25) (L' := [some (.ref 0), some (.int (nI (b))), some (.int (nI (e))), some (.int (nI (bud))), some (.int (nI (e - b))), none, none, none]) (st' := [.int (nI (0)), .int (nI (1)), .int (nI (e)), .int (nI (b)), .ref 0]) (w' := mz_w A (mfls, mfn, mprt, nI (w), mwp, mwf, mwt, mwb) U T) rfl ?_
        refine ez_cl ez_h87 rfl rfl ?_
        refine mM _ (mfls, mfn, mprt, nI (w), mwp, mwf, mwt, mwb) U T _ hA (fun A109 hA109 => ?_)
        refine ez_go ez_h87 1 (pc' := 30) (L' := [some (.ref 0), some (.int (nI (b))), some (.int (nI (e))), some (.int (nI (bud))), some (.int (nI (e - b))), some (.int (zs_z true)), none, none]) (st' := []) (w' := mz_w A109 (mfls, mfn, mprt, nI (w), mwp, mwf, mwt, mwb) U T) rfl ?_
        exact ez_vret rfl ez_h87 rfl rfl (kk _ _ _ _ _ hA109 (Int64.add_zero _).symm (Int64.add_zero _).symm (Int64.add_zero _).symm)
    · obtain ⟨row1, g1, o1, l1, p1, cT, cF, mM⟩ := zi_all hE false (b := b) (e := e) b2 (by omega) hw (fun _ => b3 hb0)
      have hf : zq_f b = 0 := if_neg hb0
      refine ⟨row1, g1, 0, 0, o1, l1, p1, Or.inl ⟨?_, ?_⟩⟩
      · intro r mid wp fls prt wf wt wb u bb post tn hr kk
        show ez_E 10 33 _ _ (cz_w r (nI w, nI b, nI e, nI bud, nI (zq_f b), mid, wp, fls, prt, wf, wt, wb) u bb) post
        rw [hf]
        refine ez_go ez_h10 5 (pc' := 42) (L' := [some (.ref 4), some (.int (nI (1))), some (.int (nI (tn))), none]) (st' := [.int ((nI (e)) - (nI (b)))]) (w' := cz_w r (nI (w), nI (b), nI (e), nI (bud), nI (0), mid, wp, fls, prt, wf, wt, wb) u bb) rfl ?_
        refine ez_top (y := nI (e - b)) (pk_sub (by omega)) ?_
        refine ez_go ez_h10 4 (pc' := bif decide ((nI (24)) ≤ (nI (e - b))) then 61 else 49) (L' := [some (.ref 4), some (.int (nI (1))), some (.int (nI (tn))), some (.int (nI (e - b)))]) (st' := []) (w' := cz_w r (nI (w), nI (b), nI (e), nI (bud), nI (0), mid, wp, fls, prt, wf, wt, wb) u bb) rfl ?_
        refine ez_ifF (zt_nle (a := 24) (b := e - b) (by omega) (by omega)) ?_
        refine ez_go ez_h10 1 (pc' := 50) (L' := [some (.ref 4), some (.int (nI (1))), some (.int (nI (tn))), some (.int (nI (e - b)))]) (st' := [.ref 4]) (w' := cz_w r (nI (w), nI (b), nI (e), nI (bud), nI (0), mid, wp, fls, prt, wf, wt, wb) u bb) rfl ?_
        refine ez_cl ez_h10 rfl rfl ?_
        refine ez_m.of (L := [some (.ref 4)]) rfl rfl rfl ?_
        refine ez_go ez_h14 3 (pc' := bif decide ((nI (0)) = (nI 0)) then 25 else 7) (L' := [some (.ref 4)]) (st' := []) (w' := cz_w r (nI (w), nI (b), nI (e), nI (bud), nI (0), mid, wp, fls, prt, wf, wt, wb) u bb) rfl ?_
        refine ez_ifT (zt_eq (by omega)) ?_
        refine ez_go ez_h14 6 (pc' := 37) (L' := [some (.ref 4)]) (st' := [.int (nI (e)), .int (nI (b)), .ref 2]) (w' := cz_w r (nI (w), nI (b), nI (e), nI (bud), nI (0), mid, wp, fls, prt, wf, wt, wb) u bb) rfl ?_
        refine ez_cl ez_h14 rfl rfl ?_
        refine (cF rfl) _ (nI (w), nI (b), nI (e), nI (bud), nI (0), mid, wp, fls, prt, wf, wt, wb) u bb _ hr (fun r110 hr110 => ?_)
        refine ez_vret rfl ez_h14 rfl rfl ?_
        refine ez_go ez_h10 1 (pc' := 54) (L' := [some (.ref 4), some (.int (nI (1))), some (.int (nI (tn))), some (.int (nI (e - b)))]) (st' := [.ref 4]) (w' := cz_w r110 (nI (w), nI (b), nI (e), nI (bud), nI (0), mid, wp, fls, prt, wf, wt, wb) u bb) rfl ?_
        refine ez_cl ez_h10 rfl rfl ?_
        refine ez_m.imp (kk _ _ _ _ _ _ _ _ _ hr110 (Int64.add_zero _).symm (Int64.add_zero _).symm) (fun v w1 hz => ?_)
        obtain ⟨x, hx, hz⟩ := hz
        subst hx
        refine ez_go ez_h10 2 (pc' := 161) (L' := [some (.ref 4), some (.int (x)), some (.int (nI (tn))), some (.int (nI (e - b)))]) (st' := []) (w' := w1) rfl ?_
        exact ez_E.le (ez_lc (ez_lc (ez_lc (ez_ln ez_l0)))) hz
      · intro A mfls mfn mprt mwp mwf mwt mwb U T post hA kk
        refine ez_m.of (L := [some (.ref 0), some (.int (nI (b))), some (.int (nI (e))), some (.int (nI (bud))), none, none, none, none]) rfl rfl rfl ?_
        refine ez_go ez_h87 3 (pc' := 3) (L' := [some (.ref 0), some (.int (nI (b))), some (.int (nI (e))), some (.int (nI (bud))), none, none, none, none]) (st' := [.int ((nI (e)) - (nI (b)))]) (w' := mz_w A (mfls, mfn, mprt, nI (w), mwp, mwf, mwt, mwb) U T) rfl ?_
        refine ez_top (y := nI (e - b)) (pk_sub (by omega)) ?_
        refine ez_go ez_h87 4 (pc' := bif decide ((nI (24)) ≤ (nI (e - b))) then 31 else 12) (L' := [some (.ref 0), some (.int (nI (b))), some (.int (nI (e))), some (.int (nI (bud))), some (.int (nI (e - b))), none, none, none]) (st' := []) (w' := mz_w A (mfls, mfn, mprt, nI (w), mwp, mwf, mwt, mwb) U T) rfl ?_
        refine ez_ifF (zt_nle (a := 24) (b := e - b) (by omega) (by omega)) ?_
        refine ez_go ez_h87 5 (pc' := bif decide (¬ (nI (b)) = (nI 0)) then 23 else 19) (L' := [some (.ref 0), some (.int (nI (b))), some (.int (nI (e))), some (.int (nI (bud))), some (.int (nI (e - b))), none, none, none]) (st' := [.int (nI (e)), .int (nI (b)), .ref 0]) (w' := mz_w A (mfls, mfn, mprt, nI (w), mwp, mwf, mwt, mwb) U T) rfl ?_
        refine ez_ifT (zt_ne (by omega) (by omega) (by omega)) ?_
        refine ez_go ez_h87 2 (pc' := 25) (L' := [some (.ref 0), some (.int (nI (b))), some (.int (nI (e))), some (.int (nI (bud))), some (.int (nI (e - b))), none, none, none]) (st' := [.int (nI (0)), .int (nI (0)), .int (nI (e)), .int (nI (b)), .ref 0]) (w' := mz_w A (mfls, mfn, mprt, nI (w), mwp, mwf, mwt, mwb) U T) rfl ?_
        refine ez_cl ez_h87 rfl rfl ?_
        refine mM _ (mfls, mfn, mprt, nI (w), mwp, mwf, mwt, mwb) U T _ hA (fun A111 hA111 => ?_)
        refine ez_go ez_h87 1 (pc' := 30) (L' := [some (.ref 0), some (.int (nI (b))), some (.int (nI (e))), some (.int (nI (bud))), some (.int (nI (e - b))), some (.int (zs_z true)), none, none]) (st' := []) (w' := mz_w A111 (mfls, mfn, mprt, nI (w), mwp, mwf, mwt, mwb) U T) rfl ?_
        exact ez_vret rfl ez_h87 rfl rfl (kk _ _ _ _ _ hA111 (Int64.add_zero _).symm (Int64.add_zero _).symm (Int64.add_zero _).symm)
  · obtain ⟨row1, g1, s, h1, h2, o1, l1, p1, hK, cC, mC⟩ := zk_choose hE (b := b) (e := e) (by omega) b2 hw
    have hW1 : zq_W E row1 g1 w pf pt pb e := hW.go (Nat.le_refl _) (Nat.le_refl _) hw l1 p1
    by_cases hb0 : b = 0
    · have hf : zq_f b = 1 := if_pos hb0
      refine zq_O.pre (Sc1 := (fun tn w post => ez_E 10 134 [some (.ref 4), some (.int (nI (1))), some (.int (nI (tn))), some (.int (nI (e - b)))] [] w post)) (Sm1 := (fun w post => ez_E 87 69 [some (.ref 0), some (.int (nI (b))), some (.int (nI (e))), some (.int (nI (bud))), some (.int (nI (e - b))), none, none, none] [] w post)) l1 p1 ?_ ?_ (zq_after hE (by omega) h1 h2 o1 hK hW1 ⟨b1, b2, fun z => (z hb0).elim, b4, b5⟩)
      · intro r mid wp fls prt wf wt wb u bb post tn hr kk
        refine zq_ch hE (by omega) b2 hw cC r mid wp fls prt wf wt wb u bb post tn hr (fun r1 hr1 => ?_)
        have kk := kk r1 hr1
        simp only [hf] at kk ⊢
        refine ez_go ez_h10 3 (pc' := bif decide (¬ (nI (1)) = (nI 0)) then 134 else 87) (L' := [some (.ref 4), some (.int (nI (1))), some (.int (nI (tn))), some (.int (nI (e - b)))]) (st' := []) (w' := cz_w r1 (nI (w), nI (b), nI (e), nI (bud), nI (1), mid, wp, fls, prt, wf, wt, wb) u bb) rfl ?_
        refine ez_ifT (zt_ne (by omega) (by omega) (by omega)) ?_
        exact kk
      · intro A Q U T post hA kk
        refine ez_m.of (L := [some (.ref 0), some (.int (nI (b))), some (.int (nI (e))), some (.int (nI (bud))), none, none, none, none]) rfl rfl rfl ?_
        refine ez_go ez_h87 3 (pc' := 3) (L' := [some (.ref 0), some (.int (nI (b))), some (.int (nI (e))), some (.int (nI (bud))), none, none, none, none]) (st' := [.int ((nI (e)) - (nI (b)))]) (w' := mz_w A Q U T) rfl ?_
        refine ez_top (y := nI (e - b)) (pk_sub (by omega)) ?_
        refine ez_go ez_h87 4 (pc' := bif decide ((nI (24)) ≤ (nI (e - b))) then 31 else 12) (L' := [some (.ref 0), some (.int (nI (b))), some (.int (nI (e))), some (.int (nI (bud))), some (.int (nI (e - b))), none, none, none]) (st' := []) (w' := mz_w A Q U T) rfl ?_
        refine ez_ifT (zt_le (a := 24) (b := e - b) (by omega) (by omega)) ?_
        refine ez_go ez_h87 3 (pc' := 34) (L' := [some (.ref 0), some (.int (nI (b))), some (.int (nI (e))), some (.int (nI (bud))), some (.int (nI (e - b))), none, none, none]) (st' := [.int (nI (e)), .int (nI (b)), .ref 0]) (w' := mz_w A Q U T) rfl ?_
        refine ez_cl ez_h87 rfl rfl ?_
        refine mC _ Q U T _ hA (fun A1 hA1 => ?_)
        refine ez_go ez_h87 2 (pc' := bif decide ((nI (b)) ≤ (nI 0)) then 69 else 41) (L' := [some (.ref 0), some (.int (nI (b))), some (.int (nI (e))), some (.int (nI (bud))), some (.int (nI (e - b))), none, none, none]) (st' := []) (w' := mz_w A1 Q U T) rfl ?_
        refine ez_ifT (zt_le (a := b) (b := 0) (by omega) (by omega)) ?_
        exact kk _ hA1
    · have hf : zq_f b = 0 := if_neg hb0
      have hS1 : zs_S E row1 g1 b e := (b3 hb0).go b2 hw l1 p1
      have x1 : row1 (b - 1) < ze_n E := o1.1 (b - 1) (by omega)
      have x2 : row1 b < ze_n E := o1.1 b (by omega)
      have o2 := o1.go x1 x2
      have l2 : zg_le E g1 _ := zg_le.go o1 (row1 (b - 1)) (row1 b)
      cases hb : zs_b (ze_md E) (ze_ka E) (row1 (b - 1)) (row1 b) g1 with
      | true =>
        have hK2 : zs_K (ze_md E) (ze_ka E) (zs_g (ze_md E) (row1 (b - 1)) (row1 b) g1) (row1 b) (row1 s) := l2 _ _ x2 hK
        refine zq_O.pre (Sc1 := (fun tn w post => ez_E 10 134 [some (.ref 4), some (.int (nI (1))), some (.int (nI (tn))), some (.int (nI (e - b)))] [] w post)) (Sm1 := (fun w post => ez_E 87 69 [some (.ref 0), some (.int (nI (b))), some (.int (nI (e))), some (.int (nI (bud))), some (.int (nI (e - b))), none, none, none] [] w post)) (l1.tr l2) p1 ?_ ?_ (zq_after hE (by omega) h1 h2 o2 hK2 (hW1.go (b := b) (e := e) (Nat.le_refl _) (Nat.le_refl _) o1 l2 (zp_in.rf _ _ _)) ⟨b1, b2, fun z => hS1.go b2 o1 l2 (zp_in.rf _ _ _), b4, b5⟩)
        · intro r mid wp fls prt wf wt wb u bb post tn hr kk
          refine zq_ch hE (by omega) b2 hw cC r mid wp fls prt wf wt wb u bb post tn hr (fun r1 hr1 => ?_)
          simp only [hf] at kk ⊢
          refine ez_go ez_h10 3 (pc' := bif decide (¬ (nI (0)) = (nI 0)) then 134 else 87) (L' := [some (.ref 4), some (.int (nI (1))), some (.int (nI (tn))), some (.int (nI (e - b)))]) (st' := []) (w' := cz_w r1 (nI (w), nI (b), nI (e), nI (bud), nI (0), mid, wp, fls, prt, wf, wt, wb) u bb) rfl ?_
          refine ez_ifF (fun z => z (zt_eq (by omega))) ?_
          refine ez_go ez_h10 8 (pc' := 101) (L' := [some (.ref 4), some (.int (nI (1))), some (.int (nI (tn))), some (.int (nI (e - b)))]) (st' := [.int ((nI (b)) - (nI (1))), .ref 1, .ref 1]) (w' := cz_w r1 (nI (w), nI (b), nI (e), nI (bud), nI (0), mid, wp, fls, prt, wf, wt, wb) u bb) rfl ?_
          refine ez_top (y := nI (b - 1)) (pk_sub (by omega)) ?_
          refine ez_cl ez_h10 rfl rfl ?_
          refine cr_at hE hr1 (k := b - 1) (by omega) (nI (w), nI (b), nI (e), nI (bud), nI (0), mid, wp, fls, prt, wf, wt, wb) u bb ?_
          refine ez_go ez_h10 4 (pc' := 112) (L' := [some (.ref 4), some (.int (nI (1))), some (.int (nI (tn))), some (.int (nI (e - b)))]) (st' := [.int (nI (b)), .ref 1, .int (nI (ze_pi E (row1 (b - 1)))), .ref 1]) (w' := cz_w r1 (nI (w), nI (b), nI (e), nI (bud), nI (0), mid, wp, fls, prt, wf, wt, wb) u bb) rfl ?_
          refine ez_cl ez_h10 rfl rfl ?_
          refine cr_at hE hr1 (k := b) (by omega) (nI (w), nI (b), nI (e), nI (bud), nI (0), mid, wp, fls, prt, wf, wt, wb) u bb ?_
          refine ez_cl ez_h10 rfl rfl ?_
          refine cr_less hE hr1 o1.2 (x := row1 (b - 1)) (y := row1 b) (o1.1 (b - 1) (by omega)) (o1.1 b (by omega)) (nI (w), nI (b), nI (e), nI (bud), nI (0), mid, wp, fls, prt, wf, wt, wb) u bb (fun r112 hr112 => ?_)
          refine ez_go ez_h10 1 (pc' := bif decide (¬ (zs_z (zs_b (ze_md E) (ze_ka E) (row1 (b - 1)) (row1 b) g1)) = 0) then 134 else 121) (L' := [some (.ref 4), some (.int (nI (1))), some (.int (nI (tn))), some (.int (nI (e - b)))]) (st' := []) (w' := cz_w r112 (nI (w), nI (b), nI (e), nI (bud), nI (0), mid, wp, fls, prt, wf, wt, wb) u bb) rfl ?_
          refine ez_ifT (zz_t hb) ?_
          exact kk _ hr112
        · intro A Q U T post hA kk
          refine ez_m.of (L := [some (.ref 0), some (.int (nI (b))), some (.int (nI (e))), some (.int (nI (bud))), none, none, none, none]) rfl rfl rfl ?_
          refine ez_go ez_h87 3 (pc' := 3) (L' := [some (.ref 0), some (.int (nI (b))), some (.int (nI (e))), some (.int (nI (bud))), none, none, none, none]) (st' := [.int ((nI (e)) - (nI (b)))]) (w' := mz_w A Q U T) rfl ?_
          refine ez_top (y := nI (e - b)) (pk_sub (by omega)) ?_
          refine ez_go ez_h87 4 (pc' := bif decide ((nI (24)) ≤ (nI (e - b))) then 31 else 12) (L' := [some (.ref 0), some (.int (nI (b))), some (.int (nI (e))), some (.int (nI (bud))), some (.int (nI (e - b))), none, none, none]) (st' := []) (w' := mz_w A Q U T) rfl ?_
          refine ez_ifT (zt_le (a := 24) (b := e - b) (by omega) (by omega)) ?_
          refine ez_go ez_h87 3 (pc' := 34) (L' := [some (.ref 0), some (.int (nI (b))), some (.int (nI (e))), some (.int (nI (bud))), some (.int (nI (e - b))), none, none, none]) (st' := [.int (nI (e)), .int (nI (b)), .ref 0]) (w' := mz_w A Q U T) rfl ?_
          refine ez_cl ez_h87 rfl rfl ?_
          refine mC _ Q U T _ hA (fun A1 hA1 => ?_)
          refine ez_go ez_h87 2 (pc' := bif decide ((nI (b)) ≤ (nI 0)) then 69 else 41) (L' := [some (.ref 0), some (.int (nI (b))), some (.int (nI (e))), some (.int (nI (bud))), some (.int (nI (e - b))), none, none, none]) (st' := []) (w' := mz_w A1 Q U T) rfl ?_
          refine ez_ifF (zt_nle (a := b) (b := 0) (by omega) (by omega)) ?_
          refine ez_go ez_h87 4 (pc' := 45) (L' := [some (.ref 0), some (.int (nI (b))), some (.int (nI (e))), some (.int (nI (bud))), some (.int (nI (e - b))), none, none, none]) (st' := [.int ((nI (b)) - (nI (1))), .ref 0]) (w' := mz_w A1 Q U T) rfl ?_
          refine ez_top (y := nI (b - 1)) (pk_sub (by omega)) ?_
          refine ez_go ez_h87 1 (pc' := 46) (L' := [some (.ref 0), some (.int (nI (b))), some (.int (nI (e))), some (.int (nI (bud))), some (.int (nI (e - b))), none, none, none]) (st' := [.int (nI (b)), .int (nI (b - 1)), .ref 0]) (w' := mz_w A1 Q U T) rfl ?_
          refine ez_cl ez_h87 rfl rfl ?_
          refine mr_lessAt hE hA1 o1 (i := b - 1) (j := b) (by omega) (by omega) Q U T (fun A113 hA113 => ?_)
          refine ez_go ez_h87 1 (pc' := bif decide (¬ (zs_z (zs_b (ze_md E) (ze_ka E) (row1 (b - 1)) (row1 b) g1)) = 0) then 69 else 52) (L' := [some (.ref 0), some (.int (nI (b))), some (.int (nI (e))), some (.int (nI (bud))), some (.int (nI (e - b))), none, none, none]) (st' := []) (w' := mz_w A113 Q U T) rfl ?_
          refine ez_ifT (zz_t hb) ?_
          exact kk _ hA113
      | false =>
        have q1 := zs_b_f o1.2 x1 x2 hb
        obtain ⟨row3, g3, l, e1, e2, o3, l3, p3, S3, cQ, mQ⟩ := zk_equal hE (b := b) (e := e) (by omega) (by omega) b2 o2 (fun k k1 k2 => q1.tr (l2 _ _ x1 (hS1.2 k k1 k2)))
        have l13 := (l1.tr l2).tr l3
        refine ⟨row3, g3, 0, 0, o3, l13, p1.tr p3, Or.inr ⟨w, pf, pt, pb, l + 1, e, bud, hW.go (Nat.le_refl _) (Nat.le_refl _) hw l13 (p1.tr p3), ⟨by omega, b2, fun _ => S3, b4, ?_⟩, by omega, ?_, ?_⟩⟩
        · have := zq_h_le (a := e - (l + 1)) (b := e - b) (by omega)
          omega
        · intro r mid wp fls prt wf wt wb u bb post tn hr ha kk
          refine zq_ch hE (by omega) b2 hw cC r mid wp fls prt wf wt wb u bb post tn hr (fun r1 hr1 => ?_)
          have hf2 : zq_f (l + 1) = 0 := if_neg (by omega)
          simp only [hf, hf2] at kk ⊢
          refine ez_go ez_h10 3 (pc' := bif decide (¬ (nI (0)) = (nI 0)) then 134 else 87) (L' := [some (.ref 4), some (.int (nI (1))), some (.int (nI (tn))), some (.int (nI (e - b)))]) (st' := []) (w' := cz_w r1 (nI (w), nI (b), nI (e), nI (bud), nI (0), mid, wp, fls, prt, wf, wt, wb) u bb) rfl ?_
          refine ez_ifF (fun z => z (zt_eq (by omega))) ?_
          refine ez_go ez_h10 8 (pc' := 101) (L' := [some (.ref 4), some (.int (nI (1))), some (.int (nI (tn))), some (.int (nI (e - b)))]) (st' := [.int ((nI (b)) - (nI (1))), .ref 1, .ref 1]) (w' := cz_w r1 (nI (w), nI (b), nI (e), nI (bud), nI (0), mid, wp, fls, prt, wf, wt, wb) u bb) rfl ?_
          refine ez_top (y := nI (b - 1)) (pk_sub (by omega)) ?_
          refine ez_cl ez_h10 rfl rfl ?_
          refine cr_at hE hr1 (k := b - 1) (by omega) (nI (w), nI (b), nI (e), nI (bud), nI (0), mid, wp, fls, prt, wf, wt, wb) u bb ?_
          refine ez_go ez_h10 4 (pc' := 112) (L' := [some (.ref 4), some (.int (nI (1))), some (.int (nI (tn))), some (.int (nI (e - b)))]) (st' := [.int (nI (b)), .ref 1, .int (nI (ze_pi E (row1 (b - 1)))), .ref 1]) (w' := cz_w r1 (nI (w), nI (b), nI (e), nI (bud), nI (0), mid, wp, fls, prt, wf, wt, wb) u bb) rfl ?_
          refine ez_cl ez_h10 rfl rfl ?_
          refine cr_at hE hr1 (k := b) (by omega) (nI (w), nI (b), nI (e), nI (bud), nI (0), mid, wp, fls, prt, wf, wt, wb) u bb ?_
          refine ez_cl ez_h10 rfl rfl ?_
          refine cr_less hE hr1 o1.2 (x := row1 (b - 1)) (y := row1 b) (o1.1 (b - 1) (by omega)) (o1.1 b (by omega)) (nI (w), nI (b), nI (e), nI (bud), nI (0), mid, wp, fls, prt, wf, wt, wb) u bb (fun r114 hr114 => ?_)
          refine ez_go ez_h10 1 (pc' := bif decide (¬ (zs_z (zs_b (ze_md E) (ze_ka E) (row1 (b - 1)) (row1 b) g1)) = 0) then 134 else 121) (L' := [some (.ref 4), some (.int (nI (1))), some (.int (nI (tn))), some (.int (nI (e - b)))]) (st' := []) (w' := cz_w r114 (nI (w), nI (b), nI (e), nI (bud), nI (0), mid, wp, fls, prt, wf, wt, wb) u bb) rfl ?_
          refine ez_ifF (fun z => z (zz_f hb)) ?_
          refine ez_go ez_h10 2 (pc' := 123) (L' := [some (.ref 4), some (.int (nI (1))), some (.int (nI (tn))), some (.int (nI (e - b)))]) (st' := [.ref 4, .ref 4]) (w' := cz_w r114 (nI (w), nI (b), nI (e), nI (bud), nI (0), mid, wp, fls, prt, wf, wt, wb) u bb) rfl ?_
          refine ez_cl ez_h10 rfl rfl ?_
          refine cQ _ (nI (w), nI (b), nI (e), nI (bud), nI (0), mid, wp, fls, prt, wf, wt, wb) u bb _ hr114 rfl rfl (fun r3 hr3 => ?_)
          refine ez_go ez_h10 2 (pc' := 128) (L' := [some (.ref 4), some (.int (nI (1))), some (.int (nI (tn))), some (.int (nI (e - b)))]) (st' := [.int ((nI (l)) + (nI (1))), .ref 4]) (w' := cz_w r3 (nI (w), nI (b), nI (e), nI (bud), nI (0), mid, wp, fls, prt, wf, wt, wb) u bb) rfl ?_
          refine ez_top (y := nI (l + 1)) (nI_add _ _) ?_
          refine ez_go ez_h10 2 (pc' := 161) (L' := [some (.ref 4), some (.int (nI (1))), some (.int (nI (tn))), some (.int (nI (e - b)))]) (st' := []) (w' := cz_w r3 (nI (w), nI (l + 1), nI (e), nI (bud), nI (0), mid, wp, fls, prt, wf, wt, wb) u bb) rfl ?_
          exact ez_E.le (ez_lc (ez_lc (ez_lc (ez_ln ez_l0)))) (kk _ _ _ _ _ _ _ _ hr3 ha (Int64.add_zero _).symm (Int64.add_zero _).symm)
        · intro A mfls mfn mprt mwp mwf mwt mwb U T post hA ha kk
          refine ez_m.of (L := [some (.ref 0), some (.int (nI (b))), some (.int (nI (e))), some (.int (nI (bud))), none, none, none, none]) rfl rfl rfl ?_
          refine ez_go ez_h87 3 (pc' := 3) (L' := [some (.ref 0), some (.int (nI (b))), some (.int (nI (e))), some (.int (nI (bud))), none, none, none, none]) (st' := [.int ((nI (e)) - (nI (b)))]) (w' := mz_w A (mfls, mfn, mprt, nI (w), mwp, mwf, mwt, mwb) U T) rfl ?_
          refine ez_top (y := nI (e - b)) (pk_sub (by omega)) ?_
          refine ez_go ez_h87 4 (pc' := bif decide ((nI (24)) ≤ (nI (e - b))) then 31 else 12) (L' := [some (.ref 0), some (.int (nI (b))), some (.int (nI (e))), some (.int (nI (bud))), some (.int (nI (e - b))), none, none, none]) (st' := []) (w' := mz_w A (mfls, mfn, mprt, nI (w), mwp, mwf, mwt, mwb) U T) rfl ?_
          refine ez_ifT (zt_le (a := 24) (b := e - b) (by omega) (by omega)) ?_
          refine ez_go ez_h87 3 (pc' := 34) (L' := [some (.ref 0), some (.int (nI (b))), some (.int (nI (e))), some (.int (nI (bud))), some (.int (nI (e - b))), none, none, none]) (st' := [.int (nI (e)), .int (nI (b)), .ref 0]) (w' := mz_w A (mfls, mfn, mprt, nI (w), mwp, mwf, mwt, mwb) U T) rfl ?_
          refine ez_cl ez_h87 rfl rfl ?_
          refine mC _ (mfls, mfn, mprt, nI (w), mwp, mwf, mwt, mwb) U T _ hA (fun A1 hA1 => ?_)
          refine ez_go ez_h87 2 (pc' := bif decide ((nI (b)) ≤ (nI 0)) then 69 else 41) (L' := [some (.ref 0), some (.int (nI (b))), some (.int (nI (e))), some (.int (nI (bud))), some (.int (nI (e - b))), none, none, none]) (st' := []) (w' := mz_w A1 (mfls, mfn, mprt, nI (w), mwp, mwf, mwt, mwb) U T) rfl ?_
          refine ez_ifF (zt_nle (a := b) (b := 0) (by omega) (by omega)) ?_
          refine ez_go ez_h87 4 (pc' := 45) (L' := [some (.ref 0), some (.int (nI (b))), some (.int (nI (e))), some (.int (nI (bud))), some (.int (nI (e - b))), none, none, none]) (st' := [.int ((nI (b)) - (nI (1))), .ref 0]) (w' := mz_w A1 (mfls, mfn, mprt, nI (w), mwp, mwf, mwt, mwb) U T) rfl ?_
          refine ez_top (y := nI (b - 1)) (pk_sub (by omega)) ?_
          refine ez_go ez_h87 1 (pc' := 46) (L' := [some (.ref 0), some (.int (nI (b))), some (.int (nI (e))), some (.int (nI (bud))), some (.int (nI (e - b))), none, none, none]) (st' := [.int (nI (b)), .int (nI (b - 1)), .ref 0]) (w' := mz_w A1 (mfls, mfn, mprt, nI (w), mwp, mwf, mwt, mwb) U T) rfl ?_
          refine ez_cl ez_h87 rfl rfl ?_
          refine mr_lessAt hE hA1 o1 (i := b - 1) (j := b) (by omega) (by omega) (mfls, mfn, mprt, nI (w), mwp, mwf, mwt, mwb) U T (fun A115 hA115 => ?_)
          refine ez_go ez_h87 1 (pc' := bif decide (¬ (zs_z (zs_b (ze_md E) (ze_ka E) (row1 (b - 1)) (row1 b) g1)) = 0) then 69 else 52) (L' := [some (.ref 0), some (.int (nI (b))), some (.int (nI (e))), some (.int (nI (bud))), some (.int (nI (e - b))), none, none, none]) (st' := []) (w' := mz_w A115 (mfls, mfn, mprt, nI (w), mwp, mwf, mwt, mwb) U T) rfl ?_
          refine ez_ifF (fun z => z (zz_f hb)) ?_
          refine ez_go ez_h87 3 (pc' := 55) (L' := [some (.ref 0), some (.int (nI (b))), some (.int (nI (e))), some (.int (nI (bud))), some (.int (nI (e - b))), none, none, none]) (st' := [.int (nI (e)), .int (nI (b)), .ref 0]) (w' := mz_w A115 (mfls, mfn, mprt, nI (w), mwp, mwf, mwt, mwb) U T) rfl ?_
          refine ez_cl ez_h87 rfl rfl ?_
          refine mQ _ (mfls, mfn, mprt, nI (w), mwp, mwf, mwt, mwb) U T _ hA115 (fun A3 hA3 => ?_)
          refine ez_go ez_h87 5 (pc' := 65) (L' := [some (.ref 0), some (.int (nI (b))), some (.int (nI (e))), some (.int (nI (bud))), some (.int (nI (e - b))), some (.int (nI (l + 1))), none, none]) (st' := [.int (nI (bud)), .int (nI (e)), .int (nI (l + 1)), .ref 0]) (w' := mz_w A3 (mfls, mfn, mprt, nI (w), mwp, mwf, mwt, mwb) U T) rfl ?_
          refine ez_cl ez_h87 rfl rfl ?_
          refine ez_m.of (L := [some (.ref 0), some (.int (nI (l + 1))), some (.int (nI (e))), some (.int (nI (bud)))]) rfl rfl rfl ?_
          refine ez_go ez_h86 5 (pc' := 9) (L' := [some (.ref 0), some (.int (nI (l + 1))), some (.int (nI (e))), some (.int (nI (bud)))]) (st' := [.int (nI (l + 1)), .int (nI (w)), .ref 8]) (w' := mz_w A3 (mfls, mfn, mprt, nI (w), mwp, mwf, mwt, mwb) U T) rfl ?_
          refine ez_ast ez_h86 rfl rfl (w) rfl (by omega) (by omega) ?_
          refine ez_go ez_h86 5 (pc' := 19) (L' := [some (.ref 0), some (.int (nI (l + 1))), some (.int (nI (e))), some (.int (nI (bud)))]) (st' := [.int (nI (e)), .int (nI (w)), .ref 9]) (w' := mz_w A3 (mfls, mfn, mprt, nI (w), mwp, (upd mwf w (nI (l + 1))), mwt, mwb) U T) rfl ?_
          refine ez_ast ez_h86 rfl rfl (w) rfl (by omega) (by omega) ?_
          refine ez_go ez_h86 5 (pc' := 29) (L' := [some (.ref 0), some (.int (nI (l + 1))), some (.int (nI (e))), some (.int (nI (bud)))]) (st' := [.int (nI (bud)), .int (nI (w)), .ref 10]) (w' := mz_w A3 (mfls, mfn, mprt, nI (w), mwp, (upd mwf w (nI (l + 1))), (upd mwt w (nI (e))), mwb) U T) rfl ?_
          refine ez_ast ez_h86 rfl rfl (w) rfl (by omega) (by omega) ?_
          refine ez_go ez_h86 5 (pc' := 37) (L' := [some (.ref 0), some (.int (nI (l + 1))), some (.int (nI (e))), some (.int (nI (bud)))]) (st' := [.int ((nI (w)) + (nI (1))), .ref 0]) (w' := mz_w A3 (mfls, mfn, mprt, nI (w), mwp, (upd mwf w (nI (l + 1))), (upd mwt w (nI (e))), (upd mwb w (nI (bud)))) U T) rfl ?_
          refine ez_top (y := nI (w + 1)) (nI_add _ _) ?_
          refine ez_go ez_h86 1 (pc' := 40) (L' := [some (.ref 0), some (.int (nI (l + 1))), some (.int (nI (e))), some (.int (nI (bud)))]) (st' := []) (w' := mz_w A3 (mfls, mfn, mprt, nI (w + 1), mwp, (upd mwf w (nI (l + 1))), (upd mwt w (nI (e))), (upd mwb w (nI (bud)))) U T) rfl ?_
          refine ez_vret rfl ez_h86 rfl rfl ?_
          exact ez_vret rfl ez_h87 rfl rfl (kk _ _ _ _ _ _ _ _ hA3 (ha.up (l + 1) e bud) (Int64.add_zero _).symm (Int64.add_zero _).symm (Int64.add_zero _).symm)
