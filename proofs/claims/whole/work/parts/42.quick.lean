/-! ===== QUICK, all turns ===== -/
theorem zq_a.dn {w b e bud : Nat} {pf pt pb : Nat → Nat} {wf wt wb : Nat → Int32} (h : zq_a (w + 1) (va_up pf w b) (va_up pt w e) (va_up pb w bud) wf wt wb) : zq_a w pf pt pb wf wt wb := fun k hk => by
  have := h k (by omega)
  rw [va_up_ne _ _ (by omega), va_up_ne _ _ (by omega), va_up_ne _ _ (by omega)] at this
  exact this
theorem zq_a.at {w b e bud : Nat} {pf pt pb : Nat → Nat} {wf wt wb : Nat → Int32} (h : zq_a (w + 1) (va_up pf w b) (va_up pt w e) (va_up pb w bud) wf wt wb) : wf w = nI b ∧ wt w = nI e ∧ wb w = nI bud := by
  have := h w (by omega)
  rw [va_up_self, va_up_self, va_up_self] at this
  exact this
def zq_cF (E : ze_T) (S : zq_Sc) (w : Nat) (pf pt pb : Nat → Nat) (b e bud : Nat) (row : Nat → Nat) (g : zs_G) (row' : Nat → Nat) (g' : zs_G) (f p : Int64) : Prop := ∀ (r : cz_Row) (mid wp : Int32) (fls prt : Int64) (wf wt wb : Nat → Int32) (u : cz_Rn) (bb : cz_Bn) (post : Option Value → ez_W → Prop) (tn : Nat), tn + (zq_p pf pt w + 2 * (e - b) + 1) < 1000000 → cr_R E row g r → zq_a w pf pt pb wf wt wb →
  (∀ (r' : cz_Row) (q' : cz_Qk), cr_R E row' g' r' → q'.2.2.2.2.2.2.2.1 = fls + f → q'.2.2.2.2.2.2.2.2.1 = prt + p → post none (cz_w r' q' u bb)) → S tn (cz_w r (nI w, nI b, nI e, nI bud, nI (zq_f b), mid, wp, fls, prt, wf, wt, wb) u bb) post
def zq_mF (E : ze_T) (w : Nat) (pf pt pb : Nat → Nat) (b e bud : Nat) (row : Nat → Nat) (g : zs_G) (row' : Nat → Nat) (g' : zs_G) (f p : Int64) : Prop := ∀ (A : mz_A) (mfls mfn mprt : Int64) (mwp : Int32) (mwf mwt mwb : Nat → Int32) (U : mz_U) (T : mz_T) (post : Option Value → ez_W → Prop), mr_R E row g A → zq_a (w + 1) (va_up pf w b) (va_up pt w e) (va_up pb w bud) mwf mwt mwb →
  (∀ (A' : mz_A) (Q' : mz_Q), mr_R E row' g' A' → Q'.1 = mfls + f → Q'.2.1 = mfn + f → Q'.2.2.1 = mprt + p → post none (mz_w A' Q' U T)) → ez_E 85 31 [some (.ref 0), none, none, none] [] (mz_w A (mfls, mfn, mprt, nI (w + 1), mwp, mwf, mwt, mwb) U T) post
theorem zq_turns {E : ze_T} (hE : ze_ok E) : ∀ (s w b e bud : Nat) (pf pt pb : Nat → Nat) (row : Nat → Nat) (g : zs_G), zq_p pf pt w + 2 * (e - b) < s → zr_ok E row g → zq_W E row g w pf pt pb e → zq_B E row g w b e bud →
    ∃ (row' : Nat → Nat) (g' : zs_G) (f p : Int64), zr_ok E row' g' ∧ zq_cF E (fun tn w post => ez_E 10 23 [some (.ref 4), some (.int (nI (1))), some (.int (nI (tn))), none] [] w post) w pf pt pb b e bud row g row' g' f p ∧ zq_mF E w pf pt pb b e bud row g row' g' f p := by
  have hn := hE.1
  intro s
  induction s with
  | zero => intro w b e bud pf pt pb row g h; omega
  | succ s ih =>
    intro w b e bud pf pt pb row g h hw hW hB
    have hB' := hB
    obtain ⟨b1, b2, b3, b4, b5⟩ := hB'
    obtain ⟨row1, g1, f, p, o1, l1, p1, hO⟩ := zq_turn hE hw hW hB
    have hW1 : zq_W E row1 g1 w pf pt pb e := hW.go (Nat.le_refl _) (Nat.le_refl _) hw l1 p1
    rcases hO with ⟨hc, hm⟩ | ⟨w2, pf2, pt2, pb2, b2', e2, bud2, c1, c2, c3, hc, hm⟩
    · cases w with
      | zero =>
        refine ⟨row1, g1, f, p, o1, ?_, ?_⟩
        · intro r mid wp fls prt wf wt wb u bb post tn htn hr ha kk
          refine ez_go ez_h10 2 (pc' := bif decide ((nI (1)) = (nI 0)) then 167 else 27) (L' := [some (.ref 4), some (.int (nI (1))), some (.int (nI (tn))), none]) (st' := []) (w' := cz_w r (nI (0), nI (b), nI (e), nI (bud), nI (zq_f b), mid, wp, fls, prt, wf, wt, wb) u bb) rfl ?_
          refine ez_ifF (zt_ne (by omega) (by omega) (by omega)) ?_
          refine ez_go ez_h10 3 (pc' := bif decide ((nI (1000000)) ≤ (nI (tn))) then 167 else 33) (L' := [some (.ref 4), some (.int (nI (1))), some (.int (nI (tn))), none]) (st' := []) (w' := cz_w r (nI (0), nI (b), nI (e), nI (bud), nI (zq_f b), mid, wp, fls, prt, wf, wt, wb) u bb) rfl ?_
          refine ez_ifF (zt_nle (a := 1000000) (b := tn) (by omega) (by omega)) ?_
          refine hc _ mid wp fls prt wf wt wb u bb post tn hr (fun r1 fr to bd fst mid' wp' fl' pr' hr1 hf hp => ?_)
          refine zq_take0 u bb ⟨nI 0, rfl, ?_⟩
          refine ez_inc ez_h10 rfl rfl (v := nI (tn + 1)) (zi_1 _) rfl ?_
          refine ez_go ez_h10 3 (pc' := bif decide ((nI (0)) = (nI 0)) then 167 else 27) (L' := [some (.ref 4), some (.int (nI (0))), some (.int (nI (tn + 1))), none]) (st' := []) (w' := cz_w r1 (nI 0, fr, to, bd, fst, mid', wp', fl', pr', wf, wt, wb) u bb) rfl ?_
          refine ez_ifT (zt_eq (by omega)) ?_
          exact ez_vret rfl ez_h10 rfl rfl (kk _ _ hr1 hf hp)
        · intro A mfls mfn mprt mwp mwf mwt mwb U T post hA ha kk
          obtain ⟨a1, a2, a3⟩ := ha.at
          refine ez_go ez_h85 3 (pc' := bif decide ((nI (0 + 1)) ≤ (nI 0)) then 82 else 38) (L' := [some (.ref 0), none, none, none]) (st' := []) (w' := mz_w A (mfls, mfn, mprt, nI (0 + 1), mwp, mwf, mwt, mwb) U T) rfl ?_
          refine ez_ifF (zt_nle (a := 0 + 1) (b := 0) (by omega) (by omega)) ?_
          refine ez_go ez_h85 5 (pc' := 45) (L' := [some (.ref 0), none, none, none]) (st' := [.int ((nI (0 + 1)) - (nI (1))), .ref 0]) (w' := mz_w A (mfls, mfn, mprt, nI (0 + 1), mwp, mwf, mwt, mwb) U T) rfl ?_
          refine ez_top (y := nI ((0 + 1) - 1)) (pk_sub (by omega)) ?_
          refine ez_top (y := nI (0)) (congrArg nI (by omega)) ?_
          refine ez_go ez_h85 6 (pc' := 57) (L' := [some (.ref 0), none, none, none]) (st' := [.int (nI (0)), .ref 8, .ref 0]) (w' := mz_w A (mfls, mfn, mprt, nI (0), mwp, mwf, mwt, mwb) U T) rfl ?_
          refine ez_ald ez_h85 rfl rfl (0) rfl (by omega) (by omega) ?_
          refine ez_top (y := nI (b)) (a1) ?_
          refine ez_go ez_h85 4 (pc' := 66) (L' := [some (.ref 0), none, none, none]) (st' := [.int (nI (0)), .ref 9, .int (nI (b)), .ref 0]) (w' := mz_w A (mfls, mfn, mprt, nI (0), mwp, mwf, mwt, mwb) U T) rfl ?_
          refine ez_ald ez_h85 rfl rfl (0) rfl (by omega) (by omega) ?_
          refine ez_top (y := nI (e)) (a2) ?_
          refine ez_go ez_h85 4 (pc' := 75) (L' := [some (.ref 0), none, none, none]) (st' := [.int (nI (0)), .ref 10, .int (nI (e)), .int (nI (b)), .ref 0]) (w' := mz_w A (mfls, mfn, mprt, nI (0), mwp, mwf, mwt, mwb) U T) rfl ?_
          refine ez_ald ez_h85 rfl rfl (0) rfl (by omega) (by omega) ?_
          refine ez_top (y := nI (bud)) (a3) ?_
          refine ez_cl ez_h85 rfl rfl ?_
          refine hm _ mfls mfn mprt mwp mwf mwt mwb U T _ hA (fun A1 m1 m2 m3 mwp' hA1 e1 e2 e3 => ?_)
          refine ez_go ez_h85 4 (pc' := bif decide ((nI (0)) ≤ (nI 0)) then 82 else 38) (L' := [some (.ref 0), none, none, none]) (st' := []) (w' := mz_w A1 (m1, m2, m3, nI (0), mwp', mwf, mwt, mwb) U T) rfl ?_
          refine ez_ifT (zt_le (a := 0) (b := 0) (by omega) (by omega)) ?_
          exact ez_vret rfl ez_h85 rfl rfl (kk _ _ hA1 e1 e2 e3)
      | succ w =>
        obtain ⟨hW2, hB2⟩ := hW1.pop
        have hpf : 1 ≤ pf w := hB2.1 |> fun _ => by have := (hW1.1 w (by omega)).1; omega
        have hf0 : zq_f (pf w) = 0 := if_neg (by omega)
        have hph : zq_p pf pt (w + 1) = zq_p pf pt w + (2 * (pt w - pf w) + 1) := rfl
        obtain ⟨row2, g2, f2, p2, o2, hcF, hmF⟩ := ih w (pf w) (pt w) (pb w) pf pt pb row1 g1 (by omega) o1 hW2 hB2
        refine ⟨row2, g2, f + f2, p + p2, o2, ?_, ?_⟩
        · intro r mid wp fls prt wf wt wb u bb post tn htn hr ha kk
          refine ez_go ez_h10 2 (pc' := bif decide ((nI (1)) = (nI 0)) then 167 else 27) (L' := [some (.ref 4), some (.int (nI (1))), some (.int (nI (tn))), none]) (st' := []) (w' := cz_w r (nI (w + 1), nI (b), nI (e), nI (bud), nI (zq_f b), mid, wp, fls, prt, wf, wt, wb) u bb) rfl ?_
          refine ez_ifF (zt_ne (by omega) (by omega) (by omega)) ?_
          refine ez_go ez_h10 3 (pc' := bif decide ((nI (1000000)) ≤ (nI (tn))) then 167 else 33) (L' := [some (.ref 4), some (.int (nI (1))), some (.int (nI (tn))), none]) (st' := []) (w' := cz_w r (nI (w + 1), nI (b), nI (e), nI (bud), nI (zq_f b), mid, wp, fls, prt, wf, wt, wb) u bb) rfl ?_
          refine ez_ifF (zt_nle (a := 1000000) (b := tn) (by omega) (by omega)) ?_
          refine hc _ mid wp fls prt wf wt wb u bb post tn hr (fun r1 fr to bd fst mid' wp' fl' pr' hr1 hf hp => ?_)
          refine zq_take1 (by omega) u bb ha ⟨nI 1, rfl, ?_⟩
          refine ez_inc ez_h10 rfl rfl (v := nI (tn + 1)) (zi_1 _) rfl ?_
          refine ez_go ez_h10 1 (pc' := 23) (L' := [some (.ref 4), some (.int (nI (1))), some (.int (nI (tn + 1))), none]) (st' := []) (w' := cz_w r1 (nI w, nI (pf w), nI (pt w), nI (pb w), nI 0, mid', wp', fl', pr', wf, wt, wb) u bb) rfl ?_
          rw [← hf0]
          exact hcF _ mid' wp' fl' pr' wf wt wb u bb post (tn + 1) (by omega) hr1 (fun k hk => ha k (by omega)) (fun r2 q2 hr2 e1 e2 => kk r2 q2 hr2 (by rw [e1, hf, Int64.add_assoc]) (by rw [e2, hp, Int64.add_assoc]))
        · intro A mfls mfn mprt mwp mwf mwt mwb U T post hA ha kk
          obtain ⟨a1, a2, a3⟩ := ha.at
          refine ez_go ez_h85 3 (pc' := bif decide ((nI (w + 1 + 1)) ≤ (nI 0)) then 82 else 38) (L' := [some (.ref 0), none, none, none]) (st' := []) (w' := mz_w A (mfls, mfn, mprt, nI (w + 1 + 1), mwp, mwf, mwt, mwb) U T) rfl ?_
          refine ez_ifF (zt_nle (a := w + 1 + 1) (b := 0) (by omega) (by omega)) ?_
          refine ez_go ez_h85 5 (pc' := 45) (L' := [some (.ref 0), none, none, none]) (st' := [.int ((nI (w + 1 + 1)) - (nI (1))), .ref 0]) (w' := mz_w A (mfls, mfn, mprt, nI (w + 1 + 1), mwp, mwf, mwt, mwb) U T) rfl ?_
          refine ez_top (y := nI ((w + 1 + 1) - 1)) (pk_sub (by omega)) ?_
          refine ez_top (y := nI (w + 1)) (congrArg nI (by omega)) ?_
          refine ez_go ez_h85 6 (pc' := 57) (L' := [some (.ref 0), none, none, none]) (st' := [.int (nI (w + 1)), .ref 8, .ref 0]) (w' := mz_w A (mfls, mfn, mprt, nI (w + 1), mwp, mwf, mwt, mwb) U T) rfl ?_
          refine ez_ald ez_h85 rfl rfl (w + 1) rfl (by omega) (by omega) ?_
          refine ez_top (y := nI (b)) (a1) ?_
          refine ez_go ez_h85 4 (pc' := 66) (L' := [some (.ref 0), none, none, none]) (st' := [.int (nI (w + 1)), .ref 9, .int (nI (b)), .ref 0]) (w' := mz_w A (mfls, mfn, mprt, nI (w + 1), mwp, mwf, mwt, mwb) U T) rfl ?_
          refine ez_ald ez_h85 rfl rfl (w + 1) rfl (by omega) (by omega) ?_
          refine ez_top (y := nI (e)) (a2) ?_
          refine ez_go ez_h85 4 (pc' := 75) (L' := [some (.ref 0), none, none, none]) (st' := [.int (nI (w + 1)), .ref 10, .int (nI (e)), .int (nI (b)), .ref 0]) (w' := mz_w A (mfls, mfn, mprt, nI (w + 1), mwp, mwf, mwt, mwb) U T) rfl ?_
          refine ez_ald ez_h85 rfl rfl (w + 1) rfl (by omega) (by omega) ?_
          refine ez_top (y := nI (bud)) (a3) ?_
          refine ez_cl ez_h85 rfl rfl ?_
          refine hm _ mfls mfn mprt mwp mwf mwt mwb U T _ hA (fun A1 m1 m2 m3 mwp' hA1 e1 e2 e3 => ?_)
          refine ez_go ez_h85 1 (pc' := 31) (L' := [some (.ref 0), none, none, none]) (st' := []) (w' := mz_w A1 (m1, m2, m3, nI (w + 1), mwp', mwf, mwt, mwb) U T) rfl ?_
          refine hmF _ m1 m2 m3 mwp' mwf mwt mwb U T post hA1 ?_ (fun A2 Q2 hA2 f1 f2 f3 => kk A2 Q2 hA2 (by rw [f1, e1, Int64.add_assoc]) (by rw [f2, e2, Int64.add_assoc]) (by rw [f3, e3, Int64.add_assoc]))
          rw [va_up_id, va_up_id, va_up_id]
          exact ha.dn
    · obtain ⟨row2, g2, f2, p2, o2, hcF, hmF⟩ := ih w2 b2' e2 bud2 pf2 pt2 pb2 row1 g1 (by omega) o1 c1 c2
      refine ⟨row2, g2, f + f2, p + p2, o2, ?_, ?_⟩
      · intro r mid wp fls prt wf wt wb u bb post tn htn hr ha kk
        refine ez_go ez_h10 2 (pc' := bif decide ((nI (1)) = (nI 0)) then 167 else 27) (L' := [some (.ref 4), some (.int (nI (1))), some (.int (nI (tn))), none]) (st' := []) (w' := cz_w r (nI (w), nI (b), nI (e), nI (bud), nI (zq_f b), mid, wp, fls, prt, wf, wt, wb) u bb) rfl ?_
        refine ez_ifF (zt_ne (by omega) (by omega) (by omega)) ?_
        refine ez_go ez_h10 3 (pc' := bif decide ((nI (1000000)) ≤ (nI (tn))) then 167 else 33) (L' := [some (.ref 4), some (.int (nI (1))), some (.int (nI (tn))), none]) (st' := []) (w' := cz_w r (nI (w), nI (b), nI (e), nI (bud), nI (zq_f b), mid, wp, fls, prt, wf, wt, wb) u bb) rfl ?_
        refine ez_ifF (zt_nle (a := 1000000) (b := tn) (by omega) (by omega)) ?_
        refine hc _ mid wp fls prt wf wt wb u bb post tn hr ha (fun r1 mid' wp' fl' pr' wf' wt' wb' hr1 ha1 hf hp => ?_)
        refine ez_inc ez_h10 rfl rfl (v := nI (tn + 1)) (zi_1 _) rfl ?_
        refine ez_go ez_h10 1 (pc' := 23) (L' := [some (.ref 4), some (.int (nI (1))), some (.int (nI (tn + 1))), none]) (st' := []) (w' := cz_w r1 (nI w2, nI b2', nI e2, nI bud2, nI (zq_f b2'), mid', wp', fl', pr', wf', wt', wb') u bb) rfl ?_
        exact hcF _ mid' wp' fl' pr' wf' wt' wb' u bb post (tn + 1) (by omega) hr1 ha1 (fun r2 q2 hr2 e1 e2 => kk r2 q2 hr2 (by rw [e1, hf, Int64.add_assoc]) (by rw [e2, hp, Int64.add_assoc]))
      · intro A mfls mfn mprt mwp mwf mwt mwb U T post hA ha kk
        obtain ⟨a1, a2, a3⟩ := ha.at
        refine ez_go ez_h85 3 (pc' := bif decide ((nI (w + 1)) ≤ (nI 0)) then 82 else 38) (L' := [some (.ref 0), none, none, none]) (st' := []) (w' := mz_w A (mfls, mfn, mprt, nI (w + 1), mwp, mwf, mwt, mwb) U T) rfl ?_
        refine ez_ifF (zt_nle (a := w + 1) (b := 0) (by omega) (by omega)) ?_
        refine ez_go ez_h85 5 (pc' := 45) (L' := [some (.ref 0), none, none, none]) (st' := [.int ((nI (w + 1)) - (nI (1))), .ref 0]) (w' := mz_w A (mfls, mfn, mprt, nI (w + 1), mwp, mwf, mwt, mwb) U T) rfl ?_
        refine ez_top (y := nI ((w + 1) - 1)) (pk_sub (by omega)) ?_
        refine ez_top (y := nI (w)) (congrArg nI (by omega)) ?_
        refine ez_go ez_h85 6 (pc' := 57) (L' := [some (.ref 0), none, none, none]) (st' := [.int (nI (w)), .ref 8, .ref 0]) (w' := mz_w A (mfls, mfn, mprt, nI (w), mwp, mwf, mwt, mwb) U T) rfl ?_
        refine ez_ald ez_h85 rfl rfl (w) rfl (by omega) (by omega) ?_
        refine ez_top (y := nI (b)) (a1) ?_
        refine ez_go ez_h85 4 (pc' := 66) (L' := [some (.ref 0), none, none, none]) (st' := [.int (nI (w)), .ref 9, .int (nI (b)), .ref 0]) (w' := mz_w A (mfls, mfn, mprt, nI (w), mwp, mwf, mwt, mwb) U T) rfl ?_
        refine ez_ald ez_h85 rfl rfl (w) rfl (by omega) (by omega) ?_
        refine ez_top (y := nI (e)) (a2) ?_
        refine ez_go ez_h85 4 (pc' := 75) (L' := [some (.ref 0), none, none, none]) (st' := [.int (nI (w)), .ref 10, .int (nI (e)), .int (nI (b)), .ref 0]) (w' := mz_w A (mfls, mfn, mprt, nI (w), mwp, mwf, mwt, mwb) U T) rfl ?_
        refine ez_ald ez_h85 rfl rfl (w) rfl (by omega) (by omega) ?_
        refine ez_top (y := nI (bud)) (a3) ?_
        refine ez_cl ez_h85 rfl rfl ?_
        refine hm _ mfls mfn mprt mwp mwf mwt mwb U T _ hA ha.dn (fun A1 m1 m2 m3 mwp' wf' wt' wb' hA1 ha1 e1 e2 e3 => ?_)
        refine ez_go ez_h85 1 (pc' := 31) (L' := [some (.ref 0), none, none, none]) (st' := []) (w' := mz_w A1 (m1, m2, m3, nI (w2 + 1), mwp', wf', wt', wb') U T) rfl ?_
        exact hmF _ m1 m2 m3 mwp' wf' wt' wb' U T post hA1 ha1 (fun A2 Q2 hA2 f1 f2 f3 => kk A2 Q2 hA2 (by rw [f1, e1, Int64.add_assoc]) (by rw [f2, e2, Int64.add_assoc]) (by rw [f3, e3, Int64.add_assoc]))
theorem zq_sr : ∀ n, n < 601 → ∀ k, k < 11 → (nI n >>> (nI k &&& 31) ≤ nI 0 ↔ n / 2 ^ k = 0) := by decide +kernel
theorem zq_lg : ∀ n, n < 601 → Nat.log2 n ≤ 9 := by decide +kernel
theorem zq_wl {E : ze_T} (hE : ze_ok E) {r : cz_Row} {wtg fr fst mid wp : Int32} {fls prt : Int64} {wf wt wb : Nat → Int32} (u : cz_Rn) (bb : cz_Bn) {post : Option Value → ez_W → Prop} (kk : ez_E 11 59 [some (.ref 4), none] [] (cz_w r (wtg, fr, nI (ze_n E), nI (Nat.log2 (ze_n E)), fst, mid, wp, fls, prt, wf, wt, wb) u bb) post) : ∀ (s k : Nat), Nat.log2 (ze_n E) + 1 ≤ k + s → 1 ≤ k → k ≤ Nat.log2 (ze_n E) + 1 → ez_E 11 33 [some (.ref 4), some (.int (nI k))] [] (cz_w r (wtg, fr, nI (ze_n E), nI (k - 1), fst, mid, wp, fls, prt, wf, wt, wb) u bb) post := by
  have hn := hE.1
  have hl := zq_lg (ze_n E) (by omega)
  intro s
  induction s with
  | zero =>
    intro k h1 h2 h3
    have hk : k = Nat.log2 (ze_n E) + 1 := by omega
    have hz : ze_n E / 2 ^ k = 0 := Nat.div_eq_of_lt (by rw [hk]; exact Nat.lt_log2_self)
    have hz := (zq_sr (ze_n E) (by omega) k (by omega)).mpr hz
    refine ez_go ez_h11 3 (pc' := bif decide ((nI (31)) ≤ (nI (k))) then 59 else 39) (L' := [some (.ref 4), some (.int (nI (k)))]) (st' := []) (w' := cz_w r (wtg, fr, nI (ze_n E), nI (k - 1), fst, mid, wp, fls, prt, wf, wt, wb) u bb) rfl ?_
    refine ez_ifF (zt_nle (a := 31) (b := k) (by omega) (by omega)) ?_
    refine ez_go ez_h11 5 (pc' := bif decide ((nI (ze_n E) >>> (nI (k) &&& 31)) ≤ (nI 0)) then 59 else 48) (L' := [some (.ref 4), some (.int (nI (k)))]) (st' := []) (w' := cz_w r (wtg, fr, nI (ze_n E), nI (k - 1), fst, mid, wp, fls, prt, wf, wt, wb) u bb) rfl ?_
    refine ez_ifT (hz) ?_
    refine ez_E.le (ez_lc (ez_ln ez_l0)) ?_
    rw [show k - 1 = Nat.log2 (ze_n E) by omega]
    exact kk
  | succ s ih =>
    intro k h1 h2 h3
    by_cases hk : k = Nat.log2 (ze_n E) + 1
    · have hz : ze_n E / 2 ^ k = 0 := Nat.div_eq_of_lt (by rw [hk]; exact Nat.lt_log2_self)
      have hz := (zq_sr (ze_n E) (by omega) k (by omega)).mpr hz
      refine ez_go ez_h11 3 (pc' := bif decide ((nI (31)) ≤ (nI (k))) then 59 else 39) (L' := [some (.ref 4), some (.int (nI (k)))]) (st' := []) (w' := cz_w r (wtg, fr, nI (ze_n E), nI (k - 1), fst, mid, wp, fls, prt, wf, wt, wb) u bb) rfl ?_
      refine ez_ifF (zt_nle (a := 31) (b := k) (by omega) (by omega)) ?_
      refine ez_go ez_h11 5 (pc' := bif decide ((nI (ze_n E) >>> (nI (k) &&& 31)) ≤ (nI 0)) then 59 else 48) (L' := [some (.ref 4), some (.int (nI (k)))]) (st' := []) (w' := cz_w r (wtg, fr, nI (ze_n E), nI (k - 1), fst, mid, wp, fls, prt, wf, wt, wb) u bb) rfl ?_
      refine ez_ifT (hz) ?_
      refine ez_E.le (ez_lc (ez_ln ez_l0)) ?_
      rw [show k - 1 = Nat.log2 (ze_n E) by omega]
      exact kk
    · have hne : ze_n E ≠ 0 := fun z => by rw [z, show Nat.log2 0 = 0 by decide] at h3; rw [z, show Nat.log2 0 = 0 by decide] at hk; omega
      have hz : ¬ ze_n E / 2 ^ k = 0 := fun z => by
        have q1 := Nat.lt_of_div_eq_zero (Nat.two_pow_pos k) z
        have q2 : 2 ^ k ≤ ze_n E := (Nat.le_log2 hne).mp (by omega)
        omega
      have hz : ¬ nI (ze_n E) >>> (nI k &&& 31) ≤ nI 0 := fun z => hz ((zq_sr (ze_n E) (by omega) k (by omega)).mp z)
      refine ez_go ez_h11 3 (pc' := bif decide ((nI (31)) ≤ (nI (k))) then 59 else 39) (L' := [some (.ref 4), some (.int (nI (k)))]) (st' := []) (w' := cz_w r (wtg, fr, nI (ze_n E), nI (k - 1), fst, mid, wp, fls, prt, wf, wt, wb) u bb) rfl ?_
      refine ez_ifF (zt_nle (a := 31) (b := k) (by omega) (by omega)) ?_
      refine ez_go ez_h11 5 (pc' := bif decide ((nI (ze_n E) >>> (nI (k) &&& 31)) ≤ (nI 0)) then 59 else 48) (L' := [some (.ref 4), some (.int (nI (k)))]) (st' := []) (w' := cz_w r (wtg, fr, nI (ze_n E), nI (k - 1), fst, mid, wp, fls, prt, wf, wt, wb) u bb) rfl ?_
      refine ez_ifF (hz) ?_
      refine ez_go ez_h11 3 (pc' := 53) (L' := [some (.ref 4), some (.int (nI (k)))]) (st' := []) (w' := cz_w r (wtg, fr, nI (ze_n E), nI (k), fst, mid, wp, fls, prt, wf, wt, wb) u bb) rfl ?_
      refine ez_inc ez_h11 rfl rfl (v := nI (k + 1)) (zi_1 _) rfl ?_
      refine ez_go ez_h11 1 (pc' := 33) (L' := [some (.ref 4), some (.int (nI (k + 1)))]) (st' := []) (w' := cz_w r (wtg, fr, nI (ze_n E), nI (k), fst, mid, wp, fls, prt, wf, wt, wb) u bb) rfl ?_
      exact ih (k + 1) (by omega) (by omega) (by omega)
theorem zq_whole {E : ze_T} (hE : ze_ok E) {row : Nat → Nat} {g : zs_G} {r : cz_Row} (hr : cr_R E row g r) {wtg fr to bud fst mid wp : Int32} {fls prt : Int64} {wf wt wb : Nat → Int32} (u : cz_Rn) (bb : cz_Bn) {post : Option Value → ez_W → Prop} (kk : post none (cz_w r (nI 0, nI 0, nI (ze_n E), nI (Nat.log2 (ze_n E)), nI 1, mid, wp, fls, prt, wf, wt, wb) u bb)) : ez_m 11 [.ref 4] (cz_w r (wtg, fr, to, bud, fst, mid, wp, fls, prt, wf, wt, wb) u bb) post := by
  refine ez_m.of (L := [some (.ref 4), none]) rfl rfl rfl ?_
  refine ez_go ez_h11 9 (pc' := 15) (L' := [some (.ref 4), none]) (st' := [.ref 1, .ref 4]) (w' := cz_w r (nI (0), nI (0), to, bud, fst, mid, wp, fls, prt, wf, wt, wb) u bb) rfl ?_
  refine ez_cl ez_h11 rfl rfl ?_
  refine cr_size hr (nI (0), nI (0), to, bud, fst, mid, wp, fls, prt, wf, wt, wb) u bb ?_
  refine ez_go ez_h11 9 (pc' := 33) (L' := [some (.ref 4), some (.int (nI (1)))]) (st' := []) (w' := cz_w r (nI (0), nI (0), nI (ze_n E), nI (0), nI (1), mid, wp, fls, prt, wf, wt, wb) u bb) rfl ?_
  exact zq_wl hE u bb (ez_vret rfl ez_h11 rfl rfl kk) (Nat.log2 (ze_n E) + 1) 1 (by omega) (by omega) (by omega)
/-- less than two: nothing to do -/
theorem zq_none {E : ze_T} (hE : ze_ok E) (h2 : ze_n E < 2) {row : Nat → Nat} {g : zs_G} {r : cz_Row} (hr : cr_R E row g r) (q : cz_Qk) (u : cz_Rn) (bb : cz_Bn) {post : Option Value → ez_W → Prop} (kk : ∀ q' : cz_Qk, q'.2.2.2.2.2.2.2.1 = q.2.2.2.2.2.2.2.1 → q'.2.2.2.2.2.2.2.2.1 = q.2.2.2.2.2.2.2.2.1 → post none (cz_w r q' u bb)) : ez_m 10 [.ref 4] (cz_w r q u bb) post := by
  obtain ⟨wtg, fr, to, bud, fst, mid, wp, fls, prt, wf, wt, wb⟩ := q
  refine ez_m.of (L := [some (.ref 4), none, none, none]) rfl rfl rfl ?_
  refine ez_go ez_h10 2 (pc' := 4) (L' := [some (.ref 4), none, none, none]) (st' := [.ref 1]) (w' := cz_w r (wtg, fr, to, bud, fst, mid, wp, fls, prt, wf, wt, wb) u bb) rfl ?_
  refine ez_cl ez_h10 rfl rfl ?_
  refine cr_size hr (wtg, fr, to, bud, fst, mid, wp, fls, prt, wf, wt, wb) u bb ?_
  refine ez_go ez_h10 2 (pc' := bif decide ((nI (ze_n E)) < (nI (2))) then 15 else 11) (L' := [some (.ref 4), none, none, none]) (st' := []) (w' := cz_w r (wtg, fr, to, bud, fst, mid, wp, fls, prt, wf, wt, wb) u bb) rfl ?_
  refine ez_ifT (zt_lt (a := ze_n E) (b := 2) (by omega) (by omega)) ?_
  refine ez_go ez_h10 3 (pc' := 18) (L' := [some (.ref 4), some (.int (nI (0))), none, none]) (st' := [.ref 4]) (w' := cz_w r (wtg, fr, to, bud, fst, mid, wp, fls, prt, wf, wt, wb) u bb) rfl ?_
  refine ez_cl ez_h10 rfl rfl ?_
  refine zq_whole hE hr u bb ?_
  refine ez_go ez_h10 4 (pc' := bif decide ((nI (0)) = (nI 0)) then 167 else 27) (L' := [some (.ref 4), some (.int (nI (0))), some (.int (nI (0))), none]) (st' := []) (w' := cz_w r (nI (0), nI (0), nI (ze_n E), nI (Nat.log2 (ze_n E)), nI (1), mid, wp, fls, prt, wf, wt, wb) u bb) rfl ?_
  refine ez_ifT (zt_eq (by omega)) ?_
  exact ez_vret rfl ez_h10 rfl rfl (kk _ rfl rfl)
theorem zq_ml {E : ze_T} (hE : ze_ok E) {A : mz_A} {Q : mz_Q} {U : mz_U} {T : mz_T} {post : Option Value → ez_W → Prop} (kk : ez_E 85 19 [some (.ref 0), some (.int (nI (ze_n E))), some (.int (nI (Nat.log2 (ze_n E)))), none] [] (mz_w A Q U T) post) : ∀ (s k bud : Nat), k ≤ s → 1 ≤ k → k ≤ 600 → bud + Nat.log2 k = Nat.log2 (ze_n E) → ez_E 85 4 [some (.ref 0), some (.int (nI (ze_n E))), some (.int (nI bud)), some (.int (nI k))] [] (mz_w A Q U T) post := by
  intro s
  induction s with
  | zero => intro k bud h1 h2; omega
  | succ s ih =>
    intro k bud h1 h2 h2b h3
    rw [Nat.log2_def] at h3
    by_cases hk : 2 ≤ k
    · rw [if_pos hk] at h3
      refine ez_go ez_h85 3 (pc' := bif decide ((nI (k)) ≤ (nI (1))) then 19 else 9) (L' := [some (.ref 0), some (.int (nI (ze_n E))), some (.int (nI (bud))), some (.int (nI (k)))]) (st' := []) (w' := mz_w A Q U T) rfl ?_
      refine ez_ifF (zt_nle (a := k) (b := 1) (by omega) (by omega)) ?_
      refine ez_inc ez_h85 rfl rfl (v := nI (bud + 1)) (zi_1 _) rfl ?_
      refine ez_go ez_h85 3 (pc' := 15) (L' := [some (.ref 0), some (.int (nI (ze_n E))), some (.int (nI (bud + 1))), some (.int (nI (k)))]) (st' := [.int ((nI (k)) / (nI (2)))]) (w' := mz_w A Q U T) rfl ?_
      refine ez_top (y := nI (k / 2)) (pk_div (by omega) (by omega) (by omega)) ?_
      refine ez_go ez_h85 2 (pc' := 4) (L' := [some (.ref 0), some (.int (nI (ze_n E))), some (.int (nI (bud + 1))), some (.int (nI (k / 2)))]) (st' := []) (w' := mz_w A Q U T) rfl ?_
      exact ih (k / 2) (bud + 1) (by omega) (by omega) (by omega) (by omega)
    · rw [if_neg hk] at h3
      refine ez_go ez_h85 3 (pc' := bif decide ((nI (k)) ≤ (nI (1))) then 19 else 9) (L' := [some (.ref 0), some (.int (nI (ze_n E))), some (.int (nI (bud))), some (.int (nI (k)))]) (st' := []) (w' := mz_w A Q U T) rfl ?_
      refine ez_ifT (zt_le (a := k) (b := 1) (by omega) (by omega)) ?_
      refine ez_E.le (ez_lc (ez_lc (ez_lc (ez_ln ez_l0)))) ?_
      rw [show bud = Nat.log2 (ze_n E) by omega]
      exact kk
/-- QUICK -/
theorem zq_quick {E : ze_T} (hE : ze_ok E) (h2 : 2 ≤ ze_n E) {row : Nat → Nat} {g : zs_G} (hw : zr_ok E row g) : ∃ (row' : Nat → Nat) (g' : zs_G) (f p : Int64), zr_ok E row' g' ∧
    (∀ (r : cz_Row) (q : cz_Qk) (u : cz_Rn) (bb : cz_Bn) (post : Option Value → ez_W → Prop), cr_R E row g r → (∀ (r' : cz_Row) (q' : cz_Qk), cr_R E row' g' r' → q'.2.2.2.2.2.2.2.1 = q.2.2.2.2.2.2.2.1 + f → q'.2.2.2.2.2.2.2.2.1 = q.2.2.2.2.2.2.2.2.1 + p → post none (cz_w r' q' u bb)) → ez_m 10 [.ref 4] (cz_w r q u bb) post) ∧
    (∀ (A : mz_A) (Q : mz_Q) (U : mz_U) (T : mz_T) (post : Option Value → ez_W → Prop), mr_R E row g A → (∀ (A' : mz_A) (Q' : mz_Q), mr_R E row' g' A' → Q'.1 = Q.1 + f → Q'.2.1 = Q.2.1 + f → Q'.2.2.1 = Q.2.2.1 + p → post none (mz_w A' Q' U T)) → ez_m 85 [.ref 0, .int (nI (ze_n E))] (mz_w A Q U T) post) := by
  have hn := hE.1
  have hl := zq_lg (ze_n E) (by omega)
  have hh := zq_h_top (ze_n E) (by omega)
  have hl1 : 1 ≤ Nat.log2 (ze_n E) := (Nat.le_log2 (by omega)).mpr (by omega)
  obtain ⟨row', g', f, p, o1, hc, hm⟩ := zq_turns hE (2 * ze_n E + 1) 0 0 (ze_n E) (Nat.log2 (ze_n E)) (fun _ => 0) (fun _ => 0) (fun _ => 0) row g (by show 0 + 2 * (ze_n E - 0) < _; omega) hw ⟨fun k hk => by omega, fun j k h1 h2 => by omega⟩ ⟨by omega, Nat.le_refl _, fun z => (z rfl).elim, hl1, by rw [Nat.sub_zero]; omega⟩
  refine ⟨row', g', f, p, o1, fun r q u bb post hr kk => ?_, fun A Q U T post hA kk => ?_⟩
  · obtain ⟨wtg, fr, to, bud, fst, mid, wp, fls, prt, wf, wt, wb⟩ := q
    refine ez_m.of (L := [some (.ref 4), none, none, none]) rfl rfl rfl ?_
    refine ez_go ez_h10 2 (pc' := 4) (L' := [some (.ref 4), none, none, none]) (st' := [.ref 1]) (w' := cz_w r (wtg, fr, to, bud, fst, mid, wp, fls, prt, wf, wt, wb) u bb) rfl ?_
    refine ez_cl ez_h10 rfl rfl ?_
    refine cr_size hr (wtg, fr, to, bud, fst, mid, wp, fls, prt, wf, wt, wb) u bb ?_
    refine ez_go ez_h10 2 (pc' := bif decide ((nI (ze_n E)) < (nI (2))) then 15 else 11) (L' := [some (.ref 4), none, none, none]) (st' := []) (w' := cz_w r (wtg, fr, to, bud, fst, mid, wp, fls, prt, wf, wt, wb) u bb) rfl ?_
    refine ez_ifF (zt_nlt (a := ze_n E) (b := 2) (by omega) (by omega)) ?_
    refine ez_go ez_h10 4 (pc' := 18) (L' := [some (.ref 4), some (.int (nI (1))), none, none]) (st' := [.ref 4]) (w' := cz_w r (wtg, fr, to, bud, fst, mid, wp, fls, prt, wf, wt, wb) u bb) rfl ?_
    refine ez_cl ez_h10 rfl rfl ?_
    refine zq_whole hE hr u bb ?_
    refine ez_go ez_h10 2 (pc' := 23) (L' := [some (.ref 4), some (.int (nI (1))), some (.int (nI (0))), none]) (st' := []) (w' := cz_w r (nI (0), nI (0), nI (ze_n E), nI (Nat.log2 (ze_n E)), nI (1), mid, wp, fls, prt, wf, wt, wb) u bb) rfl ?_
    exact hc _ mid wp fls prt wf wt wb u bb post 0 (by show 0 + (0 + 2 * (ze_n E - 0) + 1) < _; omega) hr (fun k hk => by omega) kk
  · obtain ⟨mfls, mfn, mprt, mwtg, mwp, mwf, mwt, mwb⟩ := Q
    refine ez_m.of (L := [some (.ref 0), some (.int (nI (ze_n E))), none, none]) rfl rfl rfl ?_
    refine ez_go ez_h85 4 (pc' := 4) (L' := [some (.ref 0), some (.int (nI (ze_n E))), some (.int (nI (0))), some (.int (nI (ze_n E)))]) (st' := []) (w' := mz_w A (mfls, mfn, mprt, mwtg, mwp, mwf, mwt, mwb) U T) rfl ?_
    refine zq_ml hE ?_ (ze_n E) (ze_n E) 0 (Nat.le_refl _) (by omega) hn (by omega)
    refine ez_go ez_h85 7 (pc' := 28) (L' := [some (.ref 0), some (.int (nI (ze_n E))), some (.int (nI (Nat.log2 (ze_n E)))), none]) (st' := [.int (nI (Nat.log2 (ze_n E))), .int (nI (ze_n E)), .int (nI (0)), .ref 0]) (w' := mz_w A (mfls, mfn, mprt, nI (0), mwp, mwf, mwt, mwb) U T) rfl ?_
    refine ez_cl ez_h85 rfl rfl ?_
    refine ez_m.of (L := [some (.ref 0), some (.int (nI (0))), some (.int (nI (ze_n E))), some (.int (nI (Nat.log2 (ze_n E))))]) rfl rfl rfl ?_
    refine ez_go ez_h86 5 (pc' := 9) (L' := [some (.ref 0), some (.int (nI (0))), some (.int (nI (ze_n E))), some (.int (nI (Nat.log2 (ze_n E))))]) (st' := [.int (nI (0)), .int (nI (0)), .ref 8]) (w' := mz_w A (mfls, mfn, mprt, nI (0), mwp, mwf, mwt, mwb) U T) rfl ?_
    refine ez_ast ez_h86 rfl rfl (0) rfl (by omega) (by omega) ?_
    refine ez_go ez_h86 5 (pc' := 19) (L' := [some (.ref 0), some (.int (nI (0))), some (.int (nI (ze_n E))), some (.int (nI (Nat.log2 (ze_n E))))]) (st' := [.int (nI (ze_n E)), .int (nI (0)), .ref 9]) (w' := mz_w A (mfls, mfn, mprt, nI (0), mwp, (upd mwf 0 (nI (0))), mwt, mwb) U T) rfl ?_
    refine ez_ast ez_h86 rfl rfl (0) rfl (by omega) (by omega) ?_
    refine ez_go ez_h86 5 (pc' := 29) (L' := [some (.ref 0), some (.int (nI (0))), some (.int (nI (ze_n E))), some (.int (nI (Nat.log2 (ze_n E))))]) (st' := [.int (nI (Nat.log2 (ze_n E))), .int (nI (0)), .ref 10]) (w' := mz_w A (mfls, mfn, mprt, nI (0), mwp, (upd mwf 0 (nI (0))), (upd mwt 0 (nI (ze_n E))), mwb) U T) rfl ?_
    refine ez_ast ez_h86 rfl rfl (0) rfl (by omega) (by omega) ?_
    refine ez_go ez_h86 5 (pc' := 37) (L' := [some (.ref 0), some (.int (nI (0))), some (.int (nI (ze_n E))), some (.int (nI (Nat.log2 (ze_n E))))]) (st' := [.int ((nI (0)) + (nI (1))), .ref 0]) (w' := mz_w A (mfls, mfn, mprt, nI (0), mwp, (upd mwf 0 (nI (0))), (upd mwt 0 (nI (ze_n E))), (upd mwb 0 (nI (Nat.log2 (ze_n E))))) U T) rfl ?_
    refine ez_top (y := nI (0 + 1)) (nI_add _ _) ?_
    refine ez_go ez_h86 1 (pc' := 40) (L' := [some (.ref 0), some (.int (nI (0))), some (.int (nI (ze_n E))), some (.int (nI (Nat.log2 (ze_n E))))]) (st' := []) (w' := mz_w A (mfls, mfn, mprt, nI (0 + 1), mwp, (upd mwf 0 (nI (0))), (upd mwt 0 (nI (ze_n E))), (upd mwb 0 (nI (Nat.log2 (ze_n E))))) U T) rfl ?_
    refine ez_vret rfl ez_h86 rfl rfl ?_
    refine ez_E.le (ez_lc (ez_ln (ez_ln (ez_lc ez_l0)))) ?_
    exact hm _ mfls mfn mprt mwp _ _ _ U T post hA (zq_a.up (fun k hk => by omega) 0 (ze_n E) (Nat.log2 (ze_n E))) kk
