theorem zm_cp {E : ze_T} (hE : ze_ok E) {b c e : Nat} (he : e ≤ ze_n E) (hc : b ≤ c) (hce : c ≤ e) {row : Nat → Nat} {g : zs_G} (hw : zr_ok E row g) : ∀ (s i : Nat) (spr : Nat → Int32), c ≤ b + i + s → b + i ≤ c → (∀ k, k < i → spr k = nI (ze_pi E (row (b + k)))) →
    ∀ (r : cz_Row) (q : cz_Qk) (u1 : Int32) (u2 u3 : Int64) (u4 u5 : Nat → Int32) (bb : cz_Bn) (post : Option Value → ez_W → Prop), cr_R E row g r → (∀ (spr' : Nat → Int32), (∀ k, k < c - b → spr' k = nI (ze_pi E (row (b + k)))) → ez_E 56 47 [some (.ref 5), some (.int (nI (b))), some (.int (nI (c))), some (.int (nI (e))), some (.int (nI (c - b))), none, none, none] [] (cz_w r q (u1, u2, u3, u4, u5, spr') bb) post) → ez_E 56 16 [some (.ref 5), some (.int (nI (b))), some (.int (nI (c))), some (.int (nI (e))), some (.int (nI (c - b))), some (.int (nI (i))), none, none] [] (cz_w r q (u1, u2, u3, u4, u5, spr) bb) post := by
  have hn := hE.1
  intro s
  induction s with
  | zero =>
    intro i spr h1 h2 h3 r q u1 u2 u3 u4 u5 bb post hr kk
    refine ez_go ez_h56 3 (pc' := bif decide ((nI (c - b)) ≤ (nI (i))) then 47 else 23) (L' := [some (.ref 5), some (.int (nI (b))), some (.int (nI (c))), some (.int (nI (e))), some (.int (nI (c - b))), some (.int (nI (i))), none, none]) (st' := []) (w' := cz_w r q (u1, u2, u3, u4, u5, spr) bb) rfl ?_
    refine ez_ifT (zt_le (a := c - b) (b := i) (by omega) (by omega)) ?_
    exact ez_E.le (ez_lc (ez_lc (ez_lc (ez_lc (ez_lc (ez_ln (ez_lc (ez_lc ez_l0)))))))) (kk spr (fun k hk => h3 k (by omega)))
  | succ s ih =>
    intro i spr h1 h2 h3 r q u1 u2 u3 u4 u5 bb post hr kk
    by_cases hi : c - b ≤ i
    · skip
      refine ez_go ez_h56 3 (pc' := bif decide ((nI (c - b)) ≤ (nI (i))) then 47 else 23) (L' := [some (.ref 5), some (.int (nI (b))), some (.int (nI (c))), some (.int (nI (e))), some (.int (nI (c - b))), some (.int (nI (i))), none, none]) (st' := []) (w' := cz_w r q (u1, u2, u3, u4, u5, spr) bb) rfl ?_
      refine ez_ifT (zt_le (a := c - b) (b := i) (by omega) (by omega)) ?_
      exact ez_E.le (ez_lc (ez_lc (ez_lc (ez_lc (ez_lc (ez_ln (ez_lc (ez_lc ez_l0)))))))) (kk spr (fun k hk => h3 k (by omega)))
    · skip
      refine ez_go ez_h56 3 (pc' := bif decide ((nI (c - b)) ≤ (nI (i))) then 47 else 23) (L' := [some (.ref 5), some (.int (nI (b))), some (.int (nI (c))), some (.int (nI (e))), some (.int (nI (c - b))), some (.int (nI (i))), none, none]) (st' := []) (w' := cz_w r q (u1, u2, u3, u4, u5, spr) bb) rfl ?_
      refine ez_ifF (zt_nle (a := c - b) (b := i) (by omega) (by omega)) ?_
      refine ez_go ez_h56 8 (pc' := 37) (L' := [some (.ref 5), some (.int (nI (b))), some (.int (nI (c))), some (.int (nI (e))), some (.int (nI (c - b))), some (.int (nI (i))), none, none]) (st' := [.int ((nI (b)) + (nI (i))), .ref 1, .int (nI (i)), .ref 14]) (w' := cz_w r q (u1, u2, u3, u4, u5, spr) bb) rfl ?_
      refine ez_top (y := nI (b + i)) (nI_add _ _) ?_
      refine ez_cl ez_h56 rfl rfl ?_
      refine cr_at hE hr (k := b + i) (by omega) q (u1, u2, u3, u4, u5, spr) bb ?_
      refine ez_ast ez_h56 rfl rfl (i) rfl (by omega) (by omega) ?_
      refine ez_inc ez_h56 rfl rfl (v := nI (i + 1)) (zi_1 _) rfl ?_
      refine ez_go ez_h56 1 (pc' := 16) (L' := [some (.ref 5), some (.int (nI (b))), some (.int (nI (c))), some (.int (nI (e))), some (.int (nI (c - b))), some (.int (nI (i + 1))), none, none]) (st' := []) (w' := cz_w r q (u1, u2, u3, u4, u5, (upd spr i (nI (ze_pi E (row (b + i)))))) bb) rfl ?_
      refine ih (i + 1) _ (by omega) (by omega) (fun k hk => ?_) r q u1 u2 u3 u4 u5 bb post hr kk
      by_cases e1 : k = i
      · rw [e1, pk_us]
      · rw [pk_un e1]; exact h3 k (by omega)
theorem zm_bk {E : ze_T} (hE : ze_ok E) {b e : Nat} (he : e ≤ ze_n E) {rc : Nat → Nat} {g : zs_G} (hrc : zr_ok E rc g) : ∀ (s k : Nat) (rw1 : Nat → Nat), e ≤ k + s → b ≤ k → k ≤ 600 → (∀ j, ¬ (k ≤ j ∧ j < e) → rw1 j = rc j) →
    ∀ (mo : Nat → Int32), (∀ j, b ≤ j → j < e → mo j = nI (rc j)) → ∀ (A : mz_A) (Q : mz_Q) (U1 U2 : Int64) (U3 : Int32) (U4 U5 : Nat → Int32) (T : mz_T) (t : Nat) (post : Option Value → ez_W → Prop), mr_R E rw1 g A → (∀ A' : mz_A, mr_R E rc g A' → ez_E 91 162 [some (.ref 0), some (.int (nI (t))), none, none, some (.int (nI (e))), none, none, none, none] [] (mz_w A' Q (U1, U2, U3, U4, U5, mo) T) post) → ez_E 91 135 [some (.ref 0), some (.int (nI (t))), none, none, some (.int (nI (e))), none, none, some (.int (nI (k))), none] [] (mz_w A Q (U1, U2, U3, U4, U5, mo) T) post := by
  have hn := hE.1
  intro s
  induction s with
  | zero =>
    intro k rw1 h1 h2 h3 h4 mo h5 A Q U1 U2 U3 U4 U5 T t post hA kk
    have e1 : rw1 = rc := funext (fun j => h4 j (by omega))
    subst e1
    refine ez_go ez_h91 3 (pc' := bif decide ((nI (e)) ≤ (nI (k))) then 162 else 142) (L' := [some (.ref 0), some (.int (nI (t))), none, none, some (.int (nI (e))), none, none, some (.int (nI (k))), none]) (st' := []) (w' := mz_w A Q (U1, U2, U3, U4, U5, mo) T) rfl ?_
    refine ez_ifT (zt_le (a := e) (b := k) (by omega) (by omega)) ?_
    exact ez_E.le (ez_lc (ez_lc (ez_lc (ez_lc (ez_lc (ez_lc (ez_lc (ez_ln (ez_lc ez_l0))))))))) (kk _ hA)
  | succ s ih =>
    intro k rw1 h1 h2 h3 h4 mo h5 A Q U1 U2 U3 U4 U5 T t post hA kk
    by_cases hk : e ≤ k
    · have e1 : rw1 = rc := funext (fun j => h4 j (by omega))
      subst e1
      refine ez_go ez_h91 3 (pc' := bif decide ((nI (e)) ≤ (nI (k))) then 162 else 142) (L' := [some (.ref 0), some (.int (nI (t))), none, none, some (.int (nI (e))), none, none, some (.int (nI (k))), none]) (st' := []) (w' := mz_w A Q (U1, U2, U3, U4, U5, mo) T) rfl ?_
      refine ez_ifT (zt_le (a := e) (b := k) (by omega) (by omega)) ?_
      exact ez_E.le (ez_lc (ez_lc (ez_lc (ez_lc (ez_lc (ez_lc (ez_lc (ez_ln (ez_lc ez_l0))))))))) (kk _ hA)
    · skip
      refine ez_go ez_h91 3 (pc' := bif decide ((nI (e)) ≤ (nI (k))) then 162 else 142) (L' := [some (.ref 0), some (.int (nI (t))), none, none, some (.int (nI (e))), none, none, some (.int (nI (k))), none]) (st' := []) (w' := mz_w A Q (U1, U2, U3, U4, U5, mo) T) rfl ?_
      refine ez_ifF (zt_nle (a := e) (b := k) (by omega) (by omega)) ?_
      refine ez_go ez_h91 6 (pc' := 154) (L' := [some (.ref 0), some (.int (nI (t))), none, none, some (.int (nI (e))), none, none, some (.int (nI (k))), none]) (st' := [.int (nI (k)), .ref 5, .int (nI (k)), .ref 4]) (w' := mz_w A Q (U1, U2, U3, U4, U5, mo) T) rfl ?_
      refine ez_ald ez_h91 rfl rfl (k) rfl (by omega) (by omega) ?_
      refine ez_top (y := nI (rc k)) (h5 k (by omega) (by omega)) ?_
      refine mr_st ez_h91 rfl hE hA (k := k) (x := rc k) (by omega) (fun A4 hA4 => ?_)
      refine ez_inc ez_h91 rfl rfl (v := nI (k + 1)) (zi_1 _) rfl ?_
      refine ez_go ez_h91 1 (pc' := 135) (L' := [some (.ref 0), some (.int (nI (t))), none, none, some (.int (nI (e))), none, none, some (.int (nI (k + 1))), none]) (st' := []) (w' := mz_w A4 Q (U1, U2, U3, U4, U5, mo) T) rfl ?_
      refine ih (k + 1) _ (by omega) (by omega) (by omega) (fun j hj => ?_) mo h5 _ Q U1 U2 U3 U4 U5 T t post hA4 kk
      by_cases e1 : j = k
      · rw [e1, va_up_self]
      · rw [va_up_ne _ _ e1]; exact h4 j (by omega)
/-- two RUNS are MERGED: the class's method, the reference's piece -/
theorem zm_merge {E : ze_T} (hE : ze_ok E) {b c e : Nat} (he : e ≤ ze_n E) (hc : b ≤ c) (hce : c ≤ e) {row : Nat → Nat} {g : zs_G} (hw : zr_ok E row g) :
    ∃ (row' : Nat → Nat) (g' : zs_G), zr_ok E row' g' ∧ zg_le E g g' ∧ zp_in row row' b e ∧
      (∀ (r : cz_Row) (q : cz_Qk) (u : cz_Rn) (bb : cz_Bn) (post : Option Value → ez_W → Prop), cr_R E row g r → (∀ (r' : cz_Row) (spr : Nat → Int32), cr_R E row' g' r' → post none (cz_w r' q (u.1, u.2.1, u.2.2.1, u.2.2.2.1, u.2.2.2.2.1, spr) bb)) → ez_m 56 [.ref 5, .int (nI b), .int (nI c), .int (nI e)] (cz_w r q u bb) post) ∧
      (∀ (mo : Nat → Int32) (A : mz_A) (Q : mz_Q) (U1 U2 : Int64) (U3 : Int32) (U4 U5 : Nat → Int32) (T : mz_T) (t : Nat) (post : Option Value → ez_W → Prop), mr_R E row g A → (∀ (A' : mz_A) (mo' : Nat → Int32), mr_R E row' g' A' → ez_E 91 162 [some (.ref 0), some (.int (nI (t))), none, none, some (.int (nI (e))), none, none, none, none] [] (mz_w A' Q (U1, U2, U3, U4, U5, mo') T) post) → ez_E 91 26 [some (.ref 0), some (.int (nI (t))), some (.int (nI (b))), some (.int (nI (c))), some (.int (nI (e))), none, none, none, none] [] (mz_w A Q (U1, U2, U3, U4, U5, mo) T) post) := by
  have hn := hE.1
  obtain ⟨row', g', a1, a2, a3, a4, a5⟩ := zm_loop hE he hc (row := row) (c + e) 0 c b row g (by omega) (by omega) (Nat.le_refl _) hce (by omega) hw hw (fun _ _ => rfl) (fun _ _ => rfl) (fun k k1 k2 => by omega)
  refine ⟨row', g', a1, a2, a3, fun r q u bb post hr kk => ?_, fun mo A Q U1 U2 U3 U4 U5 T t post hA kk => ?_⟩
  · obtain ⟨u1, u2, u3, u4, u5, spr0⟩ := u
    refine ez_m.of (L := [some (.ref 5), some (.int (nI (b))), some (.int (nI (c))), some (.int (nI (e))), none, none, none, none]) rfl rfl rfl ?_
    refine ez_go ez_h56 3 (pc' := 3) (L' := [some (.ref 5), some (.int (nI (b))), some (.int (nI (c))), some (.int (nI (e))), none, none, none, none]) (st' := [.int ((nI (c)) - (nI (b)))]) (w' := cz_w r q (u1, u2, u3, u4, u5, spr0) bb) rfl ?_
    refine ez_top (y := nI (c - b)) (pk_sub (by omega)) ?_
    refine ez_go ez_h56 3 (pc' := 8) (L' := [some (.ref 5), some (.int (nI (b))), some (.int (nI (c))), some (.int (nI (e))), none, none, none, none]) (st' := [.int (nI (600)), .int (nI (c - b))]) (w' := cz_w r q (u1, u2, u3, u4, u5, spr0) bb) rfl ?_
    refine ez_min ez_h56 rfl rfl (by omega) (by omega) ?_
    rw [show min (c - b) 600 = c - b by omega]
    refine ez_go ez_h56 3 (pc' := 16) (L' := [some (.ref 5), some (.int (nI (b))), some (.int (nI (c))), some (.int (nI (e))), some (.int (nI (c - b))), some (.int (nI (0))), none, none]) (st' := []) (w' := cz_w r q (u1, u2, u3, u4, u5, spr0) bb) rfl ?_
    refine zm_cp hE he hc hce hw c 0 spr0 (by omega) (by omega) (fun k hk => by omega) r q u1 u2 u3 u4 u5 bb post hr (fun spr hs => ?_)
    refine ez_go ez_h56 6 (pc' := 56) (L' := [some (.ref 5), some (.int (nI (b))), some (.int (nI (c))), some (.int (nI (e))), some (.int (nI (c - b))), some (.int (nI (0))), some (.int (nI (c))), some (.int (nI (b)))]) (st' := []) (w' := cz_w r q (u1, u2, u3, u4, u5, spr) bb) rfl ?_
    exact a4 _ q (u1, u2, u3, u4, u5, spr) bb post hs hr (fun r9 hr9 => kk r9 spr hr9)
  · skip
    refine ez_go ez_h91 6 (pc' := 35) (L' := [some (.ref 0), some (.int (nI (t))), some (.int (nI (b))), some (.int (nI (c))), some (.int (nI (e))), some (.int (nI (b))), some (.int (nI (c))), some (.int (nI (b))), none]) (st' := []) (w' := mz_w A Q (U1, U2, U3, U4, U5, mo) T) rfl ?_
    refine a5 mo (fun k k1 k2 => by omega) _ Q U1 U2 U3 U4 U5 T t post hA (fun A9 mo9 hA9 hm9 => ?_)
    refine ez_go ez_h91 2 (pc' := 135) (L' := [some (.ref 0), some (.int (nI (t))), some (.int (nI (b))), some (.int (nI (c))), some (.int (nI (e))), none, none, some (.int (nI (b))), none]) (st' := []) (w' := mz_w A9 Q (U1, U2, U3, U4, U5, mo9) T) rfl ?_
    refine ez_E.le (ez_lc (ez_lc (ez_ln (ez_ln (ez_lc (ez_lc (ez_lc (ez_lc (ez_lc ez_l0))))))))) (zm_bk hE he a1 e b row (by omega) (Nat.le_refl _) (by omega) (fun j hj => (a3.2 j (by omega)).symm) mo9 hm9 _ Q U1 U2 U3 U4 U5 T t post hA9 (fun A8 hA8 => kk A8 mo9 hA8))
