theorem zm_keep {mo : Nat → Int32} {rc : Nat → Nat} {b k x : Nat} (h : ∀ j, b ≤ j → j < k → mo j = nI (rc j)) (hx : rc k = x) : ∀ j, b ≤ j → j < k + 1 → upd mo k (nI x) j = nI (rc j) := fun j h1 h2 => by
  by_cases e : j = k
  · rw [e, pk_us, hx]
  · rw [pk_un e]; exact h j h1 (by omega)
theorem zm_tr {E : ze_T} (hE : ze_ok E) {b c e : Nat} (he : e ≤ ze_n E) (hc : b ≤ c) {row rc : Nat → Nat} {g : zs_G} (hw : zr_ok E row g) : ∀ (s ri : Nat) (mo : Nat → Int32), e ≤ ri + s → ri ≤ e → c ≤ ri → (∀ k, ri ≤ k → rc k = row k) → (∀ k, b ≤ k → k < ri → mo k = nI (rc k)) →
    ∀ (A : mz_A) (Q : mz_Q) (U1 U2 : Int64) (U3 : Int32) (U4 U5 : Nat → Int32) (T : mz_T) (t : Nat) (post : Option Value → ez_W → Prop), mr_R E row g A → (∀ (A' : mz_A) (mo' : Nat → Int32), mr_R E row g A' → (∀ k, b ≤ k → k < e → mo' k = nI (rc k)) → ez_E 91 132 [some (.ref 0), some (.int (nI (t))), some (.int (nI (b))), some (.int (nI (c))), some (.int (nI (e))), none, none, none, none] [] (mz_w A' Q (U1, U2, U3, U4, U5, mo') T) post) → ez_E 91 35 [some (.ref 0), some (.int (nI (t))), some (.int (nI (b))), some (.int (nI (c))), some (.int (nI (e))), some (.int (nI (c))), some (.int (nI (ri))), some (.int (nI (ri))), none] [] (mz_w A Q (U1, U2, U3, U4, U5, mo) T) post := by
  have hn := hE.1
  intro s
  induction s with
  | zero =>
    intro ri mo h1 h2 h3 h4 h5 A Q U1 U2 U3 U4 U5 T t post hA kk
    refine ez_go ez_h91 3 (pc' := bif decide ((nI (e)) ≤ (nI (ri))) then 132 else 42) (L' := [some (.ref 0), some (.int (nI (t))), some (.int (nI (b))), some (.int (nI (c))), some (.int (nI (e))), some (.int (nI (c))), some (.int (nI (ri))), some (.int (nI (ri))), none]) (st' := []) (w' := mz_w A Q (U1, U2, U3, U4, U5, mo) T) rfl ?_
    refine ez_ifT (zt_le (a := e) (b := ri) (by omega) (by omega)) ?_
    exact ez_E.le (ez_lc (ez_lc (ez_lc (ez_lc (ez_lc (ez_ln (ez_ln (ez_ln (ez_lc ez_l0))))))))) (kk _ mo hA (fun k k1 k2 => h5 k k1 (by omega)))
  | succ s ih =>
    intro ri mo h1 h2 h3 h4 h5 A Q U1 U2 U3 U4 U5 T t post hA kk
    by_cases hr : e ≤ ri
    · skip
      refine ez_go ez_h91 3 (pc' := bif decide ((nI (e)) ≤ (nI (ri))) then 132 else 42) (L' := [some (.ref 0), some (.int (nI (t))), some (.int (nI (b))), some (.int (nI (c))), some (.int (nI (e))), some (.int (nI (c))), some (.int (nI (ri))), some (.int (nI (ri))), none]) (st' := []) (w' := mz_w A Q (U1, U2, U3, U4, U5, mo) T) rfl ?_
      refine ez_ifT (zt_le (a := e) (b := ri) (by omega) (by omega)) ?_
      exact ez_E.le (ez_lc (ez_lc (ez_lc (ez_lc (ez_lc (ez_ln (ez_ln (ez_ln (ez_lc ez_l0))))))))) (kk _ mo hA (fun k k1 k2 => h5 k k1 (by omega)))
    · skip
      refine ez_go ez_h91 3 (pc' := bif decide ((nI (e)) ≤ (nI (ri))) then 132 else 42) (L' := [some (.ref 0), some (.int (nI (t))), some (.int (nI (b))), some (.int (nI (c))), some (.int (nI (e))), some (.int (nI (c))), some (.int (nI (ri))), some (.int (nI (ri))), none]) (st' := []) (w' := mz_w A Q (U1, U2, U3, U4, U5, mo) T) rfl ?_
      refine ez_ifF (zt_nle (a := e) (b := ri) (by omega) (by omega)) ?_
      refine ez_go ez_h91 3 (pc' := bif decide ((nI (c)) = (nI (c))) then 76 else 48) (L' := [some (.ref 0), some (.int (nI (t))), some (.int (nI (b))), some (.int (nI (c))), some (.int (nI (e))), some (.int (nI (c))), some (.int (nI (ri))), some (.int (nI (ri))), none]) (st' := []) (w' := mz_w A Q (U1, U2, U3, U4, U5, mo) T) rfl ?_
      refine ez_ifT (zt_eq (by omega)) ?_
      refine ez_go ez_h91 8 (pc' := bif decide ((nI (1)) = (nI 0)) then 104 else 94) (L' := [some (.ref 0), some (.int (nI (t))), some (.int (nI (b))), some (.int (nI (c))), some (.int (nI (e))), some (.int (nI (c))), some (.int (nI (ri))), some (.int (nI (ri))), some (.int (nI (1)))]) (st' := [.int (nI (ri)), .ref 5]) (w' := mz_w A Q (U1, U2, U3, U4, U5, mo) T) rfl ?_
      refine ez_ifF (zt_ne (by omega) (by omega) (by omega)) ?_
      refine ez_go ez_h91 3 (pc' := 100) (L' := [some (.ref 0), some (.int (nI (t))), some (.int (nI (b))), some (.int (nI (c))), some (.int (nI (e))), some (.int (nI (c))), some (.int (nI (ri))), some (.int (nI (ri))), some (.int (nI (1)))]) (st' := [.int (nI (ri)), .ref 4, .int (nI (ri)), .ref 5]) (w' := mz_w A Q (U1, U2, U3, U4, U5, mo) T) rfl ?_
      refine mr_ld ez_h91 rfl hE hA (k := ri) (by omega) ?_
      refine ez_go ez_h91 1 (pc' := 111) (L' := [some (.ref 0), some (.int (nI (t))), some (.int (nI (b))), some (.int (nI (c))), some (.int (nI (e))), some (.int (nI (c))), some (.int (nI (ri))), some (.int (nI (ri))), some (.int (nI (1)))]) (st' := [.int (nI (row ri)), .int (nI (ri)), .ref 5]) (w' := mz_w A Q (U1, U2, U3, U4, U5, mo) T) rfl ?_
      refine ez_ast ez_h91 rfl rfl (ri) rfl (by omega) (by omega) ?_
      refine ez_go ez_h91 2 (pc' := bif decide ((nI (1)) = (nI 0)) then 123 else 117) (L' := [some (.ref 0), some (.int (nI (t))), some (.int (nI (b))), some (.int (nI (c))), some (.int (nI (e))), some (.int (nI (c))), some (.int (nI (ri))), some (.int (nI (ri))), some (.int (nI (1)))]) (st' := []) (w' := mz_w A Q (U1, U2, U3, U4, U5, (upd mo ri (nI (row ri)))) T) rfl ?_
      refine ez_ifF (zt_ne (by omega) (by omega) (by omega)) ?_
      refine ez_inc ez_h91 rfl rfl (v := nI (ri + 1)) (zi_1 _) rfl ?_
      refine ez_go ez_h91 1 (pc' := 126) (L' := [some (.ref 0), some (.int (nI (t))), some (.int (nI (b))), some (.int (nI (c))), some (.int (nI (e))), some (.int (nI (c))), some (.int (nI (ri + 1))), some (.int (nI (ri))), some (.int (nI (1)))]) (st' := []) (w' := mz_w A Q (U1, U2, U3, U4, U5, (upd mo ri (nI (row ri)))) T) rfl ?_
      refine ez_inc ez_h91 rfl rfl (v := nI (ri + 1)) (zi_1 _) rfl ?_
      refine ez_go ez_h91 1 (pc' := 35) (L' := [some (.ref 0), some (.int (nI (t))), some (.int (nI (b))), some (.int (nI (c))), some (.int (nI (e))), some (.int (nI (c))), some (.int (nI (ri + 1))), some (.int (nI (ri + 1))), some (.int (nI (1)))]) (st' := []) (w' := mz_w A Q (U1, U2, U3, U4, U5, (upd mo ri (nI (row ri)))) T) rfl ?_
      exact ez_E.le (ez_lc (ez_lc (ez_lc (ez_lc (ez_lc (ez_lc (ez_lc (ez_lc (ez_ln ez_l0))))))))) (ih (ri + 1) _ (by omega) (by omega) (by omega) (fun k hk => h4 k (by omega)) (zm_keep h5 (h4 ri (Nat.le_refl _))) _ Q U1 U2 U3 U4 U5 T t post hA kk)
theorem zm_tl {E : ze_T} (hE : ze_ok E) {b c e : Nat} (he : e ≤ ze_n E) (hc : b ≤ c) (hce : c ≤ e) {row : Nat → Nat} {g : zs_G} (hw0 : zr_ok E row g) : ∀ (s i go : Nat) (rc : Nat → Nat), c ≤ b + i + s → b + i ≤ c → go = b + i + (e - c) → zr_ok E rc g → (∀ k, k < b ∨ e ≤ k → rc k = row k) → (∀ k, b ≤ k → k < go → ∃ j, b ≤ j ∧ j < e ∧ rc k = row j) →
    ∃ rc' : Nat → Nat, zr_ok E rc' g ∧ zp_in row rc' b e ∧ (∀ (r : cz_Row) (q : cz_Qk) (u : cz_Rn) (bb : cz_Bn) (post : Option Value → ez_W → Prop), (∀ k, k < c - b → u.2.2.2.2.2 k = nI (ze_pi E (row (b + k)))) → cr_R E rc g r → (∀ r' : cz_Row, cr_R E rc' g r' → post none (cz_w r' q u bb)) → ez_E 56 144 [some (.ref 5), some (.int (nI (b))), some (.int (nI (c))), some (.int (nI (e))), some (.int (nI (c - b))), some (.int (nI (i))), none, some (.int (nI (go)))] [] (cz_w r q u bb) post) ∧ (∀ (mo : Nat → Int32), (∀ k, b ≤ k → k < go → mo k = nI (rc k)) → ∀ (A : mz_A) (Q : mz_Q) (U1 U2 : Int64) (U3 : Int32) (U4 U5 : Nat → Int32) (T : mz_T) (t : Nat) (post : Option Value → ez_W → Prop), mr_R E row g A → (∀ (A' : mz_A) (mo' : Nat → Int32), mr_R E row g A' → (∀ k, b ≤ k → k < e → mo' k = nI (rc' k)) → ez_E 91 132 [some (.ref 0), some (.int (nI (t))), some (.int (nI (b))), some (.int (nI (c))), some (.int (nI (e))), none, none, none, none] [] (mz_w A' Q (U1, U2, U3, U4, U5, mo') T) post) → ez_E 91 35 [some (.ref 0), some (.int (nI (t))), some (.int (nI (b))), some (.int (nI (c))), some (.int (nI (e))), some (.int (nI (b + i))), some (.int (nI (e))), some (.int (nI (go))), none] [] (mz_w A Q (U1, U2, U3, U4, U5, mo) T) post) := by
  have hn := hE.1
  intro s
  induction s with
  | zero =>
    intro i go rc h1 h2 h3 hw h4 h6
    refine ⟨rc, hw, ⟨fun k k1 k2 => h6 k k1 (by omega), h4⟩, ?_, ?_⟩
    · intro r q u bb post hu hr kk
      refine ez_go ez_h56 3 (pc' := bif decide ((nI (c - b)) ≤ (nI (i))) then 176 else 151) (L' := [some (.ref 5), some (.int (nI (b))), some (.int (nI (c))), some (.int (nI (e))), some (.int (nI (c - b))), some (.int (nI (i))), none, some (.int (nI (go)))]) (st' := []) (w' := cz_w r q u bb) rfl ?_
      refine ez_ifT (zt_le (a := c - b) (b := i) (by omega) (by omega)) ?_
      exact ez_vret rfl ez_h56 rfl rfl (kk _ hr)
    · intro mo h5 A Q U1 U2 U3 U4 U5 T t post hA kk
      refine ez_go ez_h91 3 (pc' := bif decide ((nI (e)) ≤ (nI (go))) then 132 else 42) (L' := [some (.ref 0), some (.int (nI (t))), some (.int (nI (b))), some (.int (nI (c))), some (.int (nI (e))), some (.int (nI (b + i))), some (.int (nI (e))), some (.int (nI (go))), none]) (st' := []) (w' := mz_w A Q (U1, U2, U3, U4, U5, mo) T) rfl ?_
      refine ez_ifT (zt_le (a := e) (b := go) (by omega) (by omega)) ?_
      exact ez_E.le (ez_lc (ez_lc (ez_lc (ez_lc (ez_lc (ez_ln (ez_ln (ez_ln (ez_lc ez_l0))))))))) (kk _ mo hA (fun k k1 k2 => h5 k k1 (by omega)))
  | succ s ih =>
    intro i go rc h1 h2 h3 hw h4 h6
    by_cases hi : c - b ≤ i
    · refine ⟨rc, hw, ⟨fun k k1 k2 => h6 k k1 (by omega), h4⟩, ?_, ?_⟩
      · intro r q u bb post hu hr kk
        refine ez_go ez_h56 3 (pc' := bif decide ((nI (c - b)) ≤ (nI (i))) then 176 else 151) (L' := [some (.ref 5), some (.int (nI (b))), some (.int (nI (c))), some (.int (nI (e))), some (.int (nI (c - b))), some (.int (nI (i))), none, some (.int (nI (go)))]) (st' := []) (w' := cz_w r q u bb) rfl ?_
        refine ez_ifT (zt_le (a := c - b) (b := i) (by omega) (by omega)) ?_
        exact ez_vret rfl ez_h56 rfl rfl (kk _ hr)
      · intro mo h5 A Q U1 U2 U3 U4 U5 T t post hA kk
        refine ez_go ez_h91 3 (pc' := bif decide ((nI (e)) ≤ (nI (go))) then 132 else 42) (L' := [some (.ref 0), some (.int (nI (t))), some (.int (nI (b))), some (.int (nI (c))), some (.int (nI (e))), some (.int (nI (b + i))), some (.int (nI (e))), some (.int (nI (go))), none]) (st' := []) (w' := mz_w A Q (U1, U2, U3, U4, U5, mo) T) rfl ?_
        refine ez_ifT (zt_le (a := e) (b := go) (by omega) (by omega)) ?_
        exact ez_E.le (ez_lc (ez_lc (ez_lc (ez_lc (ez_lc (ez_ln (ez_ln (ez_ln (ez_lc ez_l0))))))))) (kk _ mo hA (fun k k1 k2 => h5 k k1 (by omega)))
    · obtain ⟨rc', a1, a2, a3, a4⟩ := ih (i + 1) (go + 1) (va_up rc go (row (b + i))) (by omega) (by omega) (by omega) (hw.set (hw0.1 (b + i) (by omega)))
        (fun k hk => by rw [va_up_ne _ _ (by omega)]; exact h4 k hk)
        (fun k k1 k2 => by
          by_cases e1 : k = go
          · exact ⟨b + i, by omega, by omega, by rw [e1, va_up_self]⟩
          · rw [va_up_ne _ _ e1]; exact h6 k k1 (by omega))
      refine ⟨rc', a1, a2, ?_, ?_⟩
      · intro r q u bb post hu hr kk
        refine ez_go ez_h56 3 (pc' := bif decide ((nI (c - b)) ≤ (nI (i))) then 176 else 151) (L' := [some (.ref 5), some (.int (nI (b))), some (.int (nI (c))), some (.int (nI (e))), some (.int (nI (c - b))), some (.int (nI (i))), none, some (.int (nI (go)))]) (st' := []) (w' := cz_w r q u bb) rfl ?_
        refine ez_ifF (zt_nle (a := c - b) (b := i) (by omega) (by omega)) ?_
        refine ez_go ez_h56 6 (pc' := 163) (L' := [some (.ref 5), some (.int (nI (b))), some (.int (nI (c))), some (.int (nI (e))), some (.int (nI (c - b))), some (.int (nI (i))), none, some (.int (nI (go)))]) (st' := [.int (nI (i)), .ref 14, .int (nI (go)), .ref 1]) (w' := cz_w r q u bb) rfl ?_
        refine ez_ald ez_h56 rfl rfl (i) rfl (by omega) (by omega) ?_
        refine ez_top (y := nI (ze_pi E (row (b + i)))) (hu i (by omega)) ?_
        refine ez_cl ez_h56 rfl rfl ?_
        refine cr_set hE hr (k := go) (x := row (b + i)) (by omega) q u bb (fun r4 hr4 => ?_)
        refine ez_inc ez_h56 rfl rfl (v := nI (go + 1)) (zi_1 _) rfl ?_
        refine ez_inc ez_h56 rfl rfl (v := nI (i + 1)) (zi_1 _) rfl ?_
        refine ez_go ez_h56 1 (pc' := 144) (L' := [some (.ref 5), some (.int (nI (b))), some (.int (nI (c))), some (.int (nI (e))), some (.int (nI (c - b))), some (.int (nI (i + 1))), none, some (.int (nI (go + 1)))]) (st' := []) (w' := cz_w r4 q u bb) rfl ?_
        exact a3 _ q u bb post hu hr4 kk
      · intro mo h5 A Q U1 U2 U3 U4 U5 T t post hA kk
        refine ez_go ez_h91 3 (pc' := bif decide ((nI (e)) ≤ (nI (go))) then 132 else 42) (L' := [some (.ref 0), some (.int (nI (t))), some (.int (nI (b))), some (.int (nI (c))), some (.int (nI (e))), some (.int (nI (b + i))), some (.int (nI (e))), some (.int (nI (go))), none]) (st' := []) (w' := mz_w A Q (U1, U2, U3, U4, U5, mo) T) rfl ?_
        refine ez_ifF (zt_nle (a := e) (b := go) (by omega) (by omega)) ?_
        refine ez_go ez_h91 3 (pc' := bif decide ((nI (b + i)) = (nI (c))) then 76 else 48) (L' := [some (.ref 0), some (.int (nI (t))), some (.int (nI (b))), some (.int (nI (c))), some (.int (nI (e))), some (.int (nI (b + i))), some (.int (nI (e))), some (.int (nI (go))), none]) (st' := []) (w' := mz_w A Q (U1, U2, U3, U4, U5, mo) T) rfl ?_
        refine ez_ifF (zt_ne (by omega) (by omega) (by omega)) ?_
        refine ez_go ez_h91 3 (pc' := bif decide ((nI (e)) ≤ (nI (e))) then 80 else 55) (L' := [some (.ref 0), some (.int (nI (t))), some (.int (nI (b))), some (.int (nI (c))), some (.int (nI (e))), some (.int (nI (b + i))), some (.int (nI (e))), some (.int (nI (go))), none]) (st' := []) (w' := mz_w A Q (U1, U2, U3, U4, U5, mo) T) rfl ?_
        refine ez_ifT (zt_le (a := e) (b := e) (by omega) (by omega)) ?_
        refine ez_go ez_h91 7 (pc' := bif decide ((nI (0)) = (nI 0)) then 104 else 94) (L' := [some (.ref 0), some (.int (nI (t))), some (.int (nI (b))), some (.int (nI (c))), some (.int (nI (e))), some (.int (nI (b + i))), some (.int (nI (e))), some (.int (nI (go))), some (.int (nI (0)))]) (st' := [.int (nI (go)), .ref 5]) (w' := mz_w A Q (U1, U2, U3, U4, U5, mo) T) rfl ?_
        refine ez_ifT (zt_eq (by omega)) ?_
        refine ez_go ez_h91 3 (pc' := 110) (L' := [some (.ref 0), some (.int (nI (t))), some (.int (nI (b))), some (.int (nI (c))), some (.int (nI (e))), some (.int (nI (b + i))), some (.int (nI (e))), some (.int (nI (go))), some (.int (nI (0)))]) (st' := [.int (nI (b + i)), .ref 4, .int (nI (go)), .ref 5]) (w' := mz_w A Q (U1, U2, U3, U4, U5, mo) T) rfl ?_
        refine mr_ld ez_h91 rfl hE hA (k := b + i) (by omega) ?_
        refine ez_ast ez_h91 rfl rfl (go) rfl (by omega) (by omega) ?_
        refine ez_go ez_h91 2 (pc' := bif decide ((nI (0)) = (nI 0)) then 123 else 117) (L' := [some (.ref 0), some (.int (nI (t))), some (.int (nI (b))), some (.int (nI (c))), some (.int (nI (e))), some (.int (nI (b + i))), some (.int (nI (e))), some (.int (nI (go))), some (.int (nI (0)))]) (st' := []) (w' := mz_w A Q (U1, U2, U3, U4, U5, (upd mo go (nI (row (b + i))))) T) rfl ?_
        refine ez_ifT (zt_eq (by omega)) ?_
        refine ez_inc ez_h91 rfl rfl (v := nI ((b + i) + 1)) (zi_1 _) rfl ?_
        refine ez_inc ez_h91 rfl rfl (v := nI (go + 1)) (zi_1 _) rfl ?_
        refine ez_go ez_h91 1 (pc' := 35) (L' := [some (.ref 0), some (.int (nI (t))), some (.int (nI (b))), some (.int (nI (c))), some (.int (nI (e))), some (.int (nI ((b + i) + 1))), some (.int (nI (e))), some (.int (nI (go + 1))), some (.int (nI (0)))]) (st' := []) (w' := mz_w A Q (U1, U2, U3, U4, U5, (upd mo go (nI (row (b + i))))) T) rfl ?_
        refine ez_E.le (ez_lc (ez_lc (ez_lc (ez_lc (ez_lc (ez_lc (ez_lc (ez_lc (ez_ln ez_l0))))))))) (a4 _ (fun k k1 k2 => ?_) _ Q U1 U2 U3 U4 U5 T t post hA kk)
        by_cases e1 : k = go
        · rw [e1, pk_us, va_up_self]
        · rw [pk_un e1, va_up_ne _ _ e1]; exact h5 k k1 (by omega)
set_option maxHeartbeats 1000000 in
theorem zm_loop {E : ze_T} (hE : ze_ok E) {b c e : Nat} (he : e ≤ ze_n E) (hc : b ≤ c) {row : Nat → Nat} : ∀ (s i ri go : Nat) (rc : Nat → Nat) (g : zs_G), c + e ≤ b + i + ri + s → b + i ≤ c → c ≤ ri → ri ≤ e → go + c = b + i + ri → zr_ok E row g → zr_ok E rc g → (∀ k, ri ≤ k → rc k = row k) → (∀ k, k < b → rc k = row k) → (∀ k, b ≤ k → k < go → ∃ j, b ≤ j ∧ j < e ∧ rc k = row j) →
    ∃ (rc' : Nat → Nat) (g' : zs_G), zr_ok E rc' g' ∧ zg_le E g g' ∧ zp_in row rc' b e ∧ (∀ (r : cz_Row) (q : cz_Qk) (u : cz_Rn) (bb : cz_Bn) (post : Option Value → ez_W → Prop), (∀ k, k < c - b → u.2.2.2.2.2 k = nI (ze_pi E (row (b + k)))) → cr_R E rc g r → (∀ r' : cz_Row, cr_R E rc' g' r' → post none (cz_w r' q u bb)) → ez_E 56 56 [some (.ref 5), some (.int (nI (b))), some (.int (nI (c))), some (.int (nI (e))), some (.int (nI (c - b))), some (.int (nI (i))), some (.int (nI (ri))), some (.int (nI (go)))] [] (cz_w r q u bb) post) ∧ (∀ (mo : Nat → Int32), (∀ k, b ≤ k → k < go → mo k = nI (rc k)) → ∀ (A : mz_A) (Q : mz_Q) (U1 U2 : Int64) (U3 : Int32) (U4 U5 : Nat → Int32) (T : mz_T) (t : Nat) (post : Option Value → ez_W → Prop), mr_R E row g A → (∀ (A' : mz_A) (mo' : Nat → Int32), mr_R E row g' A' → (∀ k, b ≤ k → k < e → mo' k = nI (rc' k)) → ez_E 91 132 [some (.ref 0), some (.int (nI (t))), some (.int (nI (b))), some (.int (nI (c))), some (.int (nI (e))), none, none, none, none] [] (mz_w A' Q (U1, U2, U3, U4, U5, mo') T) post) → ez_E 91 35 [some (.ref 0), some (.int (nI (t))), some (.int (nI (b))), some (.int (nI (c))), some (.int (nI (e))), some (.int (nI (b + i))), some (.int (nI (ri))), some (.int (nI (go))), none] [] (mz_w A Q (U1, U2, U3, U4, U5, mo) T) post) := by
  have hn := hE.1
  intro s
  induction s with
  | zero =>
    intro i ri go rc g h1 h2 h3 h4 h5' hw0 hw k1 k2 k3
    have hi : b + i = c := by omega
    have hri : ri = e := by omega
    refine ⟨rc, g, hw, zg_le.rf g, ⟨fun k j1 j2 => k3 k j1 (by omega), fun k hk => by rcases hk with hk | hk <;> first | exact k2 k hk | exact k1 k (by omega)⟩, ?_, ?_⟩
    · intro r q u bb post hu hr kk
      refine ez_go ez_h56 3 (pc' := bif decide ((nI (c - b)) ≤ (nI (i))) then 144 else 63) (L' := [some (.ref 5), some (.int (nI (b))), some (.int (nI (c))), some (.int (nI (e))), some (.int (nI (c - b))), some (.int (nI (i))), some (.int (nI (ri))), some (.int (nI (go)))]) (st' := []) (w' := cz_w r q u bb) rfl ?_
      refine ez_ifT (zt_le (a := c - b) (b := i) (by omega) (by omega)) ?_
      refine ez_go ez_h56 3 (pc' := bif decide ((nI (c - b)) ≤ (nI (i))) then 176 else 151) (L' := [some (.ref 5), some (.int (nI (b))), some (.int (nI (c))), some (.int (nI (e))), some (.int (nI (c - b))), some (.int (nI (i))), some (.int (nI (ri))), some (.int (nI (go)))]) (st' := []) (w' := cz_w r q u bb) rfl ?_
      refine ez_ifT (zt_le (a := c - b) (b := i) (by omega) (by omega)) ?_
      exact ez_vret rfl ez_h56 rfl rfl (kk _ hr)
    · intro mo h5 A Q U1 U2 U3 U4 U5 T t post hA kk
      rw [hi, show go = ri by omega]
      exact zm_tr hE he hc hw0 e ri mo (by omega) h4 h3 k1 (fun k j1 j2 => h5 k j1 (by omega)) A Q U1 U2 U3 U4 U5 T t post hA kk
  | succ s ih =>
    intro i ri go rc g h1 h2 h3 h4 h5' hw0 hw k1 k2 k3
    by_cases hi : b + i = c
    · refine ⟨rc, g, hw, zg_le.rf g, ⟨fun k j1 j2 => ?_, fun k hk => by rcases hk with hk | hk <;> first | exact k2 k hk | exact k1 k (by omega)⟩, ?_, ?_⟩
      · by_cases e1 : k < go
        · exact k3 k j1 e1
        · exact ⟨k, j1, j2, k1 k (by omega)⟩
      · intro r q u bb post hu hr kk
        refine ez_go ez_h56 3 (pc' := bif decide ((nI (c - b)) ≤ (nI (i))) then 144 else 63) (L' := [some (.ref 5), some (.int (nI (b))), some (.int (nI (c))), some (.int (nI (e))), some (.int (nI (c - b))), some (.int (nI (i))), some (.int (nI (ri))), some (.int (nI (go)))]) (st' := []) (w' := cz_w r q u bb) rfl ?_
        refine ez_ifT (zt_le (a := c - b) (b := i) (by omega) (by omega)) ?_
        refine ez_go ez_h56 3 (pc' := bif decide ((nI (c - b)) ≤ (nI (i))) then 176 else 151) (L' := [some (.ref 5), some (.int (nI (b))), some (.int (nI (c))), some (.int (nI (e))), some (.int (nI (c - b))), some (.int (nI (i))), some (.int (nI (ri))), some (.int (nI (go)))]) (st' := []) (w' := cz_w r q u bb) rfl ?_
        refine ez_ifT (zt_le (a := c - b) (b := i) (by omega) (by omega)) ?_
        exact ez_vret rfl ez_h56 rfl rfl (kk _ hr)
      · intro mo h5 A Q U1 U2 U3 U4 U5 T t post hA kk
        rw [hi, show go = ri by omega]
        exact zm_tr hE he hc hw0 e ri mo (by omega) h4 h3 k1 (fun k j1 j2 => h5 k j1 (by omega)) A Q U1 U2 U3 U4 U5 T t post hA kk
    · by_cases hri : e ≤ ri
      · obtain ⟨rc', a1, a2, a3, a4⟩ := zm_tl hE he hc (by omega) hw0 c i go rc (by omega) (by omega) (by omega) hw (fun k hk => by rcases hk with hk | hk <;> first | exact k2 k hk | exact k1 k (by omega)) k3
        refine ⟨rc', g, a1, zg_le.rf g, a2, ?_, ?_⟩
        · intro r q u bb post hu hr kk
          refine ez_go ez_h56 3 (pc' := bif decide ((nI (c - b)) ≤ (nI (i))) then 144 else 63) (L' := [some (.ref 5), some (.int (nI (b))), some (.int (nI (c))), some (.int (nI (e))), some (.int (nI (c - b))), some (.int (nI (i))), some (.int (nI (ri))), some (.int (nI (go)))]) (st' := []) (w' := cz_w r q u bb) rfl ?_
          refine ez_ifF (zt_nle (a := c - b) (b := i) (by omega) (by omega)) ?_
          refine ez_go ez_h56 3 (pc' := bif decide ((nI (e)) ≤ (nI (ri))) then 144 else 69) (L' := [some (.ref 5), some (.int (nI (b))), some (.int (nI (c))), some (.int (nI (e))), some (.int (nI (c - b))), some (.int (nI (i))), some (.int (nI (ri))), some (.int (nI (go)))]) (st' := []) (w' := cz_w r q u bb) rfl ?_
          refine ez_ifT (zt_le (a := e) (b := ri) (by omega) (by omega)) ?_
          exact ez_E.le (ez_lc (ez_lc (ez_lc (ez_lc (ez_lc (ez_lc (ez_ln (ez_lc ez_l0)))))))) (a3 _ q u bb post hu hr kk)
        · intro mo h5 A Q U1 U2 U3 U4 U5 T t post hA kk
          rw [show ri = e by omega]
          exact a4 mo h5 A Q U1 U2 U3 U4 U5 T t post hA kk
      · have hw1 := hw0.go (hw0.1 ri (by omega)) (hw0.1 (b + i) (by omega))
        have hwr := hw.go (hw0.1 ri (by omega)) (hw0.1 (b + i) (by omega))
        have hg1 : zg_le E g _ := zg_le.go hw0 (row ri) (row (b + i))
        have hri' : rc ri = row ri := k1 ri (Nat.le_refl _)
        cases hb : zs_b (ze_md E) (ze_ka E) (row ri) (row (b + i)) g with
        | false =>
          obtain ⟨rc', g', a1, a2, a3, a4, a5⟩ := ih (i + 1) ri (go + 1) (va_up rc go (row (b + i))) _ (by omega) (by omega) h3 h4 (by omega) hw1 (hwr.set (hw0.1 (b + i) (by omega)))
            (fun k hk => by rw [va_up_ne _ _ (by omega)]; exact k1 k (by omega))
            (fun k hk => by rw [va_up_ne _ _ (by omega)]; exact k2 k hk)
            (fun k j1 j2 => by
              by_cases e1 : k = go
              · exact ⟨(b + i), by omega, by omega, by rw [e1, va_up_self]⟩
              · rw [va_up_ne _ _ e1]; exact k3 k j1 (by omega))
          refine ⟨rc', g', a1, hg1.tr a2, a3, ?_, ?_⟩
          · intro r q u bb post hu hr kk
            refine ez_go ez_h56 3 (pc' := bif decide ((nI (c - b)) ≤ (nI (i))) then 144 else 63) (L' := [some (.ref 5), some (.int (nI (b))), some (.int (nI (c))), some (.int (nI (e))), some (.int (nI (c - b))), some (.int (nI (i))), some (.int (nI (ri))), some (.int (nI (go)))]) (st' := []) (w' := cz_w r q u bb) rfl ?_
            refine ez_ifF (zt_nle (a := c - b) (b := i) (by omega) (by omega)) ?_
            refine ez_go ez_h56 3 (pc' := bif decide ((nI (e)) ≤ (nI (ri))) then 144 else 69) (L' := [some (.ref 5), some (.int (nI (b))), some (.int (nI (c))), some (.int (nI (e))), some (.int (nI (c - b))), some (.int (nI (i))), some (.int (nI (ri))), some (.int (nI (go)))]) (st' := []) (w' := cz_w r q u bb) rfl ?_
            refine ez_ifF (zt_nle (a := e) (b := ri) (by omega) (by omega)) ?_
            refine ez_go ez_h56 5 (pc' := 79) (L' := [some (.ref 5), some (.int (nI (b))), some (.int (nI (c))), some (.int (nI (e))), some (.int (nI (c - b))), some (.int (nI (i))), some (.int (nI (ri))), some (.int (nI (go)))]) (st' := [.int (nI (ri)), .ref 1, .ref 1]) (w' := cz_w r q u bb) rfl ?_
            refine ez_cl ez_h56 rfl rfl ?_
            refine cr_at hE hr (k := ri) (by omega) q u bb ?_
            rw [hri']
            refine ez_go ez_h56 3 (pc' := 88) (L' := [some (.ref 5), some (.int (nI (b))), some (.int (nI (c))), some (.int (nI (e))), some (.int (nI (c - b))), some (.int (nI (i))), some (.int (nI (ri))), some (.int (nI (go)))]) (st' := [.int (nI (i)), .ref 14, .int (nI (ze_pi E (row ri))), .ref 1]) (w' := cz_w r q u bb) rfl ?_
            refine ez_ald ez_h56 rfl rfl (i) rfl (by omega) (by omega) ?_
            refine ez_top (y := nI (ze_pi E (row (b + i)))) (hu i (by omega)) ?_
            refine ez_cl ez_h56 rfl rfl ?_
            refine cr_less hE hr hw.2 (x := row ri) (y := row (b + i)) (hw0.1 ri (by omega)) (hw0.1 (b + i) (by omega)) q u bb (fun r5 hr5 => ?_)
            refine ez_go ez_h56 1 (pc' := bif decide ((zs_z (zs_b (ze_md E) (ze_ka E) (row ri) (row (b + i)) g)) = 0) then 119 else 95) (L' := [some (.ref 5), some (.int (nI (b))), some (.int (nI (c))), some (.int (nI (e))), some (.int (nI (c - b))), some (.int (nI (i))), some (.int (nI (ri))), some (.int (nI (go)))]) (st' := []) (w' := cz_w r5 q u bb) rfl ?_
            refine ez_ifT (zz_f hb) ?_
            refine ez_go ez_h56 6 (pc' := 131) (L' := [some (.ref 5), some (.int (nI (b))), some (.int (nI (c))), some (.int (nI (e))), some (.int (nI (c - b))), some (.int (nI (i))), some (.int (nI (ri))), some (.int (nI (go)))]) (st' := [.int (nI (i)), .ref 14, .int (nI (go)), .ref 1]) (w' := cz_w r5 q u bb) rfl ?_
            refine ez_ald ez_h56 rfl rfl (i) rfl (by omega) (by omega) ?_
            refine ez_top (y := nI (ze_pi E (row (b + i)))) (hu i (by omega)) ?_
            refine ez_cl ez_h56 rfl rfl ?_
            refine cr_set hE hr5 (k := go) (x := row (b + i)) (by omega) q u bb (fun r6 hr6 => ?_)
            refine ez_inc ez_h56 rfl rfl (v := nI (i + 1)) (zi_1 _) rfl ?_
            refine ez_inc ez_h56 rfl rfl (v := nI (go + 1)) (zi_1 _) rfl ?_
            refine ez_go ez_h56 1 (pc' := 56) (L' := [some (.ref 5), some (.int (nI (b))), some (.int (nI (c))), some (.int (nI (e))), some (.int (nI (c - b))), some (.int (nI (i + 1))), some (.int (nI (ri))), some (.int (nI (go + 1)))]) (st' := []) (w' := cz_w r6 q u bb) rfl ?_
            exact a4 _ q u bb post hu hr6 kk
          · intro mo h5 A Q U1 U2 U3 U4 U5 T t post hA kk
            refine ez_go ez_h91 3 (pc' := bif decide ((nI (e)) ≤ (nI (go))) then 132 else 42) (L' := [some (.ref 0), some (.int (nI (t))), some (.int (nI (b))), some (.int (nI (c))), some (.int (nI (e))), some (.int (nI (b + i))), some (.int (nI (ri))), some (.int (nI (go))), none]) (st' := []) (w' := mz_w A Q (U1, U2, U3, U4, U5, mo) T) rfl ?_
            refine ez_ifF (zt_nle (a := e) (b := go) (by omega) (by omega)) ?_
            refine ez_go ez_h91 3 (pc' := bif decide ((nI (b + i)) = (nI (c))) then 76 else 48) (L' := [some (.ref 0), some (.int (nI (t))), some (.int (nI (b))), some (.int (nI (c))), some (.int (nI (e))), some (.int (nI (b + i))), some (.int (nI (ri))), some (.int (nI (go))), none]) (st' := []) (w' := mz_w A Q (U1, U2, U3, U4, U5, mo) T) rfl ?_
            refine ez_ifF (zt_ne (by omega) (by omega) (by omega)) ?_
            refine ez_go ez_h91 3 (pc' := bif decide ((nI (e)) ≤ (nI (ri))) then 80 else 55) (L' := [some (.ref 0), some (.int (nI (t))), some (.int (nI (b))), some (.int (nI (c))), some (.int (nI (e))), some (.int (nI (b + i))), some (.int (nI (ri))), some (.int (nI (go))), none]) (st' := []) (w' := mz_w A Q (U1, U2, U3, U4, U5, mo) T) rfl ?_
            refine ez_ifF (zt_nle (a := e) (b := ri) (by omega) (by omega)) ?_
            refine ez_go ez_h91 4 (pc' := 62) (L' := [some (.ref 0), some (.int (nI (t))), some (.int (nI (b))), some (.int (nI (c))), some (.int (nI (e))), some (.int (nI (b + i))), some (.int (nI (ri))), some (.int (nI (go))), none]) (st' := [.int (nI (ri)), .ref 4, .ref 0]) (w' := mz_w A Q (U1, U2, U3, U4, U5, mo) T) rfl ?_
            refine mr_ld ez_h91 rfl hE hA (k := ri) (by omega) ?_
            refine ez_go ez_h91 3 (pc' := 69) (L' := [some (.ref 0), some (.int (nI (t))), some (.int (nI (b))), some (.int (nI (c))), some (.int (nI (e))), some (.int (nI (b + i))), some (.int (nI (ri))), some (.int (nI (go))), none]) (st' := [.int (nI (b + i)), .ref 4, .int (nI (row ri)), .ref 0]) (w' := mz_w A Q (U1, U2, U3, U4, U5, mo) T) rfl ?_
            refine mr_ld ez_h91 rfl hE hA (k := b + i) (by omega) ?_
            refine ez_cl ez_h91 rfl rfl ?_
            refine mr_less hE hA hw0.2 (x := row ri) (y := row (b + i)) (hw0.1 ri (by omega)) (hw0.1 (b + i) (by omega)) Q (U1, U2, U3, U4, U5, mo) T (fun A7 hA7 => ?_)
            refine ez_go ez_h91 1 (pc' := bif decide ((zs_z (zs_b (ze_md E) (ze_ka E) (row ri) (row (b + i)) g)) = 0) then 80 else 76) (L' := [some (.ref 0), some (.int (nI (t))), some (.int (nI (b))), some (.int (nI (c))), some (.int (nI (e))), some (.int (nI (b + i))), some (.int (nI (ri))), some (.int (nI (go))), none]) (st' := []) (w' := mz_w A7 Q (U1, U2, U3, U4, U5, mo) T) rfl ?_
            refine ez_ifT (zz_f hb) ?_
            refine ez_go ez_h91 7 (pc' := bif decide ((nI (0)) = (nI 0)) then 104 else 94) (L' := [some (.ref 0), some (.int (nI (t))), some (.int (nI (b))), some (.int (nI (c))), some (.int (nI (e))), some (.int (nI (b + i))), some (.int (nI (ri))), some (.int (nI (go))), some (.int (nI (0)))]) (st' := [.int (nI (go)), .ref 5]) (w' := mz_w A7 Q (U1, U2, U3, U4, U5, mo) T) rfl ?_
            refine ez_ifT (zt_eq (by omega)) ?_
            refine ez_go ez_h91 3 (pc' := 110) (L' := [some (.ref 0), some (.int (nI (t))), some (.int (nI (b))), some (.int (nI (c))), some (.int (nI (e))), some (.int (nI (b + i))), some (.int (nI (ri))), some (.int (nI (go))), some (.int (nI (0)))]) (st' := [.int (nI (b + i)), .ref 4, .int (nI (go)), .ref 5]) (w' := mz_w A7 Q (U1, U2, U3, U4, U5, mo) T) rfl ?_
            refine mr_ld ez_h91 rfl hE hA7 (k := b + i) (by omega) ?_
            refine ez_ast ez_h91 rfl rfl (go) rfl (by omega) (by omega) ?_
            refine ez_go ez_h91 2 (pc' := bif decide ((nI (0)) = (nI 0)) then 123 else 117) (L' := [some (.ref 0), some (.int (nI (t))), some (.int (nI (b))), some (.int (nI (c))), some (.int (nI (e))), some (.int (nI (b + i))), some (.int (nI (ri))), some (.int (nI (go))), some (.int (nI (0)))]) (st' := []) (w' := mz_w A7 Q (U1, U2, U3, U4, U5, (upd mo go (nI (row (b + i))))) T) rfl ?_
            refine ez_ifT (zt_eq (by omega)) ?_
            refine ez_inc ez_h91 rfl rfl (v := nI ((b + i) + 1)) (zi_1 _) rfl ?_
            refine ez_inc ez_h91 rfl rfl (v := nI (go + 1)) (zi_1 _) rfl ?_
            refine ez_go ez_h91 1 (pc' := 35) (L' := [some (.ref 0), some (.int (nI (t))), some (.int (nI (b))), some (.int (nI (c))), some (.int (nI (e))), some (.int (nI ((b + i) + 1))), some (.int (nI (ri))), some (.int (nI (go + 1))), some (.int (nI (0)))]) (st' := []) (w' := mz_w A7 Q (U1, U2, U3, U4, U5, (upd mo go (nI (row (b + i))))) T) rfl ?_
            refine ez_E.le (ez_lc (ez_lc (ez_lc (ez_lc (ez_lc (ez_lc (ez_lc (ez_lc (ez_ln ez_l0))))))))) (a5 _ (fun k j1 j2 => ?_) _ Q U1 U2 U3 U4 U5 T t post hA7 kk)
            by_cases e1 : k = go
            · rw [e1, pk_us, va_up_self]
            · rw [pk_un e1, va_up_ne _ _ e1]; exact h5 k j1 (by omega)
        | true =>
          obtain ⟨rc', g', a1, a2, a3, a4, a5⟩ := ih i (ri + 1) (go + 1) (va_up rc go (row ri)) _ (by omega) h2 (by omega) (by omega) (by omega) hw1 (hwr.set (hw0.1 ri (by omega)))
            (fun k hk => by rw [va_up_ne _ _ (by omega)]; exact k1 k (by omega))
            (fun k hk => by rw [va_up_ne _ _ (by omega)]; exact k2 k hk)
            (fun k j1 j2 => by
              by_cases e1 : k = go
              · exact ⟨ri, by omega, by omega, by rw [e1, va_up_self]⟩
              · rw [va_up_ne _ _ e1]; exact k3 k j1 (by omega))
          refine ⟨rc', g', a1, hg1.tr a2, a3, ?_, ?_⟩
          · intro r q u bb post hu hr kk
            refine ez_go ez_h56 3 (pc' := bif decide ((nI (c - b)) ≤ (nI (i))) then 144 else 63) (L' := [some (.ref 5), some (.int (nI (b))), some (.int (nI (c))), some (.int (nI (e))), some (.int (nI (c - b))), some (.int (nI (i))), some (.int (nI (ri))), some (.int (nI (go)))]) (st' := []) (w' := cz_w r q u bb) rfl ?_
            refine ez_ifF (zt_nle (a := c - b) (b := i) (by omega) (by omega)) ?_
            refine ez_go ez_h56 3 (pc' := bif decide ((nI (e)) ≤ (nI (ri))) then 144 else 69) (L' := [some (.ref 5), some (.int (nI (b))), some (.int (nI (c))), some (.int (nI (e))), some (.int (nI (c - b))), some (.int (nI (i))), some (.int (nI (ri))), some (.int (nI (go)))]) (st' := []) (w' := cz_w r q u bb) rfl ?_
            refine ez_ifF (zt_nle (a := e) (b := ri) (by omega) (by omega)) ?_
            refine ez_go ez_h56 5 (pc' := 79) (L' := [some (.ref 5), some (.int (nI (b))), some (.int (nI (c))), some (.int (nI (e))), some (.int (nI (c - b))), some (.int (nI (i))), some (.int (nI (ri))), some (.int (nI (go)))]) (st' := [.int (nI (ri)), .ref 1, .ref 1]) (w' := cz_w r q u bb) rfl ?_
            refine ez_cl ez_h56 rfl rfl ?_
            refine cr_at hE hr (k := ri) (by omega) q u bb ?_
            rw [hri']
            refine ez_go ez_h56 3 (pc' := 88) (L' := [some (.ref 5), some (.int (nI (b))), some (.int (nI (c))), some (.int (nI (e))), some (.int (nI (c - b))), some (.int (nI (i))), some (.int (nI (ri))), some (.int (nI (go)))]) (st' := [.int (nI (i)), .ref 14, .int (nI (ze_pi E (row ri))), .ref 1]) (w' := cz_w r q u bb) rfl ?_
            refine ez_ald ez_h56 rfl rfl (i) rfl (by omega) (by omega) ?_
            refine ez_top (y := nI (ze_pi E (row (b + i)))) (hu i (by omega)) ?_
            refine ez_cl ez_h56 rfl rfl ?_
            refine cr_less hE hr hw.2 (x := row ri) (y := row (b + i)) (hw0.1 ri (by omega)) (hw0.1 (b + i) (by omega)) q u bb (fun r8 hr8 => ?_)
            refine ez_go ez_h56 1 (pc' := bif decide ((zs_z (zs_b (ze_md E) (ze_ka E) (row ri) (row (b + i)) g)) = 0) then 119 else 95) (L' := [some (.ref 5), some (.int (nI (b))), some (.int (nI (c))), some (.int (nI (e))), some (.int (nI (c - b))), some (.int (nI (i))), some (.int (nI (ri))), some (.int (nI (go)))]) (st' := []) (w' := cz_w r8 q u bb) rfl ?_
            refine ez_ifF (zz_t hb) ?_
            refine ez_go ez_h56 6 (pc' := 107) (L' := [some (.ref 5), some (.int (nI (b))), some (.int (nI (c))), some (.int (nI (e))), some (.int (nI (c - b))), some (.int (nI (i))), some (.int (nI (ri))), some (.int (nI (go)))]) (st' := [.int (nI (ri)), .ref 1, .int (nI (go)), .ref 1]) (w' := cz_w r8 q u bb) rfl ?_
            refine ez_cl ez_h56 rfl rfl ?_
            refine cr_at hE hr8 (k := ri) (by omega) q u bb ?_
            rw [hri']
            refine ez_cl ez_h56 rfl rfl ?_
            refine cr_set hE hr8 (k := go) (x := row ri) (by omega) q u bb (fun r9 hr9 => ?_)
            refine ez_inc ez_h56 rfl rfl (v := nI (ri + 1)) (zi_1 _) rfl ?_
            refine ez_go ez_h56 1 (pc' := 138) (L' := [some (.ref 5), some (.int (nI (b))), some (.int (nI (c))), some (.int (nI (e))), some (.int (nI (c - b))), some (.int (nI (i))), some (.int (nI (ri + 1))), some (.int (nI (go)))]) (st' := []) (w' := cz_w r9 q u bb) rfl ?_
            refine ez_inc ez_h56 rfl rfl (v := nI (go + 1)) (zi_1 _) rfl ?_
            refine ez_go ez_h56 1 (pc' := 56) (L' := [some (.ref 5), some (.int (nI (b))), some (.int (nI (c))), some (.int (nI (e))), some (.int (nI (c - b))), some (.int (nI (i))), some (.int (nI (ri + 1))), some (.int (nI (go + 1)))]) (st' := []) (w' := cz_w r9 q u bb) rfl ?_
            exact a4 _ q u bb post hu hr9 kk
          · intro mo h5 A Q U1 U2 U3 U4 U5 T t post hA kk
            refine ez_go ez_h91 3 (pc' := bif decide ((nI (e)) ≤ (nI (go))) then 132 else 42) (L' := [some (.ref 0), some (.int (nI (t))), some (.int (nI (b))), some (.int (nI (c))), some (.int (nI (e))), some (.int (nI (b + i))), some (.int (nI (ri))), some (.int (nI (go))), none]) (st' := []) (w' := mz_w A Q (U1, U2, U3, U4, U5, mo) T) rfl ?_
            refine ez_ifF (zt_nle (a := e) (b := go) (by omega) (by omega)) ?_
            refine ez_go ez_h91 3 (pc' := bif decide ((nI (b + i)) = (nI (c))) then 76 else 48) (L' := [some (.ref 0), some (.int (nI (t))), some (.int (nI (b))), some (.int (nI (c))), some (.int (nI (e))), some (.int (nI (b + i))), some (.int (nI (ri))), some (.int (nI (go))), none]) (st' := []) (w' := mz_w A Q (U1, U2, U3, U4, U5, mo) T) rfl ?_
            refine ez_ifF (zt_ne (by omega) (by omega) (by omega)) ?_
            refine ez_go ez_h91 3 (pc' := bif decide ((nI (e)) ≤ (nI (ri))) then 80 else 55) (L' := [some (.ref 0), some (.int (nI (t))), some (.int (nI (b))), some (.int (nI (c))), some (.int (nI (e))), some (.int (nI (b + i))), some (.int (nI (ri))), some (.int (nI (go))), none]) (st' := []) (w' := mz_w A Q (U1, U2, U3, U4, U5, mo) T) rfl ?_
            refine ez_ifF (zt_nle (a := e) (b := ri) (by omega) (by omega)) ?_
            refine ez_go ez_h91 4 (pc' := 62) (L' := [some (.ref 0), some (.int (nI (t))), some (.int (nI (b))), some (.int (nI (c))), some (.int (nI (e))), some (.int (nI (b + i))), some (.int (nI (ri))), some (.int (nI (go))), none]) (st' := [.int (nI (ri)), .ref 4, .ref 0]) (w' := mz_w A Q (U1, U2, U3, U4, U5, mo) T) rfl ?_
            refine mr_ld ez_h91 rfl hE hA (k := ri) (by omega) ?_
            refine ez_go ez_h91 3 (pc' := 69) (L' := [some (.ref 0), some (.int (nI (t))), some (.int (nI (b))), some (.int (nI (c))), some (.int (nI (e))), some (.int (nI (b + i))), some (.int (nI (ri))), some (.int (nI (go))), none]) (st' := [.int (nI (b + i)), .ref 4, .int (nI (row ri)), .ref 0]) (w' := mz_w A Q (U1, U2, U3, U4, U5, mo) T) rfl ?_
            refine mr_ld ez_h91 rfl hE hA (k := b + i) (by omega) ?_
            refine ez_cl ez_h91 rfl rfl ?_
            refine mr_less hE hA hw0.2 (x := row ri) (y := row (b + i)) (hw0.1 ri (by omega)) (hw0.1 (b + i) (by omega)) Q (U1, U2, U3, U4, U5, mo) T (fun A10 hA10 => ?_)
            refine ez_go ez_h91 1 (pc' := bif decide ((zs_z (zs_b (ze_md E) (ze_ka E) (row ri) (row (b + i)) g)) = 0) then 80 else 76) (L' := [some (.ref 0), some (.int (nI (t))), some (.int (nI (b))), some (.int (nI (c))), some (.int (nI (e))), some (.int (nI (b + i))), some (.int (nI (ri))), some (.int (nI (go))), none]) (st' := []) (w' := mz_w A10 Q (U1, U2, U3, U4, U5, mo) T) rfl ?_
            refine ez_ifF (zz_t hb) ?_
            refine ez_go ez_h91 8 (pc' := bif decide ((nI (1)) = (nI 0)) then 104 else 94) (L' := [some (.ref 0), some (.int (nI (t))), some (.int (nI (b))), some (.int (nI (c))), some (.int (nI (e))), some (.int (nI (b + i))), some (.int (nI (ri))), some (.int (nI (go))), some (.int (nI (1)))]) (st' := [.int (nI (go)), .ref 5]) (w' := mz_w A10 Q (U1, U2, U3, U4, U5, mo) T) rfl ?_
            refine ez_ifF (zt_ne (by omega) (by omega) (by omega)) ?_
            refine ez_go ez_h91 3 (pc' := 100) (L' := [some (.ref 0), some (.int (nI (t))), some (.int (nI (b))), some (.int (nI (c))), some (.int (nI (e))), some (.int (nI (b + i))), some (.int (nI (ri))), some (.int (nI (go))), some (.int (nI (1)))]) (st' := [.int (nI (ri)), .ref 4, .int (nI (go)), .ref 5]) (w' := mz_w A10 Q (U1, U2, U3, U4, U5, mo) T) rfl ?_
            refine mr_ld ez_h91 rfl hE hA10 (k := ri) (by omega) ?_
            refine ez_go ez_h91 1 (pc' := 111) (L' := [some (.ref 0), some (.int (nI (t))), some (.int (nI (b))), some (.int (nI (c))), some (.int (nI (e))), some (.int (nI (b + i))), some (.int (nI (ri))), some (.int (nI (go))), some (.int (nI (1)))]) (st' := [.int (nI (row ri)), .int (nI (go)), .ref 5]) (w' := mz_w A10 Q (U1, U2, U3, U4, U5, mo) T) rfl ?_
            refine ez_ast ez_h91 rfl rfl (go) rfl (by omega) (by omega) ?_
            refine ez_go ez_h91 2 (pc' := bif decide ((nI (1)) = (nI 0)) then 123 else 117) (L' := [some (.ref 0), some (.int (nI (t))), some (.int (nI (b))), some (.int (nI (c))), some (.int (nI (e))), some (.int (nI (b + i))), some (.int (nI (ri))), some (.int (nI (go))), some (.int (nI (1)))]) (st' := []) (w' := mz_w A10 Q (U1, U2, U3, U4, U5, (upd mo go (nI (row ri)))) T) rfl ?_
            refine ez_ifF (zt_ne (by omega) (by omega) (by omega)) ?_
            refine ez_inc ez_h91 rfl rfl (v := nI (ri + 1)) (zi_1 _) rfl ?_
            refine ez_go ez_h91 1 (pc' := 126) (L' := [some (.ref 0), some (.int (nI (t))), some (.int (nI (b))), some (.int (nI (c))), some (.int (nI (e))), some (.int (nI (b + i))), some (.int (nI (ri + 1))), some (.int (nI (go))), some (.int (nI (1)))]) (st' := []) (w' := mz_w A10 Q (U1, U2, U3, U4, U5, (upd mo go (nI (row ri)))) T) rfl ?_
            refine ez_inc ez_h91 rfl rfl (v := nI (go + 1)) (zi_1 _) rfl ?_
            refine ez_go ez_h91 1 (pc' := 35) (L' := [some (.ref 0), some (.int (nI (t))), some (.int (nI (b))), some (.int (nI (c))), some (.int (nI (e))), some (.int (nI (b + i))), some (.int (nI (ri + 1))), some (.int (nI (go + 1))), some (.int (nI (1)))]) (st' := []) (w' := mz_w A10 Q (U1, U2, U3, U4, U5, (upd mo go (nI (row ri)))) T) rfl ?_
            refine ez_E.le (ez_lc (ez_lc (ez_lc (ez_lc (ez_lc (ez_lc (ez_lc (ez_lc (ez_ln ez_l0))))))))) (a5 _ (fun k j1 j2 => ?_) _ Q U1 U2 U3 U4 U5 T t post hA10 kk)
            by_cases e1 : k = go
            · rw [e1, pk_us, va_up_self]
            · rw [pk_un e1, va_up_ne _ _ e1]; exact h5 k j1 (by omega)
