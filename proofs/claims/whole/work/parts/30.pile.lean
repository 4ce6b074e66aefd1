set_option maxRecDepth 20000 in
theorem lf_sizeAt (k : Nat) (hk : k < 40) (hgt : Int32) (pil : Int64) (mrg : Int64) (bgs : Nat → Int32) (szs : Nat → Int32) (spr : Nat → Int32) (r : cz_Row) (q : cz_Qk) (b : cz_Bn) {post : Option Value → ez_W → Prop} (h : post (some (.int (szs k))) (cz_w r q (hgt, pil, mrg, bgs, szs, spr) b)) : ez_m 49 [.ref 5, .int (nI (k))] (cz_w r q (hgt, pil, mrg, bgs, szs, spr) b) post := by
  refine ez_m.of (L := [some (.ref 5), some (.int (nI (k)))]) rfl rfl rfl ?_
  refine ez_go ez_h49 2 (pc' := bif decide ((nI (k)) < 0) then 19 else 4) (L' := [some (.ref 5), some (.int (nI (k)))]) (st' := []) (w' := cz_w r q (hgt, pil, mrg, bgs, szs, spr) b) rfl ?_
  refine ez_ifF (nI_pos (by omega)) ?_
  refine ez_go ez_h49 3 (pc' := bif decide ((nI (40)) ≤ (nI (k))) then 19 else 10) (L' := [some (.ref 5), some (.int (nI (k)))]) (st' := []) (w' := cz_w r q (hgt, pil, mrg, bgs, szs, spr) b) rfl ?_
  refine ez_ifF (nI_ge (by omega) (by omega)) ?_
  refine ez_go ez_h49 3 (pc' := 15) (L' := [some (.ref 5), some (.int (nI (k)))]) (st' := [.int (nI (k)), .ref 13]) (w' := cz_w r q (hgt, pil, mrg, bgs, szs, spr) b) rfl ?_
  refine ez_ald ez_h49 rfl rfl (k) rfl (by omega) (by omega) ?_
  refine ez_go ez_h49 1 (pc' := 20) (L' := [some (.ref 5), some (.int (nI (k)))]) (st' := [.int (szs (k))]) (w' := cz_w r q (hgt, pil, mrg, bgs, szs, spr) b) rfl ?_
  exact ez_iret rfl ez_h49 rfl rfl h
set_option maxRecDepth 20000 in
theorem lf_beginAt (k : Nat) (hk : k < 40) (hgt : Int32) (pil : Int64) (mrg : Int64) (bgs : Nat → Int32) (szs : Nat → Int32) (spr : Nat → Int32) (r : cz_Row) (q : cz_Qk) (b : cz_Bn) {post : Option Value → ez_W → Prop} (h : post (some (.int (bgs k))) (cz_w r q (hgt, pil, mrg, bgs, szs, spr) b)) : ez_m 50 [.ref 5, .int (nI (k))] (cz_w r q (hgt, pil, mrg, bgs, szs, spr) b) post := by
  refine ez_m.of (L := [some (.ref 5), some (.int (nI (k)))]) rfl rfl rfl ?_
  refine ez_go ez_h50 2 (pc' := bif decide ((nI (k)) < 0) then 19 else 4) (L' := [some (.ref 5), some (.int (nI (k)))]) (st' := []) (w' := cz_w r q (hgt, pil, mrg, bgs, szs, spr) b) rfl ?_
  refine ez_ifF (nI_pos (by omega)) ?_
  refine ez_go ez_h50 3 (pc' := bif decide ((nI (40)) ≤ (nI (k))) then 19 else 10) (L' := [some (.ref 5), some (.int (nI (k)))]) (st' := []) (w' := cz_w r q (hgt, pil, mrg, bgs, szs, spr) b) rfl ?_
  refine ez_ifF (nI_ge (by omega) (by omega)) ?_
  refine ez_go ez_h50 3 (pc' := 15) (L' := [some (.ref 5), some (.int (nI (k)))]) (st' := [.int (nI (k)), .ref 12]) (w' := cz_w r q (hgt, pil, mrg, bgs, szs, spr) b) rfl ?_
  refine ez_ald ez_h50 rfl rfl (k) rfl (by omega) (by omega) ?_
  refine ez_go ez_h50 1 (pc' := 20) (L' := [some (.ref 5), some (.int (nI (k)))]) (st' := [.int (bgs (k))]) (w' := cz_w r q (hgt, pil, mrg, bgs, szs, spr) b) rfl ?_
  exact ez_iret rfl ez_h50 rfl rfl h
set_option maxRecDepth 20000 in
theorem lf_width (k : Nat) (hk : k < 600) (mpil : Int64) (mmrg : Int64) (mpl : Int32) (mbgs : Nat → Int32) (mens : Nat → Int32) (moth : Nat → Int32) (A : mz_A) (Q : mz_Q) (T : mz_T) {post : Option Value → ez_W → Prop} (h : post (some (.int (mens k - mbgs k))) (mz_w A Q (mpil, mmrg, mpl, mbgs, mens, moth) T)) : ez_m 92 [.ref 0, .int (nI (k))] (mz_w A Q (mpil, mmrg, mpl, mbgs, mens, moth) T) post := by
  refine ez_m.of (L := [some (.ref 0), some (.int (nI (k)))]) rfl rfl rfl ?_
  refine ez_go ez_h92 3 (pc' := 5) (L' := [some (.ref 0), some (.int (nI (k)))]) (st' := [.int (nI (k)), .ref 7]) (w' := mz_w A Q (mpil, mmrg, mpl, mbgs, mens, moth) T) rfl ?_
  refine ez_ald ez_h92 rfl rfl (k) rfl (by omega) (by omega) ?_
  refine ez_go ez_h92 3 (pc' := 11) (L' := [some (.ref 0), some (.int (nI (k)))]) (st' := [.int (nI (k)), .ref 6, .int (mens (k))]) (w' := mz_w A Q (mpil, mmrg, mpl, mbgs, mens, moth) T) rfl ?_
  refine ez_ald ez_h92 rfl rfl (k) rfl (by omega) (by omega) ?_
  refine ez_go ez_h92 1 (pc' := 13) (L' := [some (.ref 0), some (.int (nI (k)))]) (st' := [.int ((mens (k)) - (mbgs (k)))]) (w' := mz_w A Q (mpil, mmrg, mpl, mbgs, mens, moth) T) rfl ?_
  exact ez_iret rfl ez_h92 rfl rfl h
/-! ===== the pile: height, begins, sizes, how many were piled, how many MERGED ===== -/
abbrev zp_T : Type := Nat × (Nat → Nat) × (Nat → Nat) × Int64 × Int64
def cu_R (p : zp_T) (u : cz_Rn) : Prop := u.1 = nI p.1 ∧ u.2.1 = p.2.2.2.1 ∧ u.2.2.1 = p.2.2.2.2 ∧ ∀ k, k < p.1 → u.2.2.2.1 k = nI (p.2.1 k) ∧ u.2.2.2.2.1 k = nI (p.2.2.1 k)
def mu_R (p : zp_T) (U : mz_U) : Prop := U.1 = p.2.2.2.1 ∧ U.2.1 = p.2.2.2.2 ∧ U.2.2.1 = nI p.1 ∧ ∀ k, k < p.1 → U.2.2.2.1 k = nI (p.2.1 k) ∧ U.2.2.2.2.1 k = nI (p.2.1 k + p.2.2.1 k)
/-- the RUNS lie behind one another from 0 up to b; all but the last have 16 or more -/
def zp_ok (n : Nat) (p : zp_T) (b : Nat) : Prop := p.2.1 0 = 0 ∧ (∀ k, k < p.1 → p.2.1 k + p.2.2.1 k = p.2.1 (k + 1) ∧ 1 ≤ p.2.2.1 k) ∧ (∀ k, k < p.1 → 16 ≤ p.2.2.1 k ∨ (k + 1 = p.1 ∧ b = n)) ∧ p.2.1 p.1 = b ∧ b ≤ n
theorem zp_ok.ge {n : Nat} {p : zp_T} {b : Nat} (h : zp_ok n p b) : ∀ k, k < p.1 → 16 * k ≤ p.2.1 k
  | 0, _ => by omega
  | k + 1, hk => by
    have := h.ge k (by omega)
    have h1 := (h.2.1 k (by omega)).1
    have h2 := h.2.2.1 k (by omega)
    omega
theorem zp_ok.mono {n : Nat} {p : zp_T} {b : Nat} (h : zp_ok n p b) : ∀ d k, k + d = p.1 → p.2.1 k ≤ b
  | 0, k, hk => by
    have : k = p.1 := by omega
    rw [this, h.2.2.2.1]
    exact Nat.le_refl _
  | d + 1, k, hk => by
    have := h.mono d (k + 1) (by omega)
    have h1 := (h.2.1 k (by omega)).1
    omega
theorem zp_ok.le {n : Nat} {p : zp_T} {b : Nat} (h : zp_ok n p b) {k : Nat} (hk : k ≤ p.1) : p.2.1 k ≤ b := h.mono (p.1 - k) k (by omega)
theorem zp_ok.h {n : Nat} {p : zp_T} {b : Nat} (h : zp_ok n p b) (hn : n ≤ 600) : p.1 ≤ 38 := by
  by_cases h0 : p.1 = 0
  · omega
  · have h1 := h.ge (p.1 - 1) (by omega)
    have h2 := h.2.1 (p.1 - 1) (by omega)
    have h3 := h.2.2.2.1
    have h4 := h.2.2.2.2
    rw [show p.1 - 1 + 1 = p.1 by omega, h3] at h2
    omega
/-- k and k + 1 MERGED -/
def zp_mB (B : Nat → Nat) (k : Nat) : Nat → Nat := fun j => if j ≤ k then B j else B (j + 1)
def zp_mZ (Z : Nat → Nat) (k : Nat) : Nat → Nat := fun j => if j < k then Z j else if j = k then Z k + Z (k + 1) else Z (j + 1)
def zp_mg (p : zp_T) (k : Nat) : zp_T := (p.1 - 1, zp_mB p.2.1 k, zp_mZ p.2.2.1 k, p.2.2.2.1, p.2.2.2.2 + 1)
theorem zp_ok.mg {n : Nat} {p : zp_T} {b : Nat} (h : zp_ok n p b) {k : Nat} (hk : k + 1 < p.1) : zp_ok n (zp_mg p k) b := by
  obtain ⟨hh, B, Z, P, M⟩ := p
  obtain ⟨h1, h2, h3, h4, h5⟩ := h
  replace h1 : B 0 = 0 := h1
  replace h2 : ∀ j, j < hh → B j + Z j = B (j + 1) ∧ 1 ≤ Z j := h2
  replace h3 : ∀ j, j < hh → 16 ≤ Z j ∨ (j + 1 = hh ∧ b = n) := h3
  replace h4 : B hh = b := h4
  replace hk : k + 1 < hh := hk
  refine ⟨?_, fun j hj => ?_, fun j hj => ?_, ?_, h5⟩
  · show (if 0 ≤ k then B 0 else B (0 + 1)) = 0
    rw [if_pos (Nat.zero_le _)]; exact h1
  · replace hj : j < hh - 1 := hj
    show (if j ≤ k then B j else B (j + 1)) + (if j < k then Z j else if j = k then Z k + Z (k + 1) else Z (j + 1)) = (if j + 1 ≤ k then B (j + 1) else B (j + 1 + 1)) ∧ 1 ≤ (if j < k then Z j else if j = k then Z k + Z (k + 1) else Z (j + 1))
    by_cases c1 : j < k
    · have := h2 j (by omega)
      rw [if_pos (by omega), if_pos c1, if_pos (by omega)]; exact this
    · by_cases c2 : j = k
      · subst c2
        have a1 := h2 j (by omega)
        have a2 := h2 (j + 1) (by omega)
        rw [if_pos (Nat.le_refl _), if_neg c1, if_pos rfl, if_neg (by omega)]
        omega
      · have := h2 (j + 1) (by omega)
        rw [if_neg (by omega), if_neg c1, if_neg c2, if_neg (by omega)]; exact this
  · replace hj : j < hh - 1 := hj
    show 16 ≤ (if j < k then Z j else if j = k then Z k + Z (k + 1) else Z (j + 1)) ∨ (j + 1 = hh - 1 ∧ b = n)
    by_cases c1 : j < k
    · have := h3 j (by omega)
      rw [if_pos c1]; omega
    · by_cases c2 : j = k
      · subst c2
        have := h3 j (by omega)
        rw [if_neg c1, if_pos rfl]; omega
      · have := h3 (j + 1) (by omega)
        rw [if_neg c1, if_neg c2]; omega
  · show (if hh - 1 ≤ k then B (hh - 1) else B (hh - 1 + 1)) = b
    rw [if_neg (by omega), show hh - 1 + 1 = hh by omega]; exact h4
/-- a method over row and pile -/
def cw_M (E : ze_T) (j : Nat) (As : List Value) (row : Nat → Nat) (g : zs_G) (p : zp_T) (a : Option Value) (row' : Nat → Nat) (g' : zs_G) (p' : zp_T) : Prop := ∀ (r : cz_Row) (q : cz_Qk) (u : cz_Rn) (bb : cz_Bn) (post : Option Value → ez_W → Prop), cr_R E row g r → cu_R p u → (∀ (r' : cz_Row) (u' : cz_Rn), cr_R E row' g' r' → cu_R p' u' → post a (cz_w r' q u' bb)) → ez_m j As (cz_w r q u bb) post
def mw_M (E : ze_T) (j : Nat) (As : List Value) (row : Nat → Nat) (g : zs_G) (p : zp_T) (a : Option Value) (row' : Nat → Nat) (g' : zs_G) (p' : zp_T) : Prop := ∀ (A : mz_A) (Q : mz_Q) (U : mz_U) (T : mz_T) (post : Option Value → ez_W → Prop), mr_R E row g A → mu_R p U → (∀ (A' : mz_A) (U' : mz_U), mr_R E row' g' A' → mu_R p' U' → post a (mz_w A' Q U' T)) → ez_m j As (mz_w A Q U T) post
def cw_H (E : ze_T) (mi pc : Nat) (L : ez_L) (row : Nat → Nat) (g : zs_G) (p : zp_T) (a : Option Value) (row' : Nat → Nat) (g' : zs_G) (p' : zp_T) : Prop := ∀ (r : cz_Row) (q : cz_Qk) (u : cz_Rn) (bb : cz_Bn) (post : Option Value → ez_W → Prop), cr_R E row g r → cu_R p u → (∀ (r' : cz_Row) (u' : cz_Rn), cr_R E row' g' r' → cu_R p' u' → post a (cz_w r' q u' bb)) → ez_E mi pc L [] (cz_w r q u bb) post
def mw_H (E : ze_T) (mi pc : Nat) (L : ez_L) (row : Nat → Nat) (g : zs_G) (p : zp_T) (a : Option Value) (row' : Nat → Nat) (g' : zs_G) (p' : zp_T) : Prop := ∀ (A : mz_A) (Q : mz_Q) (U : mz_U) (T : mz_T) (post : Option Value → ez_W → Prop), mr_R E row g A → mu_R p U → (∀ (A' : mz_A) (U' : mz_U), mr_R E row' g' A' → mu_R p' U' → post a (mz_w A' Q U' T)) → ez_E mi pc L [] (mz_w A Q U T) post
theorem cw_H.m {E : ze_T} {j : Nat} {L : ez_L} {As : List Value} {row row' : Nat → Nat} {g g' : zs_G} {p p' : zp_T} {a : Option Value} {N : ez_M} (h : cw_H E j 0 L row g p a row' g' p') (hN : ez_ms[j]? = some N) (hL : ez_en As N.2.2.2.1 = L) (hlen : L.length = N.2.2.2.1) : cw_M E j As row g p a row' g' p' := fun r q u b post hr hu kk => ez_m.of hN hL hlen (h r q u b post hr hu kk)
theorem mw_H.m {E : ze_T} {j : Nat} {L : ez_L} {As : List Value} {row row' : Nat → Nat} {g g' : zs_G} {p p' : zp_T} {a : Option Value} {N : ez_M} (h : mw_H E j 0 L row g p a row' g' p') (hN : ez_ms[j]? = some N) (hL : ez_en As N.2.2.2.1 = L) (hlen : L.length = N.2.2.2.1) : mw_M E j As row g p a row' g' p' := fun A Q U T post hA hU kk => ez_m.of hN hL hlen (h A Q U T post hA hU kk)
theorem zp_wd {x y : Int32} {b z : Nat} (h1 : x = nI b) (h2 : y = nI (b + z)) : y - x = nI z := by
  rw [h1, h2, pk_sub (by omega)]
  congr 1
  omega
theorem zp_cdn {hh k : Nat} {B Z : Nat → Nat} (hk : k + 1 < hh) (h38 : hh ≤ 38) : ∀ (s a : Nat) (bgs szs : Nat → Int32), hh ≤ a + s → k + 2 ≤ a → a ≤ hh → (∀ j, j + 1 < a → bgs j = nI (zp_mB B k j) ∧ szs j = nI (zp_mZ Z k j)) → (∀ j, a ≤ j → j < hh → bgs j = nI (B j) ∧ szs j = nI (Z j)) →
    ∀ (r : cz_Row) (q : cz_Qk) (P M : Int64) (spr : Nat → Int32) (bb : cz_Bn) (post : Option Value → ez_W → Prop), (∀ (bgs' szs' : Nat → Int32), (∀ j, j + 1 < hh → bgs' j = nI (zp_mB B k j) ∧ szs' j = nI (zp_mZ Z k j)) → ez_E 55 115 [some (.ref 5), some (.int (nI (k))), none, none] [] (cz_w r q (nI hh, P, M, bgs', szs', spr) bb) post) → ez_E 55 75 [some (.ref 5), some (.int (nI (k))), none, some (.int (nI (a)))] [] (cz_w r q (nI hh, P, M, bgs, szs, spr) bb) post := by
  intro s
  induction s with
  | zero =>
    intro a bgs szs h1 h2 h3 h4 h5 r q P M spr bb post kk
    refine ez_go ez_h55 4 (pc' := bif decide ((nI (hh)) ≤ (nI (a))) then 115 else 83) (L' := [some (.ref 5), some (.int (nI (k))), none, some (.int (nI (a)))]) (st' := []) (w' := cz_w r q (nI (hh), P, M, bgs, szs, spr) bb) rfl ?_
    refine ez_ifT (zt_le (a := hh) (b := a) (by omega) (by omega)) ?_
    exact ez_E.le (ez_lc (ez_lc (ez_lc (ez_ln ez_l0)))) (kk bgs szs (fun j hj => h4 j (by omega)))
  | succ s ih =>
    intro a bgs szs h1 h2 h3 h4 h5 r q P M spr bb post kk
    by_cases ha : hh ≤ a
    · skip
      refine ez_go ez_h55 4 (pc' := bif decide ((nI (hh)) ≤ (nI (a))) then 115 else 83) (L' := [some (.ref 5), some (.int (nI (k))), none, some (.int (nI (a)))]) (st' := []) (w' := cz_w r q (nI (hh), P, M, bgs, szs, spr) bb) rfl ?_
      refine ez_ifT (zt_le (a := hh) (b := a) (by omega) (by omega)) ?_
      exact ez_E.le (ez_lc (ez_lc (ez_lc (ez_ln ez_l0)))) (kk bgs szs (fun j hj => h4 j (by omega)))
    · skip
      refine ez_go ez_h55 4 (pc' := bif decide ((nI (hh)) ≤ (nI (a))) then 115 else 83) (L' := [some (.ref 5), some (.int (nI (k))), none, some (.int (nI (a)))]) (st' := []) (w' := cz_w r q (nI (hh), P, M, bgs, szs, spr) bb) rfl ?_
      refine ez_ifF (zt_nle (a := hh) (b := a) (by omega) (by omega)) ?_
      refine ez_go ez_h55 5 (pc' := 90) (L' := [some (.ref 5), some (.int (nI (k))), none, some (.int (nI (a)))]) (st' := [.int ((nI (a)) - (nI (1))), .ref 12]) (w' := cz_w r q (nI (hh), P, M, bgs, szs, spr) bb) rfl ?_
      refine ez_top (y := nI (a - 1)) (pk_sub (by omega)) ?_
      refine ez_go ez_h55 2 (pc' := 92) (L' := [some (.ref 5), some (.int (nI (k))), none, some (.int (nI (a)))]) (st' := [.int (nI (a)), .ref 5, .int (nI (a - 1)), .ref 12]) (w' := cz_w r q (nI (hh), P, M, bgs, szs, spr) bb) rfl ?_
      refine ez_cl ez_h55 rfl rfl ?_
      refine lf_beginAt a (by omega) (nI (hh)) P M bgs szs spr r q bb ?_
      refine ez_top (y := nI (B a)) ((h5 a (by omega) (by omega)).1) ?_
      refine ez_ast ez_h55 rfl rfl (a - 1) rfl (by omega) (by omega) ?_
      refine ez_go ez_h55 5 (pc' := 103) (L' := [some (.ref 5), some (.int (nI (k))), none, some (.int (nI (a)))]) (st' := [.int ((nI (a)) - (nI (1))), .ref 13]) (w' := cz_w r q (nI (hh), P, M, (upd bgs (a - 1) (nI (B a))), szs, spr) bb) rfl ?_
      refine ez_top (y := nI (a - 1)) (pk_sub (by omega)) ?_
      refine ez_go ez_h55 2 (pc' := 105) (L' := [some (.ref 5), some (.int (nI (k))), none, some (.int (nI (a)))]) (st' := [.int (nI (a)), .ref 5, .int (nI (a - 1)), .ref 13]) (w' := cz_w r q (nI (hh), P, M, (upd bgs (a - 1) (nI (B a))), szs, spr) bb) rfl ?_
      refine ez_cl ez_h55 rfl rfl ?_
      refine lf_sizeAt a (by omega) (nI (hh)) P M (upd bgs (a - 1) (nI (B a))) szs spr r q bb ?_
      refine ez_top (y := nI (Z a)) ((h5 a (by omega) (by omega)).2) ?_
      refine ez_ast ez_h55 rfl rfl (a - 1) rfl (by omega) (by omega) ?_
      refine ez_inc ez_h55 rfl rfl (v := nI (a + 1)) (zi_1 _) rfl ?_
      refine ez_go ez_h55 1 (pc' := 75) (L' := [some (.ref 5), some (.int (nI (k))), none, some (.int (nI (a + 1)))]) (st' := []) (w' := cz_w r q (nI (hh), P, M, (upd bgs (a - 1) (nI (B a))), (upd szs (a - 1) (nI (Z a))), spr) bb) rfl ?_
      refine ih (a + 1) _ _ (by omega) (by omega) (by omega) (fun j hj => ?_) (fun j j1 j2 => ?_) r q P M spr bb post kk
      · by_cases e : j = a - 1
        · subst e
          rw [pk_us, pk_us]
          unfold zp_mB zp_mZ
          rw [if_neg (by omega), if_neg (by omega), if_neg (by omega), show a - 1 + 1 = a by omega]
          exact ⟨rfl, rfl⟩
        · rw [pk_un e, pk_un e]; exact h4 j (by omega)
      · rw [pk_un (by omega), pk_un (by omega)]; exact h5 j (by omega) j2
theorem zp_mdn {hh k : Nat} {B Z : Nat → Nat} (hk : k + 1 < hh) (h38 : hh ≤ 38) : ∀ (s a : Nat) (bgs ens : Nat → Int32), hh ≤ a + s → k + 1 ≤ a → a < hh → (∀ j, j < a → bgs j = nI (zp_mB B k j) ∧ ens j = nI (zp_mB B k j + zp_mZ Z k j)) → (∀ j, a < j → j < hh → bgs j = nI (B j) ∧ ens j = nI (B j + Z j)) →
    ∀ (A : mz_A) (Q : mz_Q) (P M : Int64) (oth : Nat → Int32) (T : mz_T) (post : Option Value → ez_W → Prop), (∀ (bgs' ens' : Nat → Int32), (∀ j, j + 1 < hh → bgs' j = nI (zp_mB B k j) ∧ ens' j = nI (zp_mB B k j + zp_mZ Z k j)) → ez_E 91 224 [some (.ref 0), some (.int (nI (k))), none, none, none, none, none, none, none] [] (mz_w A Q (P, M, nI hh, bgs', ens', oth) T) post) → ez_E 91 175 [some (.ref 0), some (.int (nI (k))), none, none, none, none, none, some (.int (nI (a))), none] [] (mz_w A Q (P, M, nI hh, bgs, ens, oth) T) post := by
  intro s
  induction s with
  | zero => intro a bgs ens h1 h2 h3; omega
  | succ s ih =>
    intro a bgs ens h1 h2 h3 h4 h5 A Q P M oth T post kk
    by_cases ha : hh ≤ a + 1
    · skip
      refine ez_go ez_h91 5 (pc' := 183) (L' := [some (.ref 0), some (.int (nI (k))), none, none, none, none, none, some (.int (nI (a))), none]) (st' := [.int ((nI (hh)) - (nI (1))), .int (nI (a))]) (w' := mz_w A Q (P, M, nI (hh), bgs, ens, oth) T) rfl ?_
      refine ez_top (y := nI (hh - 1)) (pk_sub (by omega)) ?_
      refine ez_go ez_h91 1 (pc' := bif decide ((nI (hh - 1)) ≤ (nI (a))) then 224 else 186) (L' := [some (.ref 0), some (.int (nI (k))), none, none, none, none, none, some (.int (nI (a))), none]) (st' := []) (w' := mz_w A Q (P, M, nI (hh), bgs, ens, oth) T) rfl ?_
      refine ez_ifT (zt_le (a := hh - 1) (b := a) (by omega) (by omega)) ?_
      exact ez_E.le (ez_lc (ez_lc (ez_lc (ez_lc (ez_lc (ez_lc (ez_lc (ez_ln (ez_lc ez_l0))))))))) (kk bgs ens (fun j hj => h4 j (by omega)))
    · skip
      refine ez_go ez_h91 5 (pc' := 183) (L' := [some (.ref 0), some (.int (nI (k))), none, none, none, none, none, some (.int (nI (a))), none]) (st' := [.int ((nI (hh)) - (nI (1))), .int (nI (a))]) (w' := mz_w A Q (P, M, nI (hh), bgs, ens, oth) T) rfl ?_
      refine ez_top (y := nI (hh - 1)) (pk_sub (by omega)) ?_
      refine ez_go ez_h91 1 (pc' := bif decide ((nI (hh - 1)) ≤ (nI (a))) then 224 else 186) (L' := [some (.ref 0), some (.int (nI (k))), none, none, none, none, none, some (.int (nI (a))), none]) (st' := []) (w' := mz_w A Q (P, M, nI (hh), bgs, ens, oth) T) rfl ?_
      refine ez_ifF (zt_nle (a := hh - 1) (b := a) (by omega) (by omega)) ?_
      refine ez_go ez_h91 8 (pc' := 200) (L' := [some (.ref 0), some (.int (nI (k))), none, none, none, none, none, some (.int (nI (a))), none]) (st' := [.int ((nI (a)) + (nI (1))), .ref 6, .int (nI (a)), .ref 6]) (w' := mz_w A Q (P, M, nI (hh), bgs, ens, oth) T) rfl ?_
      refine ez_top (y := nI (a + 1)) (nI_add _ _) ?_
      refine ez_ald ez_h91 rfl rfl (a + 1) rfl (by omega) (by omega) ?_
      refine ez_top (y := nI (B (a + 1))) ((h5 (a + 1) (by omega) (by omega)).1) ?_
      refine ez_ast ez_h91 rfl rfl (a) rfl (by omega) (by omega) ?_
      refine ez_go ez_h91 8 (pc' := 216) (L' := [some (.ref 0), some (.int (nI (k))), none, none, none, none, none, some (.int (nI (a))), none]) (st' := [.int ((nI (a)) + (nI (1))), .ref 7, .int (nI (a)), .ref 7]) (w' := mz_w A Q (P, M, nI (hh), (upd bgs a (nI (B (a + 1)))), ens, oth) T) rfl ?_
      refine ez_top (y := nI (a + 1)) (nI_add _ _) ?_
      refine ez_ald ez_h91 rfl rfl (a + 1) rfl (by omega) (by omega) ?_
      refine ez_top (y := nI (B (a + 1) + Z (a + 1))) ((h5 (a + 1) (by omega) (by omega)).2) ?_
      refine ez_ast ez_h91 rfl rfl (a) rfl (by omega) (by omega) ?_
      refine ez_inc ez_h91 rfl rfl (v := nI (a + 1)) (zi_1 _) rfl ?_
      refine ez_go ez_h91 1 (pc' := 175) (L' := [some (.ref 0), some (.int (nI (k))), none, none, none, none, none, some (.int (nI (a + 1))), none]) (st' := []) (w' := mz_w A Q (P, M, nI (hh), (upd bgs a (nI (B (a + 1)))), (upd ens a (nI (B (a + 1) + Z (a + 1)))), oth) T) rfl ?_
      refine ih (a + 1) _ _ (by omega) (by omega) (by omega) (fun j hj => ?_) (fun j j1 j2 => ?_) A Q P M oth T post kk
      · by_cases e : j = a
        · subst e
          rw [pk_us, pk_us]
          unfold zp_mB zp_mZ
          rw [if_neg (by omega), if_neg (by omega), if_neg (by omega)]
          exact ⟨rfl, rfl⟩
        · rw [pk_un e, pk_un e]; exact h4 j (by omega)
      · rw [pk_un (by omega), pk_un (by omega)]; exact h5 j (by omega) j2
