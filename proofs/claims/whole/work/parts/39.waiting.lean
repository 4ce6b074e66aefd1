/-! ===== QUICK: how deep, how long ===== -/
def zq_cn : List Nat → Nat → Nat
  | [], _ => 0
  | t :: ts, s => (if t ≤ s then 1 else 0) + zq_cn ts s
def zq_h (s : Nat) : Nat := zq_cn [24, 28, 33, 38, 44, 51, 59, 68, 78, 90, 103, 118, 135, 155, 178, 204, 234, 268, 307, 351, 402, 460, 526] s
theorem zq_cn_le : ∀ (l : List Nat) {a b : Nat}, a ≤ b → zq_cn l a ≤ zq_cn l b
  | [], _, _, _ => Nat.le_refl _
  | t :: ts, a, b, h => by
    have := zq_cn_le ts h
    show (if t ≤ a then 1 else 0) + zq_cn ts a ≤ (if t ≤ b then 1 else 0) + zq_cn ts b
    by_cases c : t ≤ a
    · rw [if_pos c, if_pos (by omega)]; omega
    · rw [if_neg c]; split <;> omega
theorem zq_h_le {a b : Nat} (h : a ≤ b) : zq_h a ≤ zq_h b := zq_cn_le _ h
theorem zq_h_st : ∀ s, s < 601 → 24 ≤ s → zq_h (s - 1 - s / 8) + 1 ≤ zq_h s := by decide +kernel
theorem zq_h_st1 {s l : Nat} (h1 : s ≤ 600) (h2 : 24 ≤ s) (h3 : l ≤ s - 1 - s / 8) : zq_h l + 1 ≤ zq_h s := Nat.le_trans (Nat.add_le_add_right (zq_h_le h3) 1) (zq_h_st s (by omega) h2)
theorem zq_h_1 {s : Nat} (h1 : s ≤ 600) (h2 : 24 ≤ s) : 1 ≤ zq_h s := by have := zq_h_st s (by omega) h2; omega
theorem zq_h_top : ∀ s, s < 601 → zq_h s ≤ 23 := by decide +kernel
def zq_p (pf pt : Nat → Nat) : Nat → Nat
  | 0 => 0
  | k + 1 => zq_p pf pt k + (2 * (pt k - pf k) + 1)
theorem zq_p_up (pf pt : Nat → Nat) (w x y : Nat) : ∀ k, k ≤ w → zq_p (va_up pf w x) (va_up pt w y) k = zq_p pf pt k
  | 0, _ => rfl
  | k + 1, h => by
    show zq_p (va_up pf w x) (va_up pt w y) k + (2 * (va_up pt w y k - va_up pf w x k) + 1) = zq_p pf pt k + (2 * (pt k - pf k) + 1)
    rw [zq_p_up pf pt w x y k (by omega), va_up_ne _ _ (by omega), va_up_ne _ _ (by omega)]
def zq_a (w : Nat) (pf pt pb : Nat → Nat) (wf wt wb : Nat → Int32) : Prop := ∀ k, k < w → wf k = nI (pf k) ∧ wt k = nI (pt k) ∧ wb k = nI (pb k)
theorem zq_a.up {w : Nat} {pf pt pb : Nat → Nat} {wf wt wb : Nat → Int32} (h : zq_a w pf pt pb wf wt wb) (x y z : Nat) : zq_a (w + 1) (va_up pf w x) (va_up pt w y) (va_up pb w z) (upd wf w (nI x)) (upd wt w (nI y)) (upd wb w (nI z)) := fun k hk => by
  by_cases c : k = w
  · subst c; rw [va_up_self, va_up_self, va_up_self]; unfold upd; exact ⟨if_pos rfl, if_pos rfl, if_pos rfl⟩
  · rw [va_up_ne _ _ c, va_up_ne _ _ c, va_up_ne _ _ c]; unfold upd; rw [if_neg c, if_neg c, if_neg c]; exact h k (by omega)
def zq_W (E : ze_T) (row : Nat → Nat) (g : zs_G) (w : Nat) (pf pt pb : Nat → Nat) (lo : Nat) : Prop := (∀ k, k < w → lo < pf k ∧ pf k ≤ pt k ∧ pt k ≤ ze_n E ∧ zs_S E row g (pf k) (pt k) ∧ k + zq_h (pt k - pf k) + pb k ≤ 64 ∧ 1 ≤ pb k) ∧ ∀ j k, j < k → k < w → pt k < pf j
def zq_B (E : ze_T) (row : Nat → Nat) (g : zs_G) (w b e bud : Nat) : Prop := b ≤ e ∧ e ≤ ze_n E ∧ (b ≠ 0 → zs_S E row g b e) ∧ 1 ≤ bud ∧ w + zq_h (e - b) + bud ≤ 64
theorem zs_S.off {E : ze_T} {row row' : Nat → Nat} {g g' : zs_G} {b e b' e' : Nat} (h : zs_S E row g b' e') (hb : e < b') (he : e' ≤ ze_n E) (hw : zr_ok E row g) (hg : zg_le E g g') (hp : zp_in row row' b e) : zs_S E row' g' b' e' := ⟨h.1, fun k k1 k2 => by
  rw [hp.2 k (by omega), hp.2 (b' - 1) (by omega)]
  exact hg _ _ (hw.1 _ (by omega)) (h.2 k k1 k2)⟩
theorem zs_S.sub {E : ze_T} {row : Nat → Nat} {g : zs_G} {b e e' : Nat} (h : zs_S E row g b e) (he : e' ≤ e) : zs_S E row g b e' := ⟨h.1, fun k k1 k2 => h.2 k k1 (by omega)⟩
theorem zq_W.go {E : ze_T} {row row' : Nat → Nat} {g g' : zs_G} {w lo b e lo' : Nat} {pf pt pb : Nat → Nat} (h : zq_W E row g w pf pt pb lo) (he : e ≤ lo) (hl : lo' ≤ lo) (hw : zr_ok E row g) (hg : zg_le E g g') (hp : zp_in row row' b e) : zq_W E row' g' w pf pt pb lo' := ⟨fun k hk => by
  obtain ⟨a1, a2, a3, a4, a5, a6⟩ := h.1 k hk
  exact ⟨by omega, a2, a3, a4.off (by omega) a3 hw hg hp, a5, a6⟩, h.2⟩
theorem zq_W.pop {E : ze_T} {row : Nat → Nat} {g : zs_G} {w lo : Nat} {pf pt pb : Nat → Nat} (h : zq_W E row g (w + 1) pf pt pb lo) : zq_W E row g w pf pt pb (pt w) ∧ zq_B E row g w (pf w) (pt w) (pb w) := by
  obtain ⟨a1, a2, a3, a4, a5, a6⟩ := h.1 w (by omega)
  exact ⟨⟨fun k hk => by
    obtain ⟨b1, b2, b3, b4, b5, b6⟩ := h.1 k (by omega)
    exact ⟨h.2 k w hk (by omega), b2, b3, b4, b5, b6⟩, fun j k h1 h2 => h.2 j k h1 (by omega)⟩, a2, a3, fun _ => a4, a6, a5⟩
theorem zq_W.push {E : ze_T} {row : Nat → Nat} {g : zs_G} {w lo lo' b e bud : Nat} {pf pt pb : Nat → Nat} (h : zq_W E row g w pf pt pb lo) (h1 : lo' < b) (h2 : b ≤ e) (h3 : e ≤ lo) (h4 : e ≤ ze_n E) (h5 : zs_S E row g b e) (h6 : w + zq_h (e - b) + bud ≤ 64) (h7 : 1 ≤ bud) : zq_W E row g (w + 1) (va_up pf w b) (va_up pt w e) (va_up pb w bud) lo' := ⟨fun k hk => by
  by_cases c : k = w
  · subst c; rw [va_up_self, va_up_self, va_up_self]; exact ⟨h1, h2, h4, h5, h6, h7⟩
  · rw [va_up_ne _ _ c, va_up_ne _ _ c, va_up_ne _ _ c]
    obtain ⟨a1, a2, a3, a4, a5, a6⟩ := h.1 k (by omega)
    exact ⟨by omega, a2, a3, a4, a5, a6⟩, fun j k h8 h9 => by
  rw [va_up_ne pf b (show j ≠ w by omega)]
  by_cases c : k = w
  · subst c; rw [va_up_self]; have := (h.1 j (by omega)).1; omega
  · rw [va_up_ne _ _ c]; exact h.2 j k h8 (by omega)⟩
theorem zq_take0 {r : cz_Row} {fr to bud fst mid wp : Int32} {fls prt : Int64} {wf wt wb : Nat → Int32} (u : cz_Rn) (bb : cz_Bn) {post : Option Value → ez_W → Prop} (kk : post (some (.int (nI 0))) (cz_w r (nI 0, fr, to, bud, fst, mid, wp, fls, prt, wf, wt, wb) u bb)) : ez_m 12 [.ref 4] (cz_w r (nI 0, fr, to, bud, fst, mid, wp, fls, prt, wf, wt, wb) u bb) post := by
  refine ez_m.of (L := [some (.ref 4)]) rfl rfl rfl ?_
  refine ez_go ez_h12 4 (pc' := bif decide ((nI (0)) < (nI (1))) then 17 else 8) (L' := [some (.ref 4)]) (st' := []) (w' := cz_w r (nI (0), fr, to, bud, fst, mid, wp, fls, prt, wf, wt, wb) u bb) rfl ?_
  refine ez_ifT (zt_lt (a := 0) (b := 1) (by omega) (by omega)) ?_
  refine ez_go ez_h12 1 (pc' := 18) (L' := [some (.ref 4)]) (st' := [.int (nI (0))]) (w' := cz_w r (nI (0), fr, to, bud, fst, mid, wp, fls, prt, wf, wt, wb) u bb) rfl ?_
  exact ez_zret rfl ez_h12 rfl rfl (by decide) kk
theorem zq_take1 {w : Nat} {pf pt pb : Nat → Nat} (hw : w < 64) {r : cz_Row} {fr to bud fst mid wp : Int32} {fls prt : Int64} {wf wt wb : Nat → Int32} (u : cz_Rn) (bb : cz_Bn) {post : Option Value → ez_W → Prop} (ha : zq_a (w + 1) pf pt pb wf wt wb) (kk : post (some (.int (nI 1))) (cz_w r (nI w, nI (pf w), nI (pt w), nI (pb w), nI 0, mid, wp, fls, prt, wf, wt, wb) u bb)) : ez_m 12 [.ref 4] (cz_w r (nI (w + 1), fr, to, bud, fst, mid, wp, fls, prt, wf, wt, wb) u bb) post := by
  obtain ⟨a1, a2, a3⟩ := ha w (by omega)
  refine ez_m.of (L := [some (.ref 4)]) rfl rfl rfl ?_
  refine ez_go ez_h12 4 (pc' := bif decide ((nI (w + 1)) < (nI (1))) then 17 else 8) (L' := [some (.ref 4)]) (st' := []) (w' := cz_w r (nI (w + 1), fr, to, bud, fst, mid, wp, fls, prt, wf, wt, wb) u bb) rfl ?_
  refine ez_ifF (zt_nlt (a := w + 1) (b := 1) (by omega) (by omega)) ?_
  refine ez_go ez_h12 4 (pc' := bif decide ((nI (w + 1)) ≤ (nI (64))) then 19 else 17) (L' := [some (.ref 4)]) (st' := []) (w' := cz_w r (nI (w + 1), fr, to, bud, fst, mid, wp, fls, prt, wf, wt, wb) u bb) rfl ?_
  refine ez_ifT (zt_le (a := w + 1) (b := 64) (by omega) (by omega)) ?_
  refine ez_go ez_h12 5 (pc' := 26) (L' := [some (.ref 4)]) (st' := [.int ((nI (w + 1)) - (nI (1))), .ref 4]) (w' := cz_w r (nI (w + 1), fr, to, bud, fst, mid, wp, fls, prt, wf, wt, wb) u bb) rfl ?_
  refine ez_top (y := nI ((w + 1) - 1)) (pk_sub (by omega)) ?_
  refine ez_top (y := nI (w)) (congrArg nI (by omega)) ?_
  refine ez_go ez_h12 6 (pc' := 38) (L' := [some (.ref 4)]) (st' := [.int (nI (w)), .ref 9, .ref 4]) (w' := cz_w r (nI (w), fr, to, bud, fst, mid, wp, fls, prt, wf, wt, wb) u bb) rfl ?_
  refine ez_ald ez_h12 rfl rfl (w) rfl (by omega) (by omega) ?_
  refine ez_top (y := nI (pf w)) (a1) ?_
  refine ez_go ez_h12 6 (pc' := 51) (L' := [some (.ref 4)]) (st' := [.int (nI (w)), .ref 10, .ref 4]) (w' := cz_w r (nI (w), nI (pf w), to, bud, fst, mid, wp, fls, prt, wf, wt, wb) u bb) rfl ?_
  refine ez_ald ez_h12 rfl rfl (w) rfl (by omega) (by omega) ?_
  refine ez_top (y := nI (pt w)) (a2) ?_
  refine ez_go ez_h12 6 (pc' := 64) (L' := [some (.ref 4)]) (st' := [.int (nI (w)), .ref 11, .ref 4]) (w' := cz_w r (nI (w), nI (pf w), nI (pt w), bud, fst, mid, wp, fls, prt, wf, wt, wb) u bb) rfl ?_
  refine ez_ald ez_h12 rfl rfl (w) rfl (by omega) (by omega) ?_
  refine ez_top (y := nI (pb w)) (a3) ?_
  refine ez_go ez_h12 5 (pc' := 74) (L' := [some (.ref 4)]) (st' := [.int (nI (1))]) (w' := cz_w r (nI (w), nI (pf w), nI (pt w), nI (pb w), nI (0), mid, wp, fls, prt, wf, wt, wb) u bb) rfl ?_
  exact ez_zret rfl ez_h12 rfl rfl (by decide) kk
