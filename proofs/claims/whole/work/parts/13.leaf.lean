/-! ===== the reference's world ===== -/
abbrev mz_A : Type := Int32 × Int32 × Int32 × Int32 × Int32 × Int64 × Int64 × (Nat → Int32) × (Nat → Int32) × (Nat → Int32)
abbrev mz_Q : Type := Int64 × Int64 × Int64 × Int32 × Int32 × (Nat → Int32) × (Nat → Int32) × (Nat → Int32)
abbrev mz_U : Type := Int64 × Int64 × Int32 × (Nat → Int32) × (Nat → Int32) × (Nat → Int32)
abbrev mz_T : Type := Int32 × (Nat → Int32)
def mz_w (A : mz_A) (Q : mz_Q) (U : mz_U) (T : mz_T) : ez_W := [
  .inr (7, [.int T.1, .int A.1, .ref 1, .ref 2, .ref 3, .int A.2.2.1, .int A.2.2.2.1, .int A.2.2.2.2.1, .int A.2.1, .ref 4, .ref 5, .long A.2.2.2.2.2.1, .long A.2.2.2.2.2.2.1, .long Q.1, .long Q.2.1, .long Q.2.2.1, .long U.1, .long U.2.1, .ref 6, .ref 7, .int U.2.2.1, .ref 8, .ref 9, .ref 10, .int Q.2.2.2.1, .int Q.2.2.2.2.1]),
  .inl (600, A.2.2.2.2.2.2.2.1),
  .inl (600, T.2),
  .inl (600, A.2.2.2.2.2.2.2.2.1),
  .inl (600, A.2.2.2.2.2.2.2.2.2),
  .inl (600, U.2.2.2.2.2),
  .inl (600, U.2.2.2.1),
  .inl (600, U.2.2.2.2.1),
  .inl (600, Q.2.2.2.2.2.1),
  .inl (600, Q.2.2.2.2.2.2.1),
  .inl (600, Q.2.2.2.2.2.2.2)]
/-! ===== the row: reads and writes ===== -/
set_option maxRecDepth 20000 in
theorem lf_at (k : Nat) (hk : k < 600) (sz : Int32) (ord : Int32) (asked : Int64) (adv : Int32) (cand : Int32) (stl : Int32) (num : Nat → Int32) (thg : Nat → Int32) (q : cz_Qk) (u : cz_Rn) (b : cz_Bn) {post : Option Value → ez_W → Prop} (h : post (some (.int (thg k))) (cz_w (sz, ord, asked, adv, cand, stl, num, thg) q u b)) : ez_m 32 [.ref 1, .int (nI (k))] (cz_w (sz, ord, asked, adv, cand, stl, num, thg) q u b) post := by
  refine ez_m.of (L := [some (.ref 1), some (.int (nI (k)))]) rfl rfl rfl ?_
  refine ez_go ez_h32 2 (pc' := bif decide ((nI (k)) < 0) then 22 else 4) (L' := [some (.ref 1), some (.int (nI (k)))]) (st' := []) (w' := cz_w (sz, ord, asked, adv, cand, stl, num, thg) q u b) rfl ?_
  refine ez_ifF (nI_pos (by omega)) ?_
  refine ez_go ez_h32 5 (pc' := bif decide ((nI (600)) ≤ (nI (k))) then 22 else 13) (L' := [some (.ref 1), some (.int (nI (k)))]) (st' := []) (w' := cz_w (sz, ord, asked, adv, cand, stl, num, thg) q u b) rfl ?_
  refine ez_ifF (nI_ge (by omega) (by omega)) ?_
  refine ez_go ez_h32 3 (pc' := 18) (L' := [some (.ref 1), some (.int (nI (k)))]) (st' := [.int (nI (k)), .ref 8]) (w' := cz_w (sz, ord, asked, adv, cand, stl, num, thg) q u b) rfl ?_
  refine ez_ald ez_h32 rfl rfl (k) rfl (by omega) (by omega) ?_
  refine ez_go ez_h32 1 (pc' := 23) (L' := [some (.ref 1), some (.int (nI (k)))]) (st' := [.int (thg (k))]) (w' := cz_w (sz, ord, asked, adv, cand, stl, num, thg) q u b) rfl ?_
  exact ez_iret rfl ez_h32 rfl rfl h
set_option maxRecDepth 20000 in
theorem lf_numberOf (k : Nat) (hk : k < 600) (sz : Int32) (ord : Int32) (asked : Int64) (adv : Int32) (cand : Int32) (stl : Int32) (num : Nat → Int32) (thg : Nat → Int32) (q : cz_Qk) (u : cz_Rn) (b : cz_Bn) {post : Option Value → ez_W → Prop} (h : post (some (.int (num k))) (cz_w (sz, ord, asked, adv, cand, stl, num, thg) q u b)) : ez_m 34 [.ref 1, .int (nI (k))] (cz_w (sz, ord, asked, adv, cand, stl, num, thg) q u b) post := by
  refine ez_m.of (L := [some (.ref 1), some (.int (nI (k)))]) rfl rfl rfl ?_
  refine ez_go ez_h34 2 (pc' := bif decide ((nI (k)) < 0) then 22 else 4) (L' := [some (.ref 1), some (.int (nI (k)))]) (st' := []) (w' := cz_w (sz, ord, asked, adv, cand, stl, num, thg) q u b) rfl ?_
  refine ez_ifF (nI_pos (by omega)) ?_
  refine ez_go ez_h34 5 (pc' := bif decide ((nI (600)) ≤ (nI (k))) then 22 else 13) (L' := [some (.ref 1), some (.int (nI (k)))]) (st' := []) (w' := cz_w (sz, ord, asked, adv, cand, stl, num, thg) q u b) rfl ?_
  refine ez_ifF (nI_ge (by omega) (by omega)) ?_
  refine ez_go ez_h34 3 (pc' := 18) (L' := [some (.ref 1), some (.int (nI (k)))]) (st' := [.int (nI (k)), .ref 7]) (w' := cz_w (sz, ord, asked, adv, cand, stl, num, thg) q u b) rfl ?_
  refine ez_ald ez_h34 rfl rfl (k) rfl (by omega) (by omega) ?_
  refine ez_go ez_h34 1 (pc' := 23) (L' := [some (.ref 1), some (.int (nI (k)))]) (st' := [.int (num (k))]) (w' := cz_w (sz, ord, asked, adv, cand, stl, num, thg) q u b) rfl ?_
  exact ez_iret rfl ez_h34 rfl rfl h
set_option maxRecDepth 20000 in
theorem lf_size   (sz : Int32) (ord : Int32) (asked : Int64) (adv : Int32) (cand : Int32) (stl : Int32) (num : Nat → Int32) (thg : Nat → Int32) (q : cz_Qk) (u : cz_Rn) (b : cz_Bn) {post : Option Value → ez_W → Prop} (h : post (some (.int sz)) (cz_w (sz, ord, asked, adv, cand, stl, num, thg) q u b)) : ez_m 26 [.ref 1] (cz_w (sz, ord, asked, adv, cand, stl, num, thg) q u b) post := by
  refine ez_m.of (L := [some (.ref 1)]) rfl rfl rfl ?_
  refine ez_go ez_h26 2 (pc' := 4) (L' := [some (.ref 1)]) (st' := [.int (sz)]) (w' := cz_w (sz, ord, asked, adv, cand, stl, num, thg) q u b) rfl ?_
  exact ez_iret rfl ez_h26 rfl rfl h
set_option maxRecDepth 20000 in
theorem lf_ordering   (sz : Int32) (ord : Int32) (asked : Int64) (adv : Int32) (cand : Int32) (stl : Int32) (num : Nat → Int32) (thg : Nat → Int32) (q : cz_Qk) (u : cz_Rn) (b : cz_Bn) {post : Option Value → ez_W → Prop} (h : post (some (.int ord)) (cz_w (sz, ord, asked, adv, cand, stl, num, thg) q u b)) : ez_m 27 [.ref 1] (cz_w (sz, ord, asked, adv, cand, stl, num, thg) q u b) post := by
  refine ez_m.of (L := [some (.ref 1)]) rfl rfl rfl ?_
  refine ez_go ez_h27 2 (pc' := 4) (L' := [some (.ref 1)]) (st' := [.int (ord)]) (w' := cz_w (sz, ord, asked, adv, cand, stl, num, thg) q u b) rfl ?_
  exact ez_iret rfl ez_h27 rfl rfl h
set_option maxRecDepth 20000 in
theorem lf_asked   (sz : Int32) (ord : Int32) (asked : Int64) (adv : Int32) (cand : Int32) (stl : Int32) (num : Nat → Int32) (thg : Nat → Int32) (q : cz_Qk) (u : cz_Rn) (b : cz_Bn) {post : Option Value → ez_W → Prop} (h : post (some (.long asked)) (cz_w (sz, ord, asked, adv, cand, stl, num, thg) q u b)) : ez_m 29 [.ref 1] (cz_w (sz, ord, asked, adv, cand, stl, num, thg) q u b) post := by
  refine ez_m.of (L := [some (.ref 1)]) rfl rfl rfl ?_
  refine ez_go ez_h29 2 (pc' := 4) (L' := [some (.ref 1)]) (st' := [.long (asked)]) (w' := cz_w (sz, ord, asked, adv, cand, stl, num, thg) q u b) rfl ?_
  exact ez_lret rfl ez_h29 rfl rfl h
def pf_setOrdering (o : Int32) (sz : Int32) (ord : Int32) (asked : Int64) (adv : Int32) (cand : Int32) (stl : Int32) (num : Nat → Int32) (thg : Nat → Int32) : cz_Row := ((sz, o, asked, adv, cand, stl, num, thg))
set_option maxRecDepth 20000 in
theorem lf_setOrdering (o : Int32)  (sz : Int32) (ord : Int32) (asked : Int64) (adv : Int32) (cand : Int32) (stl : Int32) (num : Nat → Int32) (thg : Nat → Int32) (q : cz_Qk) (u : cz_Rn) (b : cz_Bn) {post : Option Value → ez_W → Prop} (h : post none (cz_w (pf_setOrdering o sz ord asked adv cand stl num thg) q u b)) : ez_m 28 [.ref 1, .int (o)] (cz_w (sz, ord, asked, adv, cand, stl, num, thg) q u b) post := by
  refine ez_m.of (L := [some (.ref 1), some (.int (o))]) rfl rfl rfl ?_
  unfold pf_setOrdering at h
  refine ez_go ez_h28 3 (pc' := 5) (L' := [some (.ref 1), some (.int (o))]) (st' := []) (w' := cz_w (sz, o, asked, adv, cand, stl, num, thg) q u b) rfl ?_
  exact ez_vret rfl ez_h28 rfl rfl h
def pf_empty  (sz : Int32) (ord : Int32) (asked : Int64) (adv : Int32) (cand : Int32) (stl : Int32) (num : Nat → Int32) (thg : Nat → Int32) : cz_Row := (((nI (0)), ord, asked, adv, cand, stl, num, thg))
set_option maxRecDepth 20000 in
theorem lf_empty   (sz : Int32) (ord : Int32) (asked : Int64) (adv : Int32) (cand : Int32) (stl : Int32) (num : Nat → Int32) (thg : Nat → Int32) (q : cz_Qk) (u : cz_Rn) (b : cz_Bn) {post : Option Value → ez_W → Prop} (h : post none (cz_w (pf_empty  sz ord asked adv cand stl num thg) q u b)) : ez_m 30 [.ref 1] (cz_w (sz, ord, asked, adv, cand, stl, num, thg) q u b) post := by
  refine ez_m.of (L := [some (.ref 1)]) rfl rfl rfl ?_
  unfold pf_empty at h
  refine ez_go ez_h30 3 (pc' := 5) (L' := [some (.ref 1)]) (st' := []) (w' := cz_w ((nI (0)), ord, asked, adv, cand, stl, num, thg) q u b) rfl ?_
  exact ez_vret rfl ez_h30 rfl rfl h
def pf_set (k : Nat) (v : Int32) (sz : Int32) (ord : Int32) (asked : Int64) (adv : Int32) (cand : Int32) (stl : Int32) (num : Nat → Int32) (thg : Nat → Int32) : cz_Row := ((sz, ord, asked, adv, cand, stl, num, (upd thg (k) v)))
set_option maxRecDepth 20000 in
theorem lf_set (k : Nat) (v : Int32) (hk : k < 600) (sz : Int32) (ord : Int32) (asked : Int64) (adv : Int32) (cand : Int32) (stl : Int32) (num : Nat → Int32) (thg : Nat → Int32) (q : cz_Qk) (u : cz_Rn) (b : cz_Bn) {post : Option Value → ez_W → Prop} (h : post none (cz_w (pf_set k v sz ord asked adv cand stl num thg) q u b)) : ez_m 33 [.ref 1, .int (nI (k)), .int (v)] (cz_w (sz, ord, asked, adv, cand, stl, num, thg) q u b) post := by
  refine ez_m.of (L := [some (.ref 1), some (.int (nI (k))), some (.int (v))]) rfl rfl rfl ?_
  unfold pf_set at h
  refine ez_go ez_h33 2 (pc' := bif decide ((nI (k)) < 0) then 20 else 4) (L' := [some (.ref 1), some (.int (nI (k))), some (.int (v))]) (st' := []) (w' := cz_w (sz, ord, asked, adv, cand, stl, num, thg) q u b) rfl ?_
  refine ez_ifF (nI_pos (by omega)) ?_
  refine ez_go ez_h33 5 (pc' := bif decide ((nI (600)) ≤ (nI (k))) then 20 else 13) (L' := [some (.ref 1), some (.int (nI (k))), some (.int (v))]) (st' := []) (w' := cz_w (sz, ord, asked, adv, cand, stl, num, thg) q u b) rfl ?_
  refine ez_ifF (nI_ge (by omega) (by omega)) ?_
  refine ez_go ez_h33 4 (pc' := 19) (L' := [some (.ref 1), some (.int (nI (k))), some (.int (v))]) (st' := [.int (v), .int (nI (k)), .ref 8]) (w' := cz_w (sz, ord, asked, adv, cand, stl, num, thg) q u b) rfl ?_
  refine ez_ast ez_h33 rfl rfl (k) rfl (by omega) (by omega) ?_
  exact ez_vret rfl ez_h33 rfl rfl h
def pf_settle (x : Nat) (y : Nat) (sz : Int32) (ord : Int32) (asked : Int64) (adv : Int32) (cand : Int32) (stl : Int32) (num : Nat → Int32) (thg : Nat → Int32) : cz_Row := if (num (x)) = sz then (if (num (y)) = sz then (if cand = (nI (x)) then (if ((upd num (x) stl) (x)) = sz then ((sz, ord, asked, adv, (nI (x)), (stl + (nI (1))), (upd num (x) stl), thg)) else (if ((upd num (x) stl) (y)) = sz then ((sz, ord, asked, adv, (nI (y)), (stl + (nI (1))), (upd num (x) stl), thg)) else ((sz, ord, asked, adv, cand, (stl + (nI (1))), (upd num (x) stl), thg)))) else (if ((upd num (y) stl) (x)) = sz then ((sz, ord, asked, adv, (nI (x)), (stl + (nI (1))), (upd num (y) stl), thg)) else (if ((upd num (y) stl) (y)) = sz then ((sz, ord, asked, adv, (nI (y)), (stl + (nI (1))), (upd num (y) stl), thg)) else ((sz, ord, asked, adv, cand, (stl + (nI (1))), (upd num (y) stl), thg))))) else (if (num (x)) = sz then ((sz, ord, asked, adv, (nI (x)), stl, num, thg)) else (if (num (y)) = sz then ((sz, ord, asked, adv, (nI (y)), stl, num, thg)) else ((sz, ord, asked, adv, cand, stl, num, thg))))) else (if (num (x)) = sz then ((sz, ord, asked, adv, (nI (x)), stl, num, thg)) else (if (num (y)) = sz then ((sz, ord, asked, adv, (nI (y)), stl, num, thg)) else ((sz, ord, asked, adv, cand, stl, num, thg))))
set_option maxRecDepth 20000 in
theorem lf_settle (x : Nat) (y : Nat) (hx : x < 600) (hy : y < 600) (sz : Int32) (ord : Int32) (asked : Int64) (adv : Int32) (cand : Int32) (stl : Int32) (num : Nat → Int32) (thg : Nat → Int32) (q : cz_Qk) (u : cz_Rn) (b : cz_Bn) {post : Option Value → ez_W → Prop} (h : post none (cz_w (pf_settle x y sz ord asked adv cand stl num thg) q u b)) : ez_m 41 [.ref 1, .int (nI (x)), .int (nI (y))] (cz_w (sz, ord, asked, adv, cand, stl, num, thg) q u b) post := by
  refine ez_m.of (L := [some (.ref 1), some (.int (nI (x))), some (.int (nI (y))), none]) rfl rfl rfl ?_
  unfold pf_settle at h
  refine ez_go ez_h41 2 (pc' := bif decide ((nI (x)) < 0) then 26 else 4) (L' := [some (.ref 1), some (.int (nI (x))), some (.int (nI (y))), none]) (st' := []) (w' := cz_w (sz, ord, asked, adv, cand, stl, num, thg) q u b) rfl ?_
  refine ez_ifF (nI_pos (by omega)) ?_
  refine ez_go ez_h41 5 (pc' := bif decide ((nI (600)) ≤ (nI (x))) then 26 else 13) (L' := [some (.ref 1), some (.int (nI (x))), some (.int (nI (y))), none]) (st' := []) (w' := cz_w (sz, ord, asked, adv, cand, stl, num, thg) q u b) rfl ?_
  refine ez_ifF (nI_ge (by omega) (by omega)) ?_
  refine ez_go ez_h41 2 (pc' := bif decide ((nI (y)) < 0) then 26 else 17) (L' := [some (.ref 1), some (.int (nI (x))), some (.int (nI (y))), none]) (st' := []) (w' := cz_w (sz, ord, asked, adv, cand, stl, num, thg) q u b) rfl ?_
  refine ez_ifF (nI_pos (by omega)) ?_
  refine ez_go ez_h41 5 (pc' := bif decide ((nI (y)) < (nI (600))) then 27 else 26) (L' := [some (.ref 1), some (.int (nI (x))), some (.int (nI (y))), none]) (st' := []) (w' := cz_w (sz, ord, asked, adv, cand, stl, num, thg) q u b) rfl ?_
  refine ez_ifT (nI_lt (by omega) (by omega)) ?_
  refine ez_go ez_h41 6 (pc' := 37) (L' := [some (.ref 1), some (.int (nI (x))), some (.int (nI (y))), some (.int (sz))]) (st' := [.int (nI (x)), .ref 7]) (w' := cz_w (sz, ord, asked, adv, cand, stl, num, thg) q u b) rfl ?_
  refine ez_ald ez_h41 rfl rfl (x) rfl (by omega) (by omega) ?_
  refine ez_go ez_h41 2 (pc' := bif decide (¬ (num (x)) = sz) then 84 else 42) (L' := [some (.ref 1), some (.int (nI (x))), some (.int (nI (y))), some (.int (sz))]) (st' := []) (w' := cz_w (sz, ord, asked, adv, cand, stl, num, thg) q u b) rfl ?_
  refine ez_if (fun c1 => ?_) (fun c1 => ?_)
  · rw [if_neg c1] at h
    refine ez_go ez_h41 3 (pc' := 89) (L' := [some (.ref 1), some (.int (nI (x))), some (.int (nI (y))), some (.int (sz))]) (st' := [.int (nI (x)), .ref 7]) (w' := cz_w (sz, ord, asked, adv, cand, stl, num, thg) q u b) rfl ?_
    refine ez_ald ez_h41 rfl rfl (x) rfl (by omega) (by omega) ?_
    refine ez_go ez_h41 2 (pc' := bif decide (¬ (num (x)) = sz) then 102 else 94) (L' := [some (.ref 1), some (.int (nI (x))), some (.int (nI (y))), some (.int (sz))]) (st' := []) (w' := cz_w (sz, ord, asked, adv, cand, stl, num, thg) q u b) rfl ?_
    refine ez_if (fun c2 => ?_) (fun c2 => ?_)
    · rw [if_neg c2] at h
      refine ez_go ez_h41 3 (pc' := 107) (L' := [some (.ref 1), some (.int (nI (x))), some (.int (nI (y))), some (.int (sz))]) (st' := [.int (nI (y)), .ref 7]) (w' := cz_w (sz, ord, asked, adv, cand, stl, num, thg) q u b) rfl ?_
      refine ez_ald ez_h41 rfl rfl (y) rfl (by omega) (by omega) ?_
      refine ez_go ez_h41 2 (pc' := bif decide (¬ (num (y)) = sz) then 117 else 112) (L' := [some (.ref 1), some (.int (nI (x))), some (.int (nI (y))), some (.int (sz))]) (st' := []) (w' := cz_w (sz, ord, asked, adv, cand, stl, num, thg) q u b) rfl ?_
      refine ez_if (fun c3 => ?_) (fun c3 => ?_)
      · rw [if_neg c3] at h
        exact ez_vret rfl ez_h41 rfl rfl h
      · rw [if_pos (Decidable.not_not.mp c3)] at h
        refine ez_go ez_h41 3 (pc' := 117) (L' := [some (.ref 1), some (.int (nI (x))), some (.int (nI (y))), some (.int (sz))]) (st' := []) (w' := cz_w (sz, ord, asked, adv, (nI (y)), stl, num, thg) q u b) rfl ?_
        exact ez_vret rfl ez_h41 rfl rfl h
    · rw [if_pos (Decidable.not_not.mp c2)] at h
      refine ez_go ez_h41 4 (pc' := 117) (L' := [some (.ref 1), some (.int (nI (x))), some (.int (nI (y))), some (.int (sz))]) (st' := []) (w' := cz_w (sz, ord, asked, adv, (nI (x)), stl, num, thg) q u b) rfl ?_
      exact ez_vret rfl ez_h41 rfl rfl h
  · rw [if_pos (Decidable.not_not.mp c1)] at h
    refine ez_go ez_h41 3 (pc' := 47) (L' := [some (.ref 1), some (.int (nI (x))), some (.int (nI (y))), some (.int (sz))]) (st' := [.int (nI (y)), .ref 7]) (w' := cz_w (sz, ord, asked, adv, cand, stl, num, thg) q u b) rfl ?_
    refine ez_ald ez_h41 rfl rfl (y) rfl (by omega) (by omega) ?_
    refine ez_go ez_h41 2 (pc' := bif decide (¬ (num (y)) = sz) then 84 else 52) (L' := [some (.ref 1), some (.int (nI (x))), some (.int (nI (y))), some (.int (sz))]) (st' := []) (w' := cz_w (sz, ord, asked, adv, cand, stl, num, thg) q u b) rfl ?_
    refine ez_if (fun c4 => ?_) (fun c4 => ?_)
    · rw [if_neg c4] at h
      refine ez_go ez_h41 3 (pc' := 89) (L' := [some (.ref 1), some (.int (nI (x))), some (.int (nI (y))), some (.int (sz))]) (st' := [.int (nI (x)), .ref 7]) (w' := cz_w (sz, ord, asked, adv, cand, stl, num, thg) q u b) rfl ?_
      refine ez_ald ez_h41 rfl rfl (x) rfl (by omega) (by omega) ?_
      refine ez_go ez_h41 2 (pc' := bif decide (¬ (num (x)) = sz) then 102 else 94) (L' := [some (.ref 1), some (.int (nI (x))), some (.int (nI (y))), some (.int (sz))]) (st' := []) (w' := cz_w (sz, ord, asked, adv, cand, stl, num, thg) q u b) rfl ?_
      refine ez_if (fun c5 => ?_) (fun c5 => ?_)
      · rw [if_neg c5] at h
        refine ez_go ez_h41 3 (pc' := 107) (L' := [some (.ref 1), some (.int (nI (x))), some (.int (nI (y))), some (.int (sz))]) (st' := [.int (nI (y)), .ref 7]) (w' := cz_w (sz, ord, asked, adv, cand, stl, num, thg) q u b) rfl ?_
        refine ez_ald ez_h41 rfl rfl (y) rfl (by omega) (by omega) ?_
        refine ez_go ez_h41 2 (pc' := bif decide (¬ (num (y)) = sz) then 117 else 112) (L' := [some (.ref 1), some (.int (nI (x))), some (.int (nI (y))), some (.int (sz))]) (st' := []) (w' := cz_w (sz, ord, asked, adv, cand, stl, num, thg) q u b) rfl ?_
        refine ez_if (fun c6 => ?_) (fun c6 => ?_)
        · rw [if_neg c6] at h
          exact ez_vret rfl ez_h41 rfl rfl h
        · rw [if_pos (Decidable.not_not.mp c6)] at h
          refine ez_go ez_h41 3 (pc' := 117) (L' := [some (.ref 1), some (.int (nI (x))), some (.int (nI (y))), some (.int (sz))]) (st' := []) (w' := cz_w (sz, ord, asked, adv, (nI (y)), stl, num, thg) q u b) rfl ?_
          exact ez_vret rfl ez_h41 rfl rfl h
      · rw [if_pos (Decidable.not_not.mp c5)] at h
        refine ez_go ez_h41 4 (pc' := 117) (L' := [some (.ref 1), some (.int (nI (x))), some (.int (nI (y))), some (.int (sz))]) (st' := []) (w' := cz_w (sz, ord, asked, adv, (nI (x)), stl, num, thg) q u b) rfl ?_
        exact ez_vret rfl ez_h41 rfl rfl h
    · rw [if_pos (Decidable.not_not.mp c4)] at h
      refine ez_go ez_h41 6 (pc' := bif decide (¬ cand = (nI (x))) then 68 else 64) (L' := [some (.ref 1), some (.int (nI (x))), some (.int (nI (y))), some (.int (sz))]) (st' := [.ref 7]) (w' := cz_w (sz, ord, asked, adv, cand, stl, num, thg) q u b) rfl ?_
      refine ez_if (fun c7 => ?_) (fun c7 => ?_)
      · rw [if_neg c7] at h
        refine ez_go ez_h41 3 (pc' := 73) (L' := [some (.ref 1), some (.int (nI (x))), some (.int (nI (y))), some (.int (sz))]) (st' := [.int (stl), .int (nI (y)), .ref 7]) (w' := cz_w (sz, ord, asked, adv, cand, stl, num, thg) q u b) rfl ?_
        refine ez_ast ez_h41 rfl rfl (y) rfl (by omega) (by omega) ?_
        refine ez_go ez_h41 9 (pc' := 89) (L' := [some (.ref 1), some (.int (nI (x))), some (.int (nI (y))), some (.int (sz))]) (st' := [.int (nI (x)), .ref 7]) (w' := cz_w (sz, ord, asked, adv, cand, (stl + (nI (1))), (upd num (y) stl), thg) q u b) rfl ?_
        refine ez_ald ez_h41 rfl rfl (x) rfl (by omega) (by omega) ?_
        refine ez_go ez_h41 2 (pc' := bif decide (¬ ((upd num (y) stl) (x)) = sz) then 102 else 94) (L' := [some (.ref 1), some (.int (nI (x))), some (.int (nI (y))), some (.int (sz))]) (st' := []) (w' := cz_w (sz, ord, asked, adv, cand, (stl + (nI (1))), (upd num (y) stl), thg) q u b) rfl ?_
        refine ez_if (fun c8 => ?_) (fun c8 => ?_)
        · rw [if_neg c8] at h
          refine ez_go ez_h41 3 (pc' := 107) (L' := [some (.ref 1), some (.int (nI (x))), some (.int (nI (y))), some (.int (sz))]) (st' := [.int (nI (y)), .ref 7]) (w' := cz_w (sz, ord, asked, adv, cand, (stl + (nI (1))), (upd num (y) stl), thg) q u b) rfl ?_
          refine ez_ald ez_h41 rfl rfl (y) rfl (by omega) (by omega) ?_
          refine ez_go ez_h41 2 (pc' := bif decide (¬ ((upd num (y) stl) (y)) = sz) then 117 else 112) (L' := [some (.ref 1), some (.int (nI (x))), some (.int (nI (y))), some (.int (sz))]) (st' := []) (w' := cz_w (sz, ord, asked, adv, cand, (stl + (nI (1))), (upd num (y) stl), thg) q u b) rfl ?_
          refine ez_if (fun c9 => ?_) (fun c9 => ?_)
          · rw [if_neg c9] at h
            exact ez_vret rfl ez_h41 rfl rfl h
          · rw [if_pos (Decidable.not_not.mp c9)] at h
            refine ez_go ez_h41 3 (pc' := 117) (L' := [some (.ref 1), some (.int (nI (x))), some (.int (nI (y))), some (.int (sz))]) (st' := []) (w' := cz_w (sz, ord, asked, adv, (nI (y)), (stl + (nI (1))), (upd num (y) stl), thg) q u b) rfl ?_
            exact ez_vret rfl ez_h41 rfl rfl h
        · rw [if_pos (Decidable.not_not.mp c8)] at h
          refine ez_go ez_h41 4 (pc' := 117) (L' := [some (.ref 1), some (.int (nI (x))), some (.int (nI (y))), some (.int (sz))]) (st' := []) (w' := cz_w (sz, ord, asked, adv, (nI (x)), (stl + (nI (1))), (upd num (y) stl), thg) q u b) rfl ?_
          exact ez_vret rfl ez_h41 rfl rfl h
      · rw [if_pos (Decidable.not_not.mp c7)] at h
        refine ez_go ez_h41 4 (pc' := 73) (L' := [some (.ref 1), some (.int (nI (x))), some (.int (nI (y))), some (.int (sz))]) (st' := [.int (stl), .int (nI (x)), .ref 7]) (w' := cz_w (sz, ord, asked, adv, cand, stl, num, thg) q u b) rfl ?_
        refine ez_ast ez_h41 rfl rfl (x) rfl (by omega) (by omega) ?_
        refine ez_go ez_h41 9 (pc' := 89) (L' := [some (.ref 1), some (.int (nI (x))), some (.int (nI (y))), some (.int (sz))]) (st' := [.int (nI (x)), .ref 7]) (w' := cz_w (sz, ord, asked, adv, cand, (stl + (nI (1))), (upd num (x) stl), thg) q u b) rfl ?_
        refine ez_ald ez_h41 rfl rfl (x) rfl (by omega) (by omega) ?_
        refine ez_go ez_h41 2 (pc' := bif decide (¬ ((upd num (x) stl) (x)) = sz) then 102 else 94) (L' := [some (.ref 1), some (.int (nI (x))), some (.int (nI (y))), some (.int (sz))]) (st' := []) (w' := cz_w (sz, ord, asked, adv, cand, (stl + (nI (1))), (upd num (x) stl), thg) q u b) rfl ?_
        refine ez_if (fun c10 => ?_) (fun c10 => ?_)
        · rw [if_neg c10] at h
          refine ez_go ez_h41 3 (pc' := 107) (L' := [some (.ref 1), some (.int (nI (x))), some (.int (nI (y))), some (.int (sz))]) (st' := [.int (nI (y)), .ref 7]) (w' := cz_w (sz, ord, asked, adv, cand, (stl + (nI (1))), (upd num (x) stl), thg) q u b) rfl ?_
          refine ez_ald ez_h41 rfl rfl (y) rfl (by omega) (by omega) ?_
          refine ez_go ez_h41 2 (pc' := bif decide (¬ ((upd num (x) stl) (y)) = sz) then 117 else 112) (L' := [some (.ref 1), some (.int (nI (x))), some (.int (nI (y))), some (.int (sz))]) (st' := []) (w' := cz_w (sz, ord, asked, adv, cand, (stl + (nI (1))), (upd num (x) stl), thg) q u b) rfl ?_
          refine ez_if (fun c11 => ?_) (fun c11 => ?_)
          · rw [if_neg c11] at h
            exact ez_vret rfl ez_h41 rfl rfl h
          · rw [if_pos (Decidable.not_not.mp c11)] at h
            refine ez_go ez_h41 3 (pc' := 117) (L' := [some (.ref 1), some (.int (nI (x))), some (.int (nI (y))), some (.int (sz))]) (st' := []) (w' := cz_w (sz, ord, asked, adv, (nI (y)), (stl + (nI (1))), (upd num (x) stl), thg) q u b) rfl ?_
            exact ez_vret rfl ez_h41 rfl rfl h
        · rw [if_pos (Decidable.not_not.mp c10)] at h
          refine ez_go ez_h41 4 (pc' := 117) (L' := [some (.ref 1), some (.int (nI (x))), some (.int (nI (y))), some (.int (sz))]) (st' := []) (w' := cz_w (sz, ord, asked, adv, (nI (x)), (stl + (nI (1))), (upd num (x) stl), thg) q u b) rfl ?_
          exact ez_vret rfl ez_h41 rfl rfl h
/-- the KEY of a number in an order -/
def zk_key (o : Int32) (x : Int64) : Int64 := if o = 1 then -x else if o = 2 then x &&& 255 else if o = 3 then (if 0 ≤ lg_cmp x 0 then x else -x) else x
set_option maxRecDepth 20000 in
theorem lf_keyFor (v : Int64) (sz : Int32) (ord : Int32) (asked : Int64) (adv : Int32) (cand : Int32) (stl : Int32) (num : Nat → Int32) (thg : Nat → Int32) (q : cz_Qk) (u : cz_Rn) (b : cz_Bn) {post : Option Value → ez_W → Prop} (ho : ord = 0 ∨ ord = 1 ∨ ord = 2 ∨ ord = 3) (h : post (some (.long (zk_key ord v))) (cz_w (sz, ord, asked, adv, cand, stl, num, thg) q u b)) : ez_m 37 [.ref 1, .long v] (cz_w (sz, ord, asked, adv, cand, stl, num, thg) q u b) post := by
  refine ez_m.of (L := [some (.ref 1), some (.long v), none]) rfl rfl rfl ?_
  rcases ho with rfl | rfl | rfl | rfl
  · refine ez_go ez_h37 3 (pc' := 54) (L' := [some (.ref 1), some (.long v), none]) (st' := []) (w' := cz_w (sz, 0, asked, adv, cand, stl, num, thg) q u b) rfl ?_
    refine ez_go ez_h37 1 (pc' := 55) (L' := [some (.ref 1), some (.long v), none]) (st' := [.long v]) (w' := cz_w (sz, 0, asked, adv, cand, stl, num, thg) q u b) rfl ?_
    exact ez_lret rfl ez_h37 rfl rfl h
  · refine ez_go ez_h37 3 (pc' := 32) (L' := [some (.ref 1), some (.long v), none]) (st' := []) (w' := cz_w (sz, 1, asked, adv, cand, stl, num, thg) q u b) rfl ?_
    refine ez_go ez_h37 2 (pc' := 34) (L' := [some (.ref 1), some (.long v), none]) (st' := [.long (-v)]) (w' := cz_w (sz, 1, asked, adv, cand, stl, num, thg) q u b) rfl ?_
    exact ez_lret rfl ez_h37 rfl rfl h
  · refine ez_go ez_h37 3 (pc' := 35) (L' := [some (.ref 1), some (.long v), none]) (st' := []) (w' := cz_w (sz, 2, asked, adv, cand, stl, num, thg) q u b) rfl ?_
    refine ez_go ez_h37 3 (pc' := 40) (L' := [some (.ref 1), some (.long v), none]) (st' := [.long (v &&& 255)]) (w' := cz_w (sz, 2, asked, adv, cand, stl, num, thg) q u b) rfl ?_
    exact ez_lret rfl ez_h37 rfl rfl h
  · refine ez_go ez_h37 3 (pc' := 41) (L' := [some (.ref 1), some (.long v), none]) (st' := []) (w' := cz_w (sz, 3, asked, adv, cand, stl, num, thg) q u b) rfl ?_
    refine ez_go ez_h37 4 (pc' := bif decide (0 ≤ lg_cmp v 0) then 52 else 47) (L' := [some (.ref 1), some (.long v), none]) (st' := []) (w' := cz_w (sz, 3, asked, adv, cand, stl, num, thg) q u b) rfl ?_
    refine ez_if (fun c1 => ?_) (fun c1 => ?_)
    · refine ez_go ez_h37 1 (pc' := 53) (L' := [some (.ref 1), some (.long v), none]) (st' := [.long v]) (w' := cz_w (sz, 3, asked, adv, cand, stl, num, thg) q u b) rfl ?_
      refine ez_lret rfl ez_h37 rfl rfl ?_
      have e : zk_key 3 v = v := by show (if 0 ≤ lg_cmp v 0 then v else -v) = v; rw [if_pos c1]
      rw [e] at h; exact h
    · refine ez_go ez_h37 3 (pc' := 53) (L' := [some (.ref 1), some (.long v), none]) (st' := [.long (-v)]) (w' := cz_w (sz, 3, asked, adv, cand, stl, num, thg) q u b) rfl ?_
      refine ez_lret rfl ez_h37 rfl rfl ?_
      have e : zk_key 3 v = -v := by show (if 0 ≤ lg_cmp v 0 then v else -v) = -v; rw [if_neg c1]
      rw [e] at h; exact h
def pf_lessN (x y : Nat) (sz : Int32) (ord : Int32) (asked : Int64) (cand : Int32) (stl : Int32) (num : Nat → Int32) (thg : Nat → Int32) : Option Value × cz_Row := if 0 ≤ (lg_cmp (zk_key ord ((num (x)).toInt64)) (zk_key ord ((num (y)).toInt64))) then (some (.int (nI (0))), (sz, ord, (asked + 1), 0, cand, stl, num, thg)) else (some (.int (nI (1))), (sz, ord, (asked + 1), 0, cand, stl, num, thg))
set_option maxRecDepth 20000 in
theorem lf_lessN (x y : Nat) (hx : x < 600) (hy : y < 600) (sz : Int32) (ord : Int32) (asked : Int64) (cand : Int32) (stl : Int32) (num : Nat → Int32) (thg : Nat → Int32) (q : cz_Qk) (u : cz_Rn) (b : cz_Bn) (ho : ord = 0 ∨ ord = 1 ∨ ord = 2 ∨ ord = 3) {post : Option Value → ez_W → Prop} (h : post (pf_lessN x y sz ord asked cand stl num thg).1 (cz_w (pf_lessN x y sz ord asked cand stl num thg).2 q u b)) : ez_m 38 [.ref 1, .int (nI x), .int (nI y)] (cz_w (sz, ord, asked, 0, cand, stl, num, thg) q u b) post := by
  refine ez_m.of (L := [some (.ref 1), some (.int (nI x)), some (.int (nI y))]) rfl rfl rfl ?_
  unfold pf_lessN at h
  refine ez_go ez_h38 9 (pc' := bif decide (0 = 0) then 42 else 17) (L' := [some (.ref 1), some (.int (nI (x))), some (.int (nI (y)))]) (st' := []) (w' := cz_w (sz, ord, (asked + 1), 0, cand, stl, num, thg) q u b) rfl ?_
  refine ez_ifT (by decide) ?_
  refine ez_go ez_h38 3 (pc' := 45) (L' := [some (.ref 1), some (.int (nI (x))), some (.int (nI (y)))]) (st' := [.int (nI (x)), .ref 1, .ref 1]) (w' := cz_w (sz, ord, (asked + 1), 0, cand, stl, num, thg) q u b) rfl ?_
  refine ez_cl ez_h38 rfl rfl ?_
  refine lf_numberOf x (by omega) sz ord (asked + 1) 0 cand stl num thg q u b ?_
  refine ez_go ez_h38 1 (pc' := 49) (L' := [some (.ref 1), some (.int (nI (x))), some (.int (nI (y)))]) (st' := [.long ((num (x)).toInt64), .ref 1]) (w' := cz_w (sz, ord, (asked + 1), 0, cand, stl, num, thg) q u b) rfl ?_
  refine ez_cl ez_h38 rfl rfl ?_
  refine lf_keyFor ((num (x)).toInt64) sz ord (asked + 1) 0 cand stl num thg q u b (by assumption) ?_
  refine ez_go ez_h38 3 (pc' := 55) (L' := [some (.ref 1), some (.int (nI (x))), some (.int (nI (y)))]) (st' := [.int (nI (y)), .ref 1, .ref 1, .long (zk_key ord ((num (x)).toInt64))]) (w' := cz_w (sz, ord, (asked + 1), 0, cand, stl, num, thg) q u b) rfl ?_
  refine ez_cl ez_h38 rfl rfl ?_
  refine lf_numberOf y (by omega) sz ord (asked + 1) 0 cand stl num thg q u b ?_
  refine ez_go ez_h38 1 (pc' := 59) (L' := [some (.ref 1), some (.int (nI (x))), some (.int (nI (y)))]) (st' := [.long ((num (y)).toInt64), .ref 1, .long (zk_key ord ((num (x)).toInt64))]) (w' := cz_w (sz, ord, (asked + 1), 0, cand, stl, num, thg) q u b) rfl ?_
  refine ez_cl ez_h38 rfl rfl ?_
  refine lf_keyFor ((num (y)).toInt64) sz ord (asked + 1) 0 cand stl num thg q u b (by assumption) ?_
  refine ez_go ez_h38 2 (pc' := bif decide (0 ≤ (lg_cmp (zk_key ord ((num (x)).toInt64)) (zk_key ord ((num (y)).toInt64)))) then 70 else 66) (L' := [some (.ref 1), some (.int (nI (x))), some (.int (nI (y)))]) (st' := []) (w' := cz_w (sz, ord, (asked + 1), 0, cand, stl, num, thg) q u b) rfl ?_
  refine ez_if (fun c1 => ?_) (fun c1 => ?_)
  · rw [if_pos c1] at h
    refine ez_go ez_h38 1 (pc' := 71) (L' := [some (.ref 1), some (.int (nI (x))), some (.int (nI (y)))]) (st' := [.int (nI (0))]) (w' := cz_w (sz, ord, (asked + 1), 0, cand, stl, num, thg) q u b) rfl ?_
    exact ez_zret rfl ez_h38 rfl rfl (by first | exact Or.inl rfl | exact Or.inr rfl) h
  · rw [if_neg c1] at h
    refine ez_go ez_h38 2 (pc' := 71) (L' := [some (.ref 1), some (.int (nI (x))), some (.int (nI (y)))]) (st' := [.int (nI (1))]) (w' := cz_w (sz, ord, (asked + 1), 0, cand, stl, num, thg) q u b) rfl ?_
    exact ez_zret rfl ez_h38 rfl rfl (by first | exact Or.inl rfl | exact Or.inr rfl) h
def pf_lessA (x y : Nat) (sz : Int32) (ord : Int32) (asked : Int64) (cand : Int32) (stl : Int32) (num : Nat → Int32) (thg : Nat → Int32) : Option Value × cz_Row := if (((pf_settle x y sz ord (asked + 1) 1 cand stl num thg).2.2.2.2.2.2.1) (y)) ≤ (((pf_settle x y sz ord (asked + 1) 1 cand stl num thg).2.2.2.2.2.2.1) (x)) then (some (.int (nI (0))), ((pf_settle x y sz ord (asked + 1) 1 cand stl num thg).1, (pf_settle x y sz ord (asked + 1) 1 cand stl num thg).2.1, (pf_settle x y sz ord (asked + 1) 1 cand stl num thg).2.2.1, (pf_settle x y sz ord (asked + 1) 1 cand stl num thg).2.2.2.1, (pf_settle x y sz ord (asked + 1) 1 cand stl num thg).2.2.2.2.1, (pf_settle x y sz ord (asked + 1) 1 cand stl num thg).2.2.2.2.2.1, (pf_settle x y sz ord (asked + 1) 1 cand stl num thg).2.2.2.2.2.2.1, (pf_settle x y sz ord (asked + 1) 1 cand stl num thg).2.2.2.2.2.2.2)) else (some (.int (nI (1))), ((pf_settle x y sz ord (asked + 1) 1 cand stl num thg).1, (pf_settle x y sz ord (asked + 1) 1 cand stl num thg).2.1, (pf_settle x y sz ord (asked + 1) 1 cand stl num thg).2.2.1, (pf_settle x y sz ord (asked + 1) 1 cand stl num thg).2.2.2.1, (pf_settle x y sz ord (asked + 1) 1 cand stl num thg).2.2.2.2.1, (pf_settle x y sz ord (asked + 1) 1 cand stl num thg).2.2.2.2.2.1, (pf_settle x y sz ord (asked + 1) 1 cand stl num thg).2.2.2.2.2.2.1, (pf_settle x y sz ord (asked + 1) 1 cand stl num thg).2.2.2.2.2.2.2))
set_option maxRecDepth 20000 in
theorem lf_lessA (x y : Nat) (hx : x < 600) (hy : y < 600) (sz : Int32) (ord : Int32) (asked : Int64) (cand : Int32) (stl : Int32) (num : Nat → Int32) (thg : Nat → Int32) (q : cz_Qk) (u : cz_Rn) (b : cz_Bn) {post : Option Value → ez_W → Prop} (h : post (pf_lessA x y sz ord asked cand stl num thg).1 (cz_w (pf_lessA x y sz ord asked cand stl num thg).2 q u b)) : ez_m 38 [.ref 1, .int (nI x), .int (nI y)] (cz_w (sz, ord, asked, 1, cand, stl, num, thg) q u b) post := by
  refine ez_m.of (L := [some (.ref 1), some (.int (nI x)), some (.int (nI y))]) rfl rfl rfl ?_
  unfold pf_lessA at h
  refine ez_go ez_h38 9 (pc' := bif decide (1 = 0) then 42 else 17) (L' := [some (.ref 1), some (.int (nI (x))), some (.int (nI (y)))]) (st' := []) (w' := cz_w (sz, ord, (asked + 1), 1, cand, stl, num, thg) q u b) rfl ?_
  refine ez_ifF (by decide) ?_
  refine ez_go ez_h38 3 (pc' := 20) (L' := [some (.ref 1), some (.int (nI (x))), some (.int (nI (y)))]) (st' := [.int (nI (y)), .int (nI (x)), .ref 1]) (w' := cz_w (sz, ord, (asked + 1), 1, cand, stl, num, thg) q u b) rfl ?_
  refine ez_cl ez_h38 rfl rfl ?_
  refine lf_settle x y (by omega) (by omega) sz ord (asked + 1) 1 cand stl num thg q u b ?_
  refine ez_go ez_h38 2 (pc' := 25) (L' := [some (.ref 1), some (.int (nI (x))), some (.int (nI (y)))]) (st' := [.int (nI (x)), .ref 1]) (w' := cz_w ((pf_settle x y sz ord (asked + 1) 1 cand stl num thg).1, (pf_settle x y sz ord (asked + 1) 1 cand stl num thg).2.1, (pf_settle x y sz ord (asked + 1) 1 cand stl num thg).2.2.1, (pf_settle x y sz ord (asked + 1) 1 cand stl num thg).2.2.2.1, (pf_settle x y sz ord (asked + 1) 1 cand stl num thg).2.2.2.2.1, (pf_settle x y sz ord (asked + 1) 1 cand stl num thg).2.2.2.2.2.1, (pf_settle x y sz ord (asked + 1) 1 cand stl num thg).2.2.2.2.2.2.1, (pf_settle x y sz ord (asked + 1) 1 cand stl num thg).2.2.2.2.2.2.2) q u b) rfl ?_
  refine ez_cl ez_h38 rfl rfl ?_
  refine lf_numberOf x (by omega) (pf_settle x y sz ord (asked + 1) 1 cand stl num thg).1 (pf_settle x y sz ord (asked + 1) 1 cand stl num thg).2.1 (pf_settle x y sz ord (asked + 1) 1 cand stl num thg).2.2.1 (pf_settle x y sz ord (asked + 1) 1 cand stl num thg).2.2.2.1 (pf_settle x y sz ord (asked + 1) 1 cand stl num thg).2.2.2.2.1 (pf_settle x y sz ord (asked + 1) 1 cand stl num thg).2.2.2.2.2.1 (pf_settle x y sz ord (asked + 1) 1 cand stl num thg).2.2.2.2.2.2.1 (pf_settle x y sz ord (asked + 1) 1 cand stl num thg).2.2.2.2.2.2.2 q u b ?_
  refine ez_go ez_h38 2 (pc' := 30) (L' := [some (.ref 1), some (.int (nI (x))), some (.int (nI (y)))]) (st' := [.int (nI (y)), .ref 1, .int (((pf_settle x y sz ord (asked + 1) 1 cand stl num thg).2.2.2.2.2.2.1) (x))]) (w' := cz_w ((pf_settle x y sz ord (asked + 1) 1 cand stl num thg).1, (pf_settle x y sz ord (asked + 1) 1 cand stl num thg).2.1, (pf_settle x y sz ord (asked + 1) 1 cand stl num thg).2.2.1, (pf_settle x y sz ord (asked + 1) 1 cand stl num thg).2.2.2.1, (pf_settle x y sz ord (asked + 1) 1 cand stl num thg).2.2.2.2.1, (pf_settle x y sz ord (asked + 1) 1 cand stl num thg).2.2.2.2.2.1, (pf_settle x y sz ord (asked + 1) 1 cand stl num thg).2.2.2.2.2.2.1, (pf_settle x y sz ord (asked + 1) 1 cand stl num thg).2.2.2.2.2.2.2) q u b) rfl ?_
  refine ez_cl ez_h38 rfl rfl ?_
  refine lf_numberOf y (by omega) (pf_settle x y sz ord (asked + 1) 1 cand stl num thg).1 (pf_settle x y sz ord (asked + 1) 1 cand stl num thg).2.1 (pf_settle x y sz ord (asked + 1) 1 cand stl num thg).2.2.1 (pf_settle x y sz ord (asked + 1) 1 cand stl num thg).2.2.2.1 (pf_settle x y sz ord (asked + 1) 1 cand stl num thg).2.2.2.2.1 (pf_settle x y sz ord (asked + 1) 1 cand stl num thg).2.2.2.2.2.1 (pf_settle x y sz ord (asked + 1) 1 cand stl num thg).2.2.2.2.2.2.1 (pf_settle x y sz ord (asked + 1) 1 cand stl num thg).2.2.2.2.2.2.2 q u b ?_
  refine ez_go ez_h38 1 (pc' := bif decide ((((pf_settle x y sz ord (asked + 1) 1 cand stl num thg).2.2.2.2.2.2.1) (y)) ≤ (((pf_settle x y sz ord (asked + 1) 1 cand stl num thg).2.2.2.2.2.2.1) (x))) then 40 else 36) (L' := [some (.ref 1), some (.int (nI (x))), some (.int (nI (y)))]) (st' := []) (w' := cz_w ((pf_settle x y sz ord (asked + 1) 1 cand stl num thg).1, (pf_settle x y sz ord (asked + 1) 1 cand stl num thg).2.1, (pf_settle x y sz ord (asked + 1) 1 cand stl num thg).2.2.1, (pf_settle x y sz ord (asked + 1) 1 cand stl num thg).2.2.2.1, (pf_settle x y sz ord (asked + 1) 1 cand stl num thg).2.2.2.2.1, (pf_settle x y sz ord (asked + 1) 1 cand stl num thg).2.2.2.2.2.1, (pf_settle x y sz ord (asked + 1) 1 cand stl num thg).2.2.2.2.2.2.1, (pf_settle x y sz ord (asked + 1) 1 cand stl num thg).2.2.2.2.2.2.2) q u b) rfl ?_
  refine ez_if (fun c1 => ?_) (fun c1 => ?_)
  · rw [if_pos c1] at h
    refine ez_go ez_h38 1 (pc' := 41) (L' := [some (.ref 1), some (.int (nI (x))), some (.int (nI (y)))]) (st' := [.int (nI (0))]) (w' := cz_w ((pf_settle x y sz ord (asked + 1) 1 cand stl num thg).1, (pf_settle x y sz ord (asked + 1) 1 cand stl num thg).2.1, (pf_settle x y sz ord (asked + 1) 1 cand stl num thg).2.2.1, (pf_settle x y sz ord (asked + 1) 1 cand stl num thg).2.2.2.1, (pf_settle x y sz ord (asked + 1) 1 cand stl num thg).2.2.2.2.1, (pf_settle x y sz ord (asked + 1) 1 cand stl num thg).2.2.2.2.2.1, (pf_settle x y sz ord (asked + 1) 1 cand stl num thg).2.2.2.2.2.2.1, (pf_settle x y sz ord (asked + 1) 1 cand stl num thg).2.2.2.2.2.2.2) q u b) rfl ?_
    exact ez_zret rfl ez_h38 rfl rfl (by first | exact Or.inl rfl | exact Or.inr rfl) h
  · rw [if_neg c1] at h
    refine ez_go ez_h38 2 (pc' := 41) (L' := [some (.ref 1), some (.int (nI (x))), some (.int (nI (y)))]) (st' := [.int (nI (1))]) (w' := cz_w ((pf_settle x y sz ord (asked + 1) 1 cand stl num thg).1, (pf_settle x y sz ord (asked + 1) 1 cand stl num thg).2.1, (pf_settle x y sz ord (asked + 1) 1 cand stl num thg).2.2.1, (pf_settle x y sz ord (asked + 1) 1 cand stl num thg).2.2.2.1, (pf_settle x y sz ord (asked + 1) 1 cand stl num thg).2.2.2.2.1, (pf_settle x y sz ord (asked + 1) 1 cand stl num thg).2.2.2.2.2.1, (pf_settle x y sz ord (asked + 1) 1 cand stl num thg).2.2.2.2.2.2.1, (pf_settle x y sz ord (asked + 1) 1 cand stl num thg).2.2.2.2.2.2.2) q u b) rfl ?_
    exact ez_zret rfl ez_h38 rfl rfl (by first | exact Or.inl rfl | exact Or.inr rfl) h
/-! ===== the reference: key and less ===== -/
set_option maxRecDepth 20000 in
theorem lf_mkey (x : Nat) (hx : x < 600) (msz : Int32) (mord : Int32) (madv : Int32) (mcand : Int32) (mnx : Int32) (mcmp : Int64) (mlat : Int64) (mnum : Nat → Int32) (mset : Nat → Int32) (mrow : Nat → Int32) (Q : mz_Q) (U : mz_U) (T : mz_T) {post : Option Value → ez_W → Prop} (ho : mord = 0 ∨ mord = 1 ∨ mord = 2 ∨ mord = 3) (h : post (some (.long (zk_key mord (mnum x).toInt64))) (mz_w (msz, mord, madv, mcand, mnx, mcmp, mlat, mnum, mset, mrow) Q U T)) : ez_m 72 [.ref 0, .int (nI x)] (mz_w (msz, mord, madv, mcand, mnx, mcmp, mlat, mnum, mset, mrow) Q U T) post := by
  refine ez_m.of (L := [some (.ref 0), some (.int (nI x)), none, none]) rfl rfl rfl ?_
  rcases ho with rfl | rfl | rfl | rfl
  · refine ez_go ez_h72 3 (pc' := 5) (L' := [some (.ref 0), some (.int (nI (x))), none, none]) (st' := [.int (nI (x)), .ref 1]) (w' := mz_w (msz, 0, madv, mcand, mnx, mcmp, mlat, mnum, mset, mrow) Q U T) rfl ?_
    refine ez_ald ez_h72 rfl rfl (x) rfl (by omega) (by omega) ?_
    refine ez_go ez_h72 5 (pc' := bif decide (¬ 0 = 0) then 19 else 15) (L' := [some (.ref 0), some (.int (nI (x))), some (.long ((mnum (x)).toInt64)), none]) (st' := []) (w' := mz_w (msz, 0, madv, mcand, mnx, mcmp, mlat, mnum, mset, mrow) Q U T) rfl ?_
    refine ez_ifF (by decide) ?_
    refine ez_go ez_h72 2 (pc' := 60) (L' := [some (.ref 0), some (.int (nI (x))), some (.long ((mnum (x)).toInt64)), none]) (st' := [.long ((mnum (x)).toInt64)]) (w' := mz_w (msz, 0, madv, mcand, mnx, mcmp, mlat, mnum, mset, mrow) Q U T) rfl ?_
    exact ez_lret rfl ez_h72 rfl rfl h
  · refine ez_go ez_h72 3 (pc' := 5) (L' := [some (.ref 0), some (.int (nI (x))), none, none]) (st' := [.int (nI (x)), .ref 1]) (w' := mz_w (msz, 1, madv, mcand, mnx, mcmp, mlat, mnum, mset, mrow) Q U T) rfl ?_
    refine ez_ald ez_h72 rfl rfl (x) rfl (by omega) (by omega) ?_
    refine ez_go ez_h72 5 (pc' := bif decide (¬ 1 = 0) then 19 else 15) (L' := [some (.ref 0), some (.int (nI (x))), some (.long ((mnum (x)).toInt64)), none]) (st' := []) (w' := mz_w (msz, 1, madv, mcand, mnx, mcmp, mlat, mnum, mset, mrow) Q U T) rfl ?_
    refine ez_ifT (by decide) ?_
    refine ez_go ez_h72 4 (pc' := bif decide (¬ 1 = (nI (1))) then 32 else 27) (L' := [some (.ref 0), some (.int (nI (x))), some (.long ((mnum (x)).toInt64)), none]) (st' := []) (w' := mz_w (msz, 1, madv, mcand, mnx, mcmp, mlat, mnum, mset, mrow) Q U T) rfl ?_
    refine ez_ifF (by decide) ?_
    refine ez_go ez_h72 3 (pc' := 60) (L' := [some (.ref 0), some (.int (nI (x))), some (.long ((mnum (x)).toInt64)), none]) (st' := [.long (-((mnum (x)).toInt64))]) (w' := mz_w (msz, 1, madv, mcand, mnx, mcmp, mlat, mnum, mset, mrow) Q U T) rfl ?_
    exact ez_lret rfl ez_h72 rfl rfl h
  · refine ez_go ez_h72 3 (pc' := 5) (L' := [some (.ref 0), some (.int (nI (x))), none, none]) (st' := [.int (nI (x)), .ref 1]) (w' := mz_w (msz, 2, madv, mcand, mnx, mcmp, mlat, mnum, mset, mrow) Q U T) rfl ?_
    refine ez_ald ez_h72 rfl rfl (x) rfl (by omega) (by omega) ?_
    refine ez_go ez_h72 5 (pc' := bif decide (¬ 2 = 0) then 19 else 15) (L' := [some (.ref 0), some (.int (nI (x))), some (.long ((mnum (x)).toInt64)), none]) (st' := []) (w' := mz_w (msz, 2, madv, mcand, mnx, mcmp, mlat, mnum, mset, mrow) Q U T) rfl ?_
    refine ez_ifT (by decide) ?_
    refine ez_go ez_h72 4 (pc' := bif decide (¬ 2 = (nI (1))) then 32 else 27) (L' := [some (.ref 0), some (.int (nI (x))), some (.long ((mnum (x)).toInt64)), none]) (st' := []) (w' := mz_w (msz, 2, madv, mcand, mnx, mcmp, mlat, mnum, mset, mrow) Q U T) rfl ?_
    refine ez_ifT (by decide) ?_
    refine ez_go ez_h72 4 (pc' := bif decide (¬ 2 = (nI (2))) then 48 else 40) (L' := [some (.ref 0), some (.int (nI (x))), some (.long ((mnum (x)).toInt64)), none]) (st' := []) (w' := mz_w (msz, 2, madv, mcand, mnx, mcmp, mlat, mnum, mset, mrow) Q U T) rfl ?_
    refine ez_ifF (by decide) ?_
    refine ez_go ez_h72 4 (pc' := 60) (L' := [some (.ref 0), some (.int (nI (x))), some (.long ((mnum (x)).toInt64)), none]) (st' := [.long (((mnum (x)).toInt64) &&& 255)]) (w' := mz_w (msz, 2, madv, mcand, mnx, mcmp, mlat, mnum, mset, mrow) Q U T) rfl ?_
    exact ez_lret rfl ez_h72 rfl rfl h
  · refine ez_go ez_h72 3 (pc' := 5) (L' := [some (.ref 0), some (.int (nI (x))), none, none]) (st' := [.int (nI (x)), .ref 1]) (w' := mz_w (msz, 3, madv, mcand, mnx, mcmp, mlat, mnum, mset, mrow) Q U T) rfl ?_
    refine ez_ald ez_h72 rfl rfl (x) rfl (by omega) (by omega) ?_
    refine ez_go ez_h72 5 (pc' := bif decide (¬ 3 = 0) then 19 else 15) (L' := [some (.ref 0), some (.int (nI (x))), some (.long ((mnum (x)).toInt64)), none]) (st' := []) (w' := mz_w (msz, 3, madv, mcand, mnx, mcmp, mlat, mnum, mset, mrow) Q U T) rfl ?_
    refine ez_ifT (by decide) ?_
    refine ez_go ez_h72 4 (pc' := bif decide (¬ 3 = (nI (1))) then 32 else 27) (L' := [some (.ref 0), some (.int (nI (x))), some (.long ((mnum (x)).toInt64)), none]) (st' := []) (w' := mz_w (msz, 3, madv, mcand, mnx, mcmp, mlat, mnum, mset, mrow) Q U T) rfl ?_
    refine ez_ifT (by decide) ?_
    refine ez_go ez_h72 4 (pc' := bif decide (¬ 3 = (nI (2))) then 48 else 40) (L' := [some (.ref 0), some (.int (nI (x))), some (.long ((mnum (x)).toInt64)), none]) (st' := []) (w' := mz_w (msz, 3, madv, mcand, mnx, mcmp, mlat, mnum, mset, mrow) Q U T) rfl ?_
    refine ez_ifT (by decide) ?_
    refine ez_go ez_h72 4 (pc' := bif decide (0 ≤ (lg_cmp ((mnum (x)).toInt64) 0)) then 59 else 54) (L' := [some (.ref 0), some (.int (nI (x))), some (.long ((mnum (x)).toInt64)), none]) (st' := []) (w' := mz_w (msz, 3, madv, mcand, mnx, mcmp, mlat, mnum, mset, mrow) Q U T) rfl ?_
    refine ez_if (fun c1 => ?_) (fun c1 => ?_)
    · rw [show zk_key 3 (mnum x).toInt64 = (mnum x).toInt64 by show (if 0 ≤ lg_cmp (mnum x).toInt64 0 then _ else _) = _; rw [if_pos c1]] at h
      refine ez_go ez_h72 1 (pc' := 60) (L' := [some (.ref 0), some (.int (nI (x))), some (.long ((mnum (x)).toInt64)), none]) (st' := [.long ((mnum (x)).toInt64)]) (w' := mz_w (msz, 3, madv, mcand, mnx, mcmp, mlat, mnum, mset, mrow) Q U T) rfl ?_
      exact ez_lret rfl ez_h72 rfl rfl h
    · rw [show zk_key 3 (mnum x).toInt64 = -(mnum x).toInt64 by show (if 0 ≤ lg_cmp (mnum x).toInt64 0 then _ else _) = _; rw [if_neg c1]] at h
      refine ez_go ez_h72 3 (pc' := 60) (L' := [some (.ref 0), some (.int (nI (x))), some (.long ((mnum (x)).toInt64)), none]) (st' := [.long (-((mnum (x)).toInt64))]) (w' := mz_w (msz, 3, madv, mcand, mnx, mcmp, mlat, mnum, mset, mrow) Q U T) rfl ?_
      exact ez_lret rfl ez_h72 rfl rfl h
def pf_mlessN (x y : Nat) (msz : Int32) (mord : Int32) (mcand : Int32) (mnx : Int32) (mcmp : Int64) (mlat : Int64) (mnum : Nat → Int32) (mset : Nat → Int32) (mrow : Nat → Int32) : Option Value × mz_A := if 0 ≤ (lg_cmp (zk_key mord (mnum (x)).toInt64) (zk_key mord (mnum (y)).toInt64)) then (some (.int (nI (0))), (msz, mord, 0, mcand, mnx, (mcmp + 1), (mlat + 1), mnum, mset, mrow)) else (some (.int (nI (1))), (msz, mord, 0, mcand, mnx, (mcmp + 1), (mlat + 1), mnum, mset, mrow))
set_option maxRecDepth 20000 in
theorem lf_mlessN (x y : Nat) (hx : x < 600) (hy : y < 600) (msz : Int32) (mord : Int32) (mcand : Int32) (mnx : Int32) (mcmp : Int64) (mlat : Int64) (mnum : Nat → Int32) (mset : Nat → Int32) (mrow : Nat → Int32) (Q : mz_Q) (U : mz_U) (T : mz_T) (ho : mord = 0 ∨ mord = 1 ∨ mord = 2 ∨ mord = 3) {post : Option Value → ez_W → Prop} (h : post (pf_mlessN x y msz mord mcand mnx mcmp mlat mnum mset mrow).1 (mz_w (pf_mlessN x y msz mord mcand mnx mcmp mlat mnum mset mrow).2 Q U T)) : ez_m 73 [.ref 0, .int (nI x), .int (nI y)] (mz_w (msz, mord, 0, mcand, mnx, mcmp, mlat, mnum, mset, mrow) Q U T) post := by
  refine ez_m.of (L := [some (.ref 0), some (.int (nI x)), some (.int (nI y))]) rfl rfl rfl ?_
  unfold pf_mlessN at h
  refine ez_go ez_h73 15 (pc' := bif decide (¬ 0 = 0) then 47 else 27) (L' := [some (.ref 0), some (.int (nI (x))), some (.int (nI (y)))]) (st' := []) (w' := mz_w (msz, mord, 0, mcand, mnx, (mcmp + 1), (mlat + 1), mnum, mset, mrow) Q U T) rfl ?_
  refine ez_ifF (by decide) ?_
  refine ez_go ez_h73 2 (pc' := 29) (L' := [some (.ref 0), some (.int (nI (x))), some (.int (nI (y)))]) (st' := [.int (nI (x)), .ref 0]) (w' := mz_w (msz, mord, 0, mcand, mnx, (mcmp + 1), (mlat + 1), mnum, mset, mrow) Q U T) rfl ?_
  refine ez_cl ez_h73 rfl rfl ?_
  refine lf_mkey x (by omega) msz mord 0 mcand mnx (mcmp + 1) (mlat + 1) mnum mset mrow Q U T (by assumption) ?_
  refine ez_go ez_h73 2 (pc' := 34) (L' := [some (.ref 0), some (.int (nI (x))), some (.int (nI (y)))]) (st' := [.int (nI (y)), .ref 0, .long (zk_key mord (mnum (x)).toInt64)]) (w' := mz_w (msz, mord, 0, mcand, mnx, (mcmp + 1), (mlat + 1), mnum, mset, mrow) Q U T) rfl ?_
  refine ez_cl ez_h73 rfl rfl ?_
  refine lf_mkey y (by omega) msz mord 0 mcand mnx (mcmp + 1) (mlat + 1) mnum mset mrow Q U T (by assumption) ?_
  refine ez_go ez_h73 2 (pc' := bif decide (0 ≤ (lg_cmp (zk_key mord (mnum (x)).toInt64) (zk_key mord (mnum (y)).toInt64))) then 45 else 41) (L' := [some (.ref 0), some (.int (nI (x))), some (.int (nI (y)))]) (st' := []) (w' := mz_w (msz, mord, 0, mcand, mnx, (mcmp + 1), (mlat + 1), mnum, mset, mrow) Q U T) rfl ?_
  refine ez_if (fun c1 => ?_) (fun c1 => ?_)
  · rw [if_pos c1] at h
    refine ez_go ez_h73 1 (pc' := 46) (L' := [some (.ref 0), some (.int (nI (x))), some (.int (nI (y)))]) (st' := [.int (nI (0))]) (w' := mz_w (msz, mord, 0, mcand, mnx, (mcmp + 1), (mlat + 1), mnum, mset, mrow) Q U T) rfl ?_
    exact ez_zret rfl ez_h73 rfl rfl (by first | exact Or.inl rfl | exact Or.inr rfl) h
  · rw [if_neg c1] at h
    refine ez_go ez_h73 2 (pc' := 46) (L' := [some (.ref 0), some (.int (nI (x))), some (.int (nI (y)))]) (st' := [.int (nI (1))]) (w' := mz_w (msz, mord, 0, mcand, mnx, (mcmp + 1), (mlat + 1), mnum, mset, mrow) Q U T) rfl ?_
    exact ez_zret rfl ez_h73 rfl rfl (by first | exact Or.inl rfl | exact Or.inr rfl) h
def pf_mlessA (x y : Nat) (msz : Int32) (mord : Int32) (mcand : Int32) (mnx : Int32) (mcmp : Int64) (mlat : Int64) (mnum : Nat → Int32) (mset : Nat → Int32) (mrow : Nat → Int32) : Option Value × mz_A := if 0 ≤ (mset (x)) then (if 0 ≤ (mset (x)) then (if 0 ≤ (mset (y)) then (if (mset (x)) < 0 then (some (.int (nI (0))), (msz, mord, 1, mcand, mnx, (mcmp + 1), (mlat + 1), mnum, mset, mrow)) else (if (mset (y)) < 0 then (some (.int (nI (1))), (msz, mord, 1, mcand, mnx, (mcmp + 1), (mlat + 1), mnum, mset, mrow)) else (if (mset (y)) ≤ (mset (x)) then (some (.int (nI (0))), (msz, mord, 1, mcand, mnx, (mcmp + 1), (mlat + 1), mnum, mset, mrow)) else (some (.int (nI (1))), (msz, mord, 1, mcand, mnx, (mcmp + 1), (mlat + 1), mnum, mset, mrow))))) else (if (mset (x)) < 0 then (some (.int (nI (0))), (msz, mord, 1, (nI (y)), mnx, (mcmp + 1), (mlat + 1), mnum, mset, mrow)) else (if (mset (y)) < 0 then (some (.int (nI (1))), (msz, mord, 1, (nI (y)), mnx, (mcmp + 1), (mlat + 1), mnum, mset, mrow)) else (if (mset (y)) ≤ (mset (x)) then (some (.int (nI (0))), (msz, mord, 1, (nI (y)), mnx, (mcmp + 1), (mlat + 1), mnum, mset, mrow)) else (some (.int (nI (1))), (msz, mord, 1, (nI (y)), mnx, (mcmp + 1), (mlat + 1), mnum, mset, mrow)))))) else (if (mset (x)) < 0 then (some (.int (nI (0))), (msz, mord, 1, (nI (x)), mnx, (mcmp + 1), (mlat + 1), mnum, mset, mrow)) else (if (mset (y)) < 0 then (some (.int (nI (1))), (msz, mord, 1, (nI (x)), mnx, (mcmp + 1), (mlat + 1), mnum, mset, mrow)) else (if (mset (y)) ≤ (mset (x)) then (some (.int (nI (0))), (msz, mord, 1, (nI (x)), mnx, (mcmp + 1), (mlat + 1), mnum, mset, mrow)) else (some (.int (nI (1))), (msz, mord, 1, (nI (x)), mnx, (mcmp + 1), (mlat + 1), mnum, mset, mrow)))))) else (if 0 ≤ (mset (y)) then (if 0 ≤ (mset (x)) then (if 0 ≤ (mset (y)) then (if (mset (x)) < 0 then (some (.int (nI (0))), (msz, mord, 1, mcand, mnx, (mcmp + 1), (mlat + 1), mnum, mset, mrow)) else (if (mset (y)) < 0 then (some (.int (nI (1))), (msz, mord, 1, mcand, mnx, (mcmp + 1), (mlat + 1), mnum, mset, mrow)) else (if (mset (y)) ≤ (mset (x)) then (some (.int (nI (0))), (msz, mord, 1, mcand, mnx, (mcmp + 1), (mlat + 1), mnum, mset, mrow)) else (some (.int (nI (1))), (msz, mord, 1, mcand, mnx, (mcmp + 1), (mlat + 1), mnum, mset, mrow))))) else (if (mset (x)) < 0 then (some (.int (nI (0))), (msz, mord, 1, (nI (y)), mnx, (mcmp + 1), (mlat + 1), mnum, mset, mrow)) else (if (mset (y)) < 0 then (some (.int (nI (1))), (msz, mord, 1, (nI (y)), mnx, (mcmp + 1), (mlat + 1), mnum, mset, mrow)) else (if (mset (y)) ≤ (mset (x)) then (some (.int (nI (0))), (msz, mord, 1, (nI (y)), mnx, (mcmp + 1), (mlat + 1), mnum, mset, mrow)) else (some (.int (nI (1))), (msz, mord, 1, (nI (y)), mnx, (mcmp + 1), (mlat + 1), mnum, mset, mrow)))))) else (if (mset (x)) < 0 then (some (.int (nI (0))), (msz, mord, 1, (nI (x)), mnx, (mcmp + 1), (mlat + 1), mnum, mset, mrow)) else (if (mset (y)) < 0 then (some (.int (nI (1))), (msz, mord, 1, (nI (x)), mnx, (mcmp + 1), (mlat + 1), mnum, mset, mrow)) else (if (mset (y)) ≤ (mset (x)) then (some (.int (nI (0))), (msz, mord, 1, (nI (x)), mnx, (mcmp + 1), (mlat + 1), mnum, mset, mrow)) else (some (.int (nI (1))), (msz, mord, 1, (nI (x)), mnx, (mcmp + 1), (mlat + 1), mnum, mset, mrow)))))) else (if mcand = (nI (x)) then (if 0 ≤ ((upd mset (x) mnx) (x)) then (if 0 ≤ ((upd mset (x) mnx) (y)) then (if ((upd mset (x) mnx) (x)) < 0 then (some (.int (nI (0))), (msz, mord, 1, mcand, (mnx + (nI (1))), (mcmp + 1), (mlat + 1), mnum, (upd mset (x) mnx), mrow)) else (if ((upd mset (x) mnx) (y)) < 0 then (some (.int (nI (1))), (msz, mord, 1, mcand, (mnx + (nI (1))), (mcmp + 1), (mlat + 1), mnum, (upd mset (x) mnx), mrow)) else (if ((upd mset (x) mnx) (y)) ≤ ((upd mset (x) mnx) (x)) then (some (.int (nI (0))), (msz, mord, 1, mcand, (mnx + (nI (1))), (mcmp + 1), (mlat + 1), mnum, (upd mset (x) mnx), mrow)) else (some (.int (nI (1))), (msz, mord, 1, mcand, (mnx + (nI (1))), (mcmp + 1), (mlat + 1), mnum, (upd mset (x) mnx), mrow))))) else (if ((upd mset (x) mnx) (x)) < 0 then (some (.int (nI (0))), (msz, mord, 1, (nI (y)), (mnx + (nI (1))), (mcmp + 1), (mlat + 1), mnum, (upd mset (x) mnx), mrow)) else (if ((upd mset (x) mnx) (y)) < 0 then (some (.int (nI (1))), (msz, mord, 1, (nI (y)), (mnx + (nI (1))), (mcmp + 1), (mlat + 1), mnum, (upd mset (x) mnx), mrow)) else (if ((upd mset (x) mnx) (y)) ≤ ((upd mset (x) mnx) (x)) then (some (.int (nI (0))), (msz, mord, 1, (nI (y)), (mnx + (nI (1))), (mcmp + 1), (mlat + 1), mnum, (upd mset (x) mnx), mrow)) else (some (.int (nI (1))), (msz, mord, 1, (nI (y)), (mnx + (nI (1))), (mcmp + 1), (mlat + 1), mnum, (upd mset (x) mnx), mrow)))))) else (if ((upd mset (x) mnx) (x)) < 0 then (some (.int (nI (0))), (msz, mord, 1, (nI (x)), (mnx + (nI (1))), (mcmp + 1), (mlat + 1), mnum, (upd mset (x) mnx), mrow)) else (if ((upd mset (x) mnx) (y)) < 0 then (some (.int (nI (1))), (msz, mord, 1, (nI (x)), (mnx + (nI (1))), (mcmp + 1), (mlat + 1), mnum, (upd mset (x) mnx), mrow)) else (if ((upd mset (x) mnx) (y)) ≤ ((upd mset (x) mnx) (x)) then (some (.int (nI (0))), (msz, mord, 1, (nI (x)), (mnx + (nI (1))), (mcmp + 1), (mlat + 1), mnum, (upd mset (x) mnx), mrow)) else (some (.int (nI (1))), (msz, mord, 1, (nI (x)), (mnx + (nI (1))), (mcmp + 1), (mlat + 1), mnum, (upd mset (x) mnx), mrow)))))) else (if 0 ≤ ((upd mset (y) mnx) (x)) then (if 0 ≤ ((upd mset (y) mnx) (y)) then (if ((upd mset (y) mnx) (x)) < 0 then (some (.int (nI (0))), (msz, mord, 1, mcand, (mnx + (nI (1))), (mcmp + 1), (mlat + 1), mnum, (upd mset (y) mnx), mrow)) else (if ((upd mset (y) mnx) (y)) < 0 then (some (.int (nI (1))), (msz, mord, 1, mcand, (mnx + (nI (1))), (mcmp + 1), (mlat + 1), mnum, (upd mset (y) mnx), mrow)) else (if ((upd mset (y) mnx) (y)) ≤ ((upd mset (y) mnx) (x)) then (some (.int (nI (0))), (msz, mord, 1, mcand, (mnx + (nI (1))), (mcmp + 1), (mlat + 1), mnum, (upd mset (y) mnx), mrow)) else (some (.int (nI (1))), (msz, mord, 1, mcand, (mnx + (nI (1))), (mcmp + 1), (mlat + 1), mnum, (upd mset (y) mnx), mrow))))) else (if ((upd mset (y) mnx) (x)) < 0 then (some (.int (nI (0))), (msz, mord, 1, (nI (y)), (mnx + (nI (1))), (mcmp + 1), (mlat + 1), mnum, (upd mset (y) mnx), mrow)) else (if ((upd mset (y) mnx) (y)) < 0 then (some (.int (nI (1))), (msz, mord, 1, (nI (y)), (mnx + (nI (1))), (mcmp + 1), (mlat + 1), mnum, (upd mset (y) mnx), mrow)) else (if ((upd mset (y) mnx) (y)) ≤ ((upd mset (y) mnx) (x)) then (some (.int (nI (0))), (msz, mord, 1, (nI (y)), (mnx + (nI (1))), (mcmp + 1), (mlat + 1), mnum, (upd mset (y) mnx), mrow)) else (some (.int (nI (1))), (msz, mord, 1, (nI (y)), (mnx + (nI (1))), (mcmp + 1), (mlat + 1), mnum, (upd mset (y) mnx), mrow)))))) else (if ((upd mset (y) mnx) (x)) < 0 then (some (.int (nI (0))), (msz, mord, 1, (nI (x)), (mnx + (nI (1))), (mcmp + 1), (mlat + 1), mnum, (upd mset (y) mnx), mrow)) else (if ((upd mset (y) mnx) (y)) < 0 then (some (.int (nI (1))), (msz, mord, 1, (nI (x)), (mnx + (nI (1))), (mcmp + 1), (mlat + 1), mnum, (upd mset (y) mnx), mrow)) else (if ((upd mset (y) mnx) (y)) ≤ ((upd mset (y) mnx) (x)) then (some (.int (nI (0))), (msz, mord, 1, (nI (x)), (mnx + (nI (1))), (mcmp + 1), (mlat + 1), mnum, (upd mset (y) mnx), mrow)) else (some (.int (nI (1))), (msz, mord, 1, (nI (x)), (mnx + (nI (1))), (mcmp + 1), (mlat + 1), mnum, (upd mset (y) mnx), mrow))))))))
set_option maxRecDepth 20000 in
theorem lf_mlessA (x y : Nat) (hx : x < 600) (hy : y < 600) (msz : Int32) (mord : Int32) (mcand : Int32) (mnx : Int32) (mcmp : Int64) (mlat : Int64) (mnum : Nat → Int32) (mset : Nat → Int32) (mrow : Nat → Int32) (Q : mz_Q) (U : mz_U) (T : mz_T) {post : Option Value → ez_W → Prop} (h : post (pf_mlessA x y msz mord mcand mnx mcmp mlat mnum mset mrow).1 (mz_w (pf_mlessA x y msz mord mcand mnx mcmp mlat mnum mset mrow).2 Q U T)) : ez_m 73 [.ref 0, .int (nI x), .int (nI y)] (mz_w (msz, mord, 1, mcand, mnx, mcmp, mlat, mnum, mset, mrow) Q U T) post := by
  refine ez_m.of (L := [some (.ref 0), some (.int (nI x)), some (.int (nI y))]) rfl rfl rfl ?_
  unfold pf_mlessA at h
  refine ez_go ez_h73 15 (pc' := bif decide (¬ 1 = 0) then 47 else 27) (L' := [some (.ref 0), some (.int (nI (x))), some (.int (nI (y)))]) (st' := []) (w' := mz_w (msz, mord, 1, mcand, mnx, (mcmp + 1), (mlat + 1), mnum, mset, mrow) Q U T) rfl ?_
  refine ez_ifT (by decide) ?_
  refine ez_go ez_h73 3 (pc' := 52) (L' := [some (.ref 0), some (.int (nI (x))), some (.int (nI (y)))]) (st' := [.int (nI (x)), .ref 3]) (w' := mz_w (msz, mord, 1, mcand, mnx, (mcmp + 1), (mlat + 1), mnum, mset, mrow) Q U T) rfl ?_
  refine ez_ald ez_h73 rfl rfl (x) rfl (by omega) (by omega) ?_
  refine ez_go ez_h73 1 (pc' := bif decide (0 ≤ (mset (x))) then 97 else 56) (L' := [some (.ref 0), some (.int (nI (x))), some (.int (nI (y)))]) (st' := []) (w' := mz_w (msz, mord, 1, mcand, mnx, (mcmp + 1), (mlat + 1), mnum, mset, mrow) Q U T) rfl ?_
  refine ez_if (fun c1 => ?_) (fun c1 => ?_)
  · rw [if_pos c1] at h
    refine ez_go ez_h73 3 (pc' := 102) (L' := [some (.ref 0), some (.int (nI (x))), some (.int (nI (y)))]) (st' := [.int (nI (x)), .ref 3]) (w' := mz_w (msz, mord, 1, mcand, mnx, (mcmp + 1), (mlat + 1), mnum, mset, mrow) Q U T) rfl ?_
    refine ez_ald ez_h73 rfl rfl (x) rfl (by omega) (by omega) ?_
    refine ez_go ez_h73 1 (pc' := bif decide (0 ≤ (mset (x))) then 114 else 106) (L' := [some (.ref 0), some (.int (nI (x))), some (.int (nI (y)))]) (st' := []) (w' := mz_w (msz, mord, 1, mcand, mnx, (mcmp + 1), (mlat + 1), mnum, mset, mrow) Q U T) rfl ?_
    refine ez_if (fun c2 => ?_) (fun c2 => ?_)
    · rw [if_pos c2] at h
      refine ez_go ez_h73 3 (pc' := 119) (L' := [some (.ref 0), some (.int (nI (x))), some (.int (nI (y)))]) (st' := [.int (nI (y)), .ref 3]) (w' := mz_w (msz, mord, 1, mcand, mnx, (mcmp + 1), (mlat + 1), mnum, mset, mrow) Q U T) rfl ?_
      refine ez_ald ez_h73 rfl rfl (y) rfl (by omega) (by omega) ?_
      refine ez_go ez_h73 1 (pc' := bif decide (0 ≤ (mset (y))) then 128 else 123) (L' := [some (.ref 0), some (.int (nI (x))), some (.int (nI (y)))]) (st' := []) (w' := mz_w (msz, mord, 1, mcand, mnx, (mcmp + 1), (mlat + 1), mnum, mset, mrow) Q U T) rfl ?_
      refine ez_if (fun c3 => ?_) (fun c3 => ?_)
      · rw [if_pos c3] at h
        refine ez_go ez_h73 3 (pc' := 133) (L' := [some (.ref 0), some (.int (nI (x))), some (.int (nI (y)))]) (st' := [.int (nI (x)), .ref 3]) (w' := mz_w (msz, mord, 1, mcand, mnx, (mcmp + 1), (mlat + 1), mnum, mset, mrow) Q U T) rfl ?_
        refine ez_ald ez_h73 rfl rfl (x) rfl (by omega) (by omega) ?_
        refine ez_go ez_h73 1 (pc' := bif decide ((mset (x)) < 0) then 165 else 137) (L' := [some (.ref 0), some (.int (nI (x))), some (.int (nI (y)))]) (st' := []) (w' := mz_w (msz, mord, 1, mcand, mnx, (mcmp + 1), (mlat + 1), mnum, mset, mrow) Q U T) rfl ?_
        refine ez_if (fun c4 => ?_) (fun c4 => ?_)
        · rw [if_pos c4] at h
          refine ez_go ez_h73 1 (pc' := 166) (L' := [some (.ref 0), some (.int (nI (x))), some (.int (nI (y)))]) (st' := [.int (nI (0))]) (w' := mz_w (msz, mord, 1, mcand, mnx, (mcmp + 1), (mlat + 1), mnum, mset, mrow) Q U T) rfl ?_
          exact ez_zret rfl ez_h73 rfl rfl (by first | exact Or.inl rfl | exact Or.inr rfl) h
        · rw [if_neg c4] at h
          refine ez_go ez_h73 3 (pc' := 142) (L' := [some (.ref 0), some (.int (nI (x))), some (.int (nI (y)))]) (st' := [.int (nI (y)), .ref 3]) (w' := mz_w (msz, mord, 1, mcand, mnx, (mcmp + 1), (mlat + 1), mnum, mset, mrow) Q U T) rfl ?_
          refine ez_ald ez_h73 rfl rfl (y) rfl (by omega) (by omega) ?_
          refine ez_go ez_h73 1 (pc' := bif decide ((mset (y)) < 0) then 161 else 146) (L' := [some (.ref 0), some (.int (nI (x))), some (.int (nI (y)))]) (st' := []) (w' := mz_w (msz, mord, 1, mcand, mnx, (mcmp + 1), (mlat + 1), mnum, mset, mrow) Q U T) rfl ?_
          refine ez_if (fun c5 => ?_) (fun c5 => ?_)
          · rw [if_pos c5] at h
            refine ez_go ez_h73 2 (pc' := 166) (L' := [some (.ref 0), some (.int (nI (x))), some (.int (nI (y)))]) (st' := [.int (nI (1))]) (w' := mz_w (msz, mord, 1, mcand, mnx, (mcmp + 1), (mlat + 1), mnum, mset, mrow) Q U T) rfl ?_
            exact ez_zret rfl ez_h73 rfl rfl (by first | exact Or.inl rfl | exact Or.inr rfl) h
          · rw [if_neg c5] at h
            refine ez_go ez_h73 3 (pc' := 151) (L' := [some (.ref 0), some (.int (nI (x))), some (.int (nI (y)))]) (st' := [.int (nI (x)), .ref 3]) (w' := mz_w (msz, mord, 1, mcand, mnx, (mcmp + 1), (mlat + 1), mnum, mset, mrow) Q U T) rfl ?_
            refine ez_ald ez_h73 rfl rfl (x) rfl (by omega) (by omega) ?_
            refine ez_go ez_h73 3 (pc' := 157) (L' := [some (.ref 0), some (.int (nI (x))), some (.int (nI (y)))]) (st' := [.int (nI (y)), .ref 3, .int (mset (x))]) (w' := mz_w (msz, mord, 1, mcand, mnx, (mcmp + 1), (mlat + 1), mnum, mset, mrow) Q U T) rfl ?_
            refine ez_ald ez_h73 rfl rfl (y) rfl (by omega) (by omega) ?_
            refine ez_go ez_h73 1 (pc' := bif decide ((mset (y)) ≤ (mset (x))) then 165 else 161) (L' := [some (.ref 0), some (.int (nI (x))), some (.int (nI (y)))]) (st' := []) (w' := mz_w (msz, mord, 1, mcand, mnx, (mcmp + 1), (mlat + 1), mnum, mset, mrow) Q U T) rfl ?_
            refine ez_if (fun c6 => ?_) (fun c6 => ?_)
            · rw [if_pos c6] at h
              refine ez_go ez_h73 1 (pc' := 166) (L' := [some (.ref 0), some (.int (nI (x))), some (.int (nI (y)))]) (st' := [.int (nI (0))]) (w' := mz_w (msz, mord, 1, mcand, mnx, (mcmp + 1), (mlat + 1), mnum, mset, mrow) Q U T) rfl ?_
              exact ez_zret rfl ez_h73 rfl rfl (by first | exact Or.inl rfl | exact Or.inr rfl) h
            · rw [if_neg c6] at h
              refine ez_go ez_h73 2 (pc' := 166) (L' := [some (.ref 0), some (.int (nI (x))), some (.int (nI (y)))]) (st' := [.int (nI (1))]) (w' := mz_w (msz, mord, 1, mcand, mnx, (mcmp + 1), (mlat + 1), mnum, mset, mrow) Q U T) rfl ?_
              exact ez_zret rfl ez_h73 rfl rfl (by first | exact Or.inl rfl | exact Or.inr rfl) h
      · rw [if_neg c3] at h
        refine ez_go ez_h73 6 (pc' := 133) (L' := [some (.ref 0), some (.int (nI (x))), some (.int (nI (y)))]) (st' := [.int (nI (x)), .ref 3]) (w' := mz_w (msz, mord, 1, (nI (y)), mnx, (mcmp + 1), (mlat + 1), mnum, mset, mrow) Q U T) rfl ?_
        refine ez_ald ez_h73 rfl rfl (x) rfl (by omega) (by omega) ?_
        refine ez_go ez_h73 1 (pc' := bif decide ((mset (x)) < 0) then 165 else 137) (L' := [some (.ref 0), some (.int (nI (x))), some (.int (nI (y)))]) (st' := []) (w' := mz_w (msz, mord, 1, (nI (y)), mnx, (mcmp + 1), (mlat + 1), mnum, mset, mrow) Q U T) rfl ?_
        refine ez_if (fun c7 => ?_) (fun c7 => ?_)
        · rw [if_pos c7] at h
          refine ez_go ez_h73 1 (pc' := 166) (L' := [some (.ref 0), some (.int (nI (x))), some (.int (nI (y)))]) (st' := [.int (nI (0))]) (w' := mz_w (msz, mord, 1, (nI (y)), mnx, (mcmp + 1), (mlat + 1), mnum, mset, mrow) Q U T) rfl ?_
          exact ez_zret rfl ez_h73 rfl rfl (by first | exact Or.inl rfl | exact Or.inr rfl) h
        · rw [if_neg c7] at h
          refine ez_go ez_h73 3 (pc' := 142) (L' := [some (.ref 0), some (.int (nI (x))), some (.int (nI (y)))]) (st' := [.int (nI (y)), .ref 3]) (w' := mz_w (msz, mord, 1, (nI (y)), mnx, (mcmp + 1), (mlat + 1), mnum, mset, mrow) Q U T) rfl ?_
          refine ez_ald ez_h73 rfl rfl (y) rfl (by omega) (by omega) ?_
          refine ez_go ez_h73 1 (pc' := bif decide ((mset (y)) < 0) then 161 else 146) (L' := [some (.ref 0), some (.int (nI (x))), some (.int (nI (y)))]) (st' := []) (w' := mz_w (msz, mord, 1, (nI (y)), mnx, (mcmp + 1), (mlat + 1), mnum, mset, mrow) Q U T) rfl ?_
          refine ez_if (fun c8 => ?_) (fun c8 => ?_)
          · rw [if_pos c8] at h
            refine ez_go ez_h73 2 (pc' := 166) (L' := [some (.ref 0), some (.int (nI (x))), some (.int (nI (y)))]) (st' := [.int (nI (1))]) (w' := mz_w (msz, mord, 1, (nI (y)), mnx, (mcmp + 1), (mlat + 1), mnum, mset, mrow) Q U T) rfl ?_
            exact ez_zret rfl ez_h73 rfl rfl (by first | exact Or.inl rfl | exact Or.inr rfl) h
          · rw [if_neg c8] at h
            refine ez_go ez_h73 3 (pc' := 151) (L' := [some (.ref 0), some (.int (nI (x))), some (.int (nI (y)))]) (st' := [.int (nI (x)), .ref 3]) (w' := mz_w (msz, mord, 1, (nI (y)), mnx, (mcmp + 1), (mlat + 1), mnum, mset, mrow) Q U T) rfl ?_
            refine ez_ald ez_h73 rfl rfl (x) rfl (by omega) (by omega) ?_
            refine ez_go ez_h73 3 (pc' := 157) (L' := [some (.ref 0), some (.int (nI (x))), some (.int (nI (y)))]) (st' := [.int (nI (y)), .ref 3, .int (mset (x))]) (w' := mz_w (msz, mord, 1, (nI (y)), mnx, (mcmp + 1), (mlat + 1), mnum, mset, mrow) Q U T) rfl ?_
            refine ez_ald ez_h73 rfl rfl (y) rfl (by omega) (by omega) ?_
            refine ez_go ez_h73 1 (pc' := bif decide ((mset (y)) ≤ (mset (x))) then 165 else 161) (L' := [some (.ref 0), some (.int (nI (x))), some (.int (nI (y)))]) (st' := []) (w' := mz_w (msz, mord, 1, (nI (y)), mnx, (mcmp + 1), (mlat + 1), mnum, mset, mrow) Q U T) rfl ?_
            refine ez_if (fun c9 => ?_) (fun c9 => ?_)
            · rw [if_pos c9] at h
              refine ez_go ez_h73 1 (pc' := 166) (L' := [some (.ref 0), some (.int (nI (x))), some (.int (nI (y)))]) (st' := [.int (nI (0))]) (w' := mz_w (msz, mord, 1, (nI (y)), mnx, (mcmp + 1), (mlat + 1), mnum, mset, mrow) Q U T) rfl ?_
              exact ez_zret rfl ez_h73 rfl rfl (by first | exact Or.inl rfl | exact Or.inr rfl) h
            · rw [if_neg c9] at h
              refine ez_go ez_h73 2 (pc' := 166) (L' := [some (.ref 0), some (.int (nI (x))), some (.int (nI (y)))]) (st' := [.int (nI (1))]) (w' := mz_w (msz, mord, 1, (nI (y)), mnx, (mcmp + 1), (mlat + 1), mnum, mset, mrow) Q U T) rfl ?_
              exact ez_zret rfl ez_h73 rfl rfl (by first | exact Or.inl rfl | exact Or.inr rfl) h
    · rw [if_neg c2] at h
      refine ez_go ez_h73 7 (pc' := 133) (L' := [some (.ref 0), some (.int (nI (x))), some (.int (nI (y)))]) (st' := [.int (nI (x)), .ref 3]) (w' := mz_w (msz, mord, 1, (nI (x)), mnx, (mcmp + 1), (mlat + 1), mnum, mset, mrow) Q U T) rfl ?_
      refine ez_ald ez_h73 rfl rfl (x) rfl (by omega) (by omega) ?_
      refine ez_go ez_h73 1 (pc' := bif decide ((mset (x)) < 0) then 165 else 137) (L' := [some (.ref 0), some (.int (nI (x))), some (.int (nI (y)))]) (st' := []) (w' := mz_w (msz, mord, 1, (nI (x)), mnx, (mcmp + 1), (mlat + 1), mnum, mset, mrow) Q U T) rfl ?_
      refine ez_if (fun c10 => ?_) (fun c10 => ?_)
      · rw [if_pos c10] at h
        refine ez_go ez_h73 1 (pc' := 166) (L' := [some (.ref 0), some (.int (nI (x))), some (.int (nI (y)))]) (st' := [.int (nI (0))]) (w' := mz_w (msz, mord, 1, (nI (x)), mnx, (mcmp + 1), (mlat + 1), mnum, mset, mrow) Q U T) rfl ?_
        exact ez_zret rfl ez_h73 rfl rfl (by first | exact Or.inl rfl | exact Or.inr rfl) h
      · rw [if_neg c10] at h
        refine ez_go ez_h73 3 (pc' := 142) (L' := [some (.ref 0), some (.int (nI (x))), some (.int (nI (y)))]) (st' := [.int (nI (y)), .ref 3]) (w' := mz_w (msz, mord, 1, (nI (x)), mnx, (mcmp + 1), (mlat + 1), mnum, mset, mrow) Q U T) rfl ?_
        refine ez_ald ez_h73 rfl rfl (y) rfl (by omega) (by omega) ?_
        refine ez_go ez_h73 1 (pc' := bif decide ((mset (y)) < 0) then 161 else 146) (L' := [some (.ref 0), some (.int (nI (x))), some (.int (nI (y)))]) (st' := []) (w' := mz_w (msz, mord, 1, (nI (x)), mnx, (mcmp + 1), (mlat + 1), mnum, mset, mrow) Q U T) rfl ?_
        refine ez_if (fun c11 => ?_) (fun c11 => ?_)
        · rw [if_pos c11] at h
          refine ez_go ez_h73 2 (pc' := 166) (L' := [some (.ref 0), some (.int (nI (x))), some (.int (nI (y)))]) (st' := [.int (nI (1))]) (w' := mz_w (msz, mord, 1, (nI (x)), mnx, (mcmp + 1), (mlat + 1), mnum, mset, mrow) Q U T) rfl ?_
          exact ez_zret rfl ez_h73 rfl rfl (by first | exact Or.inl rfl | exact Or.inr rfl) h
        · rw [if_neg c11] at h
          refine ez_go ez_h73 3 (pc' := 151) (L' := [some (.ref 0), some (.int (nI (x))), some (.int (nI (y)))]) (st' := [.int (nI (x)), .ref 3]) (w' := mz_w (msz, mord, 1, (nI (x)), mnx, (mcmp + 1), (mlat + 1), mnum, mset, mrow) Q U T) rfl ?_
          refine ez_ald ez_h73 rfl rfl (x) rfl (by omega) (by omega) ?_
          refine ez_go ez_h73 3 (pc' := 157) (L' := [some (.ref 0), some (.int (nI (x))), some (.int (nI (y)))]) (st' := [.int (nI (y)), .ref 3, .int (mset (x))]) (w' := mz_w (msz, mord, 1, (nI (x)), mnx, (mcmp + 1), (mlat + 1), mnum, mset, mrow) Q U T) rfl ?_
          refine ez_ald ez_h73 rfl rfl (y) rfl (by omega) (by omega) ?_
          refine ez_go ez_h73 1 (pc' := bif decide ((mset (y)) ≤ (mset (x))) then 165 else 161) (L' := [some (.ref 0), some (.int (nI (x))), some (.int (nI (y)))]) (st' := []) (w' := mz_w (msz, mord, 1, (nI (x)), mnx, (mcmp + 1), (mlat + 1), mnum, mset, mrow) Q U T) rfl ?_
          refine ez_if (fun c12 => ?_) (fun c12 => ?_)
          · rw [if_pos c12] at h
            refine ez_go ez_h73 1 (pc' := 166) (L' := [some (.ref 0), some (.int (nI (x))), some (.int (nI (y)))]) (st' := [.int (nI (0))]) (w' := mz_w (msz, mord, 1, (nI (x)), mnx, (mcmp + 1), (mlat + 1), mnum, mset, mrow) Q U T) rfl ?_
            exact ez_zret rfl ez_h73 rfl rfl (by first | exact Or.inl rfl | exact Or.inr rfl) h
          · rw [if_neg c12] at h
            refine ez_go ez_h73 2 (pc' := 166) (L' := [some (.ref 0), some (.int (nI (x))), some (.int (nI (y)))]) (st' := [.int (nI (1))]) (w' := mz_w (msz, mord, 1, (nI (x)), mnx, (mcmp + 1), (mlat + 1), mnum, mset, mrow) Q U T) rfl ?_
            exact ez_zret rfl ez_h73 rfl rfl (by first | exact Or.inl rfl | exact Or.inr rfl) h
  · rw [if_neg c1] at h
    refine ez_go ez_h73 3 (pc' := 61) (L' := [some (.ref 0), some (.int (nI (x))), some (.int (nI (y)))]) (st' := [.int (nI (y)), .ref 3]) (w' := mz_w (msz, mord, 1, mcand, mnx, (mcmp + 1), (mlat + 1), mnum, mset, mrow) Q U T) rfl ?_
    refine ez_ald ez_h73 rfl rfl (y) rfl (by omega) (by omega) ?_
    refine ez_go ez_h73 1 (pc' := bif decide (0 ≤ (mset (y))) then 97 else 65) (L' := [some (.ref 0), some (.int (nI (x))), some (.int (nI (y)))]) (st' := []) (w' := mz_w (msz, mord, 1, mcand, mnx, (mcmp + 1), (mlat + 1), mnum, mset, mrow) Q U T) rfl ?_
    refine ez_if (fun c13 => ?_) (fun c13 => ?_)
    · rw [if_pos c13] at h
      refine ez_go ez_h73 3 (pc' := 102) (L' := [some (.ref 0), some (.int (nI (x))), some (.int (nI (y)))]) (st' := [.int (nI (x)), .ref 3]) (w' := mz_w (msz, mord, 1, mcand, mnx, (mcmp + 1), (mlat + 1), mnum, mset, mrow) Q U T) rfl ?_
      refine ez_ald ez_h73 rfl rfl (x) rfl (by omega) (by omega) ?_
      refine ez_go ez_h73 1 (pc' := bif decide (0 ≤ (mset (x))) then 114 else 106) (L' := [some (.ref 0), some (.int (nI (x))), some (.int (nI (y)))]) (st' := []) (w' := mz_w (msz, mord, 1, mcand, mnx, (mcmp + 1), (mlat + 1), mnum, mset, mrow) Q U T) rfl ?_
      refine ez_if (fun c14 => ?_) (fun c14 => ?_)
      · rw [if_pos c14] at h
        refine ez_go ez_h73 3 (pc' := 119) (L' := [some (.ref 0), some (.int (nI (x))), some (.int (nI (y)))]) (st' := [.int (nI (y)), .ref 3]) (w' := mz_w (msz, mord, 1, mcand, mnx, (mcmp + 1), (mlat + 1), mnum, mset, mrow) Q U T) rfl ?_
        refine ez_ald ez_h73 rfl rfl (y) rfl (by omega) (by omega) ?_
        refine ez_go ez_h73 1 (pc' := bif decide (0 ≤ (mset (y))) then 128 else 123) (L' := [some (.ref 0), some (.int (nI (x))), some (.int (nI (y)))]) (st' := []) (w' := mz_w (msz, mord, 1, mcand, mnx, (mcmp + 1), (mlat + 1), mnum, mset, mrow) Q U T) rfl ?_
        refine ez_if (fun c15 => ?_) (fun c15 => ?_)
        · rw [if_pos c15] at h
          refine ez_go ez_h73 3 (pc' := 133) (L' := [some (.ref 0), some (.int (nI (x))), some (.int (nI (y)))]) (st' := [.int (nI (x)), .ref 3]) (w' := mz_w (msz, mord, 1, mcand, mnx, (mcmp + 1), (mlat + 1), mnum, mset, mrow) Q U T) rfl ?_
          refine ez_ald ez_h73 rfl rfl (x) rfl (by omega) (by omega) ?_
          refine ez_go ez_h73 1 (pc' := bif decide ((mset (x)) < 0) then 165 else 137) (L' := [some (.ref 0), some (.int (nI (x))), some (.int (nI (y)))]) (st' := []) (w' := mz_w (msz, mord, 1, mcand, mnx, (mcmp + 1), (mlat + 1), mnum, mset, mrow) Q U T) rfl ?_
          refine ez_if (fun c16 => ?_) (fun c16 => ?_)
          · rw [if_pos c16] at h
            refine ez_go ez_h73 1 (pc' := 166) (L' := [some (.ref 0), some (.int (nI (x))), some (.int (nI (y)))]) (st' := [.int (nI (0))]) (w' := mz_w (msz, mord, 1, mcand, mnx, (mcmp + 1), (mlat + 1), mnum, mset, mrow) Q U T) rfl ?_
            exact ez_zret rfl ez_h73 rfl rfl (by first | exact Or.inl rfl | exact Or.inr rfl) h
          · rw [if_neg c16] at h
            refine ez_go ez_h73 3 (pc' := 142) (L' := [some (.ref 0), some (.int (nI (x))), some (.int (nI (y)))]) (st' := [.int (nI (y)), .ref 3]) (w' := mz_w (msz, mord, 1, mcand, mnx, (mcmp + 1), (mlat + 1), mnum, mset, mrow) Q U T) rfl ?_
            refine ez_ald ez_h73 rfl rfl (y) rfl (by omega) (by omega) ?_
            refine ez_go ez_h73 1 (pc' := bif decide ((mset (y)) < 0) then 161 else 146) (L' := [some (.ref 0), some (.int (nI (x))), some (.int (nI (y)))]) (st' := []) (w' := mz_w (msz, mord, 1, mcand, mnx, (mcmp + 1), (mlat + 1), mnum, mset, mrow) Q U T) rfl ?_
            refine ez_if (fun c17 => ?_) (fun c17 => ?_)
            · rw [if_pos c17] at h
              refine ez_go ez_h73 2 (pc' := 166) (L' := [some (.ref 0), some (.int (nI (x))), some (.int (nI (y)))]) (st' := [.int (nI (1))]) (w' := mz_w (msz, mord, 1, mcand, mnx, (mcmp + 1), (mlat + 1), mnum, mset, mrow) Q U T) rfl ?_
              exact ez_zret rfl ez_h73 rfl rfl (by first | exact Or.inl rfl | exact Or.inr rfl) h
            · rw [if_neg c17] at h
              refine ez_go ez_h73 3 (pc' := 151) (L' := [some (.ref 0), some (.int (nI (x))), some (.int (nI (y)))]) (st' := [.int (nI (x)), .ref 3]) (w' := mz_w (msz, mord, 1, mcand, mnx, (mcmp + 1), (mlat + 1), mnum, mset, mrow) Q U T) rfl ?_
              refine ez_ald ez_h73 rfl rfl (x) rfl (by omega) (by omega) ?_
              refine ez_go ez_h73 3 (pc' := 157) (L' := [some (.ref 0), some (.int (nI (x))), some (.int (nI (y)))]) (st' := [.int (nI (y)), .ref 3, .int (mset (x))]) (w' := mz_w (msz, mord, 1, mcand, mnx, (mcmp + 1), (mlat + 1), mnum, mset, mrow) Q U T) rfl ?_
              refine ez_ald ez_h73 rfl rfl (y) rfl (by omega) (by omega) ?_
              refine ez_go ez_h73 1 (pc' := bif decide ((mset (y)) ≤ (mset (x))) then 165 else 161) (L' := [some (.ref 0), some (.int (nI (x))), some (.int (nI (y)))]) (st' := []) (w' := mz_w (msz, mord, 1, mcand, mnx, (mcmp + 1), (mlat + 1), mnum, mset, mrow) Q U T) rfl ?_
              refine ez_if (fun c18 => ?_) (fun c18 => ?_)
              · rw [if_pos c18] at h
                refine ez_go ez_h73 1 (pc' := 166) (L' := [some (.ref 0), some (.int (nI (x))), some (.int (nI (y)))]) (st' := [.int (nI (0))]) (w' := mz_w (msz, mord, 1, mcand, mnx, (mcmp + 1), (mlat + 1), mnum, mset, mrow) Q U T) rfl ?_
                exact ez_zret rfl ez_h73 rfl rfl (by first | exact Or.inl rfl | exact Or.inr rfl) h
              · rw [if_neg c18] at h
                refine ez_go ez_h73 2 (pc' := 166) (L' := [some (.ref 0), some (.int (nI (x))), some (.int (nI (y)))]) (st' := [.int (nI (1))]) (w' := mz_w (msz, mord, 1, mcand, mnx, (mcmp + 1), (mlat + 1), mnum, mset, mrow) Q U T) rfl ?_
                exact ez_zret rfl ez_h73 rfl rfl (by first | exact Or.inl rfl | exact Or.inr rfl) h
        · rw [if_neg c15] at h
          refine ez_go ez_h73 6 (pc' := 133) (L' := [some (.ref 0), some (.int (nI (x))), some (.int (nI (y)))]) (st' := [.int (nI (x)), .ref 3]) (w' := mz_w (msz, mord, 1, (nI (y)), mnx, (mcmp + 1), (mlat + 1), mnum, mset, mrow) Q U T) rfl ?_
          refine ez_ald ez_h73 rfl rfl (x) rfl (by omega) (by omega) ?_
          refine ez_go ez_h73 1 (pc' := bif decide ((mset (x)) < 0) then 165 else 137) (L' := [some (.ref 0), some (.int (nI (x))), some (.int (nI (y)))]) (st' := []) (w' := mz_w (msz, mord, 1, (nI (y)), mnx, (mcmp + 1), (mlat + 1), mnum, mset, mrow) Q U T) rfl ?_
          refine ez_if (fun c19 => ?_) (fun c19 => ?_)
          · rw [if_pos c19] at h
            refine ez_go ez_h73 1 (pc' := 166) (L' := [some (.ref 0), some (.int (nI (x))), some (.int (nI (y)))]) (st' := [.int (nI (0))]) (w' := mz_w (msz, mord, 1, (nI (y)), mnx, (mcmp + 1), (mlat + 1), mnum, mset, mrow) Q U T) rfl ?_
            exact ez_zret rfl ez_h73 rfl rfl (by first | exact Or.inl rfl | exact Or.inr rfl) h
          · rw [if_neg c19] at h
            refine ez_go ez_h73 3 (pc' := 142) (L' := [some (.ref 0), some (.int (nI (x))), some (.int (nI (y)))]) (st' := [.int (nI (y)), .ref 3]) (w' := mz_w (msz, mord, 1, (nI (y)), mnx, (mcmp + 1), (mlat + 1), mnum, mset, mrow) Q U T) rfl ?_
            refine ez_ald ez_h73 rfl rfl (y) rfl (by omega) (by omega) ?_
            refine ez_go ez_h73 1 (pc' := bif decide ((mset (y)) < 0) then 161 else 146) (L' := [some (.ref 0), some (.int (nI (x))), some (.int (nI (y)))]) (st' := []) (w' := mz_w (msz, mord, 1, (nI (y)), mnx, (mcmp + 1), (mlat + 1), mnum, mset, mrow) Q U T) rfl ?_
            refine ez_if (fun c20 => ?_) (fun c20 => ?_)
            · rw [if_pos c20] at h
              refine ez_go ez_h73 2 (pc' := 166) (L' := [some (.ref 0), some (.int (nI (x))), some (.int (nI (y)))]) (st' := [.int (nI (1))]) (w' := mz_w (msz, mord, 1, (nI (y)), mnx, (mcmp + 1), (mlat + 1), mnum, mset, mrow) Q U T) rfl ?_
              exact ez_zret rfl ez_h73 rfl rfl (by first | exact Or.inl rfl | exact Or.inr rfl) h
            · rw [if_neg c20] at h
              refine ez_go ez_h73 3 (pc' := 151) (L' := [some (.ref 0), some (.int (nI (x))), some (.int (nI (y)))]) (st' := [.int (nI (x)), .ref 3]) (w' := mz_w (msz, mord, 1, (nI (y)), mnx, (mcmp + 1), (mlat + 1), mnum, mset, mrow) Q U T) rfl ?_
              refine ez_ald ez_h73 rfl rfl (x) rfl (by omega) (by omega) ?_
              refine ez_go ez_h73 3 (pc' := 157) (L' := [some (.ref 0), some (.int (nI (x))), some (.int (nI (y)))]) (st' := [.int (nI (y)), .ref 3, .int (mset (x))]) (w' := mz_w (msz, mord, 1, (nI (y)), mnx, (mcmp + 1), (mlat + 1), mnum, mset, mrow) Q U T) rfl ?_
              refine ez_ald ez_h73 rfl rfl (y) rfl (by omega) (by omega) ?_
              refine ez_go ez_h73 1 (pc' := bif decide ((mset (y)) ≤ (mset (x))) then 165 else 161) (L' := [some (.ref 0), some (.int (nI (x))), some (.int (nI (y)))]) (st' := []) (w' := mz_w (msz, mord, 1, (nI (y)), mnx, (mcmp + 1), (mlat + 1), mnum, mset, mrow) Q U T) rfl ?_
              refine ez_if (fun c21 => ?_) (fun c21 => ?_)
              · rw [if_pos c21] at h
                refine ez_go ez_h73 1 (pc' := 166) (L' := [some (.ref 0), some (.int (nI (x))), some (.int (nI (y)))]) (st' := [.int (nI (0))]) (w' := mz_w (msz, mord, 1, (nI (y)), mnx, (mcmp + 1), (mlat + 1), mnum, mset, mrow) Q U T) rfl ?_
                exact ez_zret rfl ez_h73 rfl rfl (by first | exact Or.inl rfl | exact Or.inr rfl) h
              · rw [if_neg c21] at h
                refine ez_go ez_h73 2 (pc' := 166) (L' := [some (.ref 0), some (.int (nI (x))), some (.int (nI (y)))]) (st' := [.int (nI (1))]) (w' := mz_w (msz, mord, 1, (nI (y)), mnx, (mcmp + 1), (mlat + 1), mnum, mset, mrow) Q U T) rfl ?_
                exact ez_zret rfl ez_h73 rfl rfl (by first | exact Or.inl rfl | exact Or.inr rfl) h
      · rw [if_neg c14] at h
        refine ez_go ez_h73 7 (pc' := 133) (L' := [some (.ref 0), some (.int (nI (x))), some (.int (nI (y)))]) (st' := [.int (nI (x)), .ref 3]) (w' := mz_w (msz, mord, 1, (nI (x)), mnx, (mcmp + 1), (mlat + 1), mnum, mset, mrow) Q U T) rfl ?_
        refine ez_ald ez_h73 rfl rfl (x) rfl (by omega) (by omega) ?_
        refine ez_go ez_h73 1 (pc' := bif decide ((mset (x)) < 0) then 165 else 137) (L' := [some (.ref 0), some (.int (nI (x))), some (.int (nI (y)))]) (st' := []) (w' := mz_w (msz, mord, 1, (nI (x)), mnx, (mcmp + 1), (mlat + 1), mnum, mset, mrow) Q U T) rfl ?_
        refine ez_if (fun c22 => ?_) (fun c22 => ?_)
        · rw [if_pos c22] at h
          refine ez_go ez_h73 1 (pc' := 166) (L' := [some (.ref 0), some (.int (nI (x))), some (.int (nI (y)))]) (st' := [.int (nI (0))]) (w' := mz_w (msz, mord, 1, (nI (x)), mnx, (mcmp + 1), (mlat + 1), mnum, mset, mrow) Q U T) rfl ?_
          exact ez_zret rfl ez_h73 rfl rfl (by first | exact Or.inl rfl | exact Or.inr rfl) h
        · rw [if_neg c22] at h
          refine ez_go ez_h73 3 (pc' := 142) (L' := [some (.ref 0), some (.int (nI (x))), some (.int (nI (y)))]) (st' := [.int (nI (y)), .ref 3]) (w' := mz_w (msz, mord, 1, (nI (x)), mnx, (mcmp + 1), (mlat + 1), mnum, mset, mrow) Q U T) rfl ?_
          refine ez_ald ez_h73 rfl rfl (y) rfl (by omega) (by omega) ?_
          refine ez_go ez_h73 1 (pc' := bif decide ((mset (y)) < 0) then 161 else 146) (L' := [some (.ref 0), some (.int (nI (x))), some (.int (nI (y)))]) (st' := []) (w' := mz_w (msz, mord, 1, (nI (x)), mnx, (mcmp + 1), (mlat + 1), mnum, mset, mrow) Q U T) rfl ?_
          refine ez_if (fun c23 => ?_) (fun c23 => ?_)
          · rw [if_pos c23] at h
            refine ez_go ez_h73 2 (pc' := 166) (L' := [some (.ref 0), some (.int (nI (x))), some (.int (nI (y)))]) (st' := [.int (nI (1))]) (w' := mz_w (msz, mord, 1, (nI (x)), mnx, (mcmp + 1), (mlat + 1), mnum, mset, mrow) Q U T) rfl ?_
            exact ez_zret rfl ez_h73 rfl rfl (by first | exact Or.inl rfl | exact Or.inr rfl) h
          · rw [if_neg c23] at h
            refine ez_go ez_h73 3 (pc' := 151) (L' := [some (.ref 0), some (.int (nI (x))), some (.int (nI (y)))]) (st' := [.int (nI (x)), .ref 3]) (w' := mz_w (msz, mord, 1, (nI (x)), mnx, (mcmp + 1), (mlat + 1), mnum, mset, mrow) Q U T) rfl ?_
            refine ez_ald ez_h73 rfl rfl (x) rfl (by omega) (by omega) ?_
            refine ez_go ez_h73 3 (pc' := 157) (L' := [some (.ref 0), some (.int (nI (x))), some (.int (nI (y)))]) (st' := [.int (nI (y)), .ref 3, .int (mset (x))]) (w' := mz_w (msz, mord, 1, (nI (x)), mnx, (mcmp + 1), (mlat + 1), mnum, mset, mrow) Q U T) rfl ?_
            refine ez_ald ez_h73 rfl rfl (y) rfl (by omega) (by omega) ?_
            refine ez_go ez_h73 1 (pc' := bif decide ((mset (y)) ≤ (mset (x))) then 165 else 161) (L' := [some (.ref 0), some (.int (nI (x))), some (.int (nI (y)))]) (st' := []) (w' := mz_w (msz, mord, 1, (nI (x)), mnx, (mcmp + 1), (mlat + 1), mnum, mset, mrow) Q U T) rfl ?_
            refine ez_if (fun c24 => ?_) (fun c24 => ?_)
            · rw [if_pos c24] at h
              refine ez_go ez_h73 1 (pc' := 166) (L' := [some (.ref 0), some (.int (nI (x))), some (.int (nI (y)))]) (st' := [.int (nI (0))]) (w' := mz_w (msz, mord, 1, (nI (x)), mnx, (mcmp + 1), (mlat + 1), mnum, mset, mrow) Q U T) rfl ?_
              exact ez_zret rfl ez_h73 rfl rfl (by first | exact Or.inl rfl | exact Or.inr rfl) h
            · rw [if_neg c24] at h
              refine ez_go ez_h73 2 (pc' := 166) (L' := [some (.ref 0), some (.int (nI (x))), some (.int (nI (y)))]) (st' := [.int (nI (1))]) (w' := mz_w (msz, mord, 1, (nI (x)), mnx, (mcmp + 1), (mlat + 1), mnum, mset, mrow) Q U T) rfl ?_
              exact ez_zret rfl ez_h73 rfl rfl (by first | exact Or.inl rfl | exact Or.inr rfl) h
    · rw [if_neg c13] at h
      refine ez_go ez_h73 6 (pc' := bif decide (¬ mcand = (nI (x))) then 81 else 77) (L' := [some (.ref 0), some (.int (nI (x))), some (.int (nI (y)))]) (st' := [.ref 3]) (w' := mz_w (msz, mord, 1, mcand, mnx, (mcmp + 1), (mlat + 1), mnum, mset, mrow) Q U T) rfl ?_
      refine ez_if (fun c25 => ?_) (fun c25 => ?_)
      · rw [if_neg c25] at h
        refine ez_go ez_h73 3 (pc' := 86) (L' := [some (.ref 0), some (.int (nI (x))), some (.int (nI (y)))]) (st' := [.int (mnx), .int (nI (y)), .ref 3]) (w' := mz_w (msz, mord, 1, mcand, mnx, (mcmp + 1), (mlat + 1), mnum, mset, mrow) Q U T) rfl ?_
        refine ez_ast ez_h73 rfl rfl (y) rfl (by omega) (by omega) ?_
        refine ez_go ez_h73 9 (pc' := 102) (L' := [some (.ref 0), some (.int (nI (x))), some (.int (nI (y)))]) (st' := [.int (nI (x)), .ref 3]) (w' := mz_w (msz, mord, 1, mcand, (mnx + (nI (1))), (mcmp + 1), (mlat + 1), mnum, (upd mset (y) mnx), mrow) Q U T) rfl ?_
        refine ez_ald ez_h73 rfl rfl (x) rfl (by omega) (by omega) ?_
        refine ez_go ez_h73 1 (pc' := bif decide (0 ≤ ((upd mset (y) mnx) (x))) then 114 else 106) (L' := [some (.ref 0), some (.int (nI (x))), some (.int (nI (y)))]) (st' := []) (w' := mz_w (msz, mord, 1, mcand, (mnx + (nI (1))), (mcmp + 1), (mlat + 1), mnum, (upd mset (y) mnx), mrow) Q U T) rfl ?_
        refine ez_if (fun c26 => ?_) (fun c26 => ?_)
        · rw [if_pos c26] at h
          refine ez_go ez_h73 3 (pc' := 119) (L' := [some (.ref 0), some (.int (nI (x))), some (.int (nI (y)))]) (st' := [.int (nI (y)), .ref 3]) (w' := mz_w (msz, mord, 1, mcand, (mnx + (nI (1))), (mcmp + 1), (mlat + 1), mnum, (upd mset (y) mnx), mrow) Q U T) rfl ?_
          refine ez_ald ez_h73 rfl rfl (y) rfl (by omega) (by omega) ?_
          refine ez_go ez_h73 1 (pc' := bif decide (0 ≤ ((upd mset (y) mnx) (y))) then 128 else 123) (L' := [some (.ref 0), some (.int (nI (x))), some (.int (nI (y)))]) (st' := []) (w' := mz_w (msz, mord, 1, mcand, (mnx + (nI (1))), (mcmp + 1), (mlat + 1), mnum, (upd mset (y) mnx), mrow) Q U T) rfl ?_
          refine ez_if (fun c27 => ?_) (fun c27 => ?_)
          · rw [if_pos c27] at h
            refine ez_go ez_h73 3 (pc' := 133) (L' := [some (.ref 0), some (.int (nI (x))), some (.int (nI (y)))]) (st' := [.int (nI (x)), .ref 3]) (w' := mz_w (msz, mord, 1, mcand, (mnx + (nI (1))), (mcmp + 1), (mlat + 1), mnum, (upd mset (y) mnx), mrow) Q U T) rfl ?_
            refine ez_ald ez_h73 rfl rfl (x) rfl (by omega) (by omega) ?_
            refine ez_go ez_h73 1 (pc' := bif decide (((upd mset (y) mnx) (x)) < 0) then 165 else 137) (L' := [some (.ref 0), some (.int (nI (x))), some (.int (nI (y)))]) (st' := []) (w' := mz_w (msz, mord, 1, mcand, (mnx + (nI (1))), (mcmp + 1), (mlat + 1), mnum, (upd mset (y) mnx), mrow) Q U T) rfl ?_
            refine ez_if (fun c28 => ?_) (fun c28 => ?_)
            · rw [if_pos c28] at h
              refine ez_go ez_h73 1 (pc' := 166) (L' := [some (.ref 0), some (.int (nI (x))), some (.int (nI (y)))]) (st' := [.int (nI (0))]) (w' := mz_w (msz, mord, 1, mcand, (mnx + (nI (1))), (mcmp + 1), (mlat + 1), mnum, (upd mset (y) mnx), mrow) Q U T) rfl ?_
              exact ez_zret rfl ez_h73 rfl rfl (by first | exact Or.inl rfl | exact Or.inr rfl) h
            · rw [if_neg c28] at h
              refine ez_go ez_h73 3 (pc' := 142) (L' := [some (.ref 0), some (.int (nI (x))), some (.int (nI (y)))]) (st' := [.int (nI (y)), .ref 3]) (w' := mz_w (msz, mord, 1, mcand, (mnx + (nI (1))), (mcmp + 1), (mlat + 1), mnum, (upd mset (y) mnx), mrow) Q U T) rfl ?_
              refine ez_ald ez_h73 rfl rfl (y) rfl (by omega) (by omega) ?_
              refine ez_go ez_h73 1 (pc' := bif decide (((upd mset (y) mnx) (y)) < 0) then 161 else 146) (L' := [some (.ref 0), some (.int (nI (x))), some (.int (nI (y)))]) (st' := []) (w' := mz_w (msz, mord, 1, mcand, (mnx + (nI (1))), (mcmp + 1), (mlat + 1), mnum, (upd mset (y) mnx), mrow) Q U T) rfl ?_
              refine ez_if (fun c29 => ?_) (fun c29 => ?_)
              · rw [if_pos c29] at h
                refine ez_go ez_h73 2 (pc' := 166) (L' := [some (.ref 0), some (.int (nI (x))), some (.int (nI (y)))]) (st' := [.int (nI (1))]) (w' := mz_w (msz, mord, 1, mcand, (mnx + (nI (1))), (mcmp + 1), (mlat + 1), mnum, (upd mset (y) mnx), mrow) Q U T) rfl ?_
                exact ez_zret rfl ez_h73 rfl rfl (by first | exact Or.inl rfl | exact Or.inr rfl) h
              · rw [if_neg c29] at h
                refine ez_go ez_h73 3 (pc' := 151) (L' := [some (.ref 0), some (.int (nI (x))), some (.int (nI (y)))]) (st' := [.int (nI (x)), .ref 3]) (w' := mz_w (msz, mord, 1, mcand, (mnx + (nI (1))), (mcmp + 1), (mlat + 1), mnum, (upd mset (y) mnx), mrow) Q U T) rfl ?_
                refine ez_ald ez_h73 rfl rfl (x) rfl (by omega) (by omega) ?_
                refine ez_go ez_h73 3 (pc' := 157) (L' := [some (.ref 0), some (.int (nI (x))), some (.int (nI (y)))]) (st' := [.int (nI (y)), .ref 3, .int ((upd mset (y) mnx) (x))]) (w' := mz_w (msz, mord, 1, mcand, (mnx + (nI (1))), (mcmp + 1), (mlat + 1), mnum, (upd mset (y) mnx), mrow) Q U T) rfl ?_
                refine ez_ald ez_h73 rfl rfl (y) rfl (by omega) (by omega) ?_
                refine ez_go ez_h73 1 (pc' := bif decide (((upd mset (y) mnx) (y)) ≤ ((upd mset (y) mnx) (x))) then 165 else 161) (L' := [some (.ref 0), some (.int (nI (x))), some (.int (nI (y)))]) (st' := []) (w' := mz_w (msz, mord, 1, mcand, (mnx + (nI (1))), (mcmp + 1), (mlat + 1), mnum, (upd mset (y) mnx), mrow) Q U T) rfl ?_
                refine ez_if (fun c30 => ?_) (fun c30 => ?_)
                · rw [if_pos c30] at h
                  refine ez_go ez_h73 1 (pc' := 166) (L' := [some (.ref 0), some (.int (nI (x))), some (.int (nI (y)))]) (st' := [.int (nI (0))]) (w' := mz_w (msz, mord, 1, mcand, (mnx + (nI (1))), (mcmp + 1), (mlat + 1), mnum, (upd mset (y) mnx), mrow) Q U T) rfl ?_
                  exact ez_zret rfl ez_h73 rfl rfl (by first | exact Or.inl rfl | exact Or.inr rfl) h
                · rw [if_neg c30] at h
                  refine ez_go ez_h73 2 (pc' := 166) (L' := [some (.ref 0), some (.int (nI (x))), some (.int (nI (y)))]) (st' := [.int (nI (1))]) (w' := mz_w (msz, mord, 1, mcand, (mnx + (nI (1))), (mcmp + 1), (mlat + 1), mnum, (upd mset (y) mnx), mrow) Q U T) rfl ?_
                  exact ez_zret rfl ez_h73 rfl rfl (by first | exact Or.inl rfl | exact Or.inr rfl) h
          · rw [if_neg c27] at h
            refine ez_go ez_h73 6 (pc' := 133) (L' := [some (.ref 0), some (.int (nI (x))), some (.int (nI (y)))]) (st' := [.int (nI (x)), .ref 3]) (w' := mz_w (msz, mord, 1, (nI (y)), (mnx + (nI (1))), (mcmp + 1), (mlat + 1), mnum, (upd mset (y) mnx), mrow) Q U T) rfl ?_
            refine ez_ald ez_h73 rfl rfl (x) rfl (by omega) (by omega) ?_
            refine ez_go ez_h73 1 (pc' := bif decide (((upd mset (y) mnx) (x)) < 0) then 165 else 137) (L' := [some (.ref 0), some (.int (nI (x))), some (.int (nI (y)))]) (st' := []) (w' := mz_w (msz, mord, 1, (nI (y)), (mnx + (nI (1))), (mcmp + 1), (mlat + 1), mnum, (upd mset (y) mnx), mrow) Q U T) rfl ?_
            refine ez_if (fun c31 => ?_) (fun c31 => ?_)
            · rw [if_pos c31] at h
              refine ez_go ez_h73 1 (pc' := 166) (L' := [some (.ref 0), some (.int (nI (x))), some (.int (nI (y)))]) (st' := [.int (nI (0))]) (w' := mz_w (msz, mord, 1, (nI (y)), (mnx + (nI (1))), (mcmp + 1), (mlat + 1), mnum, (upd mset (y) mnx), mrow) Q U T) rfl ?_
              exact ez_zret rfl ez_h73 rfl rfl (by first | exact Or.inl rfl | exact Or.inr rfl) h
            · rw [if_neg c31] at h
              refine ez_go ez_h73 3 (pc' := 142) (L' := [some (.ref 0), some (.int (nI (x))), some (.int (nI (y)))]) (st' := [.int (nI (y)), .ref 3]) (w' := mz_w (msz, mord, 1, (nI (y)), (mnx + (nI (1))), (mcmp + 1), (mlat + 1), mnum, (upd mset (y) mnx), mrow) Q U T) rfl ?_
              refine ez_ald ez_h73 rfl rfl (y) rfl (by omega) (by omega) ?_
              refine ez_go ez_h73 1 (pc' := bif decide (((upd mset (y) mnx) (y)) < 0) then 161 else 146) (L' := [some (.ref 0), some (.int (nI (x))), some (.int (nI (y)))]) (st' := []) (w' := mz_w (msz, mord, 1, (nI (y)), (mnx + (nI (1))), (mcmp + 1), (mlat + 1), mnum, (upd mset (y) mnx), mrow) Q U T) rfl ?_
              refine ez_if (fun c32 => ?_) (fun c32 => ?_)
              · rw [if_pos c32] at h
                refine ez_go ez_h73 2 (pc' := 166) (L' := [some (.ref 0), some (.int (nI (x))), some (.int (nI (y)))]) (st' := [.int (nI (1))]) (w' := mz_w (msz, mord, 1, (nI (y)), (mnx + (nI (1))), (mcmp + 1), (mlat + 1), mnum, (upd mset (y) mnx), mrow) Q U T) rfl ?_
                exact ez_zret rfl ez_h73 rfl rfl (by first | exact Or.inl rfl | exact Or.inr rfl) h
              · rw [if_neg c32] at h
                refine ez_go ez_h73 3 (pc' := 151) (L' := [some (.ref 0), some (.int (nI (x))), some (.int (nI (y)))]) (st' := [.int (nI (x)), .ref 3]) (w' := mz_w (msz, mord, 1, (nI (y)), (mnx + (nI (1))), (mcmp + 1), (mlat + 1), mnum, (upd mset (y) mnx), mrow) Q U T) rfl ?_
                refine ez_ald ez_h73 rfl rfl (x) rfl (by omega) (by omega) ?_
                refine ez_go ez_h73 3 (pc' := 157) (L' := [some (.ref 0), some (.int (nI (x))), some (.int (nI (y)))]) (st' := [.int (nI (y)), .ref 3, .int ((upd mset (y) mnx) (x))]) (w' := mz_w (msz, mord, 1, (nI (y)), (mnx + (nI (1))), (mcmp + 1), (mlat + 1), mnum, (upd mset (y) mnx), mrow) Q U T) rfl ?_
                refine ez_ald ez_h73 rfl rfl (y) rfl (by omega) (by omega) ?_
                refine ez_go ez_h73 1 (pc' := bif decide (((upd mset (y) mnx) (y)) ≤ ((upd mset (y) mnx) (x))) then 165 else 161) (L' := [some (.ref 0), some (.int (nI (x))), some (.int (nI (y)))]) (st' := []) (w' := mz_w (msz, mord, 1, (nI (y)), (mnx + (nI (1))), (mcmp + 1), (mlat + 1), mnum, (upd mset (y) mnx), mrow) Q U T) rfl ?_
                refine ez_if (fun c33 => ?_) (fun c33 => ?_)
                · rw [if_pos c33] at h
                  refine ez_go ez_h73 1 (pc' := 166) (L' := [some (.ref 0), some (.int (nI (x))), some (.int (nI (y)))]) (st' := [.int (nI (0))]) (w' := mz_w (msz, mord, 1, (nI (y)), (mnx + (nI (1))), (mcmp + 1), (mlat + 1), mnum, (upd mset (y) mnx), mrow) Q U T) rfl ?_
                  exact ez_zret rfl ez_h73 rfl rfl (by first | exact Or.inl rfl | exact Or.inr rfl) h
                · rw [if_neg c33] at h
                  refine ez_go ez_h73 2 (pc' := 166) (L' := [some (.ref 0), some (.int (nI (x))), some (.int (nI (y)))]) (st' := [.int (nI (1))]) (w' := mz_w (msz, mord, 1, (nI (y)), (mnx + (nI (1))), (mcmp + 1), (mlat + 1), mnum, (upd mset (y) mnx), mrow) Q U T) rfl ?_
                  exact ez_zret rfl ez_h73 rfl rfl (by first | exact Or.inl rfl | exact Or.inr rfl) h
        · rw [if_neg c26] at h
          refine ez_go ez_h73 7 (pc' := 133) (L' := [some (.ref 0), some (.int (nI (x))), some (.int (nI (y)))]) (st' := [.int (nI (x)), .ref 3]) (w' := mz_w (msz, mord, 1, (nI (x)), (mnx + (nI (1))), (mcmp + 1), (mlat + 1), mnum, (upd mset (y) mnx), mrow) Q U T) rfl ?_
          refine ez_ald ez_h73 rfl rfl (x) rfl (by omega) (by omega) ?_
          refine ez_go ez_h73 1 (pc' := bif decide (((upd mset (y) mnx) (x)) < 0) then 165 else 137) (L' := [some (.ref 0), some (.int (nI (x))), some (.int (nI (y)))]) (st' := []) (w' := mz_w (msz, mord, 1, (nI (x)), (mnx + (nI (1))), (mcmp + 1), (mlat + 1), mnum, (upd mset (y) mnx), mrow) Q U T) rfl ?_
          refine ez_if (fun c34 => ?_) (fun c34 => ?_)
          · rw [if_pos c34] at h
            refine ez_go ez_h73 1 (pc' := 166) (L' := [some (.ref 0), some (.int (nI (x))), some (.int (nI (y)))]) (st' := [.int (nI (0))]) (w' := mz_w (msz, mord, 1, (nI (x)), (mnx + (nI (1))), (mcmp + 1), (mlat + 1), mnum, (upd mset (y) mnx), mrow) Q U T) rfl ?_
            exact ez_zret rfl ez_h73 rfl rfl (by first | exact Or.inl rfl | exact Or.inr rfl) h
          · rw [if_neg c34] at h
            refine ez_go ez_h73 3 (pc' := 142) (L' := [some (.ref 0), some (.int (nI (x))), some (.int (nI (y)))]) (st' := [.int (nI (y)), .ref 3]) (w' := mz_w (msz, mord, 1, (nI (x)), (mnx + (nI (1))), (mcmp + 1), (mlat + 1), mnum, (upd mset (y) mnx), mrow) Q U T) rfl ?_
            refine ez_ald ez_h73 rfl rfl (y) rfl (by omega) (by omega) ?_
            refine ez_go ez_h73 1 (pc' := bif decide (((upd mset (y) mnx) (y)) < 0) then 161 else 146) (L' := [some (.ref 0), some (.int (nI (x))), some (.int (nI (y)))]) (st' := []) (w' := mz_w (msz, mord, 1, (nI (x)), (mnx + (nI (1))), (mcmp + 1), (mlat + 1), mnum, (upd mset (y) mnx), mrow) Q U T) rfl ?_
            refine ez_if (fun c35 => ?_) (fun c35 => ?_)
            · rw [if_pos c35] at h
              refine ez_go ez_h73 2 (pc' := 166) (L' := [some (.ref 0), some (.int (nI (x))), some (.int (nI (y)))]) (st' := [.int (nI (1))]) (w' := mz_w (msz, mord, 1, (nI (x)), (mnx + (nI (1))), (mcmp + 1), (mlat + 1), mnum, (upd mset (y) mnx), mrow) Q U T) rfl ?_
              exact ez_zret rfl ez_h73 rfl rfl (by first | exact Or.inl rfl | exact Or.inr rfl) h
            · rw [if_neg c35] at h
              refine ez_go ez_h73 3 (pc' := 151) (L' := [some (.ref 0), some (.int (nI (x))), some (.int (nI (y)))]) (st' := [.int (nI (x)), .ref 3]) (w' := mz_w (msz, mord, 1, (nI (x)), (mnx + (nI (1))), (mcmp + 1), (mlat + 1), mnum, (upd mset (y) mnx), mrow) Q U T) rfl ?_
              refine ez_ald ez_h73 rfl rfl (x) rfl (by omega) (by omega) ?_
              refine ez_go ez_h73 3 (pc' := 157) (L' := [some (.ref 0), some (.int (nI (x))), some (.int (nI (y)))]) (st' := [.int (nI (y)), .ref 3, .int ((upd mset (y) mnx) (x))]) (w' := mz_w (msz, mord, 1, (nI (x)), (mnx + (nI (1))), (mcmp + 1), (mlat + 1), mnum, (upd mset (y) mnx), mrow) Q U T) rfl ?_
              refine ez_ald ez_h73 rfl rfl (y) rfl (by omega) (by omega) ?_
              refine ez_go ez_h73 1 (pc' := bif decide (((upd mset (y) mnx) (y)) ≤ ((upd mset (y) mnx) (x))) then 165 else 161) (L' := [some (.ref 0), some (.int (nI (x))), some (.int (nI (y)))]) (st' := []) (w' := mz_w (msz, mord, 1, (nI (x)), (mnx + (nI (1))), (mcmp + 1), (mlat + 1), mnum, (upd mset (y) mnx), mrow) Q U T) rfl ?_
              refine ez_if (fun c36 => ?_) (fun c36 => ?_)
              · rw [if_pos c36] at h
                refine ez_go ez_h73 1 (pc' := 166) (L' := [some (.ref 0), some (.int (nI (x))), some (.int (nI (y)))]) (st' := [.int (nI (0))]) (w' := mz_w (msz, mord, 1, (nI (x)), (mnx + (nI (1))), (mcmp + 1), (mlat + 1), mnum, (upd mset (y) mnx), mrow) Q U T) rfl ?_
                exact ez_zret rfl ez_h73 rfl rfl (by first | exact Or.inl rfl | exact Or.inr rfl) h
              · rw [if_neg c36] at h
                refine ez_go ez_h73 2 (pc' := 166) (L' := [some (.ref 0), some (.int (nI (x))), some (.int (nI (y)))]) (st' := [.int (nI (1))]) (w' := mz_w (msz, mord, 1, (nI (x)), (mnx + (nI (1))), (mcmp + 1), (mlat + 1), mnum, (upd mset (y) mnx), mrow) Q U T) rfl ?_
                exact ez_zret rfl ez_h73 rfl rfl (by first | exact Or.inl rfl | exact Or.inr rfl) h
      · rw [if_pos (Decidable.not_not.mp c25)] at h
        refine ez_go ez_h73 4 (pc' := 86) (L' := [some (.ref 0), some (.int (nI (x))), some (.int (nI (y)))]) (st' := [.int (mnx), .int (nI (x)), .ref 3]) (w' := mz_w (msz, mord, 1, mcand, mnx, (mcmp + 1), (mlat + 1), mnum, mset, mrow) Q U T) rfl ?_
        refine ez_ast ez_h73 rfl rfl (x) rfl (by omega) (by omega) ?_
        refine ez_go ez_h73 9 (pc' := 102) (L' := [some (.ref 0), some (.int (nI (x))), some (.int (nI (y)))]) (st' := [.int (nI (x)), .ref 3]) (w' := mz_w (msz, mord, 1, mcand, (mnx + (nI (1))), (mcmp + 1), (mlat + 1), mnum, (upd mset (x) mnx), mrow) Q U T) rfl ?_
        refine ez_ald ez_h73 rfl rfl (x) rfl (by omega) (by omega) ?_
        refine ez_go ez_h73 1 (pc' := bif decide (0 ≤ ((upd mset (x) mnx) (x))) then 114 else 106) (L' := [some (.ref 0), some (.int (nI (x))), some (.int (nI (y)))]) (st' := []) (w' := mz_w (msz, mord, 1, mcand, (mnx + (nI (1))), (mcmp + 1), (mlat + 1), mnum, (upd mset (x) mnx), mrow) Q U T) rfl ?_
        refine ez_if (fun c37 => ?_) (fun c37 => ?_)
        · rw [if_pos c37] at h
          refine ez_go ez_h73 3 (pc' := 119) (L' := [some (.ref 0), some (.int (nI (x))), some (.int (nI (y)))]) (st' := [.int (nI (y)), .ref 3]) (w' := mz_w (msz, mord, 1, mcand, (mnx + (nI (1))), (mcmp + 1), (mlat + 1), mnum, (upd mset (x) mnx), mrow) Q U T) rfl ?_
          refine ez_ald ez_h73 rfl rfl (y) rfl (by omega) (by omega) ?_
          refine ez_go ez_h73 1 (pc' := bif decide (0 ≤ ((upd mset (x) mnx) (y))) then 128 else 123) (L' := [some (.ref 0), some (.int (nI (x))), some (.int (nI (y)))]) (st' := []) (w' := mz_w (msz, mord, 1, mcand, (mnx + (nI (1))), (mcmp + 1), (mlat + 1), mnum, (upd mset (x) mnx), mrow) Q U T) rfl ?_
          refine ez_if (fun c38 => ?_) (fun c38 => ?_)
          · rw [if_pos c38] at h
            refine ez_go ez_h73 3 (pc' := 133) (L' := [some (.ref 0), some (.int (nI (x))), some (.int (nI (y)))]) (st' := [.int (nI (x)), .ref 3]) (w' := mz_w (msz, mord, 1, mcand, (mnx + (nI (1))), (mcmp + 1), (mlat + 1), mnum, (upd mset (x) mnx), mrow) Q U T) rfl ?_
            refine ez_ald ez_h73 rfl rfl (x) rfl (by omega) (by omega) ?_
            refine ez_go ez_h73 1 (pc' := bif decide (((upd mset (x) mnx) (x)) < 0) then 165 else 137) (L' := [some (.ref 0), some (.int (nI (x))), some (.int (nI (y)))]) (st' := []) (w' := mz_w (msz, mord, 1, mcand, (mnx + (nI (1))), (mcmp + 1), (mlat + 1), mnum, (upd mset (x) mnx), mrow) Q U T) rfl ?_
            refine ez_if (fun c39 => ?_) (fun c39 => ?_)
            · rw [if_pos c39] at h
              refine ez_go ez_h73 1 (pc' := 166) (L' := [some (.ref 0), some (.int (nI (x))), some (.int (nI (y)))]) (st' := [.int (nI (0))]) (w' := mz_w (msz, mord, 1, mcand, (mnx + (nI (1))), (mcmp + 1), (mlat + 1), mnum, (upd mset (x) mnx), mrow) Q U T) rfl ?_
              exact ez_zret rfl ez_h73 rfl rfl (by first | exact Or.inl rfl | exact Or.inr rfl) h
            · rw [if_neg c39] at h
              refine ez_go ez_h73 3 (pc' := 142) (L' := [some (.ref 0), some (.int (nI (x))), some (.int (nI (y)))]) (st' := [.int (nI (y)), .ref 3]) (w' := mz_w (msz, mord, 1, mcand, (mnx + (nI (1))), (mcmp + 1), (mlat + 1), mnum, (upd mset (x) mnx), mrow) Q U T) rfl ?_
              refine ez_ald ez_h73 rfl rfl (y) rfl (by omega) (by omega) ?_
              refine ez_go ez_h73 1 (pc' := bif decide (((upd mset (x) mnx) (y)) < 0) then 161 else 146) (L' := [some (.ref 0), some (.int (nI (x))), some (.int (nI (y)))]) (st' := []) (w' := mz_w (msz, mord, 1, mcand, (mnx + (nI (1))), (mcmp + 1), (mlat + 1), mnum, (upd mset (x) mnx), mrow) Q U T) rfl ?_
              refine ez_if (fun c40 => ?_) (fun c40 => ?_)
              · rw [if_pos c40] at h
                refine ez_go ez_h73 2 (pc' := 166) (L' := [some (.ref 0), some (.int (nI (x))), some (.int (nI (y)))]) (st' := [.int (nI (1))]) (w' := mz_w (msz, mord, 1, mcand, (mnx + (nI (1))), (mcmp + 1), (mlat + 1), mnum, (upd mset (x) mnx), mrow) Q U T) rfl ?_
                exact ez_zret rfl ez_h73 rfl rfl (by first | exact Or.inl rfl | exact Or.inr rfl) h
              · rw [if_neg c40] at h
                refine ez_go ez_h73 3 (pc' := 151) (L' := [some (.ref 0), some (.int (nI (x))), some (.int (nI (y)))]) (st' := [.int (nI (x)), .ref 3]) (w' := mz_w (msz, mord, 1, mcand, (mnx + (nI (1))), (mcmp + 1), (mlat + 1), mnum, (upd mset (x) mnx), mrow) Q U T) rfl ?_
                refine ez_ald ez_h73 rfl rfl (x) rfl (by omega) (by omega) ?_
                refine ez_go ez_h73 3 (pc' := 157) (L' := [some (.ref 0), some (.int (nI (x))), some (.int (nI (y)))]) (st' := [.int (nI (y)), .ref 3, .int ((upd mset (x) mnx) (x))]) (w' := mz_w (msz, mord, 1, mcand, (mnx + (nI (1))), (mcmp + 1), (mlat + 1), mnum, (upd mset (x) mnx), mrow) Q U T) rfl ?_
                refine ez_ald ez_h73 rfl rfl (y) rfl (by omega) (by omega) ?_
                refine ez_go ez_h73 1 (pc' := bif decide (((upd mset (x) mnx) (y)) ≤ ((upd mset (x) mnx) (x))) then 165 else 161) (L' := [some (.ref 0), some (.int (nI (x))), some (.int (nI (y)))]) (st' := []) (w' := mz_w (msz, mord, 1, mcand, (mnx + (nI (1))), (mcmp + 1), (mlat + 1), mnum, (upd mset (x) mnx), mrow) Q U T) rfl ?_
                refine ez_if (fun c41 => ?_) (fun c41 => ?_)
                · rw [if_pos c41] at h
                  refine ez_go ez_h73 1 (pc' := 166) (L' := [some (.ref 0), some (.int (nI (x))), some (.int (nI (y)))]) (st' := [.int (nI (0))]) (w' := mz_w (msz, mord, 1, mcand, (mnx + (nI (1))), (mcmp + 1), (mlat + 1), mnum, (upd mset (x) mnx), mrow) Q U T) rfl ?_
                  exact ez_zret rfl ez_h73 rfl rfl (by first | exact Or.inl rfl | exact Or.inr rfl) h
                · rw [if_neg c41] at h
                  refine ez_go ez_h73 2 (pc' := 166) (L' := [some (.ref 0), some (.int (nI (x))), some (.int (nI (y)))]) (st' := [.int (nI (1))]) (w' := mz_w (msz, mord, 1, mcand, (mnx + (nI (1))), (mcmp + 1), (mlat + 1), mnum, (upd mset (x) mnx), mrow) Q U T) rfl ?_
                  exact ez_zret rfl ez_h73 rfl rfl (by first | exact Or.inl rfl | exact Or.inr rfl) h
          · rw [if_neg c38] at h
            refine ez_go ez_h73 6 (pc' := 133) (L' := [some (.ref 0), some (.int (nI (x))), some (.int (nI (y)))]) (st' := [.int (nI (x)), .ref 3]) (w' := mz_w (msz, mord, 1, (nI (y)), (mnx + (nI (1))), (mcmp + 1), (mlat + 1), mnum, (upd mset (x) mnx), mrow) Q U T) rfl ?_
            refine ez_ald ez_h73 rfl rfl (x) rfl (by omega) (by omega) ?_
            refine ez_go ez_h73 1 (pc' := bif decide (((upd mset (x) mnx) (x)) < 0) then 165 else 137) (L' := [some (.ref 0), some (.int (nI (x))), some (.int (nI (y)))]) (st' := []) (w' := mz_w (msz, mord, 1, (nI (y)), (mnx + (nI (1))), (mcmp + 1), (mlat + 1), mnum, (upd mset (x) mnx), mrow) Q U T) rfl ?_
            refine ez_if (fun c42 => ?_) (fun c42 => ?_)
            · rw [if_pos c42] at h
              refine ez_go ez_h73 1 (pc' := 166) (L' := [some (.ref 0), some (.int (nI (x))), some (.int (nI (y)))]) (st' := [.int (nI (0))]) (w' := mz_w (msz, mord, 1, (nI (y)), (mnx + (nI (1))), (mcmp + 1), (mlat + 1), mnum, (upd mset (x) mnx), mrow) Q U T) rfl ?_
              exact ez_zret rfl ez_h73 rfl rfl (by first | exact Or.inl rfl | exact Or.inr rfl) h
            · rw [if_neg c42] at h
              refine ez_go ez_h73 3 (pc' := 142) (L' := [some (.ref 0), some (.int (nI (x))), some (.int (nI (y)))]) (st' := [.int (nI (y)), .ref 3]) (w' := mz_w (msz, mord, 1, (nI (y)), (mnx + (nI (1))), (mcmp + 1), (mlat + 1), mnum, (upd mset (x) mnx), mrow) Q U T) rfl ?_
              refine ez_ald ez_h73 rfl rfl (y) rfl (by omega) (by omega) ?_
              refine ez_go ez_h73 1 (pc' := bif decide (((upd mset (x) mnx) (y)) < 0) then 161 else 146) (L' := [some (.ref 0), some (.int (nI (x))), some (.int (nI (y)))]) (st' := []) (w' := mz_w (msz, mord, 1, (nI (y)), (mnx + (nI (1))), (mcmp + 1), (mlat + 1), mnum, (upd mset (x) mnx), mrow) Q U T) rfl ?_
              refine ez_if (fun c43 => ?_) (fun c43 => ?_)
              · rw [if_pos c43] at h
                refine ez_go ez_h73 2 (pc' := 166) (L' := [some (.ref 0), some (.int (nI (x))), some (.int (nI (y)))]) (st' := [.int (nI (1))]) (w' := mz_w (msz, mord, 1, (nI (y)), (mnx + (nI (1))), (mcmp + 1), (mlat + 1), mnum, (upd mset (x) mnx), mrow) Q U T) rfl ?_
                exact ez_zret rfl ez_h73 rfl rfl (by first | exact Or.inl rfl | exact Or.inr rfl) h
              · rw [if_neg c43] at h
                refine ez_go ez_h73 3 (pc' := 151) (L' := [some (.ref 0), some (.int (nI (x))), some (.int (nI (y)))]) (st' := [.int (nI (x)), .ref 3]) (w' := mz_w (msz, mord, 1, (nI (y)), (mnx + (nI (1))), (mcmp + 1), (mlat + 1), mnum, (upd mset (x) mnx), mrow) Q U T) rfl ?_
                refine ez_ald ez_h73 rfl rfl (x) rfl (by omega) (by omega) ?_
                refine ez_go ez_h73 3 (pc' := 157) (L' := [some (.ref 0), some (.int (nI (x))), some (.int (nI (y)))]) (st' := [.int (nI (y)), .ref 3, .int ((upd mset (x) mnx) (x))]) (w' := mz_w (msz, mord, 1, (nI (y)), (mnx + (nI (1))), (mcmp + 1), (mlat + 1), mnum, (upd mset (x) mnx), mrow) Q U T) rfl ?_
                refine ez_ald ez_h73 rfl rfl (y) rfl (by omega) (by omega) ?_
                refine ez_go ez_h73 1 (pc' := bif decide (((upd mset (x) mnx) (y)) ≤ ((upd mset (x) mnx) (x))) then 165 else 161) (L' := [some (.ref 0), some (.int (nI (x))), some (.int (nI (y)))]) (st' := []) (w' := mz_w (msz, mord, 1, (nI (y)), (mnx + (nI (1))), (mcmp + 1), (mlat + 1), mnum, (upd mset (x) mnx), mrow) Q U T) rfl ?_
                refine ez_if (fun c44 => ?_) (fun c44 => ?_)
                · rw [if_pos c44] at h
                  refine ez_go ez_h73 1 (pc' := 166) (L' := [some (.ref 0), some (.int (nI (x))), some (.int (nI (y)))]) (st' := [.int (nI (0))]) (w' := mz_w (msz, mord, 1, (nI (y)), (mnx + (nI (1))), (mcmp + 1), (mlat + 1), mnum, (upd mset (x) mnx), mrow) Q U T) rfl ?_
                  exact ez_zret rfl ez_h73 rfl rfl (by first | exact Or.inl rfl | exact Or.inr rfl) h
                · rw [if_neg c44] at h
                  refine ez_go ez_h73 2 (pc' := 166) (L' := [some (.ref 0), some (.int (nI (x))), some (.int (nI (y)))]) (st' := [.int (nI (1))]) (w' := mz_w (msz, mord, 1, (nI (y)), (mnx + (nI (1))), (mcmp + 1), (mlat + 1), mnum, (upd mset (x) mnx), mrow) Q U T) rfl ?_
                  exact ez_zret rfl ez_h73 rfl rfl (by first | exact Or.inl rfl | exact Or.inr rfl) h
        · rw [if_neg c37] at h
          refine ez_go ez_h73 7 (pc' := 133) (L' := [some (.ref 0), some (.int (nI (x))), some (.int (nI (y)))]) (st' := [.int (nI (x)), .ref 3]) (w' := mz_w (msz, mord, 1, (nI (x)), (mnx + (nI (1))), (mcmp + 1), (mlat + 1), mnum, (upd mset (x) mnx), mrow) Q U T) rfl ?_
          refine ez_ald ez_h73 rfl rfl (x) rfl (by omega) (by omega) ?_
          refine ez_go ez_h73 1 (pc' := bif decide (((upd mset (x) mnx) (x)) < 0) then 165 else 137) (L' := [some (.ref 0), some (.int (nI (x))), some (.int (nI (y)))]) (st' := []) (w' := mz_w (msz, mord, 1, (nI (x)), (mnx + (nI (1))), (mcmp + 1), (mlat + 1), mnum, (upd mset (x) mnx), mrow) Q U T) rfl ?_
          refine ez_if (fun c45 => ?_) (fun c45 => ?_)
          · rw [if_pos c45] at h
            refine ez_go ez_h73 1 (pc' := 166) (L' := [some (.ref 0), some (.int (nI (x))), some (.int (nI (y)))]) (st' := [.int (nI (0))]) (w' := mz_w (msz, mord, 1, (nI (x)), (mnx + (nI (1))), (mcmp + 1), (mlat + 1), mnum, (upd mset (x) mnx), mrow) Q U T) rfl ?_
            exact ez_zret rfl ez_h73 rfl rfl (by first | exact Or.inl rfl | exact Or.inr rfl) h
          · rw [if_neg c45] at h
            refine ez_go ez_h73 3 (pc' := 142) (L' := [some (.ref 0), some (.int (nI (x))), some (.int (nI (y)))]) (st' := [.int (nI (y)), .ref 3]) (w' := mz_w (msz, mord, 1, (nI (x)), (mnx + (nI (1))), (mcmp + 1), (mlat + 1), mnum, (upd mset (x) mnx), mrow) Q U T) rfl ?_
            refine ez_ald ez_h73 rfl rfl (y) rfl (by omega) (by omega) ?_
            refine ez_go ez_h73 1 (pc' := bif decide (((upd mset (x) mnx) (y)) < 0) then 161 else 146) (L' := [some (.ref 0), some (.int (nI (x))), some (.int (nI (y)))]) (st' := []) (w' := mz_w (msz, mord, 1, (nI (x)), (mnx + (nI (1))), (mcmp + 1), (mlat + 1), mnum, (upd mset (x) mnx), mrow) Q U T) rfl ?_
            refine ez_if (fun c46 => ?_) (fun c46 => ?_)
            · rw [if_pos c46] at h
              refine ez_go ez_h73 2 (pc' := 166) (L' := [some (.ref 0), some (.int (nI (x))), some (.int (nI (y)))]) (st' := [.int (nI (1))]) (w' := mz_w (msz, mord, 1, (nI (x)), (mnx + (nI (1))), (mcmp + 1), (mlat + 1), mnum, (upd mset (x) mnx), mrow) Q U T) rfl ?_
              exact ez_zret rfl ez_h73 rfl rfl (by first | exact Or.inl rfl | exact Or.inr rfl) h
            · rw [if_neg c46] at h
              refine ez_go ez_h73 3 (pc' := 151) (L' := [some (.ref 0), some (.int (nI (x))), some (.int (nI (y)))]) (st' := [.int (nI (x)), .ref 3]) (w' := mz_w (msz, mord, 1, (nI (x)), (mnx + (nI (1))), (mcmp + 1), (mlat + 1), mnum, (upd mset (x) mnx), mrow) Q U T) rfl ?_
              refine ez_ald ez_h73 rfl rfl (x) rfl (by omega) (by omega) ?_
              refine ez_go ez_h73 3 (pc' := 157) (L' := [some (.ref 0), some (.int (nI (x))), some (.int (nI (y)))]) (st' := [.int (nI (y)), .ref 3, .int ((upd mset (x) mnx) (x))]) (w' := mz_w (msz, mord, 1, (nI (x)), (mnx + (nI (1))), (mcmp + 1), (mlat + 1), mnum, (upd mset (x) mnx), mrow) Q U T) rfl ?_
              refine ez_ald ez_h73 rfl rfl (y) rfl (by omega) (by omega) ?_
              refine ez_go ez_h73 1 (pc' := bif decide (((upd mset (x) mnx) (y)) ≤ ((upd mset (x) mnx) (x))) then 165 else 161) (L' := [some (.ref 0), some (.int (nI (x))), some (.int (nI (y)))]) (st' := []) (w' := mz_w (msz, mord, 1, (nI (x)), (mnx + (nI (1))), (mcmp + 1), (mlat + 1), mnum, (upd mset (x) mnx), mrow) Q U T) rfl ?_
              refine ez_if (fun c47 => ?_) (fun c47 => ?_)
              · rw [if_pos c47] at h
                refine ez_go ez_h73 1 (pc' := 166) (L' := [some (.ref 0), some (.int (nI (x))), some (.int (nI (y)))]) (st' := [.int (nI (0))]) (w' := mz_w (msz, mord, 1, (nI (x)), (mnx + (nI (1))), (mcmp + 1), (mlat + 1), mnum, (upd mset (x) mnx), mrow) Q U T) rfl ?_
                exact ez_zret rfl ez_h73 rfl rfl (by first | exact Or.inl rfl | exact Or.inr rfl) h
              · rw [if_neg c47] at h
                refine ez_go ez_h73 2 (pc' := 166) (L' := [some (.ref 0), some (.int (nI (x))), some (.int (nI (y)))]) (st' := [.int (nI (1))]) (w' := mz_w (msz, mord, 1, (nI (x)), (mnx + (nI (1))), (mcmp + 1), (mlat + 1), mnum, (upd mset (x) mnx), mrow) Q U T) rfl ?_
                exact ez_zret rfl ez_h73 rfl rfl (by first | exact Or.inl rfl | exact Or.inr rfl) h
def pf_mswap (x : Nat) (y : Nat) (msz : Int32) (mord : Int32) (madv : Int32) (mcand : Int32) (mnx : Int32) (mcmp : Int64) (mlat : Int64) (mnum : Nat → Int32) (mset : Nat → Int32) (mrow : Nat → Int32) : mz_A := ((msz, mord, madv, mcand, mnx, mcmp, mlat, mnum, mset, (upd (upd mrow (x) (mrow (y))) (y) (mrow (x)))))
set_option maxRecDepth 20000 in
theorem lf_mswap (x : Nat) (y : Nat) (hx : x < 600) (hy : y < 600) (msz : Int32) (mord : Int32) (madv : Int32) (mcand : Int32) (mnx : Int32) (mcmp : Int64) (mlat : Int64) (mnum : Nat → Int32) (mset : Nat → Int32) (mrow : Nat → Int32) (Q : mz_Q) (U : mz_U) (T : mz_T) {post : Option Value → ez_W → Prop} (h : post none (mz_w (pf_mswap x y msz mord madv mcand mnx mcmp mlat mnum mset mrow) Q U T)) : ez_m 75 [.ref 0, .int (nI (x)), .int (nI (y))] (mz_w (msz, mord, madv, mcand, mnx, mcmp, mlat, mnum, mset, mrow) Q U T) post := by
  refine ez_m.of (L := [some (.ref 0), some (.int (nI (x))), some (.int (nI (y))), none]) rfl rfl rfl ?_
  unfold pf_mswap at h
  refine ez_go ez_h75 3 (pc' := 5) (L' := [some (.ref 0), some (.int (nI (x))), some (.int (nI (y))), none]) (st' := [.int (nI (x)), .ref 4]) (w' := mz_w (msz, mord, madv, mcand, mnx, mcmp, mlat, mnum, mset, mrow) Q U T) rfl ?_
  refine ez_ald ez_h75 rfl rfl (x) rfl (by omega) (by omega) ?_
  refine ez_go ez_h75 7 (pc' := 17) (L' := [some (.ref 0), some (.int (nI (x))), some (.int (nI (y))), some (.int (mrow (x)))]) (st' := [.int (nI (y)), .ref 4, .int (nI (x)), .ref 4]) (w' := mz_w (msz, mord, madv, mcand, mnx, mcmp, mlat, mnum, mset, mrow) Q U T) rfl ?_
  refine ez_ald ez_h75 rfl rfl (y) rfl (by omega) (by omega) ?_
  refine ez_ast ez_h75 rfl rfl (x) rfl (by omega) (by omega) ?_
  refine ez_go ez_h75 4 (pc' := 25) (L' := [some (.ref 0), some (.int (nI (x))), some (.int (nI (y))), some (.int (mrow (x)))]) (st' := [.int (mrow (x)), .int (nI (y)), .ref 4]) (w' := mz_w (msz, mord, madv, mcand, mnx, mcmp, mlat, mnum, mset, (upd mrow (x) (mrow (y)))) Q U T) rfl ?_
  refine ez_ast ez_h75 rfl rfl (y) rfl (by omega) (by omega) ?_
  exact ez_vret rfl ez_h75 rfl rfl h
def pf_mswapThings (x : Nat) (y : Nat) (msz : Int32) (mord : Int32) (madv : Int32) (mcand : Int32) (mnx : Int32) (mcmp : Int64) (mlat : Int64) (mnum : Nat → Int32) (mset : Nat → Int32) (mrow : Nat → Int32) (mthr : Int32) (mtag : Nat → Int32) : mz_A × mz_T := ((msz, mord, madv, mcand, mnx, mcmp, mlat, (upd (upd mnum (x) (mnum (y))) (y) (mnum (x))), mset, mrow), (mthr, (upd (upd mtag (x) (mtag (y))) (y) (mtag (x)))))
set_option maxRecDepth 20000 in
theorem lf_mswapThings (x : Nat) (y : Nat) (hx : x < 600) (hy : y < 600) (msz : Int32) (mord : Int32) (madv : Int32) (mcand : Int32) (mnx : Int32) (mcmp : Int64) (mlat : Int64) (mnum : Nat → Int32) (mset : Nat → Int32) (mrow : Nat → Int32) (mthr : Int32) (mtag : Nat → Int32) (Q : mz_Q) (U : mz_U) {post : Option Value → ez_W → Prop} (h : post none (mz_w (pf_mswapThings x y msz mord madv mcand mnx mcmp mlat mnum mset mrow mthr mtag).1 Q U (pf_mswapThings x y msz mord madv mcand mnx mcmp mlat mnum mset mrow mthr mtag).2)) : ez_m 68 [.ref 0, .int (nI (x)), .int (nI (y))] (mz_w (msz, mord, madv, mcand, mnx, mcmp, mlat, mnum, mset, mrow) Q U (mthr, mtag)) post := by
  refine ez_m.of (L := [some (.ref 0), some (.int (nI (x))), some (.int (nI (y))), none, none]) rfl rfl rfl ?_
  unfold pf_mswapThings at h
  refine ez_go ez_h68 3 (pc' := 5) (L' := [some (.ref 0), some (.int (nI (x))), some (.int (nI (y))), none, none]) (st' := [.int (nI (x)), .ref 1]) (w' := mz_w (msz, mord, madv, mcand, mnx, mcmp, mlat, mnum, mset, mrow) Q U (mthr, mtag)) rfl ?_
  refine ez_ald ez_h68 rfl rfl (x) rfl (by omega) (by omega) ?_
  refine ez_go ez_h68 7 (pc' := 17) (L' := [some (.ref 0), some (.int (nI (x))), some (.int (nI (y))), some (.int (mnum (x))), none]) (st' := [.int (nI (y)), .ref 1, .int (nI (x)), .ref 1]) (w' := mz_w (msz, mord, madv, mcand, mnx, mcmp, mlat, mnum, mset, mrow) Q U (mthr, mtag)) rfl ?_
  refine ez_ald ez_h68 rfl rfl (y) rfl (by omega) (by omega) ?_
  refine ez_ast ez_h68 rfl rfl (x) rfl (by omega) (by omega) ?_
  refine ez_go ez_h68 4 (pc' := 25) (L' := [some (.ref 0), some (.int (nI (x))), some (.int (nI (y))), some (.int (mnum (x))), none]) (st' := [.int (mnum (x)), .int (nI (y)), .ref 1]) (w' := mz_w (msz, mord, madv, mcand, mnx, mcmp, mlat, (upd mnum (x) (mnum (y))), mset, mrow) Q U (mthr, mtag)) rfl ?_
  refine ez_ast ez_h68 rfl rfl (y) rfl (by omega) (by omega) ?_
  refine ez_go ez_h68 3 (pc' := 31) (L' := [some (.ref 0), some (.int (nI (x))), some (.int (nI (y))), some (.int (mnum (x))), none]) (st' := [.int (nI (x)), .ref 2]) (w' := mz_w (msz, mord, madv, mcand, mnx, mcmp, mlat, (upd (upd mnum (x) (mnum (y))) (y) (mnum (x))), mset, mrow) Q U (mthr, mtag)) rfl ?_
  refine ez_ald ez_h68 rfl rfl (x) rfl (by omega) (by omega) ?_
  refine ez_go ez_h68 7 (pc' := 44) (L' := [some (.ref 0), some (.int (nI (x))), some (.int (nI (y))), some (.int (mnum (x))), some (.int (mtag (x)))]) (st' := [.int (nI (y)), .ref 2, .int (nI (x)), .ref 2]) (w' := mz_w (msz, mord, madv, mcand, mnx, mcmp, mlat, (upd (upd mnum (x) (mnum (y))) (y) (mnum (x))), mset, mrow) Q U (mthr, mtag)) rfl ?_
  refine ez_ald ez_h68 rfl rfl (y) rfl (by omega) (by omega) ?_
  refine ez_ast ez_h68 rfl rfl (x) rfl (by omega) (by omega) ?_
  refine ez_go ez_h68 4 (pc' := 53) (L' := [some (.ref 0), some (.int (nI (x))), some (.int (nI (y))), some (.int (mnum (x))), some (.int (mtag (x)))]) (st' := [.int (mtag (x)), .int (nI (y)), .ref 2]) (w' := mz_w (msz, mord, madv, mcand, mnx, mcmp, mlat, (upd (upd mnum (x) (mnum (y))) (y) (mnum (x))), mset, mrow) Q U (mthr, (upd mtag (x) (mtag (y))))) rfl ?_
  refine ez_ast ez_h68 rfl rfl (y) rfl (by omega) (by omega) ?_
  exact ez_vret rfl ez_h68 rfl rfl h
