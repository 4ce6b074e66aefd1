theorem sx_at (r : cz_Row) (q : cz_Qk) (u : cz_Rn) (b : cz_Bn) (k : Nat) (hk : k < 600) {post : Option Value → ez_W → Prop} (h : post (some (.int (r.2.2.2.2.2.2.2 k))) (cz_w r q u b)) : ez_m 32 [.ref 1, .int (nI k)] (cz_w r q u b) post := by
  refine ez_m.of (L := [some (.ref 1), some (.int (nI k))]) rfl rfl rfl ?_
  refine ez_go ez_h32 2 (pc' := bif decide (nI k < 0) then 22 else 4) (L' := [some (.ref 1), some (.int (nI k))]) (st' := []) (w' := cz_w r q u b) rfl ?_
  refine ez_ifF (nI_pos (by omega)) ?_
  refine ez_go ez_h32 5 (pc' := bif decide (Int32.ofNat 600 ≤ nI k) then 22 else 13) (L' := [some (.ref 1), some (.int (nI k))]) (st' := []) (w' := cz_w r q u b) rfl ?_
  refine ez_ifF (nI_ge hk (by omega)) ?_
  refine ez_go ez_h32 3 (pc' := 18) (L' := [some (.ref 1), some (.int (nI k))]) (st' := [.int (nI k), .ref 8]) (w' := cz_w r q u b) rfl ?_
  refine ez_ald ez_h32 rfl rfl k rfl hk (by omega) ?_
  refine ez_go ez_h32 1 (pc' := 23) (L' := [some (.ref 1), some (.int (nI k))]) (st' := [.int (r.2.2.2.2.2.2.2 k)]) (w' := cz_w r q u b) rfl ?_
  exact ez_iret rfl ez_h32 rfl rfl h
