/-! ===== is ===== -/
def zo_F (h : Nat) (x y : Int64) (s t : Nat) : Bool := match h with
  | 0 => decide (x ≤ y)
  | 2 => decide (y < x)
  | _ => decide (x < y ∨ (x = y ∧ s < t))
def zo_al (f : Nat → Bool) : Nat → Bool
  | 0 => true
  | k + 1 => zo_al f k && f (k + 1)
theorem zo_al_le {f : Nat → Bool} : ∀ (a : Nat) {b : Nat}, zo_al f a = true → b ≤ a → zo_al f b = true
  | 0, b, h, hb => by rw [show b = 0 by omega]; exact h
  | a + 1, b, h, hb => by
    by_cases c : b = a + 1
    · rw [c]; exact h
    · exact zo_al_le a (Bool.and_eq_true_iff.mp h).1 (by omega)
theorem zo_al_no {f : Nat → Bool} {a b : Nat} (h : f (a + 1) = false) (hb : a + 1 ≤ b) : zo_al f b = false := by
  cases hz : zo_al f b with
  | false => rfl
  | true =>
    have := zo_al_le b hz hb
    rw [show zo_al f (a + 1) = (zo_al f a && f (a + 1)) from rfl, h, Bool.and_false] at this
    cases this
theorem zo_key (r : cz_Row) (q : cz_Qk) (u : cz_Rn) (b : cz_Bn) (v : Int64) {post : Option Value → ez_W → Prop} (ho : ze_or r.2.1) (h : post (some (.long (zk_key r.2.1 v))) (cz_w r q u b)) : ez_m 37 [.ref 1, .long v] (cz_w r q u b) post := by
  obtain ⟨sz, ord, asked, adv, cand, stl, num, thg⟩ := r
  exact lf_keyFor v sz ord asked adv cand stl num thg q u b ho h
theorem zo_mkey (A : mz_A) (Q : mz_Q) (U : mz_U) (T : mz_T) {x : Nat} (hx : x < 600) {post : Option Value → ez_W → Prop} (ho : ze_or A.2.1) (h : post (some (.long (zk_key A.2.1 (A.2.2.2.2.2.2.2.1 x).toInt64))) (mz_w A Q U T)) : ez_m 72 [.ref 0, .int (nI x)] (mz_w A Q U T) post := by
  obtain ⟨msz, mord, madv, mcand, mnx, mcmp, mlat, mnum, mset, mrow⟩ := A
  exact lf_mkey x hx msz mord madv mcand mnx mcmp mlat mnum mset mrow Q U T ho h
theorem zo_fol0 (r : cz_Row) (q : cz_Qk) (u : cz_Rn) (b : cz_Bn) (ho : ze_or r.2.1) {s t : Nat} (hs : s < 600) (ht : t < 600) {post : Option Value → ez_W → Prop} (kk : post (some (.int (zs_z (zo_F 0 (zk_key r.2.1 (r.2.2.2.2.2.2.1 s).toInt64) (zk_key r.2.1 (r.2.2.2.2.2.2.1 t).toInt64) s t)))) (cz_w r q u b)) : ez_m 61 [.ref 0, .int (nI 0), .int (nI s), .int (nI t)] (cz_w r q u b) post := by
  by_cases hc : (zk_key r.2.1 (r.2.2.2.2.2.2.1 s).toInt64) ≤ (zk_key r.2.1 (r.2.2.2.2.2.2.1 t).toInt64)
  · rw [show zo_F 0 (zk_key r.2.1 (r.2.2.2.2.2.2.1 s).toInt64) (zk_key r.2.1 (r.2.2.2.2.2.2.1 t).toInt64) s t = true from decide_eq_true hc] at kk
    refine ez_m.of (L := [some (.ref 0), some (.int (nI (0))), some (.int (nI (s))), some (.int (nI (t))), none, none, none, none]) rfl rfl rfl ?_
    refine ez_go ez_h61 5 (pc' := 9) (L' := [some (.ref 0), some (.int (nI (0))), some (.int (nI (s))), some (.int (nI (t))), none, none, none, none]) (st' := [.int (nI (s)), .ref 1, .ref 1]) (w' := cz_w r q u b) rfl ?_
    refine ez_cl ez_h61 rfl rfl ?_
    refine ez_m.of (L := [some (.ref 1), some (.int (nI (s)))]) rfl rfl rfl ?_
    refine ez_go ez_h34 2 (pc' := bif decide ((nI (s)) < (nI 0)) then 22 else 4) (L' := [some (.ref 1), some (.int (nI (s)))]) (st' := []) (w' := cz_w r q u b) rfl ?_
    refine ez_ifF (zt_nlt (a := s) (b := 0) (by omega) (by omega)) ?_
    refine ez_go ez_h34 5 (pc' := bif decide ((nI (600)) ≤ (nI (s))) then 22 else 13) (L' := [some (.ref 1), some (.int (nI (s)))]) (st' := []) (w' := cz_w r q u b) rfl ?_
    refine ez_ifF (zt_nle (a := 600) (b := s) (by omega) (by omega)) ?_
    refine ez_go ez_h34 3 (pc' := 18) (L' := [some (.ref 1), some (.int (nI (s)))]) (st' := [.int (nI (s)), .ref 7]) (w' := cz_w r q u b) rfl ?_
    refine ez_ald ez_h34 rfl rfl (s) rfl (by omega) (by omega) ?_
    refine ez_go ez_h34 1 (pc' := 23) (L' := [some (.ref 1), some (.int (nI (s)))]) (st' := [.int (r.2.2.2.2.2.2.1 s)]) (w' := cz_w r q u b) rfl ?_
    refine ez_iret rfl ez_h34 rfl rfl ?_
    refine ez_go ez_h61 1 (pc' := 13) (L' := [some (.ref 0), some (.int (nI (0))), some (.int (nI (s))), some (.int (nI (t))), none, none, none, none]) (st' := [.long ((r.2.2.2.2.2.2.1 s).toInt64), .ref 1]) (w' := cz_w r q u b) rfl ?_
    refine ez_cl ez_h61 rfl rfl ?_
    refine zo_key r q u b _ ho ?_
    refine ez_go ez_h61 6 (pc' := 27) (L' := [some (.ref 0), some (.int (nI (0))), some (.int (nI (s))), some (.int (nI (t))), some (.long (zk_key r.2.1 ((r.2.2.2.2.2.2.1 s).toInt64))), none, none, none]) (st' := [.int (nI (t)), .ref 1, .ref 1]) (w' := cz_w r q u b) rfl ?_
    refine ez_cl ez_h61 rfl rfl ?_
    refine ez_m.of (L := [some (.ref 1), some (.int (nI (t)))]) rfl rfl rfl ?_
    refine ez_go ez_h34 2 (pc' := bif decide ((nI (t)) < (nI 0)) then 22 else 4) (L' := [some (.ref 1), some (.int (nI (t)))]) (st' := []) (w' := cz_w r q u b) rfl ?_
    refine ez_ifF (zt_nlt (a := t) (b := 0) (by omega) (by omega)) ?_
    refine ez_go ez_h34 5 (pc' := bif decide ((nI (600)) ≤ (nI (t))) then 22 else 13) (L' := [some (.ref 1), some (.int (nI (t)))]) (st' := []) (w' := cz_w r q u b) rfl ?_
    refine ez_ifF (zt_nle (a := 600) (b := t) (by omega) (by omega)) ?_
    refine ez_go ez_h34 3 (pc' := 18) (L' := [some (.ref 1), some (.int (nI (t)))]) (st' := [.int (nI (t)), .ref 7]) (w' := cz_w r q u b) rfl ?_
    refine ez_ald ez_h34 rfl rfl (t) rfl (by omega) (by omega) ?_
    refine ez_go ez_h34 1 (pc' := 23) (L' := [some (.ref 1), some (.int (nI (t)))]) (st' := [.int (r.2.2.2.2.2.2.1 t)]) (w' := cz_w r q u b) rfl ?_
    refine ez_iret rfl ez_h34 rfl rfl ?_
    refine ez_go ez_h61 1 (pc' := 31) (L' := [some (.ref 0), some (.int (nI (0))), some (.int (nI (s))), some (.int (nI (t))), some (.long (zk_key r.2.1 ((r.2.2.2.2.2.2.1 s).toInt64))), none, none, none]) (st' := [.long ((r.2.2.2.2.2.2.1 t).toInt64), .ref 1]) (w' := cz_w r q u b) rfl ?_
    refine ez_cl ez_h61 rfl rfl ?_
    refine zo_key r q u b _ ho ?_
    refine ez_go ez_h61 7 (pc' := bif decide ((lg_cmp (zk_key r.2.1 ((r.2.2.2.2.2.2.1 t).toInt64)) (zk_key r.2.1 ((r.2.2.2.2.2.2.1 s).toInt64))) < (nI 0)) then 76 else 72) (L' := [some (.ref 0), some (.int (nI (0))), some (.int (nI (s))), some (.int (nI (t))), some (.long (zk_key r.2.1 ((r.2.2.2.2.2.2.1 s).toInt64))), none, some (.long (zk_key r.2.1 ((r.2.2.2.2.2.2.1 t).toInt64))), none]) (st' := []) (w' := cz_w r q u b) rfl ?_
    refine ez_ifF (fun z => Int64.not_lt.mpr hc ((lg_cmp_lt _ _).mp z)) ?_
    refine ez_go ez_h61 2 (pc' := 77) (L' := [some (.ref 0), some (.int (nI (0))), some (.int (nI (s))), some (.int (nI (t))), some (.long (zk_key r.2.1 ((r.2.2.2.2.2.2.1 s).toInt64))), none, some (.long (zk_key r.2.1 ((r.2.2.2.2.2.2.1 t).toInt64))), none]) (st' := [.int (nI (1))]) (w' := cz_w r q u b) rfl ?_
    refine ez_zret rfl ez_h61 rfl rfl (by decide) ?_
    exact kk
  · rw [show zo_F 0 (zk_key r.2.1 (r.2.2.2.2.2.2.1 s).toInt64) (zk_key r.2.1 (r.2.2.2.2.2.2.1 t).toInt64) s t = false from decide_eq_false hc] at kk
    refine ez_m.of (L := [some (.ref 0), some (.int (nI (0))), some (.int (nI (s))), some (.int (nI (t))), none, none, none, none]) rfl rfl rfl ?_
    refine ez_go ez_h61 5 (pc' := 9) (L' := [some (.ref 0), some (.int (nI (0))), some (.int (nI (s))), some (.int (nI (t))), none, none, none, none]) (st' := [.int (nI (s)), .ref 1, .ref 1]) (w' := cz_w r q u b) rfl ?_
    refine ez_cl ez_h61 rfl rfl ?_
    refine ez_m.of (L := [some (.ref 1), some (.int (nI (s)))]) rfl rfl rfl ?_
    refine ez_go ez_h34 2 (pc' := bif decide ((nI (s)) < (nI 0)) then 22 else 4) (L' := [some (.ref 1), some (.int (nI (s)))]) (st' := []) (w' := cz_w r q u b) rfl ?_
    refine ez_ifF (zt_nlt (a := s) (b := 0) (by omega) (by omega)) ?_
    refine ez_go ez_h34 5 (pc' := bif decide ((nI (600)) ≤ (nI (s))) then 22 else 13) (L' := [some (.ref 1), some (.int (nI (s)))]) (st' := []) (w' := cz_w r q u b) rfl ?_
    refine ez_ifF (zt_nle (a := 600) (b := s) (by omega) (by omega)) ?_
    refine ez_go ez_h34 3 (pc' := 18) (L' := [some (.ref 1), some (.int (nI (s)))]) (st' := [.int (nI (s)), .ref 7]) (w' := cz_w r q u b) rfl ?_
    refine ez_ald ez_h34 rfl rfl (s) rfl (by omega) (by omega) ?_
    refine ez_go ez_h34 1 (pc' := 23) (L' := [some (.ref 1), some (.int (nI (s)))]) (st' := [.int (r.2.2.2.2.2.2.1 s)]) (w' := cz_w r q u b) rfl ?_
    refine ez_iret rfl ez_h34 rfl rfl ?_
    refine ez_go ez_h61 1 (pc' := 13) (L' := [some (.ref 0), some (.int (nI (0))), some (.int (nI (s))), some (.int (nI (t))), none, none, none, none]) (st' := [.long ((r.2.2.2.2.2.2.1 s).toInt64), .ref 1]) (w' := cz_w r q u b) rfl ?_
    refine ez_cl ez_h61 rfl rfl ?_
    refine zo_key r q u b _ ho ?_
    refine ez_go ez_h61 6 (pc' := 27) (L' := [some (.ref 0), some (.int (nI (0))), some (.int (nI (s))), some (.int (nI (t))), some (.long (zk_key r.2.1 ((r.2.2.2.2.2.2.1 s).toInt64))), none, none, none]) (st' := [.int (nI (t)), .ref 1, .ref 1]) (w' := cz_w r q u b) rfl ?_
    refine ez_cl ez_h61 rfl rfl ?_
    refine ez_m.of (L := [some (.ref 1), some (.int (nI (t)))]) rfl rfl rfl ?_
    refine ez_go ez_h34 2 (pc' := bif decide ((nI (t)) < (nI 0)) then 22 else 4) (L' := [some (.ref 1), some (.int (nI (t)))]) (st' := []) (w' := cz_w r q u b) rfl ?_
    refine ez_ifF (zt_nlt (a := t) (b := 0) (by omega) (by omega)) ?_
    refine ez_go ez_h34 5 (pc' := bif decide ((nI (600)) ≤ (nI (t))) then 22 else 13) (L' := [some (.ref 1), some (.int (nI (t)))]) (st' := []) (w' := cz_w r q u b) rfl ?_
    refine ez_ifF (zt_nle (a := 600) (b := t) (by omega) (by omega)) ?_
    refine ez_go ez_h34 3 (pc' := 18) (L' := [some (.ref 1), some (.int (nI (t)))]) (st' := [.int (nI (t)), .ref 7]) (w' := cz_w r q u b) rfl ?_
    refine ez_ald ez_h34 rfl rfl (t) rfl (by omega) (by omega) ?_
    refine ez_go ez_h34 1 (pc' := 23) (L' := [some (.ref 1), some (.int (nI (t)))]) (st' := [.int (r.2.2.2.2.2.2.1 t)]) (w' := cz_w r q u b) rfl ?_
    refine ez_iret rfl ez_h34 rfl rfl ?_
    refine ez_go ez_h61 1 (pc' := 31) (L' := [some (.ref 0), some (.int (nI (0))), some (.int (nI (s))), some (.int (nI (t))), some (.long (zk_key r.2.1 ((r.2.2.2.2.2.2.1 s).toInt64))), none, none, none]) (st' := [.long ((r.2.2.2.2.2.2.1 t).toInt64), .ref 1]) (w' := cz_w r q u b) rfl ?_
    refine ez_cl ez_h61 rfl rfl ?_
    refine zo_key r q u b _ ho ?_
    refine ez_go ez_h61 7 (pc' := bif decide ((lg_cmp (zk_key r.2.1 ((r.2.2.2.2.2.2.1 t).toInt64)) (zk_key r.2.1 ((r.2.2.2.2.2.2.1 s).toInt64))) < (nI 0)) then 76 else 72) (L' := [some (.ref 0), some (.int (nI (0))), some (.int (nI (s))), some (.int (nI (t))), some (.long (zk_key r.2.1 ((r.2.2.2.2.2.2.1 s).toInt64))), none, some (.long (zk_key r.2.1 ((r.2.2.2.2.2.2.1 t).toInt64))), none]) (st' := []) (w' := cz_w r q u b) rfl ?_
    refine ez_ifT ((lg_cmp_lt _ _).mpr (Int64.not_le.mp hc)) ?_
    refine ez_go ez_h61 1 (pc' := 77) (L' := [some (.ref 0), some (.int (nI (0))), some (.int (nI (s))), some (.int (nI (t))), some (.long (zk_key r.2.1 ((r.2.2.2.2.2.2.1 s).toInt64))), none, some (.long (zk_key r.2.1 ((r.2.2.2.2.2.2.1 t).toInt64))), none]) (st' := [.int (nI (0))]) (w' := cz_w r q u b) rfl ?_
    refine ez_zret rfl ez_h61 rfl rfl (by decide) ?_
    exact kk
theorem zo_fol1 (r : cz_Row) (q : cz_Qk) (u : cz_Rn) (b : cz_Bn) (ho : ze_or r.2.1) {s t : Nat} (hs : s < 600) (ht : t < 600) {post : Option Value → ez_W → Prop} (kk : post (some (.int (zs_z (zo_F 1 (zk_key r.2.1 (r.2.2.2.2.2.2.1 s).toInt64) (zk_key r.2.1 (r.2.2.2.2.2.2.1 t).toInt64) s t)))) (cz_w r q u b)) : ez_m 61 [.ref 0, .int (nI 1), .int (nI s), .int (nI t)] (cz_w r q u b) post := by
  by_cases hc : (zk_key r.2.1 (r.2.2.2.2.2.2.1 s).toInt64) < (zk_key r.2.1 (r.2.2.2.2.2.2.1 t).toInt64)
  · rw [show zo_F 1 (zk_key r.2.1 (r.2.2.2.2.2.2.1 s).toInt64) (zk_key r.2.1 (r.2.2.2.2.2.2.1 t).toInt64) s t = true from decide_eq_true (Or.inl hc)] at kk
    refine ez_m.of (L := [some (.ref 0), some (.int (nI (1))), some (.int (nI (s))), some (.int (nI (t))), none, none, none, none]) rfl rfl rfl ?_
    refine ez_go ez_h61 5 (pc' := 9) (L' := [some (.ref 0), some (.int (nI (1))), some (.int (nI (s))), some (.int (nI (t))), none, none, none, none]) (st' := [.int (nI (s)), .ref 1, .ref 1]) (w' := cz_w r q u b) rfl ?_
    refine ez_cl ez_h61 rfl rfl ?_
    refine ez_m.of (L := [some (.ref 1), some (.int (nI (s)))]) rfl rfl rfl ?_
    refine ez_go ez_h34 2 (pc' := bif decide ((nI (s)) < (nI 0)) then 22 else 4) (L' := [some (.ref 1), some (.int (nI (s)))]) (st' := []) (w' := cz_w r q u b) rfl ?_
    refine ez_ifF (zt_nlt (a := s) (b := 0) (by omega) (by omega)) ?_
    refine ez_go ez_h34 5 (pc' := bif decide ((nI (600)) ≤ (nI (s))) then 22 else 13) (L' := [some (.ref 1), some (.int (nI (s)))]) (st' := []) (w' := cz_w r q u b) rfl ?_
    refine ez_ifF (zt_nle (a := 600) (b := s) (by omega) (by omega)) ?_
    refine ez_go ez_h34 3 (pc' := 18) (L' := [some (.ref 1), some (.int (nI (s)))]) (st' := [.int (nI (s)), .ref 7]) (w' := cz_w r q u b) rfl ?_
    refine ez_ald ez_h34 rfl rfl (s) rfl (by omega) (by omega) ?_
    refine ez_go ez_h34 1 (pc' := 23) (L' := [some (.ref 1), some (.int (nI (s)))]) (st' := [.int (r.2.2.2.2.2.2.1 s)]) (w' := cz_w r q u b) rfl ?_
    refine ez_iret rfl ez_h34 rfl rfl ?_
    refine ez_go ez_h61 1 (pc' := 13) (L' := [some (.ref 0), some (.int (nI (1))), some (.int (nI (s))), some (.int (nI (t))), none, none, none, none]) (st' := [.long ((r.2.2.2.2.2.2.1 s).toInt64), .ref 1]) (w' := cz_w r q u b) rfl ?_
    refine ez_cl ez_h61 rfl rfl ?_
    refine zo_key r q u b _ ho ?_
    refine ez_go ez_h61 6 (pc' := 27) (L' := [some (.ref 0), some (.int (nI (1))), some (.int (nI (s))), some (.int (nI (t))), some (.long (zk_key r.2.1 ((r.2.2.2.2.2.2.1 s).toInt64))), none, none, none]) (st' := [.int (nI (t)), .ref 1, .ref 1]) (w' := cz_w r q u b) rfl ?_
    refine ez_cl ez_h61 rfl rfl ?_
    refine ez_m.of (L := [some (.ref 1), some (.int (nI (t)))]) rfl rfl rfl ?_
    refine ez_go ez_h34 2 (pc' := bif decide ((nI (t)) < (nI 0)) then 22 else 4) (L' := [some (.ref 1), some (.int (nI (t)))]) (st' := []) (w' := cz_w r q u b) rfl ?_
    refine ez_ifF (zt_nlt (a := t) (b := 0) (by omega) (by omega)) ?_
    refine ez_go ez_h34 5 (pc' := bif decide ((nI (600)) ≤ (nI (t))) then 22 else 13) (L' := [some (.ref 1), some (.int (nI (t)))]) (st' := []) (w' := cz_w r q u b) rfl ?_
    refine ez_ifF (zt_nle (a := 600) (b := t) (by omega) (by omega)) ?_
    refine ez_go ez_h34 3 (pc' := 18) (L' := [some (.ref 1), some (.int (nI (t)))]) (st' := [.int (nI (t)), .ref 7]) (w' := cz_w r q u b) rfl ?_
    refine ez_ald ez_h34 rfl rfl (t) rfl (by omega) (by omega) ?_
    refine ez_go ez_h34 1 (pc' := 23) (L' := [some (.ref 1), some (.int (nI (t)))]) (st' := [.int (r.2.2.2.2.2.2.1 t)]) (w' := cz_w r q u b) rfl ?_
    refine ez_iret rfl ez_h34 rfl rfl ?_
    refine ez_go ez_h61 1 (pc' := 31) (L' := [some (.ref 0), some (.int (nI (1))), some (.int (nI (s))), some (.int (nI (t))), some (.long (zk_key r.2.1 ((r.2.2.2.2.2.2.1 s).toInt64))), none, none, none]) (st' := [.long ((r.2.2.2.2.2.2.1 t).toInt64), .ref 1]) (w' := cz_w r q u b) rfl ?_
    refine ez_cl ez_h61 rfl rfl ?_
    refine zo_key r q u b _ ho ?_
    refine ez_go ez_h61 7 (pc' := bif decide ((nI 0) < (lg_cmp (zk_key r.2.1 ((r.2.2.2.2.2.2.1 t).toInt64)) (zk_key r.2.1 ((r.2.2.2.2.2.2.1 s).toInt64)))) then 99 else 86) (L' := [some (.ref 0), some (.int (nI (1))), some (.int (nI (s))), some (.int (nI (t))), some (.long (zk_key r.2.1 ((r.2.2.2.2.2.2.1 s).toInt64))), none, some (.long (zk_key r.2.1 ((r.2.2.2.2.2.2.1 t).toInt64))), none]) (st' := []) (w' := cz_w r q u b) rfl ?_
    refine ez_ifT ((lg_cmp_gt _ _).mpr hc) ?_
    refine ez_go ez_h61 2 (pc' := 104) (L' := [some (.ref 0), some (.int (nI (1))), some (.int (nI (s))), some (.int (nI (t))), some (.long (zk_key r.2.1 ((r.2.2.2.2.2.2.1 s).toInt64))), none, some (.long (zk_key r.2.1 ((r.2.2.2.2.2.2.1 t).toInt64))), none]) (st' := [.int (nI (1))]) (w' := cz_w r q u b) rfl ?_
    refine ez_zret rfl ez_h61 rfl rfl (by decide) ?_
    exact kk
  · by_cases hd : (zk_key r.2.1 (r.2.2.2.2.2.2.1 s).toInt64) = (zk_key r.2.1 (r.2.2.2.2.2.2.1 t).toInt64)
    · by_cases hst : s < t
      · rw [show zo_F 1 (zk_key r.2.1 (r.2.2.2.2.2.2.1 s).toInt64) (zk_key r.2.1 (r.2.2.2.2.2.2.1 t).toInt64) s t = true from decide_eq_true (Or.inr ⟨hd, hst⟩)] at kk
        refine ez_m.of (L := [some (.ref 0), some (.int (nI (1))), some (.int (nI (s))), some (.int (nI (t))), none, none, none, none]) rfl rfl rfl ?_
        refine ez_go ez_h61 5 (pc' := 9) (L' := [some (.ref 0), some (.int (nI (1))), some (.int (nI (s))), some (.int (nI (t))), none, none, none, none]) (st' := [.int (nI (s)), .ref 1, .ref 1]) (w' := cz_w r q u b) rfl ?_
        refine ez_cl ez_h61 rfl rfl ?_
        refine ez_m.of (L := [some (.ref 1), some (.int (nI (s)))]) rfl rfl rfl ?_
        refine ez_go ez_h34 2 (pc' := bif decide ((nI (s)) < (nI 0)) then 22 else 4) (L' := [some (.ref 1), some (.int (nI (s)))]) (st' := []) (w' := cz_w r q u b) rfl ?_
        refine ez_ifF (zt_nlt (a := s) (b := 0) (by omega) (by omega)) ?_
        refine ez_go ez_h34 5 (pc' := bif decide ((nI (600)) ≤ (nI (s))) then 22 else 13) (L' := [some (.ref 1), some (.int (nI (s)))]) (st' := []) (w' := cz_w r q u b) rfl ?_
        refine ez_ifF (zt_nle (a := 600) (b := s) (by omega) (by omega)) ?_
        refine ez_go ez_h34 3 (pc' := 18) (L' := [some (.ref 1), some (.int (nI (s)))]) (st' := [.int (nI (s)), .ref 7]) (w' := cz_w r q u b) rfl ?_
        refine ez_ald ez_h34 rfl rfl (s) rfl (by omega) (by omega) ?_
        refine ez_go ez_h34 1 (pc' := 23) (L' := [some (.ref 1), some (.int (nI (s)))]) (st' := [.int (r.2.2.2.2.2.2.1 s)]) (w' := cz_w r q u b) rfl ?_
        refine ez_iret rfl ez_h34 rfl rfl ?_
        refine ez_go ez_h61 1 (pc' := 13) (L' := [some (.ref 0), some (.int (nI (1))), some (.int (nI (s))), some (.int (nI (t))), none, none, none, none]) (st' := [.long ((r.2.2.2.2.2.2.1 s).toInt64), .ref 1]) (w' := cz_w r q u b) rfl ?_
        refine ez_cl ez_h61 rfl rfl ?_
        refine zo_key r q u b _ ho ?_
        refine ez_go ez_h61 6 (pc' := 27) (L' := [some (.ref 0), some (.int (nI (1))), some (.int (nI (s))), some (.int (nI (t))), some (.long (zk_key r.2.1 ((r.2.2.2.2.2.2.1 s).toInt64))), none, none, none]) (st' := [.int (nI (t)), .ref 1, .ref 1]) (w' := cz_w r q u b) rfl ?_
        refine ez_cl ez_h61 rfl rfl ?_
        refine ez_m.of (L := [some (.ref 1), some (.int (nI (t)))]) rfl rfl rfl ?_
        refine ez_go ez_h34 2 (pc' := bif decide ((nI (t)) < (nI 0)) then 22 else 4) (L' := [some (.ref 1), some (.int (nI (t)))]) (st' := []) (w' := cz_w r q u b) rfl ?_
        refine ez_ifF (zt_nlt (a := t) (b := 0) (by omega) (by omega)) ?_
        refine ez_go ez_h34 5 (pc' := bif decide ((nI (600)) ≤ (nI (t))) then 22 else 13) (L' := [some (.ref 1), some (.int (nI (t)))]) (st' := []) (w' := cz_w r q u b) rfl ?_
        refine ez_ifF (zt_nle (a := 600) (b := t) (by omega) (by omega)) ?_
        refine ez_go ez_h34 3 (pc' := 18) (L' := [some (.ref 1), some (.int (nI (t)))]) (st' := [.int (nI (t)), .ref 7]) (w' := cz_w r q u b) rfl ?_
        refine ez_ald ez_h34 rfl rfl (t) rfl (by omega) (by omega) ?_
        refine ez_go ez_h34 1 (pc' := 23) (L' := [some (.ref 1), some (.int (nI (t)))]) (st' := [.int (r.2.2.2.2.2.2.1 t)]) (w' := cz_w r q u b) rfl ?_
        refine ez_iret rfl ez_h34 rfl rfl ?_
        refine ez_go ez_h61 1 (pc' := 31) (L' := [some (.ref 0), some (.int (nI (1))), some (.int (nI (s))), some (.int (nI (t))), some (.long (zk_key r.2.1 ((r.2.2.2.2.2.2.1 s).toInt64))), none, none, none]) (st' := [.long ((r.2.2.2.2.2.2.1 t).toInt64), .ref 1]) (w' := cz_w r q u b) rfl ?_
        refine ez_cl ez_h61 rfl rfl ?_
        refine zo_key r q u b _ ho ?_
        refine ez_go ez_h61 7 (pc' := bif decide ((nI 0) < (lg_cmp (zk_key r.2.1 ((r.2.2.2.2.2.2.1 t).toInt64)) (zk_key r.2.1 ((r.2.2.2.2.2.2.1 s).toInt64)))) then 99 else 86) (L' := [some (.ref 0), some (.int (nI (1))), some (.int (nI (s))), some (.int (nI (t))), some (.long (zk_key r.2.1 ((r.2.2.2.2.2.2.1 s).toInt64))), none, some (.long (zk_key r.2.1 ((r.2.2.2.2.2.2.1 t).toInt64))), none]) (st' := []) (w' := cz_w r q u b) rfl ?_
        refine ez_ifF (fun z => hc ((lg_cmp_gt _ _).mp z)) ?_
        refine ez_go ez_h61 4 (pc' := bif decide (¬ (lg_cmp (zk_key r.2.1 ((r.2.2.2.2.2.2.1 t).toInt64)) (zk_key r.2.1 ((r.2.2.2.2.2.2.1 s).toInt64))) = (nI 0)) then 103 else 94) (L' := [some (.ref 0), some (.int (nI (1))), some (.int (nI (s))), some (.int (nI (t))), some (.long (zk_key r.2.1 ((r.2.2.2.2.2.2.1 s).toInt64))), none, some (.long (zk_key r.2.1 ((r.2.2.2.2.2.2.1 t).toInt64))), none]) (st' := []) (w' := cz_w r q u b) rfl ?_
        refine ez_ifF (fun z => z ((lg_cmp_eq _ _).mpr hd.symm)) ?_
        refine ez_go ez_h61 3 (pc' := bif decide ((nI (t)) ≤ (nI (s))) then 103 else 99) (L' := [some (.ref 0), some (.int (nI (1))), some (.int (nI (s))), some (.int (nI (t))), some (.long (zk_key r.2.1 ((r.2.2.2.2.2.2.1 s).toInt64))), none, some (.long (zk_key r.2.1 ((r.2.2.2.2.2.2.1 t).toInt64))), none]) (st' := []) (w' := cz_w r q u b) rfl ?_
        refine ez_ifF (zt_nle (a := t) (b := s) (by omega) (by omega)) ?_
        refine ez_go ez_h61 2 (pc' := 104) (L' := [some (.ref 0), some (.int (nI (1))), some (.int (nI (s))), some (.int (nI (t))), some (.long (zk_key r.2.1 ((r.2.2.2.2.2.2.1 s).toInt64))), none, some (.long (zk_key r.2.1 ((r.2.2.2.2.2.2.1 t).toInt64))), none]) (st' := [.int (nI (1))]) (w' := cz_w r q u b) rfl ?_
        refine ez_zret rfl ez_h61 rfl rfl (by decide) ?_
        exact kk
      · rw [show zo_F 1 (zk_key r.2.1 (r.2.2.2.2.2.2.1 s).toInt64) (zk_key r.2.1 (r.2.2.2.2.2.2.1 t).toInt64) s t = false from decide_eq_false (fun z => z.elim hc (fun z => hst z.2))] at kk
        refine ez_m.of (L := [some (.ref 0), some (.int (nI (1))), some (.int (nI (s))), some (.int (nI (t))), none, none, none, none]) rfl rfl rfl ?_
        refine ez_go ez_h61 5 (pc' := 9) (L' := [some (.ref 0), some (.int (nI (1))), some (.int (nI (s))), some (.int (nI (t))), none, none, none, none]) (st' := [.int (nI (s)), .ref 1, .ref 1]) (w' := cz_w r q u b) rfl ?_
        refine ez_cl ez_h61 rfl rfl ?_
        refine ez_m.of (L := [some (.ref 1), some (.int (nI (s)))]) rfl rfl rfl ?_
        refine ez_go ez_h34 2 (pc' := bif decide ((nI (s)) < (nI 0)) then 22 else 4) (L' := [some (.ref 1), some (.int (nI (s)))]) (st' := []) (w' := cz_w r q u b) rfl ?_
        refine ez_ifF (zt_nlt (a := s) (b := 0) (by omega) (by omega)) ?_
        refine ez_go ez_h34 5 (pc' := bif decide ((nI (600)) ≤ (nI (s))) then 22 else 13) (L' := [some (.ref 1), some (.int (nI (s)))]) (st' := []) (w' := cz_w r q u b) rfl ?_
        refine ez_ifF (zt_nle (a := 600) (b := s) (by omega) (by omega)) ?_
        refine ez_go ez_h34 3 (pc' := 18) (L' := [some (.ref 1), some (.int (nI (s)))]) (st' := [.int (nI (s)), .ref 7]) (w' := cz_w r q u b) rfl ?_
        refine ez_ald ez_h34 rfl rfl (s) rfl (by omega) (by omega) ?_
        refine ez_go ez_h34 1 (pc' := 23) (L' := [some (.ref 1), some (.int (nI (s)))]) (st' := [.int (r.2.2.2.2.2.2.1 s)]) (w' := cz_w r q u b) rfl ?_
        refine ez_iret rfl ez_h34 rfl rfl ?_
        refine ez_go ez_h61 1 (pc' := 13) (L' := [some (.ref 0), some (.int (nI (1))), some (.int (nI (s))), some (.int (nI (t))), none, none, none, none]) (st' := [.long ((r.2.2.2.2.2.2.1 s).toInt64), .ref 1]) (w' := cz_w r q u b) rfl ?_
        refine ez_cl ez_h61 rfl rfl ?_
        refine zo_key r q u b _ ho ?_
        refine ez_go ez_h61 6 (pc' := 27) (L' := [some (.ref 0), some (.int (nI (1))), some (.int (nI (s))), some (.int (nI (t))), some (.long (zk_key r.2.1 ((r.2.2.2.2.2.2.1 s).toInt64))), none, none, none]) (st' := [.int (nI (t)), .ref 1, .ref 1]) (w' := cz_w r q u b) rfl ?_
        refine ez_cl ez_h61 rfl rfl ?_
        refine ez_m.of (L := [some (.ref 1), some (.int (nI (t)))]) rfl rfl rfl ?_
        refine ez_go ez_h34 2 (pc' := bif decide ((nI (t)) < (nI 0)) then 22 else 4) (L' := [some (.ref 1), some (.int (nI (t)))]) (st' := []) (w' := cz_w r q u b) rfl ?_
        refine ez_ifF (zt_nlt (a := t) (b := 0) (by omega) (by omega)) ?_
        refine ez_go ez_h34 5 (pc' := bif decide ((nI (600)) ≤ (nI (t))) then 22 else 13) (L' := [some (.ref 1), some (.int (nI (t)))]) (st' := []) (w' := cz_w r q u b) rfl ?_
        refine ez_ifF (zt_nle (a := 600) (b := t) (by omega) (by omega)) ?_
        refine ez_go ez_h34 3 (pc' := 18) (L' := [some (.ref 1), some (.int (nI (t)))]) (st' := [.int (nI (t)), .ref 7]) (w' := cz_w r q u b) rfl ?_
        refine ez_ald ez_h34 rfl rfl (t) rfl (by omega) (by omega) ?_
        refine ez_go ez_h34 1 (pc' := 23) (L' := [some (.ref 1), some (.int (nI (t)))]) (st' := [.int (r.2.2.2.2.2.2.1 t)]) (w' := cz_w r q u b) rfl ?_
        refine ez_iret rfl ez_h34 rfl rfl ?_
        refine ez_go ez_h61 1 (pc' := 31) (L' := [some (.ref 0), some (.int (nI (1))), some (.int (nI (s))), some (.int (nI (t))), some (.long (zk_key r.2.1 ((r.2.2.2.2.2.2.1 s).toInt64))), none, none, none]) (st' := [.long ((r.2.2.2.2.2.2.1 t).toInt64), .ref 1]) (w' := cz_w r q u b) rfl ?_
        refine ez_cl ez_h61 rfl rfl ?_
        refine zo_key r q u b _ ho ?_
        refine ez_go ez_h61 7 (pc' := bif decide ((nI 0) < (lg_cmp (zk_key r.2.1 ((r.2.2.2.2.2.2.1 t).toInt64)) (zk_key r.2.1 ((r.2.2.2.2.2.2.1 s).toInt64)))) then 99 else 86) (L' := [some (.ref 0), some (.int (nI (1))), some (.int (nI (s))), some (.int (nI (t))), some (.long (zk_key r.2.1 ((r.2.2.2.2.2.2.1 s).toInt64))), none, some (.long (zk_key r.2.1 ((r.2.2.2.2.2.2.1 t).toInt64))), none]) (st' := []) (w' := cz_w r q u b) rfl ?_
        refine ez_ifF (fun z => hc ((lg_cmp_gt _ _).mp z)) ?_
        refine ez_go ez_h61 4 (pc' := bif decide (¬ (lg_cmp (zk_key r.2.1 ((r.2.2.2.2.2.2.1 t).toInt64)) (zk_key r.2.1 ((r.2.2.2.2.2.2.1 s).toInt64))) = (nI 0)) then 103 else 94) (L' := [some (.ref 0), some (.int (nI (1))), some (.int (nI (s))), some (.int (nI (t))), some (.long (zk_key r.2.1 ((r.2.2.2.2.2.2.1 s).toInt64))), none, some (.long (zk_key r.2.1 ((r.2.2.2.2.2.2.1 t).toInt64))), none]) (st' := []) (w' := cz_w r q u b) rfl ?_
        refine ez_ifF (fun z => z ((lg_cmp_eq _ _).mpr hd.symm)) ?_
        refine ez_go ez_h61 3 (pc' := bif decide ((nI (t)) ≤ (nI (s))) then 103 else 99) (L' := [some (.ref 0), some (.int (nI (1))), some (.int (nI (s))), some (.int (nI (t))), some (.long (zk_key r.2.1 ((r.2.2.2.2.2.2.1 s).toInt64))), none, some (.long (zk_key r.2.1 ((r.2.2.2.2.2.2.1 t).toInt64))), none]) (st' := []) (w' := cz_w r q u b) rfl ?_
        refine ez_ifT (zt_le (a := t) (b := s) (by omega) (by omega)) ?_
        refine ez_go ez_h61 1 (pc' := 104) (L' := [some (.ref 0), some (.int (nI (1))), some (.int (nI (s))), some (.int (nI (t))), some (.long (zk_key r.2.1 ((r.2.2.2.2.2.2.1 s).toInt64))), none, some (.long (zk_key r.2.1 ((r.2.2.2.2.2.2.1 t).toInt64))), none]) (st' := [.int (nI (0))]) (w' := cz_w r q u b) rfl ?_
        refine ez_zret rfl ez_h61 rfl rfl (by decide) ?_
        exact kk
    · rw [show zo_F 1 (zk_key r.2.1 (r.2.2.2.2.2.2.1 s).toInt64) (zk_key r.2.1 (r.2.2.2.2.2.2.1 t).toInt64) s t = false from decide_eq_false (fun z => z.elim hc (fun z => hd z.1))] at kk
      refine ez_m.of (L := [some (.ref 0), some (.int (nI (1))), some (.int (nI (s))), some (.int (nI (t))), none, none, none, none]) rfl rfl rfl ?_
      refine ez_go ez_h61 5 (pc' := 9) (L' := [some (.ref 0), some (.int (nI (1))), some (.int (nI (s))), some (.int (nI (t))), none, none, none, none]) (st' := [.int (nI (s)), .ref 1, .ref 1]) (w' := cz_w r q u b) rfl ?_
      refine ez_cl ez_h61 rfl rfl ?_
      refine ez_m.of (L := [some (.ref 1), some (.int (nI (s)))]) rfl rfl rfl ?_
      refine ez_go ez_h34 2 (pc' := bif decide ((nI (s)) < (nI 0)) then 22 else 4) (L' := [some (.ref 1), some (.int (nI (s)))]) (st' := []) (w' := cz_w r q u b) rfl ?_
      refine ez_ifF (zt_nlt (a := s) (b := 0) (by omega) (by omega)) ?_
      refine ez_go ez_h34 5 (pc' := bif decide ((nI (600)) ≤ (nI (s))) then 22 else 13) (L' := [some (.ref 1), some (.int (nI (s)))]) (st' := []) (w' := cz_w r q u b) rfl ?_
      refine ez_ifF (zt_nle (a := 600) (b := s) (by omega) (by omega)) ?_
      refine ez_go ez_h34 3 (pc' := 18) (L' := [some (.ref 1), some (.int (nI (s)))]) (st' := [.int (nI (s)), .ref 7]) (w' := cz_w r q u b) rfl ?_
      refine ez_ald ez_h34 rfl rfl (s) rfl (by omega) (by omega) ?_
      refine ez_go ez_h34 1 (pc' := 23) (L' := [some (.ref 1), some (.int (nI (s)))]) (st' := [.int (r.2.2.2.2.2.2.1 s)]) (w' := cz_w r q u b) rfl ?_
      refine ez_iret rfl ez_h34 rfl rfl ?_
      refine ez_go ez_h61 1 (pc' := 13) (L' := [some (.ref 0), some (.int (nI (1))), some (.int (nI (s))), some (.int (nI (t))), none, none, none, none]) (st' := [.long ((r.2.2.2.2.2.2.1 s).toInt64), .ref 1]) (w' := cz_w r q u b) rfl ?_
      refine ez_cl ez_h61 rfl rfl ?_
      refine zo_key r q u b _ ho ?_
      refine ez_go ez_h61 6 (pc' := 27) (L' := [some (.ref 0), some (.int (nI (1))), some (.int (nI (s))), some (.int (nI (t))), some (.long (zk_key r.2.1 ((r.2.2.2.2.2.2.1 s).toInt64))), none, none, none]) (st' := [.int (nI (t)), .ref 1, .ref 1]) (w' := cz_w r q u b) rfl ?_
      refine ez_cl ez_h61 rfl rfl ?_
      refine ez_m.of (L := [some (.ref 1), some (.int (nI (t)))]) rfl rfl rfl ?_
      refine ez_go ez_h34 2 (pc' := bif decide ((nI (t)) < (nI 0)) then 22 else 4) (L' := [some (.ref 1), some (.int (nI (t)))]) (st' := []) (w' := cz_w r q u b) rfl ?_
      refine ez_ifF (zt_nlt (a := t) (b := 0) (by omega) (by omega)) ?_
      refine ez_go ez_h34 5 (pc' := bif decide ((nI (600)) ≤ (nI (t))) then 22 else 13) (L' := [some (.ref 1), some (.int (nI (t)))]) (st' := []) (w' := cz_w r q u b) rfl ?_
      refine ez_ifF (zt_nle (a := 600) (b := t) (by omega) (by omega)) ?_
      refine ez_go ez_h34 3 (pc' := 18) (L' := [some (.ref 1), some (.int (nI (t)))]) (st' := [.int (nI (t)), .ref 7]) (w' := cz_w r q u b) rfl ?_
      refine ez_ald ez_h34 rfl rfl (t) rfl (by omega) (by omega) ?_
      refine ez_go ez_h34 1 (pc' := 23) (L' := [some (.ref 1), some (.int (nI (t)))]) (st' := [.int (r.2.2.2.2.2.2.1 t)]) (w' := cz_w r q u b) rfl ?_
      refine ez_iret rfl ez_h34 rfl rfl ?_
      refine ez_go ez_h61 1 (pc' := 31) (L' := [some (.ref 0), some (.int (nI (1))), some (.int (nI (s))), some (.int (nI (t))), some (.long (zk_key r.2.1 ((r.2.2.2.2.2.2.1 s).toInt64))), none, none, none]) (st' := [.long ((r.2.2.2.2.2.2.1 t).toInt64), .ref 1]) (w' := cz_w r q u b) rfl ?_
      refine ez_cl ez_h61 rfl rfl ?_
      refine zo_key r q u b _ ho ?_
      refine ez_go ez_h61 7 (pc' := bif decide ((nI 0) < (lg_cmp (zk_key r.2.1 ((r.2.2.2.2.2.2.1 t).toInt64)) (zk_key r.2.1 ((r.2.2.2.2.2.2.1 s).toInt64)))) then 99 else 86) (L' := [some (.ref 0), some (.int (nI (1))), some (.int (nI (s))), some (.int (nI (t))), some (.long (zk_key r.2.1 ((r.2.2.2.2.2.2.1 s).toInt64))), none, some (.long (zk_key r.2.1 ((r.2.2.2.2.2.2.1 t).toInt64))), none]) (st' := []) (w' := cz_w r q u b) rfl ?_
      refine ez_ifF (fun z => hc ((lg_cmp_gt _ _).mp z)) ?_
      refine ez_go ez_h61 4 (pc' := bif decide (¬ (lg_cmp (zk_key r.2.1 ((r.2.2.2.2.2.2.1 t).toInt64)) (zk_key r.2.1 ((r.2.2.2.2.2.2.1 s).toInt64))) = (nI 0)) then 103 else 94) (L' := [some (.ref 0), some (.int (nI (1))), some (.int (nI (s))), some (.int (nI (t))), some (.long (zk_key r.2.1 ((r.2.2.2.2.2.2.1 s).toInt64))), none, some (.long (zk_key r.2.1 ((r.2.2.2.2.2.2.1 t).toInt64))), none]) (st' := []) (w' := cz_w r q u b) rfl ?_
      refine ez_ifT (fun z => hd ((lg_cmp_eq _ _).mp z).symm) ?_
      refine ez_go ez_h61 1 (pc' := 104) (L' := [some (.ref 0), some (.int (nI (1))), some (.int (nI (s))), some (.int (nI (t))), some (.long (zk_key r.2.1 ((r.2.2.2.2.2.2.1 s).toInt64))), none, some (.long (zk_key r.2.1 ((r.2.2.2.2.2.2.1 t).toInt64))), none]) (st' := [.int (nI (0))]) (w' := cz_w r q u b) rfl ?_
      refine ez_zret rfl ez_h61 rfl rfl (by decide) ?_
      exact kk
theorem zo_fol2 (r : cz_Row) (q : cz_Qk) (u : cz_Rn) (b : cz_Bn) (ho : ze_or r.2.1) {s t : Nat} (hs : s < 600) (ht : t < 600) {post : Option Value → ez_W → Prop} (kk : post (some (.int (zs_z (zo_F 2 (zk_key r.2.1 (r.2.2.2.2.2.2.1 s).toInt64) (zk_key r.2.1 (r.2.2.2.2.2.2.1 t).toInt64) s t)))) (cz_w r q u b)) : ez_m 61 [.ref 0, .int (nI 2), .int (nI s), .int (nI t)] (cz_w r q u b) post := by
  by_cases hc : (zk_key r.2.1 (r.2.2.2.2.2.2.1 t).toInt64) < (zk_key r.2.1 (r.2.2.2.2.2.2.1 s).toInt64)
  · rw [show zo_F 2 (zk_key r.2.1 (r.2.2.2.2.2.2.1 s).toInt64) (zk_key r.2.1 (r.2.2.2.2.2.2.1 t).toInt64) s t = true from decide_eq_true hc] at kk
    refine ez_m.of (L := [some (.ref 0), some (.int (nI (2))), some (.int (nI (s))), some (.int (nI (t))), none, none, none, none]) rfl rfl rfl ?_
    refine ez_go ez_h61 5 (pc' := 9) (L' := [some (.ref 0), some (.int (nI (2))), some (.int (nI (s))), some (.int (nI (t))), none, none, none, none]) (st' := [.int (nI (s)), .ref 1, .ref 1]) (w' := cz_w r q u b) rfl ?_
    refine ez_cl ez_h61 rfl rfl ?_
    refine ez_m.of (L := [some (.ref 1), some (.int (nI (s)))]) rfl rfl rfl ?_
    refine ez_go ez_h34 2 (pc' := bif decide ((nI (s)) < (nI 0)) then 22 else 4) (L' := [some (.ref 1), some (.int (nI (s)))]) (st' := []) (w' := cz_w r q u b) rfl ?_
    refine ez_ifF (zt_nlt (a := s) (b := 0) (by omega) (by omega)) ?_
    refine ez_go ez_h34 5 (pc' := bif decide ((nI (600)) ≤ (nI (s))) then 22 else 13) (L' := [some (.ref 1), some (.int (nI (s)))]) (st' := []) (w' := cz_w r q u b) rfl ?_
    refine ez_ifF (zt_nle (a := 600) (b := s) (by omega) (by omega)) ?_
    refine ez_go ez_h34 3 (pc' := 18) (L' := [some (.ref 1), some (.int (nI (s)))]) (st' := [.int (nI (s)), .ref 7]) (w' := cz_w r q u b) rfl ?_
    refine ez_ald ez_h34 rfl rfl (s) rfl (by omega) (by omega) ?_
    refine ez_go ez_h34 1 (pc' := 23) (L' := [some (.ref 1), some (.int (nI (s)))]) (st' := [.int (r.2.2.2.2.2.2.1 s)]) (w' := cz_w r q u b) rfl ?_
    refine ez_iret rfl ez_h34 rfl rfl ?_
    refine ez_go ez_h61 1 (pc' := 13) (L' := [some (.ref 0), some (.int (nI (2))), some (.int (nI (s))), some (.int (nI (t))), none, none, none, none]) (st' := [.long ((r.2.2.2.2.2.2.1 s).toInt64), .ref 1]) (w' := cz_w r q u b) rfl ?_
    refine ez_cl ez_h61 rfl rfl ?_
    refine zo_key r q u b _ ho ?_
    refine ez_go ez_h61 6 (pc' := 27) (L' := [some (.ref 0), some (.int (nI (2))), some (.int (nI (s))), some (.int (nI (t))), some (.long (zk_key r.2.1 ((r.2.2.2.2.2.2.1 s).toInt64))), none, none, none]) (st' := [.int (nI (t)), .ref 1, .ref 1]) (w' := cz_w r q u b) rfl ?_
    refine ez_cl ez_h61 rfl rfl ?_
    refine ez_m.of (L := [some (.ref 1), some (.int (nI (t)))]) rfl rfl rfl ?_
    refine ez_go ez_h34 2 (pc' := bif decide ((nI (t)) < (nI 0)) then 22 else 4) (L' := [some (.ref 1), some (.int (nI (t)))]) (st' := []) (w' := cz_w r q u b) rfl ?_
    refine ez_ifF (zt_nlt (a := t) (b := 0) (by omega) (by omega)) ?_
    refine ez_go ez_h34 5 (pc' := bif decide ((nI (600)) ≤ (nI (t))) then 22 else 13) (L' := [some (.ref 1), some (.int (nI (t)))]) (st' := []) (w' := cz_w r q u b) rfl ?_
    refine ez_ifF (zt_nle (a := 600) (b := t) (by omega) (by omega)) ?_
    refine ez_go ez_h34 3 (pc' := 18) (L' := [some (.ref 1), some (.int (nI (t)))]) (st' := [.int (nI (t)), .ref 7]) (w' := cz_w r q u b) rfl ?_
    refine ez_ald ez_h34 rfl rfl (t) rfl (by omega) (by omega) ?_
    refine ez_go ez_h34 1 (pc' := 23) (L' := [some (.ref 1), some (.int (nI (t)))]) (st' := [.int (r.2.2.2.2.2.2.1 t)]) (w' := cz_w r q u b) rfl ?_
    refine ez_iret rfl ez_h34 rfl rfl ?_
    refine ez_go ez_h61 1 (pc' := 31) (L' := [some (.ref 0), some (.int (nI (2))), some (.int (nI (s))), some (.int (nI (t))), some (.long (zk_key r.2.1 ((r.2.2.2.2.2.2.1 s).toInt64))), none, none, none]) (st' := [.long ((r.2.2.2.2.2.2.1 t).toInt64), .ref 1]) (w' := cz_w r q u b) rfl ?_
    refine ez_cl ez_h61 rfl rfl ?_
    refine zo_key r q u b _ ho ?_
    refine ez_go ez_h61 7 (pc' := bif decide ((nI 0) ≤ (lg_cmp (zk_key r.2.1 ((r.2.2.2.2.2.2.1 t).toInt64)) (zk_key r.2.1 ((r.2.2.2.2.2.2.1 s).toInt64)))) then 117 else 113) (L' := [some (.ref 0), some (.int (nI (2))), some (.int (nI (s))), some (.int (nI (t))), some (.long (zk_key r.2.1 ((r.2.2.2.2.2.2.1 s).toInt64))), none, some (.long (zk_key r.2.1 ((r.2.2.2.2.2.2.1 t).toInt64))), none]) (st' := []) (w' := cz_w r q u b) rfl ?_
    refine ez_ifF (fun z => Int64.not_le.mpr hc ((lg_cmp_ge _ _).mp z)) ?_
    refine ez_go ez_h61 2 (pc' := 118) (L' := [some (.ref 0), some (.int (nI (2))), some (.int (nI (s))), some (.int (nI (t))), some (.long (zk_key r.2.1 ((r.2.2.2.2.2.2.1 s).toInt64))), none, some (.long (zk_key r.2.1 ((r.2.2.2.2.2.2.1 t).toInt64))), none]) (st' := [.int (nI (1))]) (w' := cz_w r q u b) rfl ?_
    refine ez_zret rfl ez_h61 rfl rfl (by decide) ?_
    exact kk
  · rw [show zo_F 2 (zk_key r.2.1 (r.2.2.2.2.2.2.1 s).toInt64) (zk_key r.2.1 (r.2.2.2.2.2.2.1 t).toInt64) s t = false from decide_eq_false hc] at kk
    refine ez_m.of (L := [some (.ref 0), some (.int (nI (2))), some (.int (nI (s))), some (.int (nI (t))), none, none, none, none]) rfl rfl rfl ?_
    refine ez_go ez_h61 5 (pc' := 9) (L' := [some (.ref 0), some (.int (nI (2))), some (.int (nI (s))), some (.int (nI (t))), none, none, none, none]) (st' := [.int (nI (s)), .ref 1, .ref 1]) (w' := cz_w r q u b) rfl ?_
    refine ez_cl ez_h61 rfl rfl ?_
    refine ez_m.of (L := [some (.ref 1), some (.int (nI (s)))]) rfl rfl rfl ?_
    refine ez_go ez_h34 2 (pc' := bif decide ((nI (s)) < (nI 0)) then 22 else 4) (L' := [some (.ref 1), some (.int (nI (s)))]) (st' := []) (w' := cz_w r q u b) rfl ?_
    refine ez_ifF (zt_nlt (a := s) (b := 0) (by omega) (by omega)) ?_
    refine ez_go ez_h34 5 (pc' := bif decide ((nI (600)) ≤ (nI (s))) then 22 else 13) (L' := [some (.ref 1), some (.int (nI (s)))]) (st' := []) (w' := cz_w r q u b) rfl ?_
    refine ez_ifF (zt_nle (a := 600) (b := s) (by omega) (by omega)) ?_
    refine ez_go ez_h34 3 (pc' := 18) (L' := [some (.ref 1), some (.int (nI (s)))]) (st' := [.int (nI (s)), .ref 7]) (w' := cz_w r q u b) rfl ?_
    refine ez_ald ez_h34 rfl rfl (s) rfl (by omega) (by omega) ?_
    refine ez_go ez_h34 1 (pc' := 23) (L' := [some (.ref 1), some (.int (nI (s)))]) (st' := [.int (r.2.2.2.2.2.2.1 s)]) (w' := cz_w r q u b) rfl ?_
    refine ez_iret rfl ez_h34 rfl rfl ?_
    refine ez_go ez_h61 1 (pc' := 13) (L' := [some (.ref 0), some (.int (nI (2))), some (.int (nI (s))), some (.int (nI (t))), none, none, none, none]) (st' := [.long ((r.2.2.2.2.2.2.1 s).toInt64), .ref 1]) (w' := cz_w r q u b) rfl ?_
    refine ez_cl ez_h61 rfl rfl ?_
    refine zo_key r q u b _ ho ?_
    refine ez_go ez_h61 6 (pc' := 27) (L' := [some (.ref 0), some (.int (nI (2))), some (.int (nI (s))), some (.int (nI (t))), some (.long (zk_key r.2.1 ((r.2.2.2.2.2.2.1 s).toInt64))), none, none, none]) (st' := [.int (nI (t)), .ref 1, .ref 1]) (w' := cz_w r q u b) rfl ?_
    refine ez_cl ez_h61 rfl rfl ?_
    refine ez_m.of (L := [some (.ref 1), some (.int (nI (t)))]) rfl rfl rfl ?_
    refine ez_go ez_h34 2 (pc' := bif decide ((nI (t)) < (nI 0)) then 22 else 4) (L' := [some (.ref 1), some (.int (nI (t)))]) (st' := []) (w' := cz_w r q u b) rfl ?_
    refine ez_ifF (zt_nlt (a := t) (b := 0) (by omega) (by omega)) ?_
    refine ez_go ez_h34 5 (pc' := bif decide ((nI (600)) ≤ (nI (t))) then 22 else 13) (L' := [some (.ref 1), some (.int (nI (t)))]) (st' := []) (w' := cz_w r q u b) rfl ?_
    refine ez_ifF (zt_nle (a := 600) (b := t) (by omega) (by omega)) ?_
    refine ez_go ez_h34 3 (pc' := 18) (L' := [some (.ref 1), some (.int (nI (t)))]) (st' := [.int (nI (t)), .ref 7]) (w' := cz_w r q u b) rfl ?_
    refine ez_ald ez_h34 rfl rfl (t) rfl (by omega) (by omega) ?_
    refine ez_go ez_h34 1 (pc' := 23) (L' := [some (.ref 1), some (.int (nI (t)))]) (st' := [.int (r.2.2.2.2.2.2.1 t)]) (w' := cz_w r q u b) rfl ?_
    refine ez_iret rfl ez_h34 rfl rfl ?_
    refine ez_go ez_h61 1 (pc' := 31) (L' := [some (.ref 0), some (.int (nI (2))), some (.int (nI (s))), some (.int (nI (t))), some (.long (zk_key r.2.1 ((r.2.2.2.2.2.2.1 s).toInt64))), none, none, none]) (st' := [.long ((r.2.2.2.2.2.2.1 t).toInt64), .ref 1]) (w' := cz_w r q u b) rfl ?_
    refine ez_cl ez_h61 rfl rfl ?_
    refine zo_key r q u b _ ho ?_
    refine ez_go ez_h61 7 (pc' := bif decide ((nI 0) ≤ (lg_cmp (zk_key r.2.1 ((r.2.2.2.2.2.2.1 t).toInt64)) (zk_key r.2.1 ((r.2.2.2.2.2.2.1 s).toInt64)))) then 117 else 113) (L' := [some (.ref 0), some (.int (nI (2))), some (.int (nI (s))), some (.int (nI (t))), some (.long (zk_key r.2.1 ((r.2.2.2.2.2.2.1 s).toInt64))), none, some (.long (zk_key r.2.1 ((r.2.2.2.2.2.2.1 t).toInt64))), none]) (st' := []) (w' := cz_w r q u b) rfl ?_
    refine ez_ifT ((lg_cmp_ge _ _).mpr (Int64.not_lt.mp hc)) ?_
    refine ez_go ez_h61 1 (pc' := 118) (L' := [some (.ref 0), some (.int (nI (2))), some (.int (nI (s))), some (.int (nI (t))), some (.long (zk_key r.2.1 ((r.2.2.2.2.2.2.1 s).toInt64))), none, some (.long (zk_key r.2.1 ((r.2.2.2.2.2.2.1 t).toInt64))), none]) (st' := [.int (nI (0))]) (w' := cz_w r q u b) rfl ?_
    refine ez_zret rfl ez_h61 rfl rfl (by decide) ?_
    exact kk
theorem zo_isc0 {n : Nat} {tg : Nat → Nat} {r : cz_Row} {q : cz_Qk} {u : cz_Rn} {b : cz_Bn} (hn : n ≤ 600) (ht : ∀ k, k < n → tg k < n) (e1 : r.1 = nI n) (ho : ze_or r.2.1) (h1 : ∀ k, k < n → r.2.2.2.2.2.2.2 k = nI (tg k)) {post : Option Value → ez_W → Prop} (kk : post (some (.int (zs_z (zo_al (fun k => zo_F 0 (zk_key r.2.1 (r.2.2.2.2.2.2.1 (tg (k - 1))).toInt64) (zk_key r.2.1 (r.2.2.2.2.2.2.1 (tg k)).toInt64) (tg (k - 1)) (tg k)) (n - 1))))) (cz_w r q u b)) :
    ∀ (s i : Nat), n ≤ i + s → 1 ≤ i → i ≤ 601 → zo_al (fun k => zo_F 0 (zk_key r.2.1 (r.2.2.2.2.2.2.1 (tg (k - 1))).toInt64) (zk_key r.2.1 (r.2.2.2.2.2.2.1 (tg k)).toInt64) (tg (k - 1)) (tg k)) (i - 1) = true → ez_E 118 8 [some (.ref 0), some (.int (nI (0))), some (.int (nI (i)))] [] (cz_w r q u b) post := by
  intro s
  induction s with
  | zero =>
    intro i g1 g2 g2b g3
    rw [zo_al_le (i - 1) g3 (by omega)] at kk
    refine ez_go ez_h118 3 (pc' := 13) (L' := [some (.ref 0), some (.int (nI (0))), some (.int (nI (i)))]) (st' := [.ref 1, .int (nI (i))]) (w' := cz_w r q u b) rfl ?_
    refine ez_cl ez_h118 rfl rfl ?_
    refine ez_m.of (L := [some (.ref 1)]) rfl rfl rfl ?_
    refine ez_go ez_h26 2 (pc' := 4) (L' := [some (.ref 1)]) (st' := [.int (r.1)]) (w' := cz_w r q u b) rfl ?_
    refine ez_top (y := nI (n)) (e1) ?_
    refine ez_iret rfl ez_h26 rfl rfl ?_
    refine ez_go ez_h118 1 (pc' := bif decide ((nI (n)) ≤ (nI (i))) then 53 else 19) (L' := [some (.ref 0), some (.int (nI (0))), some (.int (nI (i)))]) (st' := []) (w' := cz_w r q u b) rfl ?_
    refine ez_ifT (zt_le (a := n) (b := i) (by omega) (by omega)) ?_
    refine ez_go ez_h118 1 (pc' := 54) (L' := [some (.ref 0), some (.int (nI (0))), some (.int (nI (i)))]) (st' := [.int (nI (1))]) (w' := cz_w r q u b) rfl ?_
    refine ez_zret rfl ez_h118 rfl rfl (by decide) ?_
    exact kk
  | succ s ih =>
    intro i g1 g2 g2b g3
    by_cases hi : n ≤ i
    · rw [zo_al_le (i - 1) g3 (by omega)] at kk
      refine ez_go ez_h118 3 (pc' := 13) (L' := [some (.ref 0), some (.int (nI (0))), some (.int (nI (i)))]) (st' := [.ref 1, .int (nI (i))]) (w' := cz_w r q u b) rfl ?_
      refine ez_cl ez_h118 rfl rfl ?_
      refine ez_m.of (L := [some (.ref 1)]) rfl rfl rfl ?_
      refine ez_go ez_h26 2 (pc' := 4) (L' := [some (.ref 1)]) (st' := [.int (r.1)]) (w' := cz_w r q u b) rfl ?_
      refine ez_top (y := nI (n)) (e1) ?_
      refine ez_iret rfl ez_h26 rfl rfl ?_
      refine ez_go ez_h118 1 (pc' := bif decide ((nI (n)) ≤ (nI (i))) then 53 else 19) (L' := [some (.ref 0), some (.int (nI (0))), some (.int (nI (i)))]) (st' := []) (w' := cz_w r q u b) rfl ?_
      refine ez_ifT (zt_le (a := n) (b := i) (by omega) (by omega)) ?_
      refine ez_go ez_h118 1 (pc' := 54) (L' := [some (.ref 0), some (.int (nI (0))), some (.int (nI (i)))]) (st' := [.int (nI (1))]) (w' := cz_w r q u b) rfl ?_
      refine ez_zret rfl ez_h118 rfl rfl (by decide) ?_
      exact kk
    · have t1 := ht i (by omega)
      have t2 := ht (i - 1) (by omega)
      cases hf : zo_F 0 (zk_key r.2.1 (r.2.2.2.2.2.2.1 (tg (i - 1))).toInt64) (zk_key r.2.1 (r.2.2.2.2.2.2.1 (tg i)).toInt64) (tg (i - 1)) (tg i) with
      | false =>
        rw [zo_al_no (f := (fun k => zo_F 0 (zk_key r.2.1 (r.2.2.2.2.2.2.1 (tg (k - 1))).toInt64) (zk_key r.2.1 (r.2.2.2.2.2.2.1 (tg k)).toInt64) (tg (k - 1)) (tg k))) (a := i - 1) (b := n - 1) (by rw [show i - 1 + 1 = i by omega]; exact hf) (by omega)] at kk
        refine ez_go ez_h118 3 (pc' := 13) (L' := [some (.ref 0), some (.int (nI (0))), some (.int (nI (i)))]) (st' := [.ref 1, .int (nI (i))]) (w' := cz_w r q u b) rfl ?_
        refine ez_cl ez_h118 rfl rfl ?_
        refine ez_m.of (L := [some (.ref 1)]) rfl rfl rfl ?_
        refine ez_go ez_h26 2 (pc' := 4) (L' := [some (.ref 1)]) (st' := [.int (r.1)]) (w' := cz_w r q u b) rfl ?_
        refine ez_top (y := nI (n)) (e1) ?_
        refine ez_iret rfl ez_h26 rfl rfl ?_
        refine ez_go ez_h118 1 (pc' := bif decide ((nI (n)) ≤ (nI (i))) then 53 else 19) (L' := [some (.ref 0), some (.int (nI (0))), some (.int (nI (i)))]) (st' := []) (w' := cz_w r q u b) rfl ?_
        refine ez_ifF (zt_nle (a := n) (b := i) (by omega) (by omega)) ?_
        refine ez_go ez_h118 7 (pc' := 28) (L' := [some (.ref 0), some (.int (nI (0))), some (.int (nI (i)))]) (st' := [.int ((nI (i)) - (nI (1))), .ref 1, .int (nI (0)), .ref 0]) (w' := cz_w r q u b) rfl ?_
        refine ez_top (y := nI (i - 1)) (pk_sub (by omega)) ?_
        refine ez_cl ez_h118 rfl rfl ?_
        refine ez_m.of (L := [some (.ref 1), some (.int (nI (i - 1)))]) rfl rfl rfl ?_
        refine ez_go ez_h32 2 (pc' := bif decide ((nI (i - 1)) < (nI 0)) then 22 else 4) (L' := [some (.ref 1), some (.int (nI (i - 1)))]) (st' := []) (w' := cz_w r q u b) rfl ?_
        refine ez_ifF (zt_nlt (a := i - 1) (b := 0) (by omega) (by omega)) ?_
        refine ez_go ez_h32 5 (pc' := bif decide ((nI (600)) ≤ (nI (i - 1))) then 22 else 13) (L' := [some (.ref 1), some (.int (nI (i - 1)))]) (st' := []) (w' := cz_w r q u b) rfl ?_
        refine ez_ifF (zt_nle (a := 600) (b := i - 1) (by omega) (by omega)) ?_
        refine ez_go ez_h32 3 (pc' := 18) (L' := [some (.ref 1), some (.int (nI (i - 1)))]) (st' := [.int (nI (i - 1)), .ref 8]) (w' := cz_w r q u b) rfl ?_
        refine ez_ald ez_h32 rfl rfl (i - 1) rfl (by omega) (by omega) ?_
        refine ez_top (y := nI (tg (i - 1))) (h1 (i - 1) (by omega)) ?_
        refine ez_go ez_h32 1 (pc' := 23) (L' := [some (.ref 1), some (.int (nI (i - 1)))]) (st' := [.int (nI (tg (i - 1)))]) (w' := cz_w r q u b) rfl ?_
        refine ez_iret rfl ez_h32 rfl rfl ?_
        refine ez_go ez_h118 3 (pc' := 36) (L' := [some (.ref 0), some (.int (nI (0))), some (.int (nI (i)))]) (st' := [.int (nI (i)), .ref 1, .int (nI (tg (i - 1))), .int (nI (0)), .ref 0]) (w' := cz_w r q u b) rfl ?_
        refine ez_cl ez_h118 rfl rfl ?_
        refine ez_m.of (L := [some (.ref 1), some (.int (nI (i)))]) rfl rfl rfl ?_
        refine ez_go ez_h32 2 (pc' := bif decide ((nI (i)) < (nI 0)) then 22 else 4) (L' := [some (.ref 1), some (.int (nI (i)))]) (st' := []) (w' := cz_w r q u b) rfl ?_
        refine ez_ifF (zt_nlt (a := i) (b := 0) (by omega) (by omega)) ?_
        refine ez_go ez_h32 5 (pc' := bif decide ((nI (600)) ≤ (nI (i))) then 22 else 13) (L' := [some (.ref 1), some (.int (nI (i)))]) (st' := []) (w' := cz_w r q u b) rfl ?_
        refine ez_ifF (zt_nle (a := 600) (b := i) (by omega) (by omega)) ?_
        refine ez_go ez_h32 3 (pc' := 18) (L' := [some (.ref 1), some (.int (nI (i)))]) (st' := [.int (nI (i)), .ref 8]) (w' := cz_w r q u b) rfl ?_
        refine ez_ald ez_h32 rfl rfl (i) rfl (by omega) (by omega) ?_
        refine ez_top (y := nI (tg i)) (h1 i (by omega)) ?_
        refine ez_go ez_h32 1 (pc' := 23) (L' := [some (.ref 1), some (.int (nI (i)))]) (st' := [.int (nI (tg i))]) (w' := cz_w r q u b) rfl ?_
        refine ez_iret rfl ez_h32 rfl rfl ?_
        refine ez_cl ez_h118 rfl rfl ?_
        refine zo_fol0 r q u b ho (s := tg (i - 1)) (t := tg i) (by omega) (by omega) ?_
        refine ez_go ez_h118 1 (pc' := bif decide (¬ (zs_z (zo_F 0 (zk_key r.2.1 (r.2.2.2.2.2.2.1 (tg (i - 1))).toInt64) (zk_key r.2.1 (r.2.2.2.2.2.2.1 (tg i)).toInt64) (tg (i - 1)) (tg i))) = 0) then 47 else 45) (L' := [some (.ref 0), some (.int (nI (0))), some (.int (nI (i)))]) (st' := []) (w' := cz_w r q u b) rfl ?_
        refine ez_ifF (fun z => z (zz_f hf)) ?_
        refine ez_go ez_h118 1 (pc' := 46) (L' := [some (.ref 0), some (.int (nI (0))), some (.int (nI (i)))]) (st' := [.int (nI (0))]) (w' := cz_w r q u b) rfl ?_
        refine ez_zret rfl ez_h118 rfl rfl (by decide) ?_
        exact kk
      | true =>
        refine ez_go ez_h118 3 (pc' := 13) (L' := [some (.ref 0), some (.int (nI (0))), some (.int (nI (i)))]) (st' := [.ref 1, .int (nI (i))]) (w' := cz_w r q u b) rfl ?_
        refine ez_cl ez_h118 rfl rfl ?_
        refine ez_m.of (L := [some (.ref 1)]) rfl rfl rfl ?_
        refine ez_go ez_h26 2 (pc' := 4) (L' := [some (.ref 1)]) (st' := [.int (r.1)]) (w' := cz_w r q u b) rfl ?_
        refine ez_top (y := nI (n)) (e1) ?_
        refine ez_iret rfl ez_h26 rfl rfl ?_
        refine ez_go ez_h118 1 (pc' := bif decide ((nI (n)) ≤ (nI (i))) then 53 else 19) (L' := [some (.ref 0), some (.int (nI (0))), some (.int (nI (i)))]) (st' := []) (w' := cz_w r q u b) rfl ?_
        refine ez_ifF (zt_nle (a := n) (b := i) (by omega) (by omega)) ?_
        refine ez_go ez_h118 7 (pc' := 28) (L' := [some (.ref 0), some (.int (nI (0))), some (.int (nI (i)))]) (st' := [.int ((nI (i)) - (nI (1))), .ref 1, .int (nI (0)), .ref 0]) (w' := cz_w r q u b) rfl ?_
        refine ez_top (y := nI (i - 1)) (pk_sub (by omega)) ?_
        refine ez_cl ez_h118 rfl rfl ?_
        refine ez_m.of (L := [some (.ref 1), some (.int (nI (i - 1)))]) rfl rfl rfl ?_
        refine ez_go ez_h32 2 (pc' := bif decide ((nI (i - 1)) < (nI 0)) then 22 else 4) (L' := [some (.ref 1), some (.int (nI (i - 1)))]) (st' := []) (w' := cz_w r q u b) rfl ?_
        refine ez_ifF (zt_nlt (a := i - 1) (b := 0) (by omega) (by omega)) ?_
        refine ez_go ez_h32 5 (pc' := bif decide ((nI (600)) ≤ (nI (i - 1))) then 22 else 13) (L' := [some (.ref 1), some (.int (nI (i - 1)))]) (st' := []) (w' := cz_w r q u b) rfl ?_
        refine ez_ifF (zt_nle (a := 600) (b := i - 1) (by omega) (by omega)) ?_
        refine ez_go ez_h32 3 (pc' := 18) (L' := [some (.ref 1), some (.int (nI (i - 1)))]) (st' := [.int (nI (i - 1)), .ref 8]) (w' := cz_w r q u b) rfl ?_
        refine ez_ald ez_h32 rfl rfl (i - 1) rfl (by omega) (by omega) ?_
        refine ez_top (y := nI (tg (i - 1))) (h1 (i - 1) (by omega)) ?_
        refine ez_go ez_h32 1 (pc' := 23) (L' := [some (.ref 1), some (.int (nI (i - 1)))]) (st' := [.int (nI (tg (i - 1)))]) (w' := cz_w r q u b) rfl ?_
        refine ez_iret rfl ez_h32 rfl rfl ?_
        refine ez_go ez_h118 3 (pc' := 36) (L' := [some (.ref 0), some (.int (nI (0))), some (.int (nI (i)))]) (st' := [.int (nI (i)), .ref 1, .int (nI (tg (i - 1))), .int (nI (0)), .ref 0]) (w' := cz_w r q u b) rfl ?_
        refine ez_cl ez_h118 rfl rfl ?_
        refine ez_m.of (L := [some (.ref 1), some (.int (nI (i)))]) rfl rfl rfl ?_
        refine ez_go ez_h32 2 (pc' := bif decide ((nI (i)) < (nI 0)) then 22 else 4) (L' := [some (.ref 1), some (.int (nI (i)))]) (st' := []) (w' := cz_w r q u b) rfl ?_
        refine ez_ifF (zt_nlt (a := i) (b := 0) (by omega) (by omega)) ?_
        refine ez_go ez_h32 5 (pc' := bif decide ((nI (600)) ≤ (nI (i))) then 22 else 13) (L' := [some (.ref 1), some (.int (nI (i)))]) (st' := []) (w' := cz_w r q u b) rfl ?_
        refine ez_ifF (zt_nle (a := 600) (b := i) (by omega) (by omega)) ?_
        refine ez_go ez_h32 3 (pc' := 18) (L' := [some (.ref 1), some (.int (nI (i)))]) (st' := [.int (nI (i)), .ref 8]) (w' := cz_w r q u b) rfl ?_
        refine ez_ald ez_h32 rfl rfl (i) rfl (by omega) (by omega) ?_
        refine ez_top (y := nI (tg i)) (h1 i (by omega)) ?_
        refine ez_go ez_h32 1 (pc' := 23) (L' := [some (.ref 1), some (.int (nI (i)))]) (st' := [.int (nI (tg i))]) (w' := cz_w r q u b) rfl ?_
        refine ez_iret rfl ez_h32 rfl rfl ?_
        refine ez_cl ez_h118 rfl rfl ?_
        refine zo_fol0 r q u b ho (s := tg (i - 1)) (t := tg i) (by omega) (by omega) ?_
        refine ez_go ez_h118 1 (pc' := bif decide (¬ (zs_z (zo_F 0 (zk_key r.2.1 (r.2.2.2.2.2.2.1 (tg (i - 1))).toInt64) (zk_key r.2.1 (r.2.2.2.2.2.2.1 (tg i)).toInt64) (tg (i - 1)) (tg i))) = 0) then 47 else 45) (L' := [some (.ref 0), some (.int (nI (0))), some (.int (nI (i)))]) (st' := []) (w' := cz_w r q u b) rfl ?_
        refine ez_ifT (zz_t hf) ?_
        refine ez_inc ez_h118 rfl rfl (v := nI (i + 1)) (zi_1 _) rfl ?_
        refine ez_go ez_h118 1 (pc' := 8) (L' := [some (.ref 0), some (.int (nI (0))), some (.int (nI (i + 1)))]) (st' := []) (w' := cz_w r q u b) rfl ?_
        refine ih (i + 1) (by omega) (by omega) (by omega) ?_
        rw [show i + 1 - 1 = (i - 1) + 1 by omega]
        show (zo_al _ (i - 1) && _) = true
        rw [g3]
        show zo_F 0 (zk_key r.2.1 (r.2.2.2.2.2.2.1 (tg (i - 1 + 1 - 1))).toInt64) (zk_key r.2.1 (r.2.2.2.2.2.2.1 (tg (i - 1 + 1))).toInt64) (tg (i - 1 + 1 - 1)) (tg (i - 1 + 1)) = true
        rw [show i - 1 + 1 - 1 = i - 1 by omega, show i - 1 + 1 = i by omega]
        exact hf
theorem zo_isc1 {n : Nat} {tg : Nat → Nat} {r : cz_Row} {q : cz_Qk} {u : cz_Rn} {b : cz_Bn} (hn : n ≤ 600) (ht : ∀ k, k < n → tg k < n) (e1 : r.1 = nI n) (ho : ze_or r.2.1) (h1 : ∀ k, k < n → r.2.2.2.2.2.2.2 k = nI (tg k)) {post : Option Value → ez_W → Prop} (kk : post (some (.int (zs_z (zo_al (fun k => zo_F 1 (zk_key r.2.1 (r.2.2.2.2.2.2.1 (tg (k - 1))).toInt64) (zk_key r.2.1 (r.2.2.2.2.2.2.1 (tg k)).toInt64) (tg (k - 1)) (tg k)) (n - 1))))) (cz_w r q u b)) :
    ∀ (s i : Nat), n ≤ i + s → 1 ≤ i → i ≤ 601 → zo_al (fun k => zo_F 1 (zk_key r.2.1 (r.2.2.2.2.2.2.1 (tg (k - 1))).toInt64) (zk_key r.2.1 (r.2.2.2.2.2.2.1 (tg k)).toInt64) (tg (k - 1)) (tg k)) (i - 1) = true → ez_E 118 8 [some (.ref 0), some (.int (nI (1))), some (.int (nI (i)))] [] (cz_w r q u b) post := by
  intro s
  induction s with
  | zero =>
    intro i g1 g2 g2b g3
    rw [zo_al_le (i - 1) g3 (by omega)] at kk
    refine ez_go ez_h118 3 (pc' := 13) (L' := [some (.ref 0), some (.int (nI (1))), some (.int (nI (i)))]) (st' := [.ref 1, .int (nI (i))]) (w' := cz_w r q u b) rfl ?_
    refine ez_cl ez_h118 rfl rfl ?_
    refine ez_m.of (L := [some (.ref 1)]) rfl rfl rfl ?_
    refine ez_go ez_h26 2 (pc' := 4) (L' := [some (.ref 1)]) (st' := [.int (r.1)]) (w' := cz_w r q u b) rfl ?_
    refine ez_top (y := nI (n)) (e1) ?_
    refine ez_iret rfl ez_h26 rfl rfl ?_
    refine ez_go ez_h118 1 (pc' := bif decide ((nI (n)) ≤ (nI (i))) then 53 else 19) (L' := [some (.ref 0), some (.int (nI (1))), some (.int (nI (i)))]) (st' := []) (w' := cz_w r q u b) rfl ?_
    refine ez_ifT (zt_le (a := n) (b := i) (by omega) (by omega)) ?_
    refine ez_go ez_h118 1 (pc' := 54) (L' := [some (.ref 0), some (.int (nI (1))), some (.int (nI (i)))]) (st' := [.int (nI (1))]) (w' := cz_w r q u b) rfl ?_
    refine ez_zret rfl ez_h118 rfl rfl (by decide) ?_
    exact kk
  | succ s ih =>
    intro i g1 g2 g2b g3
    by_cases hi : n ≤ i
    · rw [zo_al_le (i - 1) g3 (by omega)] at kk
      refine ez_go ez_h118 3 (pc' := 13) (L' := [some (.ref 0), some (.int (nI (1))), some (.int (nI (i)))]) (st' := [.ref 1, .int (nI (i))]) (w' := cz_w r q u b) rfl ?_
      refine ez_cl ez_h118 rfl rfl ?_
      refine ez_m.of (L := [some (.ref 1)]) rfl rfl rfl ?_
      refine ez_go ez_h26 2 (pc' := 4) (L' := [some (.ref 1)]) (st' := [.int (r.1)]) (w' := cz_w r q u b) rfl ?_
      refine ez_top (y := nI (n)) (e1) ?_
      refine ez_iret rfl ez_h26 rfl rfl ?_
      refine ez_go ez_h118 1 (pc' := bif decide ((nI (n)) ≤ (nI (i))) then 53 else 19) (L' := [some (.ref 0), some (.int (nI (1))), some (.int (nI (i)))]) (st' := []) (w' := cz_w r q u b) rfl ?_
      refine ez_ifT (zt_le (a := n) (b := i) (by omega) (by omega)) ?_
      refine ez_go ez_h118 1 (pc' := 54) (L' := [some (.ref 0), some (.int (nI (1))), some (.int (nI (i)))]) (st' := [.int (nI (1))]) (w' := cz_w r q u b) rfl ?_
      refine ez_zret rfl ez_h118 rfl rfl (by decide) ?_
      exact kk
    · have t1 := ht i (by omega)
      have t2 := ht (i - 1) (by omega)
      cases hf : zo_F 1 (zk_key r.2.1 (r.2.2.2.2.2.2.1 (tg (i - 1))).toInt64) (zk_key r.2.1 (r.2.2.2.2.2.2.1 (tg i)).toInt64) (tg (i - 1)) (tg i) with
      | false =>
        rw [zo_al_no (f := (fun k => zo_F 1 (zk_key r.2.1 (r.2.2.2.2.2.2.1 (tg (k - 1))).toInt64) (zk_key r.2.1 (r.2.2.2.2.2.2.1 (tg k)).toInt64) (tg (k - 1)) (tg k))) (a := i - 1) (b := n - 1) (by rw [show i - 1 + 1 = i by omega]; exact hf) (by omega)] at kk
        refine ez_go ez_h118 3 (pc' := 13) (L' := [some (.ref 0), some (.int (nI (1))), some (.int (nI (i)))]) (st' := [.ref 1, .int (nI (i))]) (w' := cz_w r q u b) rfl ?_
        refine ez_cl ez_h118 rfl rfl ?_
        refine ez_m.of (L := [some (.ref 1)]) rfl rfl rfl ?_
        refine ez_go ez_h26 2 (pc' := 4) (L' := [some (.ref 1)]) (st' := [.int (r.1)]) (w' := cz_w r q u b) rfl ?_
        refine ez_top (y := nI (n)) (e1) ?_
        refine ez_iret rfl ez_h26 rfl rfl ?_
        refine ez_go ez_h118 1 (pc' := bif decide ((nI (n)) ≤ (nI (i))) then 53 else 19) (L' := [some (.ref 0), some (.int (nI (1))), some (.int (nI (i)))]) (st' := []) (w' := cz_w r q u b) rfl ?_
        refine ez_ifF (zt_nle (a := n) (b := i) (by omega) (by omega)) ?_
        refine ez_go ez_h118 7 (pc' := 28) (L' := [some (.ref 0), some (.int (nI (1))), some (.int (nI (i)))]) (st' := [.int ((nI (i)) - (nI (1))), .ref 1, .int (nI (1)), .ref 0]) (w' := cz_w r q u b) rfl ?_
        refine ez_top (y := nI (i - 1)) (pk_sub (by omega)) ?_
        refine ez_cl ez_h118 rfl rfl ?_
        refine ez_m.of (L := [some (.ref 1), some (.int (nI (i - 1)))]) rfl rfl rfl ?_
        refine ez_go ez_h32 2 (pc' := bif decide ((nI (i - 1)) < (nI 0)) then 22 else 4) (L' := [some (.ref 1), some (.int (nI (i - 1)))]) (st' := []) (w' := cz_w r q u b) rfl ?_
        refine ez_ifF (zt_nlt (a := i - 1) (b := 0) (by omega) (by omega)) ?_
        refine ez_go ez_h32 5 (pc' := bif decide ((nI (600)) ≤ (nI (i - 1))) then 22 else 13) (L' := [some (.ref 1), some (.int (nI (i - 1)))]) (st' := []) (w' := cz_w r q u b) rfl ?_
        refine ez_ifF (zt_nle (a := 600) (b := i - 1) (by omega) (by omega)) ?_
        refine ez_go ez_h32 3 (pc' := 18) (L' := [some (.ref 1), some (.int (nI (i - 1)))]) (st' := [.int (nI (i - 1)), .ref 8]) (w' := cz_w r q u b) rfl ?_
        refine ez_ald ez_h32 rfl rfl (i - 1) rfl (by omega) (by omega) ?_
        refine ez_top (y := nI (tg (i - 1))) (h1 (i - 1) (by omega)) ?_
        refine ez_go ez_h32 1 (pc' := 23) (L' := [some (.ref 1), some (.int (nI (i - 1)))]) (st' := [.int (nI (tg (i - 1)))]) (w' := cz_w r q u b) rfl ?_
        refine ez_iret rfl ez_h32 rfl rfl ?_
        refine ez_go ez_h118 3 (pc' := 36) (L' := [some (.ref 0), some (.int (nI (1))), some (.int (nI (i)))]) (st' := [.int (nI (i)), .ref 1, .int (nI (tg (i - 1))), .int (nI (1)), .ref 0]) (w' := cz_w r q u b) rfl ?_
        refine ez_cl ez_h118 rfl rfl ?_
        refine ez_m.of (L := [some (.ref 1), some (.int (nI (i)))]) rfl rfl rfl ?_
        refine ez_go ez_h32 2 (pc' := bif decide ((nI (i)) < (nI 0)) then 22 else 4) (L' := [some (.ref 1), some (.int (nI (i)))]) (st' := []) (w' := cz_w r q u b) rfl ?_
        refine ez_ifF (zt_nlt (a := i) (b := 0) (by omega) (by omega)) ?_
        refine ez_go ez_h32 5 (pc' := bif decide ((nI (600)) ≤ (nI (i))) then 22 else 13) (L' := [some (.ref 1), some (.int (nI (i)))]) (st' := []) (w' := cz_w r q u b) rfl ?_
        refine ez_ifF (zt_nle (a := 600) (b := i) (by omega) (by omega)) ?_
        refine ez_go ez_h32 3 (pc' := 18) (L' := [some (.ref 1), some (.int (nI (i)))]) (st' := [.int (nI (i)), .ref 8]) (w' := cz_w r q u b) rfl ?_
        refine ez_ald ez_h32 rfl rfl (i) rfl (by omega) (by omega) ?_
        refine ez_top (y := nI (tg i)) (h1 i (by omega)) ?_
        refine ez_go ez_h32 1 (pc' := 23) (L' := [some (.ref 1), some (.int (nI (i)))]) (st' := [.int (nI (tg i))]) (w' := cz_w r q u b) rfl ?_
        refine ez_iret rfl ez_h32 rfl rfl ?_
        refine ez_cl ez_h118 rfl rfl ?_
        refine zo_fol1 r q u b ho (s := tg (i - 1)) (t := tg i) (by omega) (by omega) ?_
        refine ez_go ez_h118 1 (pc' := bif decide (¬ (zs_z (zo_F 1 (zk_key r.2.1 (r.2.2.2.2.2.2.1 (tg (i - 1))).toInt64) (zk_key r.2.1 (r.2.2.2.2.2.2.1 (tg i)).toInt64) (tg (i - 1)) (tg i))) = 0) then 47 else 45) (L' := [some (.ref 0), some (.int (nI (1))), some (.int (nI (i)))]) (st' := []) (w' := cz_w r q u b) rfl ?_
        refine ez_ifF (fun z => z (zz_f hf)) ?_
        refine ez_go ez_h118 1 (pc' := 46) (L' := [some (.ref 0), some (.int (nI (1))), some (.int (nI (i)))]) (st' := [.int (nI (0))]) (w' := cz_w r q u b) rfl ?_
        refine ez_zret rfl ez_h118 rfl rfl (by decide) ?_
        exact kk
      | true =>
        refine ez_go ez_h118 3 (pc' := 13) (L' := [some (.ref 0), some (.int (nI (1))), some (.int (nI (i)))]) (st' := [.ref 1, .int (nI (i))]) (w' := cz_w r q u b) rfl ?_
        refine ez_cl ez_h118 rfl rfl ?_
        refine ez_m.of (L := [some (.ref 1)]) rfl rfl rfl ?_
        refine ez_go ez_h26 2 (pc' := 4) (L' := [some (.ref 1)]) (st' := [.int (r.1)]) (w' := cz_w r q u b) rfl ?_
        refine ez_top (y := nI (n)) (e1) ?_
        refine ez_iret rfl ez_h26 rfl rfl ?_
        refine ez_go ez_h118 1 (pc' := bif decide ((nI (n)) ≤ (nI (i))) then 53 else 19) (L' := [some (.ref 0), some (.int (nI (1))), some (.int (nI (i)))]) (st' := []) (w' := cz_w r q u b) rfl ?_
        refine ez_ifF (zt_nle (a := n) (b := i) (by omega) (by omega)) ?_
        refine ez_go ez_h118 7 (pc' := 28) (L' := [some (.ref 0), some (.int (nI (1))), some (.int (nI (i)))]) (st' := [.int ((nI (i)) - (nI (1))), .ref 1, .int (nI (1)), .ref 0]) (w' := cz_w r q u b) rfl ?_
        refine ez_top (y := nI (i - 1)) (pk_sub (by omega)) ?_
        refine ez_cl ez_h118 rfl rfl ?_
        refine ez_m.of (L := [some (.ref 1), some (.int (nI (i - 1)))]) rfl rfl rfl ?_
        refine ez_go ez_h32 2 (pc' := bif decide ((nI (i - 1)) < (nI 0)) then 22 else 4) (L' := [some (.ref 1), some (.int (nI (i - 1)))]) (st' := []) (w' := cz_w r q u b) rfl ?_
        refine ez_ifF (zt_nlt (a := i - 1) (b := 0) (by omega) (by omega)) ?_
        refine ez_go ez_h32 5 (pc' := bif decide ((nI (600)) ≤ (nI (i - 1))) then 22 else 13) (L' := [some (.ref 1), some (.int (nI (i - 1)))]) (st' := []) (w' := cz_w r q u b) rfl ?_
        refine ez_ifF (zt_nle (a := 600) (b := i - 1) (by omega) (by omega)) ?_
        refine ez_go ez_h32 3 (pc' := 18) (L' := [some (.ref 1), some (.int (nI (i - 1)))]) (st' := [.int (nI (i - 1)), .ref 8]) (w' := cz_w r q u b) rfl ?_
        refine ez_ald ez_h32 rfl rfl (i - 1) rfl (by omega) (by omega) ?_
        refine ez_top (y := nI (tg (i - 1))) (h1 (i - 1) (by omega)) ?_
        refine ez_go ez_h32 1 (pc' := 23) (L' := [some (.ref 1), some (.int (nI (i - 1)))]) (st' := [.int (nI (tg (i - 1)))]) (w' := cz_w r q u b) rfl ?_
        refine ez_iret rfl ez_h32 rfl rfl ?_
        refine ez_go ez_h118 3 (pc' := 36) (L' := [some (.ref 0), some (.int (nI (1))), some (.int (nI (i)))]) (st' := [.int (nI (i)), .ref 1, .int (nI (tg (i - 1))), .int (nI (1)), .ref 0]) (w' := cz_w r q u b) rfl ?_
        refine ez_cl ez_h118 rfl rfl ?_
        refine ez_m.of (L := [some (.ref 1), some (.int (nI (i)))]) rfl rfl rfl ?_
        refine ez_go ez_h32 2 (pc' := bif decide ((nI (i)) < (nI 0)) then 22 else 4) (L' := [some (.ref 1), some (.int (nI (i)))]) (st' := []) (w' := cz_w r q u b) rfl ?_
        refine ez_ifF (zt_nlt (a := i) (b := 0) (by omega) (by omega)) ?_
        refine ez_go ez_h32 5 (pc' := bif decide ((nI (600)) ≤ (nI (i))) then 22 else 13) (L' := [some (.ref 1), some (.int (nI (i)))]) (st' := []) (w' := cz_w r q u b) rfl ?_
        refine ez_ifF (zt_nle (a := 600) (b := i) (by omega) (by omega)) ?_
        refine ez_go ez_h32 3 (pc' := 18) (L' := [some (.ref 1), some (.int (nI (i)))]) (st' := [.int (nI (i)), .ref 8]) (w' := cz_w r q u b) rfl ?_
        refine ez_ald ez_h32 rfl rfl (i) rfl (by omega) (by omega) ?_
        refine ez_top (y := nI (tg i)) (h1 i (by omega)) ?_
        refine ez_go ez_h32 1 (pc' := 23) (L' := [some (.ref 1), some (.int (nI (i)))]) (st' := [.int (nI (tg i))]) (w' := cz_w r q u b) rfl ?_
        refine ez_iret rfl ez_h32 rfl rfl ?_
        refine ez_cl ez_h118 rfl rfl ?_
        refine zo_fol1 r q u b ho (s := tg (i - 1)) (t := tg i) (by omega) (by omega) ?_
        refine ez_go ez_h118 1 (pc' := bif decide (¬ (zs_z (zo_F 1 (zk_key r.2.1 (r.2.2.2.2.2.2.1 (tg (i - 1))).toInt64) (zk_key r.2.1 (r.2.2.2.2.2.2.1 (tg i)).toInt64) (tg (i - 1)) (tg i))) = 0) then 47 else 45) (L' := [some (.ref 0), some (.int (nI (1))), some (.int (nI (i)))]) (st' := []) (w' := cz_w r q u b) rfl ?_
        refine ez_ifT (zz_t hf) ?_
        refine ez_inc ez_h118 rfl rfl (v := nI (i + 1)) (zi_1 _) rfl ?_
        refine ez_go ez_h118 1 (pc' := 8) (L' := [some (.ref 0), some (.int (nI (1))), some (.int (nI (i + 1)))]) (st' := []) (w' := cz_w r q u b) rfl ?_
        refine ih (i + 1) (by omega) (by omega) (by omega) ?_
        rw [show i + 1 - 1 = (i - 1) + 1 by omega]
        show (zo_al _ (i - 1) && _) = true
        rw [g3]
        show zo_F 1 (zk_key r.2.1 (r.2.2.2.2.2.2.1 (tg (i - 1 + 1 - 1))).toInt64) (zk_key r.2.1 (r.2.2.2.2.2.2.1 (tg (i - 1 + 1))).toInt64) (tg (i - 1 + 1 - 1)) (tg (i - 1 + 1)) = true
        rw [show i - 1 + 1 - 1 = i - 1 by omega, show i - 1 + 1 = i by omega]
        exact hf
theorem zo_isc2 {n : Nat} {tg : Nat → Nat} {r : cz_Row} {q : cz_Qk} {u : cz_Rn} {b : cz_Bn} (hn : n ≤ 600) (ht : ∀ k, k < n → tg k < n) (e1 : r.1 = nI n) (ho : ze_or r.2.1) (h1 : ∀ k, k < n → r.2.2.2.2.2.2.2 k = nI (tg k)) {post : Option Value → ez_W → Prop} (kk : post (some (.int (zs_z (zo_al (fun k => zo_F 2 (zk_key r.2.1 (r.2.2.2.2.2.2.1 (tg (k - 1))).toInt64) (zk_key r.2.1 (r.2.2.2.2.2.2.1 (tg k)).toInt64) (tg (k - 1)) (tg k)) (n - 1))))) (cz_w r q u b)) :
    ∀ (s i : Nat), n ≤ i + s → 1 ≤ i → i ≤ 601 → zo_al (fun k => zo_F 2 (zk_key r.2.1 (r.2.2.2.2.2.2.1 (tg (k - 1))).toInt64) (zk_key r.2.1 (r.2.2.2.2.2.2.1 (tg k)).toInt64) (tg (k - 1)) (tg k)) (i - 1) = true → ez_E 118 8 [some (.ref 0), some (.int (nI (2))), some (.int (nI (i)))] [] (cz_w r q u b) post := by
  intro s
  induction s with
  | zero =>
    intro i g1 g2 g2b g3
    rw [zo_al_le (i - 1) g3 (by omega)] at kk
    refine ez_go ez_h118 3 (pc' := 13) (L' := [some (.ref 0), some (.int (nI (2))), some (.int (nI (i)))]) (st' := [.ref 1, .int (nI (i))]) (w' := cz_w r q u b) rfl ?_
    refine ez_cl ez_h118 rfl rfl ?_
    refine ez_m.of (L := [some (.ref 1)]) rfl rfl rfl ?_
    refine ez_go ez_h26 2 (pc' := 4) (L' := [some (.ref 1)]) (st' := [.int (r.1)]) (w' := cz_w r q u b) rfl ?_
    refine ez_top (y := nI (n)) (e1) ?_
    refine ez_iret rfl ez_h26 rfl rfl ?_
    refine ez_go ez_h118 1 (pc' := bif decide ((nI (n)) ≤ (nI (i))) then 53 else 19) (L' := [some (.ref 0), some (.int (nI (2))), some (.int (nI (i)))]) (st' := []) (w' := cz_w r q u b) rfl ?_
    refine ez_ifT (zt_le (a := n) (b := i) (by omega) (by omega)) ?_
    refine ez_go ez_h118 1 (pc' := 54) (L' := [some (.ref 0), some (.int (nI (2))), some (.int (nI (i)))]) (st' := [.int (nI (1))]) (w' := cz_w r q u b) rfl ?_
    refine ez_zret rfl ez_h118 rfl rfl (by decide) ?_
    exact kk
  | succ s ih =>
    intro i g1 g2 g2b g3
    by_cases hi : n ≤ i
    · rw [zo_al_le (i - 1) g3 (by omega)] at kk
      refine ez_go ez_h118 3 (pc' := 13) (L' := [some (.ref 0), some (.int (nI (2))), some (.int (nI (i)))]) (st' := [.ref 1, .int (nI (i))]) (w' := cz_w r q u b) rfl ?_
      refine ez_cl ez_h118 rfl rfl ?_
      refine ez_m.of (L := [some (.ref 1)]) rfl rfl rfl ?_
      refine ez_go ez_h26 2 (pc' := 4) (L' := [some (.ref 1)]) (st' := [.int (r.1)]) (w' := cz_w r q u b) rfl ?_
      refine ez_top (y := nI (n)) (e1) ?_
      refine ez_iret rfl ez_h26 rfl rfl ?_
      refine ez_go ez_h118 1 (pc' := bif decide ((nI (n)) ≤ (nI (i))) then 53 else 19) (L' := [some (.ref 0), some (.int (nI (2))), some (.int (nI (i)))]) (st' := []) (w' := cz_w r q u b) rfl ?_
      refine ez_ifT (zt_le (a := n) (b := i) (by omega) (by omega)) ?_
      refine ez_go ez_h118 1 (pc' := 54) (L' := [some (.ref 0), some (.int (nI (2))), some (.int (nI (i)))]) (st' := [.int (nI (1))]) (w' := cz_w r q u b) rfl ?_
      refine ez_zret rfl ez_h118 rfl rfl (by decide) ?_
      exact kk
    · have t1 := ht i (by omega)
      have t2 := ht (i - 1) (by omega)
      cases hf : zo_F 2 (zk_key r.2.1 (r.2.2.2.2.2.2.1 (tg (i - 1))).toInt64) (zk_key r.2.1 (r.2.2.2.2.2.2.1 (tg i)).toInt64) (tg (i - 1)) (tg i) with
      | false =>
        rw [zo_al_no (f := (fun k => zo_F 2 (zk_key r.2.1 (r.2.2.2.2.2.2.1 (tg (k - 1))).toInt64) (zk_key r.2.1 (r.2.2.2.2.2.2.1 (tg k)).toInt64) (tg (k - 1)) (tg k))) (a := i - 1) (b := n - 1) (by rw [show i - 1 + 1 = i by omega]; exact hf) (by omega)] at kk
        refine ez_go ez_h118 3 (pc' := 13) (L' := [some (.ref 0), some (.int (nI (2))), some (.int (nI (i)))]) (st' := [.ref 1, .int (nI (i))]) (w' := cz_w r q u b) rfl ?_
        refine ez_cl ez_h118 rfl rfl ?_
        refine ez_m.of (L := [some (.ref 1)]) rfl rfl rfl ?_
        refine ez_go ez_h26 2 (pc' := 4) (L' := [some (.ref 1)]) (st' := [.int (r.1)]) (w' := cz_w r q u b) rfl ?_
        refine ez_top (y := nI (n)) (e1) ?_
        refine ez_iret rfl ez_h26 rfl rfl ?_
        refine ez_go ez_h118 1 (pc' := bif decide ((nI (n)) ≤ (nI (i))) then 53 else 19) (L' := [some (.ref 0), some (.int (nI (2))), some (.int (nI (i)))]) (st' := []) (w' := cz_w r q u b) rfl ?_
        refine ez_ifF (zt_nle (a := n) (b := i) (by omega) (by omega)) ?_
        refine ez_go ez_h118 7 (pc' := 28) (L' := [some (.ref 0), some (.int (nI (2))), some (.int (nI (i)))]) (st' := [.int ((nI (i)) - (nI (1))), .ref 1, .int (nI (2)), .ref 0]) (w' := cz_w r q u b) rfl ?_
        refine ez_top (y := nI (i - 1)) (pk_sub (by omega)) ?_
        refine ez_cl ez_h118 rfl rfl ?_
        refine ez_m.of (L := [some (.ref 1), some (.int (nI (i - 1)))]) rfl rfl rfl ?_
        refine ez_go ez_h32 2 (pc' := bif decide ((nI (i - 1)) < (nI 0)) then 22 else 4) (L' := [some (.ref 1), some (.int (nI (i - 1)))]) (st' := []) (w' := cz_w r q u b) rfl ?_
        refine ez_ifF (zt_nlt (a := i - 1) (b := 0) (by omega) (by omega)) ?_
        refine ez_go ez_h32 5 (pc' := bif decide ((nI (600)) ≤ (nI (i - 1))) then 22 else 13) (L' := [some (.ref 1), some (.int (nI (i - 1)))]) (st' := []) (w' := cz_w r q u b) rfl ?_
        refine ez_ifF (zt_nle (a := 600) (b := i - 1) (by omega) (by omega)) ?_
        refine ez_go ez_h32 3 (pc' := 18) (L' := [some (.ref 1), some (.int (nI (i - 1)))]) (st' := [.int (nI (i - 1)), .ref 8]) (w' := cz_w r q u b) rfl ?_
        refine ez_ald ez_h32 rfl rfl (i - 1) rfl (by omega) (by omega) ?_
        refine ez_top (y := nI (tg (i - 1))) (h1 (i - 1) (by omega)) ?_
        refine ez_go ez_h32 1 (pc' := 23) (L' := [some (.ref 1), some (.int (nI (i - 1)))]) (st' := [.int (nI (tg (i - 1)))]) (w' := cz_w r q u b) rfl ?_
        refine ez_iret rfl ez_h32 rfl rfl ?_
        refine ez_go ez_h118 3 (pc' := 36) (L' := [some (.ref 0), some (.int (nI (2))), some (.int (nI (i)))]) (st' := [.int (nI (i)), .ref 1, .int (nI (tg (i - 1))), .int (nI (2)), .ref 0]) (w' := cz_w r q u b) rfl ?_
        refine ez_cl ez_h118 rfl rfl ?_
        refine ez_m.of (L := [some (.ref 1), some (.int (nI (i)))]) rfl rfl rfl ?_
        refine ez_go ez_h32 2 (pc' := bif decide ((nI (i)) < (nI 0)) then 22 else 4) (L' := [some (.ref 1), some (.int (nI (i)))]) (st' := []) (w' := cz_w r q u b) rfl ?_
        refine ez_ifF (zt_nlt (a := i) (b := 0) (by omega) (by omega)) ?_
        refine ez_go ez_h32 5 (pc' := bif decide ((nI (600)) ≤ (nI (i))) then 22 else 13) (L' := [some (.ref 1), some (.int (nI (i)))]) (st' := []) (w' := cz_w r q u b) rfl ?_
        refine ez_ifF (zt_nle (a := 600) (b := i) (by omega) (by omega)) ?_
        refine ez_go ez_h32 3 (pc' := 18) (L' := [some (.ref 1), some (.int (nI (i)))]) (st' := [.int (nI (i)), .ref 8]) (w' := cz_w r q u b) rfl ?_
        refine ez_ald ez_h32 rfl rfl (i) rfl (by omega) (by omega) ?_
        refine ez_top (y := nI (tg i)) (h1 i (by omega)) ?_
        refine ez_go ez_h32 1 (pc' := 23) (L' := [some (.ref 1), some (.int (nI (i)))]) (st' := [.int (nI (tg i))]) (w' := cz_w r q u b) rfl ?_
        refine ez_iret rfl ez_h32 rfl rfl ?_
        refine ez_cl ez_h118 rfl rfl ?_
        refine zo_fol2 r q u b ho (s := tg (i - 1)) (t := tg i) (by omega) (by omega) ?_
        refine ez_go ez_h118 1 (pc' := bif decide (¬ (zs_z (zo_F 2 (zk_key r.2.1 (r.2.2.2.2.2.2.1 (tg (i - 1))).toInt64) (zk_key r.2.1 (r.2.2.2.2.2.2.1 (tg i)).toInt64) (tg (i - 1)) (tg i))) = 0) then 47 else 45) (L' := [some (.ref 0), some (.int (nI (2))), some (.int (nI (i)))]) (st' := []) (w' := cz_w r q u b) rfl ?_
        refine ez_ifF (fun z => z (zz_f hf)) ?_
        refine ez_go ez_h118 1 (pc' := 46) (L' := [some (.ref 0), some (.int (nI (2))), some (.int (nI (i)))]) (st' := [.int (nI (0))]) (w' := cz_w r q u b) rfl ?_
        refine ez_zret rfl ez_h118 rfl rfl (by decide) ?_
        exact kk
      | true =>
        refine ez_go ez_h118 3 (pc' := 13) (L' := [some (.ref 0), some (.int (nI (2))), some (.int (nI (i)))]) (st' := [.ref 1, .int (nI (i))]) (w' := cz_w r q u b) rfl ?_
        refine ez_cl ez_h118 rfl rfl ?_
        refine ez_m.of (L := [some (.ref 1)]) rfl rfl rfl ?_
        refine ez_go ez_h26 2 (pc' := 4) (L' := [some (.ref 1)]) (st' := [.int (r.1)]) (w' := cz_w r q u b) rfl ?_
        refine ez_top (y := nI (n)) (e1) ?_
        refine ez_iret rfl ez_h26 rfl rfl ?_
        refine ez_go ez_h118 1 (pc' := bif decide ((nI (n)) ≤ (nI (i))) then 53 else 19) (L' := [some (.ref 0), some (.int (nI (2))), some (.int (nI (i)))]) (st' := []) (w' := cz_w r q u b) rfl ?_
        refine ez_ifF (zt_nle (a := n) (b := i) (by omega) (by omega)) ?_
        refine ez_go ez_h118 7 (pc' := 28) (L' := [some (.ref 0), some (.int (nI (2))), some (.int (nI (i)))]) (st' := [.int ((nI (i)) - (nI (1))), .ref 1, .int (nI (2)), .ref 0]) (w' := cz_w r q u b) rfl ?_
        refine ez_top (y := nI (i - 1)) (pk_sub (by omega)) ?_
        refine ez_cl ez_h118 rfl rfl ?_
        refine ez_m.of (L := [some (.ref 1), some (.int (nI (i - 1)))]) rfl rfl rfl ?_
        refine ez_go ez_h32 2 (pc' := bif decide ((nI (i - 1)) < (nI 0)) then 22 else 4) (L' := [some (.ref 1), some (.int (nI (i - 1)))]) (st' := []) (w' := cz_w r q u b) rfl ?_
        refine ez_ifF (zt_nlt (a := i - 1) (b := 0) (by omega) (by omega)) ?_
        refine ez_go ez_h32 5 (pc' := bif decide ((nI (600)) ≤ (nI (i - 1))) then 22 else 13) (L' := [some (.ref 1), some (.int (nI (i - 1)))]) (st' := []) (w' := cz_w r q u b) rfl ?_
        refine ez_ifF (zt_nle (a := 600) (b := i - 1) (by omega) (by omega)) ?_
        refine ez_go ez_h32 3 (pc' := 18) (L' := [some (.ref 1), some (.int (nI (i - 1)))]) (st' := [.int (nI (i - 1)), .ref 8]) (w' := cz_w r q u b) rfl ?_
        refine ez_ald ez_h32 rfl rfl (i - 1) rfl (by omega) (by omega) ?_
        refine ez_top (y := nI (tg (i - 1))) (h1 (i - 1) (by omega)) ?_
        refine ez_go ez_h32 1 (pc' := 23) (L' := [some (.ref 1), some (.int (nI (i - 1)))]) (st' := [.int (nI (tg (i - 1)))]) (w' := cz_w r q u b) rfl ?_
        refine ez_iret rfl ez_h32 rfl rfl ?_
        refine ez_go ez_h118 3 (pc' := 36) (L' := [some (.ref 0), some (.int (nI (2))), some (.int (nI (i)))]) (st' := [.int (nI (i)), .ref 1, .int (nI (tg (i - 1))), .int (nI (2)), .ref 0]) (w' := cz_w r q u b) rfl ?_
        refine ez_cl ez_h118 rfl rfl ?_
        refine ez_m.of (L := [some (.ref 1), some (.int (nI (i)))]) rfl rfl rfl ?_
        refine ez_go ez_h32 2 (pc' := bif decide ((nI (i)) < (nI 0)) then 22 else 4) (L' := [some (.ref 1), some (.int (nI (i)))]) (st' := []) (w' := cz_w r q u b) rfl ?_
        refine ez_ifF (zt_nlt (a := i) (b := 0) (by omega) (by omega)) ?_
        refine ez_go ez_h32 5 (pc' := bif decide ((nI (600)) ≤ (nI (i))) then 22 else 13) (L' := [some (.ref 1), some (.int (nI (i)))]) (st' := []) (w' := cz_w r q u b) rfl ?_
        refine ez_ifF (zt_nle (a := 600) (b := i) (by omega) (by omega)) ?_
        refine ez_go ez_h32 3 (pc' := 18) (L' := [some (.ref 1), some (.int (nI (i)))]) (st' := [.int (nI (i)), .ref 8]) (w' := cz_w r q u b) rfl ?_
        refine ez_ald ez_h32 rfl rfl (i) rfl (by omega) (by omega) ?_
        refine ez_top (y := nI (tg i)) (h1 i (by omega)) ?_
        refine ez_go ez_h32 1 (pc' := 23) (L' := [some (.ref 1), some (.int (nI (i)))]) (st' := [.int (nI (tg i))]) (w' := cz_w r q u b) rfl ?_
        refine ez_iret rfl ez_h32 rfl rfl ?_
        refine ez_cl ez_h118 rfl rfl ?_
        refine zo_fol2 r q u b ho (s := tg (i - 1)) (t := tg i) (by omega) (by omega) ?_
        refine ez_go ez_h118 1 (pc' := bif decide (¬ (zs_z (zo_F 2 (zk_key r.2.1 (r.2.2.2.2.2.2.1 (tg (i - 1))).toInt64) (zk_key r.2.1 (r.2.2.2.2.2.2.1 (tg i)).toInt64) (tg (i - 1)) (tg i))) = 0) then 47 else 45) (L' := [some (.ref 0), some (.int (nI (2))), some (.int (nI (i)))]) (st' := []) (w' := cz_w r q u b) rfl ?_
        refine ez_ifT (zz_t hf) ?_
        refine ez_inc ez_h118 rfl rfl (v := nI (i + 1)) (zi_1 _) rfl ?_
        refine ez_go ez_h118 1 (pc' := 8) (L' := [some (.ref 0), some (.int (nI (2))), some (.int (nI (i + 1)))]) (st' := []) (w' := cz_w r q u b) rfl ?_
        refine ih (i + 1) (by omega) (by omega) (by omega) ?_
        rw [show i + 1 - 1 = (i - 1) + 1 by omega]
        show (zo_al _ (i - 1) && _) = true
        rw [g3]
        show zo_F 2 (zk_key r.2.1 (r.2.2.2.2.2.2.1 (tg (i - 1 + 1 - 1))).toInt64) (zk_key r.2.1 (r.2.2.2.2.2.2.1 (tg (i - 1 + 1))).toInt64) (tg (i - 1 + 1 - 1)) (tg (i - 1 + 1)) = true
        rw [show i - 1 + 1 - 1 = i - 1 by omega, show i - 1 + 1 = i by omega]
        exact hf
theorem zo_ism0 {n : Nat} {tg : Nat → Nat} {A : mz_A} {Q : mz_Q} {U : mz_U} {T : mz_T} (hn : n ≤ 600) (ht : ∀ k, k < n → tg k < n) (ho : ze_or A.2.1) (h2 : ∀ k, k < n → T.2 k = nI (tg k)) {i : Nat} (hi : i < n) (hi1 : 1 ≤ i) (v : Bool) {post : Option Value → ez_W → Prop} (kk : ez_E 102 121 [some (.ref 0), some (.int (nI (0))), some (.int (zs_z (v && zo_F 0 (zk_key A.2.1 (A.2.2.2.2.2.2.2.1 (i - 1)).toInt64) (zk_key A.2.1 (A.2.2.2.2.2.2.2.1 i).toInt64) (tg (i - 1)) (tg i)))), some (.int (nI (i))), none, none, none, none, none] [] (mz_w A Q U T) post) : ez_E 102 30 [some (.ref 0), some (.int (nI (0))), some (.int (zs_z v)), some (.int (nI (i))), none, none, none, none, none] [] (mz_w A Q U T) post := by
  have t1 := ht i (by omega)
  have t2 := ht (i - 1) (by omega)
  cases v with
  | false =>
    by_cases hs : (zk_key A.2.1 (A.2.2.2.2.2.2.2.1 (i - 1)).toInt64) = (zk_key A.2.1 (A.2.2.2.2.2.2.2.1 i).toInt64)
    · skip
      refine ez_go ez_h102 4 (pc' := 34) (L' := [some (.ref 0), some (.int (nI (0))), some (.int (zs_z false)), some (.int (nI (i))), none, none, none, none, none]) (st' := [.int ((nI (i)) - (nI (1))), .ref 0]) (w' := mz_w A Q U T) rfl ?_
      refine ez_top (y := nI (i - 1)) (pk_sub (by omega)) ?_
      refine ez_cl ez_h102 rfl rfl ?_
      refine zo_mkey A Q U T (x := i - 1) (by omega) ho ?_
      refine ez_go ez_h102 3 (pc' := 41) (L' := [some (.ref 0), some (.int (nI (0))), some (.int (zs_z false)), some (.int (nI (i))), some (.long (zk_key A.2.1 (A.2.2.2.2.2.2.2.1 (i - 1)).toInt64)), none, none, none, none]) (st' := [.int (nI (i)), .ref 0]) (w' := mz_w A Q U T) rfl ?_
      refine ez_cl ez_h102 rfl rfl ?_
      refine zo_mkey A Q U T (x := i) (by omega) ho ?_
      refine ez_go ez_h102 5 (pc' := bif decide (¬ (lg_cmp (zk_key A.2.1 (A.2.2.2.2.2.2.2.1 (i - 1)).toInt64) (zk_key A.2.1 (A.2.2.2.2.2.2.2.1 i).toInt64)) = (nI 0)) then 58 else 54) (L' := [some (.ref 0), some (.int (nI (0))), some (.int (zs_z false)), some (.int (nI (i))), some (.long (zk_key A.2.1 (A.2.2.2.2.2.2.2.1 (i - 1)).toInt64)), none, some (.long (zk_key A.2.1 (A.2.2.2.2.2.2.2.1 i).toInt64)), none, none]) (st' := []) (w' := mz_w A Q U T) rfl ?_
      refine ez_ifF (fun z => z ((lg_cmp_eq _ _).mpr hs)) ?_
      refine ez_go ez_h102 5 (pc' := bif decide ((zs_z false) = 0) then 119 else 65) (L' := [some (.ref 0), some (.int (nI (0))), some (.int (zs_z false)), some (.int (nI (i))), some (.long (zk_key A.2.1 (A.2.2.2.2.2.2.2.1 (i - 1)).toInt64)), none, some (.long (zk_key A.2.1 (A.2.2.2.2.2.2.2.1 i).toInt64)), none, some (.int (nI (1)))]) (st' := []) (w' := mz_w A Q U T) rfl ?_
      refine ez_ifT (zz_f rfl) ?_
      refine ez_go ez_h102 2 (pc' := 121) (L' := [some (.ref 0), some (.int (nI (0))), some (.int (nI (0))), some (.int (nI (i))), some (.long (zk_key A.2.1 (A.2.2.2.2.2.2.2.1 (i - 1)).toInt64)), none, some (.long (zk_key A.2.1 (A.2.2.2.2.2.2.2.1 i).toInt64)), none, some (.int (nI (1)))]) (st' := []) (w' := mz_w A Q U T) rfl ?_
      exact ez_E.le (ez_lc (ez_lc (ez_lc (ez_lc (ez_ln (ez_lc (ez_ln (ez_lc (ez_ln ez_l0))))))))) kk
    · skip
      refine ez_go ez_h102 4 (pc' := 34) (L' := [some (.ref 0), some (.int (nI (0))), some (.int (zs_z false)), some (.int (nI (i))), none, none, none, none, none]) (st' := [.int ((nI (i)) - (nI (1))), .ref 0]) (w' := mz_w A Q U T) rfl ?_
      refine ez_top (y := nI (i - 1)) (pk_sub (by omega)) ?_
      refine ez_cl ez_h102 rfl rfl ?_
      refine zo_mkey A Q U T (x := i - 1) (by omega) ho ?_
      refine ez_go ez_h102 3 (pc' := 41) (L' := [some (.ref 0), some (.int (nI (0))), some (.int (zs_z false)), some (.int (nI (i))), some (.long (zk_key A.2.1 (A.2.2.2.2.2.2.2.1 (i - 1)).toInt64)), none, none, none, none]) (st' := [.int (nI (i)), .ref 0]) (w' := mz_w A Q U T) rfl ?_
      refine ez_cl ez_h102 rfl rfl ?_
      refine zo_mkey A Q U T (x := i) (by omega) ho ?_
      refine ez_go ez_h102 5 (pc' := bif decide (¬ (lg_cmp (zk_key A.2.1 (A.2.2.2.2.2.2.2.1 (i - 1)).toInt64) (zk_key A.2.1 (A.2.2.2.2.2.2.2.1 i).toInt64)) = (nI 0)) then 58 else 54) (L' := [some (.ref 0), some (.int (nI (0))), some (.int (zs_z false)), some (.int (nI (i))), some (.long (zk_key A.2.1 (A.2.2.2.2.2.2.2.1 (i - 1)).toInt64)), none, some (.long (zk_key A.2.1 (A.2.2.2.2.2.2.2.1 i).toInt64)), none, none]) (st' := []) (w' := mz_w A Q U T) rfl ?_
      refine ez_ifT (fun z => hs ((lg_cmp_eq _ _).mp z)) ?_
      refine ez_go ez_h102 4 (pc' := bif decide ((zs_z false) = 0) then 119 else 65) (L' := [some (.ref 0), some (.int (nI (0))), some (.int (zs_z false)), some (.int (nI (i))), some (.long (zk_key A.2.1 (A.2.2.2.2.2.2.2.1 (i - 1)).toInt64)), none, some (.long (zk_key A.2.1 (A.2.2.2.2.2.2.2.1 i).toInt64)), none, some (.int (nI (0)))]) (st' := []) (w' := mz_w A Q U T) rfl ?_
      refine ez_ifT (zz_f rfl) ?_
      refine ez_go ez_h102 2 (pc' := 121) (L' := [some (.ref 0), some (.int (nI (0))), some (.int (nI (0))), some (.int (nI (i))), some (.long (zk_key A.2.1 (A.2.2.2.2.2.2.2.1 (i - 1)).toInt64)), none, some (.long (zk_key A.2.1 (A.2.2.2.2.2.2.2.1 i).toInt64)), none, some (.int (nI (0)))]) (st' := []) (w' := mz_w A Q U T) rfl ?_
      exact ez_E.le (ez_lc (ez_lc (ez_lc (ez_lc (ez_ln (ez_lc (ez_ln (ez_lc (ez_ln ez_l0))))))))) kk
  | true =>
    by_cases hs : (zk_key A.2.1 (A.2.2.2.2.2.2.2.1 (i - 1)).toInt64) = (zk_key A.2.1 (A.2.2.2.2.2.2.2.1 i).toInt64)
    · have hnlt : ¬ (zk_key A.2.1 (A.2.2.2.2.2.2.2.1 (i - 1)).toInt64) < (zk_key A.2.1 (A.2.2.2.2.2.2.2.1 i).toInt64) := fun z => Int64.lt_irrefl (hs ▸ z)
      rw [Bool.true_and, show zo_F 0 (zk_key A.2.1 (A.2.2.2.2.2.2.2.1 (i - 1)).toInt64) (zk_key A.2.1 (A.2.2.2.2.2.2.2.1 i).toInt64) (tg (i - 1)) (tg i) = true from decide_eq_true (by rw [hs]; exact Int64.le_refl _)] at kk
      refine ez_go ez_h102 4 (pc' := 34) (L' := [some (.ref 0), some (.int (nI (0))), some (.int (zs_z true)), some (.int (nI (i))), none, none, none, none, none]) (st' := [.int ((nI (i)) - (nI (1))), .ref 0]) (w' := mz_w A Q U T) rfl ?_
      refine ez_top (y := nI (i - 1)) (pk_sub (by omega)) ?_
      refine ez_cl ez_h102 rfl rfl ?_
      refine zo_mkey A Q U T (x := i - 1) (by omega) ho ?_
      refine ez_go ez_h102 3 (pc' := 41) (L' := [some (.ref 0), some (.int (nI (0))), some (.int (zs_z true)), some (.int (nI (i))), some (.long (zk_key A.2.1 (A.2.2.2.2.2.2.2.1 (i - 1)).toInt64)), none, none, none, none]) (st' := [.int (nI (i)), .ref 0]) (w' := mz_w A Q U T) rfl ?_
      refine ez_cl ez_h102 rfl rfl ?_
      refine zo_mkey A Q U T (x := i) (by omega) ho ?_
      refine ez_go ez_h102 5 (pc' := bif decide (¬ (lg_cmp (zk_key A.2.1 (A.2.2.2.2.2.2.2.1 (i - 1)).toInt64) (zk_key A.2.1 (A.2.2.2.2.2.2.2.1 i).toInt64)) = (nI 0)) then 58 else 54) (L' := [some (.ref 0), some (.int (nI (0))), some (.int (zs_z true)), some (.int (nI (i))), some (.long (zk_key A.2.1 (A.2.2.2.2.2.2.2.1 (i - 1)).toInt64)), none, some (.long (zk_key A.2.1 (A.2.2.2.2.2.2.2.1 i).toInt64)), none, none]) (st' := []) (w' := mz_w A Q U T) rfl ?_
      refine ez_ifF (fun z => z ((lg_cmp_eq _ _).mpr hs)) ?_
      refine ez_go ez_h102 5 (pc' := bif decide ((zs_z true) = 0) then 119 else 65) (L' := [some (.ref 0), some (.int (nI (0))), some (.int (zs_z true)), some (.int (nI (i))), some (.long (zk_key A.2.1 (A.2.2.2.2.2.2.2.1 (i - 1)).toInt64)), none, some (.long (zk_key A.2.1 (A.2.2.2.2.2.2.2.1 i).toInt64)), none, some (.int (nI (1)))]) (st' := []) (w' := mz_w A Q U T) rfl ?_
      refine ez_ifF (zz_t rfl) ?_
      refine ez_go ez_h102 3 (pc' := bif decide (¬ (nI (0)) = (nI (2))) then 81 else 70) (L' := [some (.ref 0), some (.int (nI (0))), some (.int (zs_z true)), some (.int (nI (i))), some (.long (zk_key A.2.1 (A.2.2.2.2.2.2.2.1 (i - 1)).toInt64)), none, some (.long (zk_key A.2.1 (A.2.2.2.2.2.2.2.1 i).toInt64)), none, some (.int (nI (1)))]) (st' := []) (w' := mz_w A Q U T) rfl ?_
      refine ez_ifT (zt_ne (by omega) (by omega) (by omega)) ?_
      refine ez_go ez_h102 4 (pc' := bif decide ((lg_cmp (zk_key A.2.1 (A.2.2.2.2.2.2.2.1 (i - 1)).toInt64) (zk_key A.2.1 (A.2.2.2.2.2.2.2.1 i).toInt64)) < (nI 0)) then 115 else 89) (L' := [some (.ref 0), some (.int (nI (0))), some (.int (zs_z true)), some (.int (nI (i))), some (.long (zk_key A.2.1 (A.2.2.2.2.2.2.2.1 (i - 1)).toInt64)), none, some (.long (zk_key A.2.1 (A.2.2.2.2.2.2.2.1 i).toInt64)), none, some (.int (nI (1)))]) (st' := []) (w' := mz_w A Q U T) rfl ?_
      refine ez_ifF (fun z => hnlt ((lg_cmp_lt _ _).mp z)) ?_
      refine ez_go ez_h102 2 (pc' := bif decide ((nI (1)) = (nI 0)) then 119 else 94) (L' := [some (.ref 0), some (.int (nI (0))), some (.int (zs_z true)), some (.int (nI (i))), some (.long (zk_key A.2.1 (A.2.2.2.2.2.2.2.1 (i - 1)).toInt64)), none, some (.long (zk_key A.2.1 (A.2.2.2.2.2.2.2.1 i).toInt64)), none, some (.int (nI (1)))]) (st' := []) (w' := mz_w A Q U T) rfl ?_
      refine ez_ifF (zt_ne (by omega) (by omega) (by omega)) ?_
      refine ez_go ez_h102 2 (pc' := bif decide ((nI (0)) = (nI 0)) then 115 else 98) (L' := [some (.ref 0), some (.int (nI (0))), some (.int (zs_z true)), some (.int (nI (i))), some (.long (zk_key A.2.1 (A.2.2.2.2.2.2.2.1 (i - 1)).toInt64)), none, some (.long (zk_key A.2.1 (A.2.2.2.2.2.2.2.1 i).toInt64)), none, some (.int (nI (1)))]) (st' := []) (w' := mz_w A Q U T) rfl ?_
      refine ez_ifT (zt_eq (by omega)) ?_
      refine ez_go ez_h102 3 (pc' := 121) (L' := [some (.ref 0), some (.int (nI (0))), some (.int (nI (1))), some (.int (nI (i))), some (.long (zk_key A.2.1 (A.2.2.2.2.2.2.2.1 (i - 1)).toInt64)), none, some (.long (zk_key A.2.1 (A.2.2.2.2.2.2.2.1 i).toInt64)), none, some (.int (nI (1)))]) (st' := []) (w' := mz_w A Q U T) rfl ?_
      exact ez_E.le (ez_lc (ez_lc (ez_lc (ez_lc (ez_ln (ez_lc (ez_ln (ez_lc (ez_ln ez_l0))))))))) kk
    · by_cases hc : (zk_key A.2.1 (A.2.2.2.2.2.2.2.1 (i - 1)).toInt64) < (zk_key A.2.1 (A.2.2.2.2.2.2.2.1 i).toInt64)
      · skip
        rw [Bool.true_and, show zo_F 0 (zk_key A.2.1 (A.2.2.2.2.2.2.2.1 (i - 1)).toInt64) (zk_key A.2.1 (A.2.2.2.2.2.2.2.1 i).toInt64) (tg (i - 1)) (tg i) = true from decide_eq_true (Int64.le_of_lt hc)] at kk
        refine ez_go ez_h102 4 (pc' := 34) (L' := [some (.ref 0), some (.int (nI (0))), some (.int (zs_z true)), some (.int (nI (i))), none, none, none, none, none]) (st' := [.int ((nI (i)) - (nI (1))), .ref 0]) (w' := mz_w A Q U T) rfl ?_
        refine ez_top (y := nI (i - 1)) (pk_sub (by omega)) ?_
        refine ez_cl ez_h102 rfl rfl ?_
        refine zo_mkey A Q U T (x := i - 1) (by omega) ho ?_
        refine ez_go ez_h102 3 (pc' := 41) (L' := [some (.ref 0), some (.int (nI (0))), some (.int (zs_z true)), some (.int (nI (i))), some (.long (zk_key A.2.1 (A.2.2.2.2.2.2.2.1 (i - 1)).toInt64)), none, none, none, none]) (st' := [.int (nI (i)), .ref 0]) (w' := mz_w A Q U T) rfl ?_
        refine ez_cl ez_h102 rfl rfl ?_
        refine zo_mkey A Q U T (x := i) (by omega) ho ?_
        refine ez_go ez_h102 5 (pc' := bif decide (¬ (lg_cmp (zk_key A.2.1 (A.2.2.2.2.2.2.2.1 (i - 1)).toInt64) (zk_key A.2.1 (A.2.2.2.2.2.2.2.1 i).toInt64)) = (nI 0)) then 58 else 54) (L' := [some (.ref 0), some (.int (nI (0))), some (.int (zs_z true)), some (.int (nI (i))), some (.long (zk_key A.2.1 (A.2.2.2.2.2.2.2.1 (i - 1)).toInt64)), none, some (.long (zk_key A.2.1 (A.2.2.2.2.2.2.2.1 i).toInt64)), none, none]) (st' := []) (w' := mz_w A Q U T) rfl ?_
        refine ez_ifT (fun z => hs ((lg_cmp_eq _ _).mp z)) ?_
        refine ez_go ez_h102 4 (pc' := bif decide ((zs_z true) = 0) then 119 else 65) (L' := [some (.ref 0), some (.int (nI (0))), some (.int (zs_z true)), some (.int (nI (i))), some (.long (zk_key A.2.1 (A.2.2.2.2.2.2.2.1 (i - 1)).toInt64)), none, some (.long (zk_key A.2.1 (A.2.2.2.2.2.2.2.1 i).toInt64)), none, some (.int (nI (0)))]) (st' := []) (w' := mz_w A Q U T) rfl ?_
        refine ez_ifF (zz_t rfl) ?_
        refine ez_go ez_h102 3 (pc' := bif decide (¬ (nI (0)) = (nI (2))) then 81 else 70) (L' := [some (.ref 0), some (.int (nI (0))), some (.int (zs_z true)), some (.int (nI (i))), some (.long (zk_key A.2.1 (A.2.2.2.2.2.2.2.1 (i - 1)).toInt64)), none, some (.long (zk_key A.2.1 (A.2.2.2.2.2.2.2.1 i).toInt64)), none, some (.int (nI (0)))]) (st' := []) (w' := mz_w A Q U T) rfl ?_
        refine ez_ifT (zt_ne (by omega) (by omega) (by omega)) ?_
        refine ez_go ez_h102 4 (pc' := bif decide ((lg_cmp (zk_key A.2.1 (A.2.2.2.2.2.2.2.1 (i - 1)).toInt64) (zk_key A.2.1 (A.2.2.2.2.2.2.2.1 i).toInt64)) < (nI 0)) then 115 else 89) (L' := [some (.ref 0), some (.int (nI (0))), some (.int (zs_z true)), some (.int (nI (i))), some (.long (zk_key A.2.1 (A.2.2.2.2.2.2.2.1 (i - 1)).toInt64)), none, some (.long (zk_key A.2.1 (A.2.2.2.2.2.2.2.1 i).toInt64)), none, some (.int (nI (0)))]) (st' := []) (w' := mz_w A Q U T) rfl ?_
        refine ez_ifT ((lg_cmp_lt _ _).mpr hc) ?_
        refine ez_go ez_h102 3 (pc' := 121) (L' := [some (.ref 0), some (.int (nI (0))), some (.int (nI (1))), some (.int (nI (i))), some (.long (zk_key A.2.1 (A.2.2.2.2.2.2.2.1 (i - 1)).toInt64)), none, some (.long (zk_key A.2.1 (A.2.2.2.2.2.2.2.1 i).toInt64)), none, some (.int (nI (0)))]) (st' := []) (w' := mz_w A Q U T) rfl ?_
        exact ez_E.le (ez_lc (ez_lc (ez_lc (ez_lc (ez_ln (ez_lc (ez_ln (ez_lc (ez_ln ez_l0))))))))) kk
      · skip
        rw [Bool.true_and, show zo_F 0 (zk_key A.2.1 (A.2.2.2.2.2.2.2.1 (i - 1)).toInt64) (zk_key A.2.1 (A.2.2.2.2.2.2.2.1 i).toInt64) (tg (i - 1)) (tg i) = false from decide_eq_false (fun z => hs (Int64.le_antisymm z (Int64.not_lt.mp hc)))] at kk
        refine ez_go ez_h102 4 (pc' := 34) (L' := [some (.ref 0), some (.int (nI (0))), some (.int (zs_z true)), some (.int (nI (i))), none, none, none, none, none]) (st' := [.int ((nI (i)) - (nI (1))), .ref 0]) (w' := mz_w A Q U T) rfl ?_
        refine ez_top (y := nI (i - 1)) (pk_sub (by omega)) ?_
        refine ez_cl ez_h102 rfl rfl ?_
        refine zo_mkey A Q U T (x := i - 1) (by omega) ho ?_
        refine ez_go ez_h102 3 (pc' := 41) (L' := [some (.ref 0), some (.int (nI (0))), some (.int (zs_z true)), some (.int (nI (i))), some (.long (zk_key A.2.1 (A.2.2.2.2.2.2.2.1 (i - 1)).toInt64)), none, none, none, none]) (st' := [.int (nI (i)), .ref 0]) (w' := mz_w A Q U T) rfl ?_
        refine ez_cl ez_h102 rfl rfl ?_
        refine zo_mkey A Q U T (x := i) (by omega) ho ?_
        refine ez_go ez_h102 5 (pc' := bif decide (¬ (lg_cmp (zk_key A.2.1 (A.2.2.2.2.2.2.2.1 (i - 1)).toInt64) (zk_key A.2.1 (A.2.2.2.2.2.2.2.1 i).toInt64)) = (nI 0)) then 58 else 54) (L' := [some (.ref 0), some (.int (nI (0))), some (.int (zs_z true)), some (.int (nI (i))), some (.long (zk_key A.2.1 (A.2.2.2.2.2.2.2.1 (i - 1)).toInt64)), none, some (.long (zk_key A.2.1 (A.2.2.2.2.2.2.2.1 i).toInt64)), none, none]) (st' := []) (w' := mz_w A Q U T) rfl ?_
        refine ez_ifT (fun z => hs ((lg_cmp_eq _ _).mp z)) ?_
        refine ez_go ez_h102 4 (pc' := bif decide ((zs_z true) = 0) then 119 else 65) (L' := [some (.ref 0), some (.int (nI (0))), some (.int (zs_z true)), some (.int (nI (i))), some (.long (zk_key A.2.1 (A.2.2.2.2.2.2.2.1 (i - 1)).toInt64)), none, some (.long (zk_key A.2.1 (A.2.2.2.2.2.2.2.1 i).toInt64)), none, some (.int (nI (0)))]) (st' := []) (w' := mz_w A Q U T) rfl ?_
        refine ez_ifF (zz_t rfl) ?_
        refine ez_go ez_h102 3 (pc' := bif decide (¬ (nI (0)) = (nI (2))) then 81 else 70) (L' := [some (.ref 0), some (.int (nI (0))), some (.int (zs_z true)), some (.int (nI (i))), some (.long (zk_key A.2.1 (A.2.2.2.2.2.2.2.1 (i - 1)).toInt64)), none, some (.long (zk_key A.2.1 (A.2.2.2.2.2.2.2.1 i).toInt64)), none, some (.int (nI (0)))]) (st' := []) (w' := mz_w A Q U T) rfl ?_
        refine ez_ifT (zt_ne (by omega) (by omega) (by omega)) ?_
        refine ez_go ez_h102 4 (pc' := bif decide ((lg_cmp (zk_key A.2.1 (A.2.2.2.2.2.2.2.1 (i - 1)).toInt64) (zk_key A.2.1 (A.2.2.2.2.2.2.2.1 i).toInt64)) < (nI 0)) then 115 else 89) (L' := [some (.ref 0), some (.int (nI (0))), some (.int (zs_z true)), some (.int (nI (i))), some (.long (zk_key A.2.1 (A.2.2.2.2.2.2.2.1 (i - 1)).toInt64)), none, some (.long (zk_key A.2.1 (A.2.2.2.2.2.2.2.1 i).toInt64)), none, some (.int (nI (0)))]) (st' := []) (w' := mz_w A Q U T) rfl ?_
        refine ez_ifF (fun z => hc ((lg_cmp_lt _ _).mp z)) ?_
        refine ez_go ez_h102 2 (pc' := bif decide ((nI (0)) = (nI 0)) then 119 else 94) (L' := [some (.ref 0), some (.int (nI (0))), some (.int (zs_z true)), some (.int (nI (i))), some (.long (zk_key A.2.1 (A.2.2.2.2.2.2.2.1 (i - 1)).toInt64)), none, some (.long (zk_key A.2.1 (A.2.2.2.2.2.2.2.1 i).toInt64)), none, some (.int (nI (0)))]) (st' := []) (w' := mz_w A Q U T) rfl ?_
        refine ez_ifT (zt_eq (by omega)) ?_
        refine ez_go ez_h102 2 (pc' := 121) (L' := [some (.ref 0), some (.int (nI (0))), some (.int (nI (0))), some (.int (nI (i))), some (.long (zk_key A.2.1 (A.2.2.2.2.2.2.2.1 (i - 1)).toInt64)), none, some (.long (zk_key A.2.1 (A.2.2.2.2.2.2.2.1 i).toInt64)), none, some (.int (nI (0)))]) (st' := []) (w' := mz_w A Q U T) rfl ?_
        exact ez_E.le (ez_lc (ez_lc (ez_lc (ez_lc (ez_ln (ez_lc (ez_ln (ez_lc (ez_ln ez_l0))))))))) kk
theorem zo_isl0 {n : Nat} {tg : Nat → Nat} {A : mz_A} {Q : mz_Q} {U : mz_U} {T : mz_T} (hn : n ≤ 600) (ht : ∀ k, k < n → tg k < n) (e2 : A.1 = nI n) (ho : ze_or A.2.1) (h2 : ∀ k, k < n → T.2 k = nI (tg k)) {post : Option Value → ez_W → Prop} (kk : post (some (.int (zs_z (zo_al (fun k => zo_F 0 (zk_key A.2.1 (A.2.2.2.2.2.2.2.1 (k - 1)).toInt64) (zk_key A.2.1 (A.2.2.2.2.2.2.2.1 k).toInt64) (tg (k - 1)) (tg k)) (n - 1))))) (mz_w A Q U T)) :
    ∀ (s i : Nat), n ≤ i + s → 1 ≤ i → (n < i → n = 0 ∧ i = 1) → i ≤ 601 → ez_E 102 22 [some (.ref 0), some (.int (nI (0))), some (.int (zs_z (zo_al (fun k => zo_F 0 (zk_key A.2.1 (A.2.2.2.2.2.2.2.1 (k - 1)).toInt64) (zk_key A.2.1 (A.2.2.2.2.2.2.2.1 k).toInt64) (tg (k - 1)) (tg k)) (i - 1)))), some (.int (nI (i))), none, none, none, none, none] [] (mz_w A Q U T) post := by
  intro s
  induction s with
  | zero =>
    intro i q1 q2 q3 q4
    have hin : i - 1 = n - 1 := by omega
    rw [hin]
    refine ez_go ez_h102 3 (pc' := 27) (L' := [some (.ref 0), some (.int (nI (0))), some (.int (zs_z (zo_al (fun k => zo_F 0 (zk_key A.2.1 (A.2.2.2.2.2.2.2.1 (k - 1)).toInt64) (zk_key A.2.1 (A.2.2.2.2.2.2.2.1 k).toInt64) (tg (k - 1)) (tg k)) (n - 1)))), some (.int (nI (i))), none, none, none, none, none]) (st' := [.int (A.1), .int (nI (i))]) (w' := mz_w A Q U T) rfl ?_
    refine ez_top (y := nI (n)) (e2) ?_
    refine ez_go ez_h102 1 (pc' := bif decide ((nI (n)) ≤ (nI (i))) then 127 else 30) (L' := [some (.ref 0), some (.int (nI (0))), some (.int (zs_z (zo_al (fun k => zo_F 0 (zk_key A.2.1 (A.2.2.2.2.2.2.2.1 (k - 1)).toInt64) (zk_key A.2.1 (A.2.2.2.2.2.2.2.1 k).toInt64) (tg (k - 1)) (tg k)) (n - 1)))), some (.int (nI (i))), none, none, none, none, none]) (st' := []) (w' := mz_w A Q U T) rfl ?_
    refine ez_ifT (zt_le (a := n) (b := i) (by omega) (by omega)) ?_
    refine ez_go ez_h102 1 (pc' := 128) (L' := [some (.ref 0), some (.int (nI (0))), some (.int (zs_z (zo_al (fun k => zo_F 0 (zk_key A.2.1 (A.2.2.2.2.2.2.2.1 (k - 1)).toInt64) (zk_key A.2.1 (A.2.2.2.2.2.2.2.1 k).toInt64) (tg (k - 1)) (tg k)) (n - 1)))), some (.int (nI (i))), none, none, none, none, none]) (st' := [.int (zs_z (zo_al (fun k => zo_F 0 (zk_key A.2.1 (A.2.2.2.2.2.2.2.1 (k - 1)).toInt64) (zk_key A.2.1 (A.2.2.2.2.2.2.2.1 k).toInt64) (tg (k - 1)) (tg k)) (n - 1)))]) (w' := mz_w A Q U T) rfl ?_
    refine ez_zret rfl ez_h102 rfl rfl (zz_01 _) ?_
    exact kk
  | succ s ih =>
    intro i q1 q2 q3 q4
    by_cases hi : n ≤ i
    · have hin : i - 1 = n - 1 := by omega
      rw [hin]
      refine ez_go ez_h102 3 (pc' := 27) (L' := [some (.ref 0), some (.int (nI (0))), some (.int (zs_z (zo_al (fun k => zo_F 0 (zk_key A.2.1 (A.2.2.2.2.2.2.2.1 (k - 1)).toInt64) (zk_key A.2.1 (A.2.2.2.2.2.2.2.1 k).toInt64) (tg (k - 1)) (tg k)) (n - 1)))), some (.int (nI (i))), none, none, none, none, none]) (st' := [.int (A.1), .int (nI (i))]) (w' := mz_w A Q U T) rfl ?_
      refine ez_top (y := nI (n)) (e2) ?_
      refine ez_go ez_h102 1 (pc' := bif decide ((nI (n)) ≤ (nI (i))) then 127 else 30) (L' := [some (.ref 0), some (.int (nI (0))), some (.int (zs_z (zo_al (fun k => zo_F 0 (zk_key A.2.1 (A.2.2.2.2.2.2.2.1 (k - 1)).toInt64) (zk_key A.2.1 (A.2.2.2.2.2.2.2.1 k).toInt64) (tg (k - 1)) (tg k)) (n - 1)))), some (.int (nI (i))), none, none, none, none, none]) (st' := []) (w' := mz_w A Q U T) rfl ?_
      refine ez_ifT (zt_le (a := n) (b := i) (by omega) (by omega)) ?_
      refine ez_go ez_h102 1 (pc' := 128) (L' := [some (.ref 0), some (.int (nI (0))), some (.int (zs_z (zo_al (fun k => zo_F 0 (zk_key A.2.1 (A.2.2.2.2.2.2.2.1 (k - 1)).toInt64) (zk_key A.2.1 (A.2.2.2.2.2.2.2.1 k).toInt64) (tg (k - 1)) (tg k)) (n - 1)))), some (.int (nI (i))), none, none, none, none, none]) (st' := [.int (zs_z (zo_al (fun k => zo_F 0 (zk_key A.2.1 (A.2.2.2.2.2.2.2.1 (k - 1)).toInt64) (zk_key A.2.1 (A.2.2.2.2.2.2.2.1 k).toInt64) (tg (k - 1)) (tg k)) (n - 1)))]) (w' := mz_w A Q U T) rfl ?_
      refine ez_zret rfl ez_h102 rfl rfl (zz_01 _) ?_
      exact kk
    · skip
      refine ez_go ez_h102 3 (pc' := 27) (L' := [some (.ref 0), some (.int (nI (0))), some (.int (zs_z (zo_al (fun k => zo_F 0 (zk_key A.2.1 (A.2.2.2.2.2.2.2.1 (k - 1)).toInt64) (zk_key A.2.1 (A.2.2.2.2.2.2.2.1 k).toInt64) (tg (k - 1)) (tg k)) (i - 1)))), some (.int (nI (i))), none, none, none, none, none]) (st' := [.int (A.1), .int (nI (i))]) (w' := mz_w A Q U T) rfl ?_
      refine ez_top (y := nI (n)) (e2) ?_
      refine ez_go ez_h102 1 (pc' := bif decide ((nI (n)) ≤ (nI (i))) then 127 else 30) (L' := [some (.ref 0), some (.int (nI (0))), some (.int (zs_z (zo_al (fun k => zo_F 0 (zk_key A.2.1 (A.2.2.2.2.2.2.2.1 (k - 1)).toInt64) (zk_key A.2.1 (A.2.2.2.2.2.2.2.1 k).toInt64) (tg (k - 1)) (tg k)) (i - 1)))), some (.int (nI (i))), none, none, none, none, none]) (st' := []) (w' := mz_w A Q U T) rfl ?_
      refine ez_ifF (zt_nle (a := n) (b := i) (by omega) (by omega)) ?_
      refine zo_ism0 hn ht ho h2 (by omega) q2 _ ?_
      have q5 := ih (i + 1) (by omega) (by omega) (by omega) (by omega)
      rw [show zo_al (fun k => zo_F 0 (zk_key A.2.1 (A.2.2.2.2.2.2.2.1 (k - 1)).toInt64) (zk_key A.2.1 (A.2.2.2.2.2.2.2.1 k).toInt64) (tg (k - 1)) (tg k)) (i + 1 - 1) = (zo_al (fun k => zo_F 0 (zk_key A.2.1 (A.2.2.2.2.2.2.2.1 (k - 1)).toInt64) (zk_key A.2.1 (A.2.2.2.2.2.2.2.1 k).toInt64) (tg (k - 1)) (tg k)) (i - 1) && zo_F 0 (zk_key A.2.1 (A.2.2.2.2.2.2.2.1 (i - 1)).toInt64) (zk_key A.2.1 (A.2.2.2.2.2.2.2.1 i).toInt64) (tg (i - 1)) (tg i)) by
        rw [show i + 1 - 1 = (i - 1) + 1 by omega]
        show (zo_al _ (i - 1) && zo_F 0 (zk_key A.2.1 (A.2.2.2.2.2.2.2.1 (i - 1 + 1 - 1)).toInt64) (zk_key A.2.1 (A.2.2.2.2.2.2.2.1 (i - 1 + 1)).toInt64) (tg (i - 1 + 1 - 1)) (tg (i - 1 + 1))) = _
        rw [show i - 1 + 1 - 1 = i - 1 by omega, show i - 1 + 1 = i by omega]] at q5
      refine ez_inc ez_h102 rfl rfl (v := nI (i + 1)) (zi_1 _) rfl ?_
      refine ez_go ez_h102 1 (pc' := 22) (L' := [some (.ref 0), some (.int (nI (0))), some (.int (zs_z (zo_al (fun k => zo_F 0 (zk_key A.2.1 (A.2.2.2.2.2.2.2.1 (k - 1)).toInt64) (zk_key A.2.1 (A.2.2.2.2.2.2.2.1 k).toInt64) (tg (k - 1)) (tg k)) (i - 1) && zo_F 0 (zk_key A.2.1 (A.2.2.2.2.2.2.2.1 (i - 1)).toInt64) (zk_key A.2.1 (A.2.2.2.2.2.2.2.1 i).toInt64) (tg (i - 1)) (tg i)))), some (.int (nI (i + 1))), none, none, none, none, none]) (st' := []) (w' := mz_w A Q U T) rfl ?_
      exact q5
theorem zo_ism1 {how : Int32} (g2 : ¬ how = nI 2) (g0 : ¬ how = nI 0) {n : Nat} {tg : Nat → Nat} {A : mz_A} {Q : mz_Q} {U : mz_U} {T : mz_T} (hn : n ≤ 600) (ht : ∀ k, k < n → tg k < n) (ho : ze_or A.2.1) (h2 : ∀ k, k < n → T.2 k = nI (tg k)) {i : Nat} (hi : i < n) (hi1 : 1 ≤ i) (v : Bool) {post : Option Value → ez_W → Prop} (kk : ez_E 102 121 [some (.ref 0), some (.int (how)), some (.int (zs_z (v && zo_F 1 (zk_key A.2.1 (A.2.2.2.2.2.2.2.1 (i - 1)).toInt64) (zk_key A.2.1 (A.2.2.2.2.2.2.2.1 i).toInt64) (tg (i - 1)) (tg i)))), some (.int (nI (i))), none, none, none, none, none] [] (mz_w A Q U T) post) : ez_E 102 30 [some (.ref 0), some (.int (how)), some (.int (zs_z v)), some (.int (nI (i))), none, none, none, none, none] [] (mz_w A Q U T) post := by
  have t1 := ht i (by omega)
  have t2 := ht (i - 1) (by omega)
  cases v with
  | false =>
    by_cases hs : (zk_key A.2.1 (A.2.2.2.2.2.2.2.1 (i - 1)).toInt64) = (zk_key A.2.1 (A.2.2.2.2.2.2.2.1 i).toInt64)
    · skip
      refine ez_go ez_h102 4 (pc' := 34) (L' := [some (.ref 0), some (.int (how)), some (.int (zs_z false)), some (.int (nI (i))), none, none, none, none, none]) (st' := [.int ((nI (i)) - (nI (1))), .ref 0]) (w' := mz_w A Q U T) rfl ?_
      refine ez_top (y := nI (i - 1)) (pk_sub (by omega)) ?_
      refine ez_cl ez_h102 rfl rfl ?_
      refine zo_mkey A Q U T (x := i - 1) (by omega) ho ?_
      refine ez_go ez_h102 3 (pc' := 41) (L' := [some (.ref 0), some (.int (how)), some (.int (zs_z false)), some (.int (nI (i))), some (.long (zk_key A.2.1 (A.2.2.2.2.2.2.2.1 (i - 1)).toInt64)), none, none, none, none]) (st' := [.int (nI (i)), .ref 0]) (w' := mz_w A Q U T) rfl ?_
      refine ez_cl ez_h102 rfl rfl ?_
      refine zo_mkey A Q U T (x := i) (by omega) ho ?_
      refine ez_go ez_h102 5 (pc' := bif decide (¬ (lg_cmp (zk_key A.2.1 (A.2.2.2.2.2.2.2.1 (i - 1)).toInt64) (zk_key A.2.1 (A.2.2.2.2.2.2.2.1 i).toInt64)) = (nI 0)) then 58 else 54) (L' := [some (.ref 0), some (.int (how)), some (.int (zs_z false)), some (.int (nI (i))), some (.long (zk_key A.2.1 (A.2.2.2.2.2.2.2.1 (i - 1)).toInt64)), none, some (.long (zk_key A.2.1 (A.2.2.2.2.2.2.2.1 i).toInt64)), none, none]) (st' := []) (w' := mz_w A Q U T) rfl ?_
      refine ez_ifF (fun z => z ((lg_cmp_eq _ _).mpr hs)) ?_
      refine ez_go ez_h102 5 (pc' := bif decide ((zs_z false) = 0) then 119 else 65) (L' := [some (.ref 0), some (.int (how)), some (.int (zs_z false)), some (.int (nI (i))), some (.long (zk_key A.2.1 (A.2.2.2.2.2.2.2.1 (i - 1)).toInt64)), none, some (.long (zk_key A.2.1 (A.2.2.2.2.2.2.2.1 i).toInt64)), none, some (.int (nI (1)))]) (st' := []) (w' := mz_w A Q U T) rfl ?_
      refine ez_ifT (zz_f rfl) ?_
      refine ez_go ez_h102 2 (pc' := 121) (L' := [some (.ref 0), some (.int (how)), some (.int (nI (0))), some (.int (nI (i))), some (.long (zk_key A.2.1 (A.2.2.2.2.2.2.2.1 (i - 1)).toInt64)), none, some (.long (zk_key A.2.1 (A.2.2.2.2.2.2.2.1 i).toInt64)), none, some (.int (nI (1)))]) (st' := []) (w' := mz_w A Q U T) rfl ?_
      exact ez_E.le (ez_lc (ez_lc (ez_lc (ez_lc (ez_ln (ez_lc (ez_ln (ez_lc (ez_ln ez_l0))))))))) kk
    · skip
      refine ez_go ez_h102 4 (pc' := 34) (L' := [some (.ref 0), some (.int (how)), some (.int (zs_z false)), some (.int (nI (i))), none, none, none, none, none]) (st' := [.int ((nI (i)) - (nI (1))), .ref 0]) (w' := mz_w A Q U T) rfl ?_
      refine ez_top (y := nI (i - 1)) (pk_sub (by omega)) ?_
      refine ez_cl ez_h102 rfl rfl ?_
      refine zo_mkey A Q U T (x := i - 1) (by omega) ho ?_
      refine ez_go ez_h102 3 (pc' := 41) (L' := [some (.ref 0), some (.int (how)), some (.int (zs_z false)), some (.int (nI (i))), some (.long (zk_key A.2.1 (A.2.2.2.2.2.2.2.1 (i - 1)).toInt64)), none, none, none, none]) (st' := [.int (nI (i)), .ref 0]) (w' := mz_w A Q U T) rfl ?_
      refine ez_cl ez_h102 rfl rfl ?_
      refine zo_mkey A Q U T (x := i) (by omega) ho ?_
      refine ez_go ez_h102 5 (pc' := bif decide (¬ (lg_cmp (zk_key A.2.1 (A.2.2.2.2.2.2.2.1 (i - 1)).toInt64) (zk_key A.2.1 (A.2.2.2.2.2.2.2.1 i).toInt64)) = (nI 0)) then 58 else 54) (L' := [some (.ref 0), some (.int (how)), some (.int (zs_z false)), some (.int (nI (i))), some (.long (zk_key A.2.1 (A.2.2.2.2.2.2.2.1 (i - 1)).toInt64)), none, some (.long (zk_key A.2.1 (A.2.2.2.2.2.2.2.1 i).toInt64)), none, none]) (st' := []) (w' := mz_w A Q U T) rfl ?_
      refine ez_ifT (fun z => hs ((lg_cmp_eq _ _).mp z)) ?_
      refine ez_go ez_h102 4 (pc' := bif decide ((zs_z false) = 0) then 119 else 65) (L' := [some (.ref 0), some (.int (how)), some (.int (zs_z false)), some (.int (nI (i))), some (.long (zk_key A.2.1 (A.2.2.2.2.2.2.2.1 (i - 1)).toInt64)), none, some (.long (zk_key A.2.1 (A.2.2.2.2.2.2.2.1 i).toInt64)), none, some (.int (nI (0)))]) (st' := []) (w' := mz_w A Q U T) rfl ?_
      refine ez_ifT (zz_f rfl) ?_
      refine ez_go ez_h102 2 (pc' := 121) (L' := [some (.ref 0), some (.int (how)), some (.int (nI (0))), some (.int (nI (i))), some (.long (zk_key A.2.1 (A.2.2.2.2.2.2.2.1 (i - 1)).toInt64)), none, some (.long (zk_key A.2.1 (A.2.2.2.2.2.2.2.1 i).toInt64)), none, some (.int (nI (0)))]) (st' := []) (w' := mz_w A Q U T) rfl ?_
      exact ez_E.le (ez_lc (ez_lc (ez_lc (ez_lc (ez_ln (ez_lc (ez_ln (ez_lc (ez_ln ez_l0))))))))) kk
  | true =>
    by_cases hs : (zk_key A.2.1 (A.2.2.2.2.2.2.2.1 (i - 1)).toInt64) = (zk_key A.2.1 (A.2.2.2.2.2.2.2.1 i).toInt64)
    · have hnlt : ¬ (zk_key A.2.1 (A.2.2.2.2.2.2.2.1 (i - 1)).toInt64) < (zk_key A.2.1 (A.2.2.2.2.2.2.2.1 i).toInt64) := fun z => Int64.lt_irrefl (hs ▸ z)
      by_cases hst : tg (i - 1) < tg i
      · skip
        rw [Bool.true_and, show zo_F 1 (zk_key A.2.1 (A.2.2.2.2.2.2.2.1 (i - 1)).toInt64) (zk_key A.2.1 (A.2.2.2.2.2.2.2.1 i).toInt64) (tg (i - 1)) (tg i) = true from decide_eq_true (Or.inr ⟨hs, hst⟩)] at kk
        refine ez_go ez_h102 4 (pc' := 34) (L' := [some (.ref 0), some (.int (how)), some (.int (zs_z true)), some (.int (nI (i))), none, none, none, none, none]) (st' := [.int ((nI (i)) - (nI (1))), .ref 0]) (w' := mz_w A Q U T) rfl ?_
        refine ez_top (y := nI (i - 1)) (pk_sub (by omega)) ?_
        refine ez_cl ez_h102 rfl rfl ?_
        refine zo_mkey A Q U T (x := i - 1) (by omega) ho ?_
        refine ez_go ez_h102 3 (pc' := 41) (L' := [some (.ref 0), some (.int (how)), some (.int (zs_z true)), some (.int (nI (i))), some (.long (zk_key A.2.1 (A.2.2.2.2.2.2.2.1 (i - 1)).toInt64)), none, none, none, none]) (st' := [.int (nI (i)), .ref 0]) (w' := mz_w A Q U T) rfl ?_
        refine ez_cl ez_h102 rfl rfl ?_
        refine zo_mkey A Q U T (x := i) (by omega) ho ?_
        refine ez_go ez_h102 5 (pc' := bif decide (¬ (lg_cmp (zk_key A.2.1 (A.2.2.2.2.2.2.2.1 (i - 1)).toInt64) (zk_key A.2.1 (A.2.2.2.2.2.2.2.1 i).toInt64)) = (nI 0)) then 58 else 54) (L' := [some (.ref 0), some (.int (how)), some (.int (zs_z true)), some (.int (nI (i))), some (.long (zk_key A.2.1 (A.2.2.2.2.2.2.2.1 (i - 1)).toInt64)), none, some (.long (zk_key A.2.1 (A.2.2.2.2.2.2.2.1 i).toInt64)), none, none]) (st' := []) (w' := mz_w A Q U T) rfl ?_
        refine ez_ifF (fun z => z ((lg_cmp_eq _ _).mpr hs)) ?_
        refine ez_go ez_h102 5 (pc' := bif decide ((zs_z true) = 0) then 119 else 65) (L' := [some (.ref 0), some (.int (how)), some (.int (zs_z true)), some (.int (nI (i))), some (.long (zk_key A.2.1 (A.2.2.2.2.2.2.2.1 (i - 1)).toInt64)), none, some (.long (zk_key A.2.1 (A.2.2.2.2.2.2.2.1 i).toInt64)), none, some (.int (nI (1)))]) (st' := []) (w' := mz_w A Q U T) rfl ?_
        refine ez_ifF (zz_t rfl) ?_
        refine ez_go ez_h102 3 (pc' := bif decide (¬ how = (nI (2))) then 81 else 70) (L' := [some (.ref 0), some (.int (how)), some (.int (zs_z true)), some (.int (nI (i))), some (.long (zk_key A.2.1 (A.2.2.2.2.2.2.2.1 (i - 1)).toInt64)), none, some (.long (zk_key A.2.1 (A.2.2.2.2.2.2.2.1 i).toInt64)), none, some (.int (nI (1)))]) (st' := []) (w' := mz_w A Q U T) rfl ?_
        refine ez_ifT (g2) ?_
        refine ez_go ez_h102 4 (pc' := bif decide ((lg_cmp (zk_key A.2.1 (A.2.2.2.2.2.2.2.1 (i - 1)).toInt64) (zk_key A.2.1 (A.2.2.2.2.2.2.2.1 i).toInt64)) < (nI 0)) then 115 else 89) (L' := [some (.ref 0), some (.int (how)), some (.int (zs_z true)), some (.int (nI (i))), some (.long (zk_key A.2.1 (A.2.2.2.2.2.2.2.1 (i - 1)).toInt64)), none, some (.long (zk_key A.2.1 (A.2.2.2.2.2.2.2.1 i).toInt64)), none, some (.int (nI (1)))]) (st' := []) (w' := mz_w A Q U T) rfl ?_
        refine ez_ifF (fun z => hnlt ((lg_cmp_lt _ _).mp z)) ?_
        refine ez_go ez_h102 2 (pc' := bif decide ((nI (1)) = (nI 0)) then 119 else 94) (L' := [some (.ref 0), some (.int (how)), some (.int (zs_z true)), some (.int (nI (i))), some (.long (zk_key A.2.1 (A.2.2.2.2.2.2.2.1 (i - 1)).toInt64)), none, some (.long (zk_key A.2.1 (A.2.2.2.2.2.2.2.1 i).toInt64)), none, some (.int (nI (1)))]) (st' := []) (w' := mz_w A Q U T) rfl ?_
        refine ez_ifF (zt_ne (by omega) (by omega) (by omega)) ?_
        refine ez_go ez_h102 2 (pc' := bif decide (how = (nI 0)) then 115 else 98) (L' := [some (.ref 0), some (.int (how)), some (.int (zs_z true)), some (.int (nI (i))), some (.long (zk_key A.2.1 (A.2.2.2.2.2.2.2.1 (i - 1)).toInt64)), none, some (.long (zk_key A.2.1 (A.2.2.2.2.2.2.2.1 i).toInt64)), none, some (.int (nI (1)))]) (st' := []) (w' := mz_w A Q U T) rfl ?_
        refine ez_ifF (g0) ?_
        refine ez_go ez_h102 5 (pc' := 105) (L' := [some (.ref 0), some (.int (how)), some (.int (zs_z true)), some (.int (nI (i))), some (.long (zk_key A.2.1 (A.2.2.2.2.2.2.2.1 (i - 1)).toInt64)), none, some (.long (zk_key A.2.1 (A.2.2.2.2.2.2.2.1 i).toInt64)), none, some (.int (nI (1)))]) (st' := [.int ((nI (i)) - (nI (1))), .ref 2]) (w' := mz_w A Q U T) rfl ?_
        refine ez_top (y := nI (i - 1)) (pk_sub (by omega)) ?_
        refine ez_ald ez_h102 rfl rfl (i - 1) rfl (by omega) (by omega) ?_
        refine ez_top (y := nI (tg (i - 1))) (h2 (i - 1) (by omega)) ?_
        refine ez_go ez_h102 3 (pc' := 111) (L' := [some (.ref 0), some (.int (how)), some (.int (zs_z true)), some (.int (nI (i))), some (.long (zk_key A.2.1 (A.2.2.2.2.2.2.2.1 (i - 1)).toInt64)), none, some (.long (zk_key A.2.1 (A.2.2.2.2.2.2.2.1 i).toInt64)), none, some (.int (nI (1)))]) (st' := [.int (nI (i)), .ref 2, .int (nI (tg (i - 1)))]) (w' := mz_w A Q U T) rfl ?_
        refine ez_ald ez_h102 rfl rfl (i) rfl (by omega) (by omega) ?_
        refine ez_top (y := nI (tg i)) (h2 i (by omega)) ?_
        refine ez_go ez_h102 1 (pc' := bif decide ((nI (tg i)) ≤ (nI (tg (i - 1)))) then 119 else 115) (L' := [some (.ref 0), some (.int (how)), some (.int (zs_z true)), some (.int (nI (i))), some (.long (zk_key A.2.1 (A.2.2.2.2.2.2.2.1 (i - 1)).toInt64)), none, some (.long (zk_key A.2.1 (A.2.2.2.2.2.2.2.1 i).toInt64)), none, some (.int (nI (1)))]) (st' := []) (w' := mz_w A Q U T) rfl ?_
        refine ez_ifF (zt_nle (a := tg i) (b := tg (i - 1)) (by omega) (by omega)) ?_
        refine ez_go ez_h102 3 (pc' := 121) (L' := [some (.ref 0), some (.int (how)), some (.int (nI (1))), some (.int (nI (i))), some (.long (zk_key A.2.1 (A.2.2.2.2.2.2.2.1 (i - 1)).toInt64)), none, some (.long (zk_key A.2.1 (A.2.2.2.2.2.2.2.1 i).toInt64)), none, some (.int (nI (1)))]) (st' := []) (w' := mz_w A Q U T) rfl ?_
        exact ez_E.le (ez_lc (ez_lc (ez_lc (ez_lc (ez_ln (ez_lc (ez_ln (ez_lc (ez_ln ez_l0))))))))) kk
      · skip
        rw [Bool.true_and, show zo_F 1 (zk_key A.2.1 (A.2.2.2.2.2.2.2.1 (i - 1)).toInt64) (zk_key A.2.1 (A.2.2.2.2.2.2.2.1 i).toInt64) (tg (i - 1)) (tg i) = false from decide_eq_false (fun z => z.elim hnlt (fun z => hst z.2))] at kk
        refine ez_go ez_h102 4 (pc' := 34) (L' := [some (.ref 0), some (.int (how)), some (.int (zs_z true)), some (.int (nI (i))), none, none, none, none, none]) (st' := [.int ((nI (i)) - (nI (1))), .ref 0]) (w' := mz_w A Q U T) rfl ?_
        refine ez_top (y := nI (i - 1)) (pk_sub (by omega)) ?_
        refine ez_cl ez_h102 rfl rfl ?_
        refine zo_mkey A Q U T (x := i - 1) (by omega) ho ?_
        refine ez_go ez_h102 3 (pc' := 41) (L' := [some (.ref 0), some (.int (how)), some (.int (zs_z true)), some (.int (nI (i))), some (.long (zk_key A.2.1 (A.2.2.2.2.2.2.2.1 (i - 1)).toInt64)), none, none, none, none]) (st' := [.int (nI (i)), .ref 0]) (w' := mz_w A Q U T) rfl ?_
        refine ez_cl ez_h102 rfl rfl ?_
        refine zo_mkey A Q U T (x := i) (by omega) ho ?_
        refine ez_go ez_h102 5 (pc' := bif decide (¬ (lg_cmp (zk_key A.2.1 (A.2.2.2.2.2.2.2.1 (i - 1)).toInt64) (zk_key A.2.1 (A.2.2.2.2.2.2.2.1 i).toInt64)) = (nI 0)) then 58 else 54) (L' := [some (.ref 0), some (.int (how)), some (.int (zs_z true)), some (.int (nI (i))), some (.long (zk_key A.2.1 (A.2.2.2.2.2.2.2.1 (i - 1)).toInt64)), none, some (.long (zk_key A.2.1 (A.2.2.2.2.2.2.2.1 i).toInt64)), none, none]) (st' := []) (w' := mz_w A Q U T) rfl ?_
        refine ez_ifF (fun z => z ((lg_cmp_eq _ _).mpr hs)) ?_
        refine ez_go ez_h102 5 (pc' := bif decide ((zs_z true) = 0) then 119 else 65) (L' := [some (.ref 0), some (.int (how)), some (.int (zs_z true)), some (.int (nI (i))), some (.long (zk_key A.2.1 (A.2.2.2.2.2.2.2.1 (i - 1)).toInt64)), none, some (.long (zk_key A.2.1 (A.2.2.2.2.2.2.2.1 i).toInt64)), none, some (.int (nI (1)))]) (st' := []) (w' := mz_w A Q U T) rfl ?_
        refine ez_ifF (zz_t rfl) ?_
        refine ez_go ez_h102 3 (pc' := bif decide (¬ how = (nI (2))) then 81 else 70) (L' := [some (.ref 0), some (.int (how)), some (.int (zs_z true)), some (.int (nI (i))), some (.long (zk_key A.2.1 (A.2.2.2.2.2.2.2.1 (i - 1)).toInt64)), none, some (.long (zk_key A.2.1 (A.2.2.2.2.2.2.2.1 i).toInt64)), none, some (.int (nI (1)))]) (st' := []) (w' := mz_w A Q U T) rfl ?_
        refine ez_ifT (g2) ?_
        refine ez_go ez_h102 4 (pc' := bif decide ((lg_cmp (zk_key A.2.1 (A.2.2.2.2.2.2.2.1 (i - 1)).toInt64) (zk_key A.2.1 (A.2.2.2.2.2.2.2.1 i).toInt64)) < (nI 0)) then 115 else 89) (L' := [some (.ref 0), some (.int (how)), some (.int (zs_z true)), some (.int (nI (i))), some (.long (zk_key A.2.1 (A.2.2.2.2.2.2.2.1 (i - 1)).toInt64)), none, some (.long (zk_key A.2.1 (A.2.2.2.2.2.2.2.1 i).toInt64)), none, some (.int (nI (1)))]) (st' := []) (w' := mz_w A Q U T) rfl ?_
        refine ez_ifF (fun z => hnlt ((lg_cmp_lt _ _).mp z)) ?_
        refine ez_go ez_h102 2 (pc' := bif decide ((nI (1)) = (nI 0)) then 119 else 94) (L' := [some (.ref 0), some (.int (how)), some (.int (zs_z true)), some (.int (nI (i))), some (.long (zk_key A.2.1 (A.2.2.2.2.2.2.2.1 (i - 1)).toInt64)), none, some (.long (zk_key A.2.1 (A.2.2.2.2.2.2.2.1 i).toInt64)), none, some (.int (nI (1)))]) (st' := []) (w' := mz_w A Q U T) rfl ?_
        refine ez_ifF (zt_ne (by omega) (by omega) (by omega)) ?_
        refine ez_go ez_h102 2 (pc' := bif decide (how = (nI 0)) then 115 else 98) (L' := [some (.ref 0), some (.int (how)), some (.int (zs_z true)), some (.int (nI (i))), some (.long (zk_key A.2.1 (A.2.2.2.2.2.2.2.1 (i - 1)).toInt64)), none, some (.long (zk_key A.2.1 (A.2.2.2.2.2.2.2.1 i).toInt64)), none, some (.int (nI (1)))]) (st' := []) (w' := mz_w A Q U T) rfl ?_
        refine ez_ifF (g0) ?_
        refine ez_go ez_h102 5 (pc' := 105) (L' := [some (.ref 0), some (.int (how)), some (.int (zs_z true)), some (.int (nI (i))), some (.long (zk_key A.2.1 (A.2.2.2.2.2.2.2.1 (i - 1)).toInt64)), none, some (.long (zk_key A.2.1 (A.2.2.2.2.2.2.2.1 i).toInt64)), none, some (.int (nI (1)))]) (st' := [.int ((nI (i)) - (nI (1))), .ref 2]) (w' := mz_w A Q U T) rfl ?_
        refine ez_top (y := nI (i - 1)) (pk_sub (by omega)) ?_
        refine ez_ald ez_h102 rfl rfl (i - 1) rfl (by omega) (by omega) ?_
        refine ez_top (y := nI (tg (i - 1))) (h2 (i - 1) (by omega)) ?_
        refine ez_go ez_h102 3 (pc' := 111) (L' := [some (.ref 0), some (.int (how)), some (.int (zs_z true)), some (.int (nI (i))), some (.long (zk_key A.2.1 (A.2.2.2.2.2.2.2.1 (i - 1)).toInt64)), none, some (.long (zk_key A.2.1 (A.2.2.2.2.2.2.2.1 i).toInt64)), none, some (.int (nI (1)))]) (st' := [.int (nI (i)), .ref 2, .int (nI (tg (i - 1)))]) (w' := mz_w A Q U T) rfl ?_
        refine ez_ald ez_h102 rfl rfl (i) rfl (by omega) (by omega) ?_
        refine ez_top (y := nI (tg i)) (h2 i (by omega)) ?_
        refine ez_go ez_h102 1 (pc' := bif decide ((nI (tg i)) ≤ (nI (tg (i - 1)))) then 119 else 115) (L' := [some (.ref 0), some (.int (how)), some (.int (zs_z true)), some (.int (nI (i))), some (.long (zk_key A.2.1 (A.2.2.2.2.2.2.2.1 (i - 1)).toInt64)), none, some (.long (zk_key A.2.1 (A.2.2.2.2.2.2.2.1 i).toInt64)), none, some (.int (nI (1)))]) (st' := []) (w' := mz_w A Q U T) rfl ?_
        refine ez_ifT (zt_le (a := tg i) (b := tg (i - 1)) (by omega) (by omega)) ?_
        refine ez_go ez_h102 2 (pc' := 121) (L' := [some (.ref 0), some (.int (how)), some (.int (nI (0))), some (.int (nI (i))), some (.long (zk_key A.2.1 (A.2.2.2.2.2.2.2.1 (i - 1)).toInt64)), none, some (.long (zk_key A.2.1 (A.2.2.2.2.2.2.2.1 i).toInt64)), none, some (.int (nI (1)))]) (st' := []) (w' := mz_w A Q U T) rfl ?_
        exact ez_E.le (ez_lc (ez_lc (ez_lc (ez_lc (ez_ln (ez_lc (ez_ln (ez_lc (ez_ln ez_l0))))))))) kk
    · by_cases hc : (zk_key A.2.1 (A.2.2.2.2.2.2.2.1 (i - 1)).toInt64) < (zk_key A.2.1 (A.2.2.2.2.2.2.2.1 i).toInt64)
      · skip
        rw [Bool.true_and, show zo_F 1 (zk_key A.2.1 (A.2.2.2.2.2.2.2.1 (i - 1)).toInt64) (zk_key A.2.1 (A.2.2.2.2.2.2.2.1 i).toInt64) (tg (i - 1)) (tg i) = true from decide_eq_true (Or.inl hc)] at kk
        refine ez_go ez_h102 4 (pc' := 34) (L' := [some (.ref 0), some (.int (how)), some (.int (zs_z true)), some (.int (nI (i))), none, none, none, none, none]) (st' := [.int ((nI (i)) - (nI (1))), .ref 0]) (w' := mz_w A Q U T) rfl ?_
        refine ez_top (y := nI (i - 1)) (pk_sub (by omega)) ?_
        refine ez_cl ez_h102 rfl rfl ?_
        refine zo_mkey A Q U T (x := i - 1) (by omega) ho ?_
        refine ez_go ez_h102 3 (pc' := 41) (L' := [some (.ref 0), some (.int (how)), some (.int (zs_z true)), some (.int (nI (i))), some (.long (zk_key A.2.1 (A.2.2.2.2.2.2.2.1 (i - 1)).toInt64)), none, none, none, none]) (st' := [.int (nI (i)), .ref 0]) (w' := mz_w A Q U T) rfl ?_
        refine ez_cl ez_h102 rfl rfl ?_
        refine zo_mkey A Q U T (x := i) (by omega) ho ?_
        refine ez_go ez_h102 5 (pc' := bif decide (¬ (lg_cmp (zk_key A.2.1 (A.2.2.2.2.2.2.2.1 (i - 1)).toInt64) (zk_key A.2.1 (A.2.2.2.2.2.2.2.1 i).toInt64)) = (nI 0)) then 58 else 54) (L' := [some (.ref 0), some (.int (how)), some (.int (zs_z true)), some (.int (nI (i))), some (.long (zk_key A.2.1 (A.2.2.2.2.2.2.2.1 (i - 1)).toInt64)), none, some (.long (zk_key A.2.1 (A.2.2.2.2.2.2.2.1 i).toInt64)), none, none]) (st' := []) (w' := mz_w A Q U T) rfl ?_
        refine ez_ifT (fun z => hs ((lg_cmp_eq _ _).mp z)) ?_
        refine ez_go ez_h102 4 (pc' := bif decide ((zs_z true) = 0) then 119 else 65) (L' := [some (.ref 0), some (.int (how)), some (.int (zs_z true)), some (.int (nI (i))), some (.long (zk_key A.2.1 (A.2.2.2.2.2.2.2.1 (i - 1)).toInt64)), none, some (.long (zk_key A.2.1 (A.2.2.2.2.2.2.2.1 i).toInt64)), none, some (.int (nI (0)))]) (st' := []) (w' := mz_w A Q U T) rfl ?_
        refine ez_ifF (zz_t rfl) ?_
        refine ez_go ez_h102 3 (pc' := bif decide (¬ how = (nI (2))) then 81 else 70) (L' := [some (.ref 0), some (.int (how)), some (.int (zs_z true)), some (.int (nI (i))), some (.long (zk_key A.2.1 (A.2.2.2.2.2.2.2.1 (i - 1)).toInt64)), none, some (.long (zk_key A.2.1 (A.2.2.2.2.2.2.2.1 i).toInt64)), none, some (.int (nI (0)))]) (st' := []) (w' := mz_w A Q U T) rfl ?_
        refine ez_ifT (g2) ?_
        refine ez_go ez_h102 4 (pc' := bif decide ((lg_cmp (zk_key A.2.1 (A.2.2.2.2.2.2.2.1 (i - 1)).toInt64) (zk_key A.2.1 (A.2.2.2.2.2.2.2.1 i).toInt64)) < (nI 0)) then 115 else 89) (L' := [some (.ref 0), some (.int (how)), some (.int (zs_z true)), some (.int (nI (i))), some (.long (zk_key A.2.1 (A.2.2.2.2.2.2.2.1 (i - 1)).toInt64)), none, some (.long (zk_key A.2.1 (A.2.2.2.2.2.2.2.1 i).toInt64)), none, some (.int (nI (0)))]) (st' := []) (w' := mz_w A Q U T) rfl ?_
        refine ez_ifT ((lg_cmp_lt _ _).mpr hc) ?_
        refine ez_go ez_h102 3 (pc' := 121) (L' := [some (.ref 0), some (.int (how)), some (.int (nI (1))), some (.int (nI (i))), some (.long (zk_key A.2.1 (A.2.2.2.2.2.2.2.1 (i - 1)).toInt64)), none, some (.long (zk_key A.2.1 (A.2.2.2.2.2.2.2.1 i).toInt64)), none, some (.int (nI (0)))]) (st' := []) (w' := mz_w A Q U T) rfl ?_
        exact ez_E.le (ez_lc (ez_lc (ez_lc (ez_lc (ez_ln (ez_lc (ez_ln (ez_lc (ez_ln ez_l0))))))))) kk
      · skip
        rw [Bool.true_and, show zo_F 1 (zk_key A.2.1 (A.2.2.2.2.2.2.2.1 (i - 1)).toInt64) (zk_key A.2.1 (A.2.2.2.2.2.2.2.1 i).toInt64) (tg (i - 1)) (tg i) = false from decide_eq_false (fun z => z.elim hc (fun z => hs z.1))] at kk
        refine ez_go ez_h102 4 (pc' := 34) (L' := [some (.ref 0), some (.int (how)), some (.int (zs_z true)), some (.int (nI (i))), none, none, none, none, none]) (st' := [.int ((nI (i)) - (nI (1))), .ref 0]) (w' := mz_w A Q U T) rfl ?_
        refine ez_top (y := nI (i - 1)) (pk_sub (by omega)) ?_
        refine ez_cl ez_h102 rfl rfl ?_
        refine zo_mkey A Q U T (x := i - 1) (by omega) ho ?_
        refine ez_go ez_h102 3 (pc' := 41) (L' := [some (.ref 0), some (.int (how)), some (.int (zs_z true)), some (.int (nI (i))), some (.long (zk_key A.2.1 (A.2.2.2.2.2.2.2.1 (i - 1)).toInt64)), none, none, none, none]) (st' := [.int (nI (i)), .ref 0]) (w' := mz_w A Q U T) rfl ?_
        refine ez_cl ez_h102 rfl rfl ?_
        refine zo_mkey A Q U T (x := i) (by omega) ho ?_
        refine ez_go ez_h102 5 (pc' := bif decide (¬ (lg_cmp (zk_key A.2.1 (A.2.2.2.2.2.2.2.1 (i - 1)).toInt64) (zk_key A.2.1 (A.2.2.2.2.2.2.2.1 i).toInt64)) = (nI 0)) then 58 else 54) (L' := [some (.ref 0), some (.int (how)), some (.int (zs_z true)), some (.int (nI (i))), some (.long (zk_key A.2.1 (A.2.2.2.2.2.2.2.1 (i - 1)).toInt64)), none, some (.long (zk_key A.2.1 (A.2.2.2.2.2.2.2.1 i).toInt64)), none, none]) (st' := []) (w' := mz_w A Q U T) rfl ?_
        refine ez_ifT (fun z => hs ((lg_cmp_eq _ _).mp z)) ?_
        refine ez_go ez_h102 4 (pc' := bif decide ((zs_z true) = 0) then 119 else 65) (L' := [some (.ref 0), some (.int (how)), some (.int (zs_z true)), some (.int (nI (i))), some (.long (zk_key A.2.1 (A.2.2.2.2.2.2.2.1 (i - 1)).toInt64)), none, some (.long (zk_key A.2.1 (A.2.2.2.2.2.2.2.1 i).toInt64)), none, some (.int (nI (0)))]) (st' := []) (w' := mz_w A Q U T) rfl ?_
        refine ez_ifF (zz_t rfl) ?_
        refine ez_go ez_h102 3 (pc' := bif decide (¬ how = (nI (2))) then 81 else 70) (L' := [some (.ref 0), some (.int (how)), some (.int (zs_z true)), some (.int (nI (i))), some (.long (zk_key A.2.1 (A.2.2.2.2.2.2.2.1 (i - 1)).toInt64)), none, some (.long (zk_key A.2.1 (A.2.2.2.2.2.2.2.1 i).toInt64)), none, some (.int (nI (0)))]) (st' := []) (w' := mz_w A Q U T) rfl ?_
        refine ez_ifT (g2) ?_
        refine ez_go ez_h102 4 (pc' := bif decide ((lg_cmp (zk_key A.2.1 (A.2.2.2.2.2.2.2.1 (i - 1)).toInt64) (zk_key A.2.1 (A.2.2.2.2.2.2.2.1 i).toInt64)) < (nI 0)) then 115 else 89) (L' := [some (.ref 0), some (.int (how)), some (.int (zs_z true)), some (.int (nI (i))), some (.long (zk_key A.2.1 (A.2.2.2.2.2.2.2.1 (i - 1)).toInt64)), none, some (.long (zk_key A.2.1 (A.2.2.2.2.2.2.2.1 i).toInt64)), none, some (.int (nI (0)))]) (st' := []) (w' := mz_w A Q U T) rfl ?_
        refine ez_ifF (fun z => hc ((lg_cmp_lt _ _).mp z)) ?_
        refine ez_go ez_h102 2 (pc' := bif decide ((nI (0)) = (nI 0)) then 119 else 94) (L' := [some (.ref 0), some (.int (how)), some (.int (zs_z true)), some (.int (nI (i))), some (.long (zk_key A.2.1 (A.2.2.2.2.2.2.2.1 (i - 1)).toInt64)), none, some (.long (zk_key A.2.1 (A.2.2.2.2.2.2.2.1 i).toInt64)), none, some (.int (nI (0)))]) (st' := []) (w' := mz_w A Q U T) rfl ?_
        refine ez_ifT (zt_eq (by omega)) ?_
        refine ez_go ez_h102 2 (pc' := 121) (L' := [some (.ref 0), some (.int (how)), some (.int (nI (0))), some (.int (nI (i))), some (.long (zk_key A.2.1 (A.2.2.2.2.2.2.2.1 (i - 1)).toInt64)), none, some (.long (zk_key A.2.1 (A.2.2.2.2.2.2.2.1 i).toInt64)), none, some (.int (nI (0)))]) (st' := []) (w' := mz_w A Q U T) rfl ?_
        exact ez_E.le (ez_lc (ez_lc (ez_lc (ez_lc (ez_ln (ez_lc (ez_ln (ez_lc (ez_ln ez_l0))))))))) kk
theorem zo_isl1 {how : Int32} (g2 : ¬ how = nI 2) (g0 : ¬ how = nI 0) {n : Nat} {tg : Nat → Nat} {A : mz_A} {Q : mz_Q} {U : mz_U} {T : mz_T} (hn : n ≤ 600) (ht : ∀ k, k < n → tg k < n) (e2 : A.1 = nI n) (ho : ze_or A.2.1) (h2 : ∀ k, k < n → T.2 k = nI (tg k)) {post : Option Value → ez_W → Prop} (kk : post (some (.int (zs_z (zo_al (fun k => zo_F 1 (zk_key A.2.1 (A.2.2.2.2.2.2.2.1 (k - 1)).toInt64) (zk_key A.2.1 (A.2.2.2.2.2.2.2.1 k).toInt64) (tg (k - 1)) (tg k)) (n - 1))))) (mz_w A Q U T)) :
    ∀ (s i : Nat), n ≤ i + s → 1 ≤ i → (n < i → n = 0 ∧ i = 1) → i ≤ 601 → ez_E 102 22 [some (.ref 0), some (.int (how)), some (.int (zs_z (zo_al (fun k => zo_F 1 (zk_key A.2.1 (A.2.2.2.2.2.2.2.1 (k - 1)).toInt64) (zk_key A.2.1 (A.2.2.2.2.2.2.2.1 k).toInt64) (tg (k - 1)) (tg k)) (i - 1)))), some (.int (nI (i))), none, none, none, none, none] [] (mz_w A Q U T) post := by
  intro s
  induction s with
  | zero =>
    intro i q1 q2 q3 q4
    have hin : i - 1 = n - 1 := by omega
    rw [hin]
    refine ez_go ez_h102 3 (pc' := 27) (L' := [some (.ref 0), some (.int (how)), some (.int (zs_z (zo_al (fun k => zo_F 1 (zk_key A.2.1 (A.2.2.2.2.2.2.2.1 (k - 1)).toInt64) (zk_key A.2.1 (A.2.2.2.2.2.2.2.1 k).toInt64) (tg (k - 1)) (tg k)) (n - 1)))), some (.int (nI (i))), none, none, none, none, none]) (st' := [.int (A.1), .int (nI (i))]) (w' := mz_w A Q U T) rfl ?_
    refine ez_top (y := nI (n)) (e2) ?_
    refine ez_go ez_h102 1 (pc' := bif decide ((nI (n)) ≤ (nI (i))) then 127 else 30) (L' := [some (.ref 0), some (.int (how)), some (.int (zs_z (zo_al (fun k => zo_F 1 (zk_key A.2.1 (A.2.2.2.2.2.2.2.1 (k - 1)).toInt64) (zk_key A.2.1 (A.2.2.2.2.2.2.2.1 k).toInt64) (tg (k - 1)) (tg k)) (n - 1)))), some (.int (nI (i))), none, none, none, none, none]) (st' := []) (w' := mz_w A Q U T) rfl ?_
    refine ez_ifT (zt_le (a := n) (b := i) (by omega) (by omega)) ?_
    refine ez_go ez_h102 1 (pc' := 128) (L' := [some (.ref 0), some (.int (how)), some (.int (zs_z (zo_al (fun k => zo_F 1 (zk_key A.2.1 (A.2.2.2.2.2.2.2.1 (k - 1)).toInt64) (zk_key A.2.1 (A.2.2.2.2.2.2.2.1 k).toInt64) (tg (k - 1)) (tg k)) (n - 1)))), some (.int (nI (i))), none, none, none, none, none]) (st' := [.int (zs_z (zo_al (fun k => zo_F 1 (zk_key A.2.1 (A.2.2.2.2.2.2.2.1 (k - 1)).toInt64) (zk_key A.2.1 (A.2.2.2.2.2.2.2.1 k).toInt64) (tg (k - 1)) (tg k)) (n - 1)))]) (w' := mz_w A Q U T) rfl ?_
    refine ez_zret rfl ez_h102 rfl rfl (zz_01 _) ?_
    exact kk
  | succ s ih =>
    intro i q1 q2 q3 q4
    by_cases hi : n ≤ i
    · have hin : i - 1 = n - 1 := by omega
      rw [hin]
      refine ez_go ez_h102 3 (pc' := 27) (L' := [some (.ref 0), some (.int (how)), some (.int (zs_z (zo_al (fun k => zo_F 1 (zk_key A.2.1 (A.2.2.2.2.2.2.2.1 (k - 1)).toInt64) (zk_key A.2.1 (A.2.2.2.2.2.2.2.1 k).toInt64) (tg (k - 1)) (tg k)) (n - 1)))), some (.int (nI (i))), none, none, none, none, none]) (st' := [.int (A.1), .int (nI (i))]) (w' := mz_w A Q U T) rfl ?_
      refine ez_top (y := nI (n)) (e2) ?_
      refine ez_go ez_h102 1 (pc' := bif decide ((nI (n)) ≤ (nI (i))) then 127 else 30) (L' := [some (.ref 0), some (.int (how)), some (.int (zs_z (zo_al (fun k => zo_F 1 (zk_key A.2.1 (A.2.2.2.2.2.2.2.1 (k - 1)).toInt64) (zk_key A.2.1 (A.2.2.2.2.2.2.2.1 k).toInt64) (tg (k - 1)) (tg k)) (n - 1)))), some (.int (nI (i))), none, none, none, none, none]) (st' := []) (w' := mz_w A Q U T) rfl ?_
      refine ez_ifT (zt_le (a := n) (b := i) (by omega) (by omega)) ?_
      refine ez_go ez_h102 1 (pc' := 128) (L' := [some (.ref 0), some (.int (how)), some (.int (zs_z (zo_al (fun k => zo_F 1 (zk_key A.2.1 (A.2.2.2.2.2.2.2.1 (k - 1)).toInt64) (zk_key A.2.1 (A.2.2.2.2.2.2.2.1 k).toInt64) (tg (k - 1)) (tg k)) (n - 1)))), some (.int (nI (i))), none, none, none, none, none]) (st' := [.int (zs_z (zo_al (fun k => zo_F 1 (zk_key A.2.1 (A.2.2.2.2.2.2.2.1 (k - 1)).toInt64) (zk_key A.2.1 (A.2.2.2.2.2.2.2.1 k).toInt64) (tg (k - 1)) (tg k)) (n - 1)))]) (w' := mz_w A Q U T) rfl ?_
      refine ez_zret rfl ez_h102 rfl rfl (zz_01 _) ?_
      exact kk
    · skip
      refine ez_go ez_h102 3 (pc' := 27) (L' := [some (.ref 0), some (.int (how)), some (.int (zs_z (zo_al (fun k => zo_F 1 (zk_key A.2.1 (A.2.2.2.2.2.2.2.1 (k - 1)).toInt64) (zk_key A.2.1 (A.2.2.2.2.2.2.2.1 k).toInt64) (tg (k - 1)) (tg k)) (i - 1)))), some (.int (nI (i))), none, none, none, none, none]) (st' := [.int (A.1), .int (nI (i))]) (w' := mz_w A Q U T) rfl ?_
      refine ez_top (y := nI (n)) (e2) ?_
      refine ez_go ez_h102 1 (pc' := bif decide ((nI (n)) ≤ (nI (i))) then 127 else 30) (L' := [some (.ref 0), some (.int (how)), some (.int (zs_z (zo_al (fun k => zo_F 1 (zk_key A.2.1 (A.2.2.2.2.2.2.2.1 (k - 1)).toInt64) (zk_key A.2.1 (A.2.2.2.2.2.2.2.1 k).toInt64) (tg (k - 1)) (tg k)) (i - 1)))), some (.int (nI (i))), none, none, none, none, none]) (st' := []) (w' := mz_w A Q U T) rfl ?_
      refine ez_ifF (zt_nle (a := n) (b := i) (by omega) (by omega)) ?_
      refine zo_ism1 g2 g0 hn ht ho h2 (by omega) q2 _ ?_
      have q5 := ih (i + 1) (by omega) (by omega) (by omega) (by omega)
      rw [show zo_al (fun k => zo_F 1 (zk_key A.2.1 (A.2.2.2.2.2.2.2.1 (k - 1)).toInt64) (zk_key A.2.1 (A.2.2.2.2.2.2.2.1 k).toInt64) (tg (k - 1)) (tg k)) (i + 1 - 1) = (zo_al (fun k => zo_F 1 (zk_key A.2.1 (A.2.2.2.2.2.2.2.1 (k - 1)).toInt64) (zk_key A.2.1 (A.2.2.2.2.2.2.2.1 k).toInt64) (tg (k - 1)) (tg k)) (i - 1) && zo_F 1 (zk_key A.2.1 (A.2.2.2.2.2.2.2.1 (i - 1)).toInt64) (zk_key A.2.1 (A.2.2.2.2.2.2.2.1 i).toInt64) (tg (i - 1)) (tg i)) by
        rw [show i + 1 - 1 = (i - 1) + 1 by omega]
        show (zo_al _ (i - 1) && zo_F 1 (zk_key A.2.1 (A.2.2.2.2.2.2.2.1 (i - 1 + 1 - 1)).toInt64) (zk_key A.2.1 (A.2.2.2.2.2.2.2.1 (i - 1 + 1)).toInt64) (tg (i - 1 + 1 - 1)) (tg (i - 1 + 1))) = _
        rw [show i - 1 + 1 - 1 = i - 1 by omega, show i - 1 + 1 = i by omega]] at q5
      refine ez_inc ez_h102 rfl rfl (v := nI (i + 1)) (zi_1 _) rfl ?_
      refine ez_go ez_h102 1 (pc' := 22) (L' := [some (.ref 0), some (.int (how)), some (.int (zs_z (zo_al (fun k => zo_F 1 (zk_key A.2.1 (A.2.2.2.2.2.2.2.1 (k - 1)).toInt64) (zk_key A.2.1 (A.2.2.2.2.2.2.2.1 k).toInt64) (tg (k - 1)) (tg k)) (i - 1) && zo_F 1 (zk_key A.2.1 (A.2.2.2.2.2.2.2.1 (i - 1)).toInt64) (zk_key A.2.1 (A.2.2.2.2.2.2.2.1 i).toInt64) (tg (i - 1)) (tg i)))), some (.int (nI (i + 1))), none, none, none, none, none]) (st' := []) (w' := mz_w A Q U T) rfl ?_
      exact q5
theorem zo_ism2 {n : Nat} {tg : Nat → Nat} {A : mz_A} {Q : mz_Q} {U : mz_U} {T : mz_T} (hn : n ≤ 600) (ht : ∀ k, k < n → tg k < n) (ho : ze_or A.2.1) (h2 : ∀ k, k < n → T.2 k = nI (tg k)) {i : Nat} (hi : i < n) (hi1 : 1 ≤ i) (v : Bool) {post : Option Value → ez_W → Prop} (kk : ez_E 102 121 [some (.ref 0), some (.int (nI (2))), some (.int (zs_z (v && zo_F 2 (zk_key A.2.1 (A.2.2.2.2.2.2.2.1 (i - 1)).toInt64) (zk_key A.2.1 (A.2.2.2.2.2.2.2.1 i).toInt64) (tg (i - 1)) (tg i)))), some (.int (nI (i))), none, none, none, none, none] [] (mz_w A Q U T) post) : ez_E 102 30 [some (.ref 0), some (.int (nI (2))), some (.int (zs_z v)), some (.int (nI (i))), none, none, none, none, none] [] (mz_w A Q U T) post := by
  have t1 := ht i (by omega)
  have t2 := ht (i - 1) (by omega)
  cases v with
  | false =>
    by_cases hs : (zk_key A.2.1 (A.2.2.2.2.2.2.2.1 (i - 1)).toInt64) = (zk_key A.2.1 (A.2.2.2.2.2.2.2.1 i).toInt64)
    · skip
      refine ez_go ez_h102 4 (pc' := 34) (L' := [some (.ref 0), some (.int (nI (2))), some (.int (zs_z false)), some (.int (nI (i))), none, none, none, none, none]) (st' := [.int ((nI (i)) - (nI (1))), .ref 0]) (w' := mz_w A Q U T) rfl ?_
      refine ez_top (y := nI (i - 1)) (pk_sub (by omega)) ?_
      refine ez_cl ez_h102 rfl rfl ?_
      refine zo_mkey A Q U T (x := i - 1) (by omega) ho ?_
      refine ez_go ez_h102 3 (pc' := 41) (L' := [some (.ref 0), some (.int (nI (2))), some (.int (zs_z false)), some (.int (nI (i))), some (.long (zk_key A.2.1 (A.2.2.2.2.2.2.2.1 (i - 1)).toInt64)), none, none, none, none]) (st' := [.int (nI (i)), .ref 0]) (w' := mz_w A Q U T) rfl ?_
      refine ez_cl ez_h102 rfl rfl ?_
      refine zo_mkey A Q U T (x := i) (by omega) ho ?_
      refine ez_go ez_h102 5 (pc' := bif decide (¬ (lg_cmp (zk_key A.2.1 (A.2.2.2.2.2.2.2.1 (i - 1)).toInt64) (zk_key A.2.1 (A.2.2.2.2.2.2.2.1 i).toInt64)) = (nI 0)) then 58 else 54) (L' := [some (.ref 0), some (.int (nI (2))), some (.int (zs_z false)), some (.int (nI (i))), some (.long (zk_key A.2.1 (A.2.2.2.2.2.2.2.1 (i - 1)).toInt64)), none, some (.long (zk_key A.2.1 (A.2.2.2.2.2.2.2.1 i).toInt64)), none, none]) (st' := []) (w' := mz_w A Q U T) rfl ?_
      refine ez_ifF (fun z => z ((lg_cmp_eq _ _).mpr hs)) ?_
      refine ez_go ez_h102 5 (pc' := bif decide ((zs_z false) = 0) then 119 else 65) (L' := [some (.ref 0), some (.int (nI (2))), some (.int (zs_z false)), some (.int (nI (i))), some (.long (zk_key A.2.1 (A.2.2.2.2.2.2.2.1 (i - 1)).toInt64)), none, some (.long (zk_key A.2.1 (A.2.2.2.2.2.2.2.1 i).toInt64)), none, some (.int (nI (1)))]) (st' := []) (w' := mz_w A Q U T) rfl ?_
      refine ez_ifT (zz_f rfl) ?_
      refine ez_go ez_h102 2 (pc' := 121) (L' := [some (.ref 0), some (.int (nI (2))), some (.int (nI (0))), some (.int (nI (i))), some (.long (zk_key A.2.1 (A.2.2.2.2.2.2.2.1 (i - 1)).toInt64)), none, some (.long (zk_key A.2.1 (A.2.2.2.2.2.2.2.1 i).toInt64)), none, some (.int (nI (1)))]) (st' := []) (w' := mz_w A Q U T) rfl ?_
      exact ez_E.le (ez_lc (ez_lc (ez_lc (ez_lc (ez_ln (ez_lc (ez_ln (ez_lc (ez_ln ez_l0))))))))) kk
    · skip
      refine ez_go ez_h102 4 (pc' := 34) (L' := [some (.ref 0), some (.int (nI (2))), some (.int (zs_z false)), some (.int (nI (i))), none, none, none, none, none]) (st' := [.int ((nI (i)) - (nI (1))), .ref 0]) (w' := mz_w A Q U T) rfl ?_
      refine ez_top (y := nI (i - 1)) (pk_sub (by omega)) ?_
      refine ez_cl ez_h102 rfl rfl ?_
      refine zo_mkey A Q U T (x := i - 1) (by omega) ho ?_
      refine ez_go ez_h102 3 (pc' := 41) (L' := [some (.ref 0), some (.int (nI (2))), some (.int (zs_z false)), some (.int (nI (i))), some (.long (zk_key A.2.1 (A.2.2.2.2.2.2.2.1 (i - 1)).toInt64)), none, none, none, none]) (st' := [.int (nI (i)), .ref 0]) (w' := mz_w A Q U T) rfl ?_
      refine ez_cl ez_h102 rfl rfl ?_
      refine zo_mkey A Q U T (x := i) (by omega) ho ?_
      refine ez_go ez_h102 5 (pc' := bif decide (¬ (lg_cmp (zk_key A.2.1 (A.2.2.2.2.2.2.2.1 (i - 1)).toInt64) (zk_key A.2.1 (A.2.2.2.2.2.2.2.1 i).toInt64)) = (nI 0)) then 58 else 54) (L' := [some (.ref 0), some (.int (nI (2))), some (.int (zs_z false)), some (.int (nI (i))), some (.long (zk_key A.2.1 (A.2.2.2.2.2.2.2.1 (i - 1)).toInt64)), none, some (.long (zk_key A.2.1 (A.2.2.2.2.2.2.2.1 i).toInt64)), none, none]) (st' := []) (w' := mz_w A Q U T) rfl ?_
      refine ez_ifT (fun z => hs ((lg_cmp_eq _ _).mp z)) ?_
      refine ez_go ez_h102 4 (pc' := bif decide ((zs_z false) = 0) then 119 else 65) (L' := [some (.ref 0), some (.int (nI (2))), some (.int (zs_z false)), some (.int (nI (i))), some (.long (zk_key A.2.1 (A.2.2.2.2.2.2.2.1 (i - 1)).toInt64)), none, some (.long (zk_key A.2.1 (A.2.2.2.2.2.2.2.1 i).toInt64)), none, some (.int (nI (0)))]) (st' := []) (w' := mz_w A Q U T) rfl ?_
      refine ez_ifT (zz_f rfl) ?_
      refine ez_go ez_h102 2 (pc' := 121) (L' := [some (.ref 0), some (.int (nI (2))), some (.int (nI (0))), some (.int (nI (i))), some (.long (zk_key A.2.1 (A.2.2.2.2.2.2.2.1 (i - 1)).toInt64)), none, some (.long (zk_key A.2.1 (A.2.2.2.2.2.2.2.1 i).toInt64)), none, some (.int (nI (0)))]) (st' := []) (w' := mz_w A Q U T) rfl ?_
      exact ez_E.le (ez_lc (ez_lc (ez_lc (ez_lc (ez_ln (ez_lc (ez_ln (ez_lc (ez_ln ez_l0))))))))) kk
  | true =>
    by_cases hs : (zk_key A.2.1 (A.2.2.2.2.2.2.2.1 (i - 1)).toInt64) = (zk_key A.2.1 (A.2.2.2.2.2.2.2.1 i).toInt64)
    · have hnlt : ¬ (zk_key A.2.1 (A.2.2.2.2.2.2.2.1 i).toInt64) < (zk_key A.2.1 (A.2.2.2.2.2.2.2.1 (i - 1)).toInt64) := fun z => Int64.lt_irrefl (hs ▸ z)
      rw [Bool.true_and, show zo_F 2 (zk_key A.2.1 (A.2.2.2.2.2.2.2.1 (i - 1)).toInt64) (zk_key A.2.1 (A.2.2.2.2.2.2.2.1 i).toInt64) (tg (i - 1)) (tg i) = false from decide_eq_false hnlt] at kk
      refine ez_go ez_h102 4 (pc' := 34) (L' := [some (.ref 0), some (.int (nI (2))), some (.int (zs_z true)), some (.int (nI (i))), none, none, none, none, none]) (st' := [.int ((nI (i)) - (nI (1))), .ref 0]) (w' := mz_w A Q U T) rfl ?_
      refine ez_top (y := nI (i - 1)) (pk_sub (by omega)) ?_
      refine ez_cl ez_h102 rfl rfl ?_
      refine zo_mkey A Q U T (x := i - 1) (by omega) ho ?_
      refine ez_go ez_h102 3 (pc' := 41) (L' := [some (.ref 0), some (.int (nI (2))), some (.int (zs_z true)), some (.int (nI (i))), some (.long (zk_key A.2.1 (A.2.2.2.2.2.2.2.1 (i - 1)).toInt64)), none, none, none, none]) (st' := [.int (nI (i)), .ref 0]) (w' := mz_w A Q U T) rfl ?_
      refine ez_cl ez_h102 rfl rfl ?_
      refine zo_mkey A Q U T (x := i) (by omega) ho ?_
      refine ez_go ez_h102 5 (pc' := bif decide (¬ (lg_cmp (zk_key A.2.1 (A.2.2.2.2.2.2.2.1 (i - 1)).toInt64) (zk_key A.2.1 (A.2.2.2.2.2.2.2.1 i).toInt64)) = (nI 0)) then 58 else 54) (L' := [some (.ref 0), some (.int (nI (2))), some (.int (zs_z true)), some (.int (nI (i))), some (.long (zk_key A.2.1 (A.2.2.2.2.2.2.2.1 (i - 1)).toInt64)), none, some (.long (zk_key A.2.1 (A.2.2.2.2.2.2.2.1 i).toInt64)), none, none]) (st' := []) (w' := mz_w A Q U T) rfl ?_
      refine ez_ifF (fun z => z ((lg_cmp_eq _ _).mpr hs)) ?_
      refine ez_go ez_h102 5 (pc' := bif decide ((zs_z true) = 0) then 119 else 65) (L' := [some (.ref 0), some (.int (nI (2))), some (.int (zs_z true)), some (.int (nI (i))), some (.long (zk_key A.2.1 (A.2.2.2.2.2.2.2.1 (i - 1)).toInt64)), none, some (.long (zk_key A.2.1 (A.2.2.2.2.2.2.2.1 i).toInt64)), none, some (.int (nI (1)))]) (st' := []) (w' := mz_w A Q U T) rfl ?_
      refine ez_ifF (zz_t rfl) ?_
      refine ez_go ez_h102 3 (pc' := bif decide (¬ (nI (2)) = (nI (2))) then 81 else 70) (L' := [some (.ref 0), some (.int (nI (2))), some (.int (zs_z true)), some (.int (nI (i))), some (.long (zk_key A.2.1 (A.2.2.2.2.2.2.2.1 (i - 1)).toInt64)), none, some (.long (zk_key A.2.1 (A.2.2.2.2.2.2.2.1 i).toInt64)), none, some (.int (nI (1)))]) (st' := []) (w' := mz_w A Q U T) rfl ?_
      refine ez_ifF (fun z => z (zt_eq (by omega))) ?_
      refine ez_go ez_h102 4 (pc' := bif decide ((nI 0) ≤ (lg_cmp (zk_key A.2.1 (A.2.2.2.2.2.2.2.1 i).toInt64) (zk_key A.2.1 (A.2.2.2.2.2.2.2.1 (i - 1)).toInt64))) then 119 else 78) (L' := [some (.ref 0), some (.int (nI (2))), some (.int (zs_z true)), some (.int (nI (i))), some (.long (zk_key A.2.1 (A.2.2.2.2.2.2.2.1 (i - 1)).toInt64)), none, some (.long (zk_key A.2.1 (A.2.2.2.2.2.2.2.1 i).toInt64)), none, some (.int (nI (1)))]) (st' := []) (w' := mz_w A Q U T) rfl ?_
      refine ez_ifT ((lg_cmp_ge _ _).mpr (Int64.not_lt.mp hnlt)) ?_
      refine ez_go ez_h102 2 (pc' := 121) (L' := [some (.ref 0), some (.int (nI (2))), some (.int (nI (0))), some (.int (nI (i))), some (.long (zk_key A.2.1 (A.2.2.2.2.2.2.2.1 (i - 1)).toInt64)), none, some (.long (zk_key A.2.1 (A.2.2.2.2.2.2.2.1 i).toInt64)), none, some (.int (nI (1)))]) (st' := []) (w' := mz_w A Q U T) rfl ?_
      exact ez_E.le (ez_lc (ez_lc (ez_lc (ez_lc (ez_ln (ez_lc (ez_ln (ez_lc (ez_ln ez_l0))))))))) kk
    · by_cases hc : (zk_key A.2.1 (A.2.2.2.2.2.2.2.1 i).toInt64) < (zk_key A.2.1 (A.2.2.2.2.2.2.2.1 (i - 1)).toInt64)
      · skip
        rw [Bool.true_and, show zo_F 2 (zk_key A.2.1 (A.2.2.2.2.2.2.2.1 (i - 1)).toInt64) (zk_key A.2.1 (A.2.2.2.2.2.2.2.1 i).toInt64) (tg (i - 1)) (tg i) = true from decide_eq_true hc] at kk
        refine ez_go ez_h102 4 (pc' := 34) (L' := [some (.ref 0), some (.int (nI (2))), some (.int (zs_z true)), some (.int (nI (i))), none, none, none, none, none]) (st' := [.int ((nI (i)) - (nI (1))), .ref 0]) (w' := mz_w A Q U T) rfl ?_
        refine ez_top (y := nI (i - 1)) (pk_sub (by omega)) ?_
        refine ez_cl ez_h102 rfl rfl ?_
        refine zo_mkey A Q U T (x := i - 1) (by omega) ho ?_
        refine ez_go ez_h102 3 (pc' := 41) (L' := [some (.ref 0), some (.int (nI (2))), some (.int (zs_z true)), some (.int (nI (i))), some (.long (zk_key A.2.1 (A.2.2.2.2.2.2.2.1 (i - 1)).toInt64)), none, none, none, none]) (st' := [.int (nI (i)), .ref 0]) (w' := mz_w A Q U T) rfl ?_
        refine ez_cl ez_h102 rfl rfl ?_
        refine zo_mkey A Q U T (x := i) (by omega) ho ?_
        refine ez_go ez_h102 5 (pc' := bif decide (¬ (lg_cmp (zk_key A.2.1 (A.2.2.2.2.2.2.2.1 (i - 1)).toInt64) (zk_key A.2.1 (A.2.2.2.2.2.2.2.1 i).toInt64)) = (nI 0)) then 58 else 54) (L' := [some (.ref 0), some (.int (nI (2))), some (.int (zs_z true)), some (.int (nI (i))), some (.long (zk_key A.2.1 (A.2.2.2.2.2.2.2.1 (i - 1)).toInt64)), none, some (.long (zk_key A.2.1 (A.2.2.2.2.2.2.2.1 i).toInt64)), none, none]) (st' := []) (w' := mz_w A Q U T) rfl ?_
        refine ez_ifT (fun z => hs ((lg_cmp_eq _ _).mp z)) ?_
        refine ez_go ez_h102 4 (pc' := bif decide ((zs_z true) = 0) then 119 else 65) (L' := [some (.ref 0), some (.int (nI (2))), some (.int (zs_z true)), some (.int (nI (i))), some (.long (zk_key A.2.1 (A.2.2.2.2.2.2.2.1 (i - 1)).toInt64)), none, some (.long (zk_key A.2.1 (A.2.2.2.2.2.2.2.1 i).toInt64)), none, some (.int (nI (0)))]) (st' := []) (w' := mz_w A Q U T) rfl ?_
        refine ez_ifF (zz_t rfl) ?_
        refine ez_go ez_h102 3 (pc' := bif decide (¬ (nI (2)) = (nI (2))) then 81 else 70) (L' := [some (.ref 0), some (.int (nI (2))), some (.int (zs_z true)), some (.int (nI (i))), some (.long (zk_key A.2.1 (A.2.2.2.2.2.2.2.1 (i - 1)).toInt64)), none, some (.long (zk_key A.2.1 (A.2.2.2.2.2.2.2.1 i).toInt64)), none, some (.int (nI (0)))]) (st' := []) (w' := mz_w A Q U T) rfl ?_
        refine ez_ifF (fun z => z (zt_eq (by omega))) ?_
        refine ez_go ez_h102 4 (pc' := bif decide ((nI 0) ≤ (lg_cmp (zk_key A.2.1 (A.2.2.2.2.2.2.2.1 i).toInt64) (zk_key A.2.1 (A.2.2.2.2.2.2.2.1 (i - 1)).toInt64))) then 119 else 78) (L' := [some (.ref 0), some (.int (nI (2))), some (.int (zs_z true)), some (.int (nI (i))), some (.long (zk_key A.2.1 (A.2.2.2.2.2.2.2.1 (i - 1)).toInt64)), none, some (.long (zk_key A.2.1 (A.2.2.2.2.2.2.2.1 i).toInt64)), none, some (.int (nI (0)))]) (st' := []) (w' := mz_w A Q U T) rfl ?_
        refine ez_ifF (fun z => Int64.not_le.mpr hc ((lg_cmp_ge _ _).mp z)) ?_
        refine ez_go ez_h102 4 (pc' := 121) (L' := [some (.ref 0), some (.int (nI (2))), some (.int (nI (1))), some (.int (nI (i))), some (.long (zk_key A.2.1 (A.2.2.2.2.2.2.2.1 (i - 1)).toInt64)), none, some (.long (zk_key A.2.1 (A.2.2.2.2.2.2.2.1 i).toInt64)), none, some (.int (nI (0)))]) (st' := []) (w' := mz_w A Q U T) rfl ?_
        exact ez_E.le (ez_lc (ez_lc (ez_lc (ez_lc (ez_ln (ez_lc (ez_ln (ez_lc (ez_ln ez_l0))))))))) kk
      · skip
        rw [Bool.true_and, show zo_F 2 (zk_key A.2.1 (A.2.2.2.2.2.2.2.1 (i - 1)).toInt64) (zk_key A.2.1 (A.2.2.2.2.2.2.2.1 i).toInt64) (tg (i - 1)) (tg i) = false from decide_eq_false hc] at kk
        refine ez_go ez_h102 4 (pc' := 34) (L' := [some (.ref 0), some (.int (nI (2))), some (.int (zs_z true)), some (.int (nI (i))), none, none, none, none, none]) (st' := [.int ((nI (i)) - (nI (1))), .ref 0]) (w' := mz_w A Q U T) rfl ?_
        refine ez_top (y := nI (i - 1)) (pk_sub (by omega)) ?_
        refine ez_cl ez_h102 rfl rfl ?_
        refine zo_mkey A Q U T (x := i - 1) (by omega) ho ?_
        refine ez_go ez_h102 3 (pc' := 41) (L' := [some (.ref 0), some (.int (nI (2))), some (.int (zs_z true)), some (.int (nI (i))), some (.long (zk_key A.2.1 (A.2.2.2.2.2.2.2.1 (i - 1)).toInt64)), none, none, none, none]) (st' := [.int (nI (i)), .ref 0]) (w' := mz_w A Q U T) rfl ?_
        refine ez_cl ez_h102 rfl rfl ?_
        refine zo_mkey A Q U T (x := i) (by omega) ho ?_
        refine ez_go ez_h102 5 (pc' := bif decide (¬ (lg_cmp (zk_key A.2.1 (A.2.2.2.2.2.2.2.1 (i - 1)).toInt64) (zk_key A.2.1 (A.2.2.2.2.2.2.2.1 i).toInt64)) = (nI 0)) then 58 else 54) (L' := [some (.ref 0), some (.int (nI (2))), some (.int (zs_z true)), some (.int (nI (i))), some (.long (zk_key A.2.1 (A.2.2.2.2.2.2.2.1 (i - 1)).toInt64)), none, some (.long (zk_key A.2.1 (A.2.2.2.2.2.2.2.1 i).toInt64)), none, none]) (st' := []) (w' := mz_w A Q U T) rfl ?_
        refine ez_ifT (fun z => hs ((lg_cmp_eq _ _).mp z)) ?_
        refine ez_go ez_h102 4 (pc' := bif decide ((zs_z true) = 0) then 119 else 65) (L' := [some (.ref 0), some (.int (nI (2))), some (.int (zs_z true)), some (.int (nI (i))), some (.long (zk_key A.2.1 (A.2.2.2.2.2.2.2.1 (i - 1)).toInt64)), none, some (.long (zk_key A.2.1 (A.2.2.2.2.2.2.2.1 i).toInt64)), none, some (.int (nI (0)))]) (st' := []) (w' := mz_w A Q U T) rfl ?_
        refine ez_ifF (zz_t rfl) ?_
        refine ez_go ez_h102 3 (pc' := bif decide (¬ (nI (2)) = (nI (2))) then 81 else 70) (L' := [some (.ref 0), some (.int (nI (2))), some (.int (zs_z true)), some (.int (nI (i))), some (.long (zk_key A.2.1 (A.2.2.2.2.2.2.2.1 (i - 1)).toInt64)), none, some (.long (zk_key A.2.1 (A.2.2.2.2.2.2.2.1 i).toInt64)), none, some (.int (nI (0)))]) (st' := []) (w' := mz_w A Q U T) rfl ?_
        refine ez_ifF (fun z => z (zt_eq (by omega))) ?_
        refine ez_go ez_h102 4 (pc' := bif decide ((nI 0) ≤ (lg_cmp (zk_key A.2.1 (A.2.2.2.2.2.2.2.1 i).toInt64) (zk_key A.2.1 (A.2.2.2.2.2.2.2.1 (i - 1)).toInt64))) then 119 else 78) (L' := [some (.ref 0), some (.int (nI (2))), some (.int (zs_z true)), some (.int (nI (i))), some (.long (zk_key A.2.1 (A.2.2.2.2.2.2.2.1 (i - 1)).toInt64)), none, some (.long (zk_key A.2.1 (A.2.2.2.2.2.2.2.1 i).toInt64)), none, some (.int (nI (0)))]) (st' := []) (w' := mz_w A Q U T) rfl ?_
        refine ez_ifT ((lg_cmp_ge _ _).mpr (Int64.not_lt.mp hc)) ?_
        refine ez_go ez_h102 2 (pc' := 121) (L' := [some (.ref 0), some (.int (nI (2))), some (.int (nI (0))), some (.int (nI (i))), some (.long (zk_key A.2.1 (A.2.2.2.2.2.2.2.1 (i - 1)).toInt64)), none, some (.long (zk_key A.2.1 (A.2.2.2.2.2.2.2.1 i).toInt64)), none, some (.int (nI (0)))]) (st' := []) (w' := mz_w A Q U T) rfl ?_
        exact ez_E.le (ez_lc (ez_lc (ez_lc (ez_lc (ez_ln (ez_lc (ez_ln (ez_lc (ez_ln ez_l0))))))))) kk
theorem zo_isl2 {n : Nat} {tg : Nat → Nat} {A : mz_A} {Q : mz_Q} {U : mz_U} {T : mz_T} (hn : n ≤ 600) (ht : ∀ k, k < n → tg k < n) (e2 : A.1 = nI n) (ho : ze_or A.2.1) (h2 : ∀ k, k < n → T.2 k = nI (tg k)) {post : Option Value → ez_W → Prop} (kk : post (some (.int (zs_z (zo_al (fun k => zo_F 2 (zk_key A.2.1 (A.2.2.2.2.2.2.2.1 (k - 1)).toInt64) (zk_key A.2.1 (A.2.2.2.2.2.2.2.1 k).toInt64) (tg (k - 1)) (tg k)) (n - 1))))) (mz_w A Q U T)) :
    ∀ (s i : Nat), n ≤ i + s → 1 ≤ i → (n < i → n = 0 ∧ i = 1) → i ≤ 601 → ez_E 102 22 [some (.ref 0), some (.int (nI (2))), some (.int (zs_z (zo_al (fun k => zo_F 2 (zk_key A.2.1 (A.2.2.2.2.2.2.2.1 (k - 1)).toInt64) (zk_key A.2.1 (A.2.2.2.2.2.2.2.1 k).toInt64) (tg (k - 1)) (tg k)) (i - 1)))), some (.int (nI (i))), none, none, none, none, none] [] (mz_w A Q U T) post := by
  intro s
  induction s with
  | zero =>
    intro i q1 q2 q3 q4
    have hin : i - 1 = n - 1 := by omega
    rw [hin]
    refine ez_go ez_h102 3 (pc' := 27) (L' := [some (.ref 0), some (.int (nI (2))), some (.int (zs_z (zo_al (fun k => zo_F 2 (zk_key A.2.1 (A.2.2.2.2.2.2.2.1 (k - 1)).toInt64) (zk_key A.2.1 (A.2.2.2.2.2.2.2.1 k).toInt64) (tg (k - 1)) (tg k)) (n - 1)))), some (.int (nI (i))), none, none, none, none, none]) (st' := [.int (A.1), .int (nI (i))]) (w' := mz_w A Q U T) rfl ?_
    refine ez_top (y := nI (n)) (e2) ?_
    refine ez_go ez_h102 1 (pc' := bif decide ((nI (n)) ≤ (nI (i))) then 127 else 30) (L' := [some (.ref 0), some (.int (nI (2))), some (.int (zs_z (zo_al (fun k => zo_F 2 (zk_key A.2.1 (A.2.2.2.2.2.2.2.1 (k - 1)).toInt64) (zk_key A.2.1 (A.2.2.2.2.2.2.2.1 k).toInt64) (tg (k - 1)) (tg k)) (n - 1)))), some (.int (nI (i))), none, none, none, none, none]) (st' := []) (w' := mz_w A Q U T) rfl ?_
    refine ez_ifT (zt_le (a := n) (b := i) (by omega) (by omega)) ?_
    refine ez_go ez_h102 1 (pc' := 128) (L' := [some (.ref 0), some (.int (nI (2))), some (.int (zs_z (zo_al (fun k => zo_F 2 (zk_key A.2.1 (A.2.2.2.2.2.2.2.1 (k - 1)).toInt64) (zk_key A.2.1 (A.2.2.2.2.2.2.2.1 k).toInt64) (tg (k - 1)) (tg k)) (n - 1)))), some (.int (nI (i))), none, none, none, none, none]) (st' := [.int (zs_z (zo_al (fun k => zo_F 2 (zk_key A.2.1 (A.2.2.2.2.2.2.2.1 (k - 1)).toInt64) (zk_key A.2.1 (A.2.2.2.2.2.2.2.1 k).toInt64) (tg (k - 1)) (tg k)) (n - 1)))]) (w' := mz_w A Q U T) rfl ?_
    refine ez_zret rfl ez_h102 rfl rfl (zz_01 _) ?_
    exact kk
  | succ s ih =>
    intro i q1 q2 q3 q4
    by_cases hi : n ≤ i
    · have hin : i - 1 = n - 1 := by omega
      rw [hin]
      refine ez_go ez_h102 3 (pc' := 27) (L' := [some (.ref 0), some (.int (nI (2))), some (.int (zs_z (zo_al (fun k => zo_F 2 (zk_key A.2.1 (A.2.2.2.2.2.2.2.1 (k - 1)).toInt64) (zk_key A.2.1 (A.2.2.2.2.2.2.2.1 k).toInt64) (tg (k - 1)) (tg k)) (n - 1)))), some (.int (nI (i))), none, none, none, none, none]) (st' := [.int (A.1), .int (nI (i))]) (w' := mz_w A Q U T) rfl ?_
      refine ez_top (y := nI (n)) (e2) ?_
      refine ez_go ez_h102 1 (pc' := bif decide ((nI (n)) ≤ (nI (i))) then 127 else 30) (L' := [some (.ref 0), some (.int (nI (2))), some (.int (zs_z (zo_al (fun k => zo_F 2 (zk_key A.2.1 (A.2.2.2.2.2.2.2.1 (k - 1)).toInt64) (zk_key A.2.1 (A.2.2.2.2.2.2.2.1 k).toInt64) (tg (k - 1)) (tg k)) (n - 1)))), some (.int (nI (i))), none, none, none, none, none]) (st' := []) (w' := mz_w A Q U T) rfl ?_
      refine ez_ifT (zt_le (a := n) (b := i) (by omega) (by omega)) ?_
      refine ez_go ez_h102 1 (pc' := 128) (L' := [some (.ref 0), some (.int (nI (2))), some (.int (zs_z (zo_al (fun k => zo_F 2 (zk_key A.2.1 (A.2.2.2.2.2.2.2.1 (k - 1)).toInt64) (zk_key A.2.1 (A.2.2.2.2.2.2.2.1 k).toInt64) (tg (k - 1)) (tg k)) (n - 1)))), some (.int (nI (i))), none, none, none, none, none]) (st' := [.int (zs_z (zo_al (fun k => zo_F 2 (zk_key A.2.1 (A.2.2.2.2.2.2.2.1 (k - 1)).toInt64) (zk_key A.2.1 (A.2.2.2.2.2.2.2.1 k).toInt64) (tg (k - 1)) (tg k)) (n - 1)))]) (w' := mz_w A Q U T) rfl ?_
      refine ez_zret rfl ez_h102 rfl rfl (zz_01 _) ?_
      exact kk
    · skip
      refine ez_go ez_h102 3 (pc' := 27) (L' := [some (.ref 0), some (.int (nI (2))), some (.int (zs_z (zo_al (fun k => zo_F 2 (zk_key A.2.1 (A.2.2.2.2.2.2.2.1 (k - 1)).toInt64) (zk_key A.2.1 (A.2.2.2.2.2.2.2.1 k).toInt64) (tg (k - 1)) (tg k)) (i - 1)))), some (.int (nI (i))), none, none, none, none, none]) (st' := [.int (A.1), .int (nI (i))]) (w' := mz_w A Q U T) rfl ?_
      refine ez_top (y := nI (n)) (e2) ?_
      refine ez_go ez_h102 1 (pc' := bif decide ((nI (n)) ≤ (nI (i))) then 127 else 30) (L' := [some (.ref 0), some (.int (nI (2))), some (.int (zs_z (zo_al (fun k => zo_F 2 (zk_key A.2.1 (A.2.2.2.2.2.2.2.1 (k - 1)).toInt64) (zk_key A.2.1 (A.2.2.2.2.2.2.2.1 k).toInt64) (tg (k - 1)) (tg k)) (i - 1)))), some (.int (nI (i))), none, none, none, none, none]) (st' := []) (w' := mz_w A Q U T) rfl ?_
      refine ez_ifF (zt_nle (a := n) (b := i) (by omega) (by omega)) ?_
      refine zo_ism2 hn ht ho h2 (by omega) q2 _ ?_
      have q5 := ih (i + 1) (by omega) (by omega) (by omega) (by omega)
      rw [show zo_al (fun k => zo_F 2 (zk_key A.2.1 (A.2.2.2.2.2.2.2.1 (k - 1)).toInt64) (zk_key A.2.1 (A.2.2.2.2.2.2.2.1 k).toInt64) (tg (k - 1)) (tg k)) (i + 1 - 1) = (zo_al (fun k => zo_F 2 (zk_key A.2.1 (A.2.2.2.2.2.2.2.1 (k - 1)).toInt64) (zk_key A.2.1 (A.2.2.2.2.2.2.2.1 k).toInt64) (tg (k - 1)) (tg k)) (i - 1) && zo_F 2 (zk_key A.2.1 (A.2.2.2.2.2.2.2.1 (i - 1)).toInt64) (zk_key A.2.1 (A.2.2.2.2.2.2.2.1 i).toInt64) (tg (i - 1)) (tg i)) by
        rw [show i + 1 - 1 = (i - 1) + 1 by omega]
        show (zo_al _ (i - 1) && zo_F 2 (zk_key A.2.1 (A.2.2.2.2.2.2.2.1 (i - 1 + 1 - 1)).toInt64) (zk_key A.2.1 (A.2.2.2.2.2.2.2.1 (i - 1 + 1)).toInt64) (tg (i - 1 + 1 - 1)) (tg (i - 1 + 1))) = _
        rw [show i - 1 + 1 - 1 = i - 1 by omega, show i - 1 + 1 = i by omega]] at q5
      refine ez_inc ez_h102 rfl rfl (v := nI (i + 1)) (zi_1 _) rfl ?_
      refine ez_go ez_h102 1 (pc' := 22) (L' := [some (.ref 0), some (.int (nI (2))), some (.int (zs_z (zo_al (fun k => zo_F 2 (zk_key A.2.1 (A.2.2.2.2.2.2.2.1 (k - 1)).toInt64) (zk_key A.2.1 (A.2.2.2.2.2.2.2.1 k).toInt64) (tg (k - 1)) (tg k)) (i - 1) && zo_F 2 (zk_key A.2.1 (A.2.2.2.2.2.2.2.1 (i - 1)).toInt64) (zk_key A.2.1 (A.2.2.2.2.2.2.2.1 i).toInt64) (tg (i - 1)) (tg i)))), some (.int (nI (i + 1))), none, none, none, none, none]) (st' := []) (w' := mz_w A Q U T) rfl ?_
      exact q5
