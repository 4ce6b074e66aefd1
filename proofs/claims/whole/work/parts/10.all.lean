theorem ez_fit_of {M N : ez_M} {rest : List Value} (h : ez_fit M N rest = true) : N.2.2.2.2.2.2.1 + 1 ≤ M.2.2.2.2.2.2.1 ∧ 8 + (N.2.2.2.1 + 11) + N.2.2.2.2.2.2.2 ≤ M.2.2.2.2.2.2.2 ∧ (rest.map fun v => v.category).sum ≤ 8 := by
  simp only [ez_fit, Bool.and_eq_true] at h
  exact ⟨Nat.le_of_ble_eq_true h.1, Nat.le_of_ble_eq_true h.2.1, Nat.le_of_ble_eq_true h.2.2⟩
theorem ez_cats (ad : Nat → Nat) (rest : List Value) : ((rest.map (ez_v ad)).map fun v => v.category).sum = (rest.map fun v => v.category).sum := by
  rw [List.map_map]
  congr 1
  exact List.map_congr_left (fun v _ => ez_v_cat ad v)
theorem ez_toL (ad : Nat → Nat) (r : Option Value) (rest : List Value) : (r.toList ++ rest).map (ez_v ad) = (r.map (ez_v ad)).toList ++ rest.map (ez_v ad) := by cases r <;> rfl
theorem ez_goodV {o k : Nat} {N : ez_M} (h0 : Jvm.Cond.code N.2.1 N.2.2.1 N.2.2.2.1 N.2.2.2.2.1 ∈ ez_G) (h1 : Jvm.Cond.methodLink (ez_R o) k N.2.1 ∈ ez_G) (h2 : Jvm.Cond.instanceMethod N.2.1 ∈ ez_G) (h3 : Jvm.Cond.selects N.2.1.cls N.2.1 N.2.1 ∈ ez_G) (h4 : Jvm.Cond.initialized N.2.1.cls ∈ ez_G) : GoodIn ez_G (wsV (ez_R o) k N.2.1.cls N.2.1 (ez_ws N)) := by
  refine ez_G_good (fun w hw => ?_)
  unfold wsV ez_ws at hw
  simp only [List.mem_append, List.mem_cons, List.not_mem_nil, or_false] at hw
  rcases hw with (rfl | rfl | rfl | rfl) | rfl | hw
  · exact h1
  · exact h2
  · exact h3
  · exact h4
  · exact h0
  · exact hw
theorem ez_goodS {o k : Nat} {N : ez_M} (h0 : Jvm.Cond.code N.2.1 N.2.2.1 N.2.2.2.1 N.2.2.2.2.1 ∈ ez_G) (h1 : Jvm.Cond.methodLink (ez_R o) k N.2.1 ∈ ez_G) (h2 : Jvm.Cond.static N.2.1 ∈ ez_G) (h4 : Jvm.Cond.initialized (ez_R o) ∈ ez_G) : GoodIn ez_G (wsS (ez_R o) k N.2.1 (ez_ws N)) := by
  refine ez_G_good (fun w hw => ?_)
  unfold wsS ez_ws at hw
  simp only [List.mem_append, List.mem_cons, List.not_mem_nil, or_false] at hw
  rcases hw with (rfl | rfl | rfl) | rfl | hw
  · exact h1
  · exact h2
  · exact h4
  · exact h0
  · exact hw
set_option maxHeartbeats 4000000 in
set_option maxRecDepth 100000 in
theorem ez_B_all : ∀ n : Nat, ez_B n := by
  intro n
  induction n with
  | zero =>
    intro mi pc L st w r w' h
    cases h
  | succ n ih =>
    intro mi pc L st w r w' h M hM p l e s m args below meth c H locs D cI ad A ls free Qc F hml hret hlocks hA hP hD hS hl hq hAf
    have hAw : ∀ q, va_A (ez_z cI ad w) H.size q → A q := by
      intro q hq1
      rcases hq1 with ⟨k, e1, h1⟩ | h1
      · exact hD.2 k (q, e1) h1
      · exact hA q (Nat.le_trans hS.1 h1)
    have hfree : ∀ q ∈ locs, free q.base := fun q h => hAf _ (hS.2.2 q h)
    have F' := F
    obtain ⟨hx, hb, hown, hts, hK⟩ := F'
    unfold ez_ev at h
    rw [hM] at h
    dsimp only at h
    cases hi : ez_i mi pc with
    | none => rw [hi] at h; cases h
    | some il =>
      obtain ⟨i, len⟩ := il
      rw [hi] at h
      dsimp only at h
      have hd := ez_dec hM hi
      cases hok : ez_ok i len with
      | false => rw [hok] at h; cases h
      | true =>
        rw [hok] at h
        simp only [cond_true] at h
        cases i
        case ireturn =>
          obtain rfl : len = 1 := Nat.eq_of_beq_eq_true hok
          dsimp only at h
          split at h
          · rename_i v
            cases hk : ez_rk M.2.2.2.2.1 v with
            | false => rw [hk] at h; cases h
            | true =>
              rw [hk] at h
              cases h
              unfold ez_rk at hk
              split at hk
              · rename_i hrt
                exact W.iret hx hb (by rw [hret, hrt]) (fun t ht hW => hq t H locs ht hW hP hD hS) hfree hd hlocks
              · rename_i hrt
                refine W.zret (ty := .boolean) hx hb (by rw [hret, hrt]) ?_ (fun t ht hW => hq t H locs ht hW hP hD hS) hfree hd hlocks
                simp only [Bool.or_eq_true, beq_iff_eq] at hk
                rcases hk with rfl | rfl <;> rfl
              · cases hk
          · cases h
        case lreturn =>
          obtain rfl : len = 1 := Nat.eq_of_beq_eq_true hok
          dsimp only at h
          split at h
          · rename_i v hrt
            cases h
            exact W.lret hx hb (by rw [hret, hrt]) (fun t ht hW => hq t H locs ht hW hP hD hS) hfree hd hlocks
          · cases h
        case return_ =>
          obtain rfl : len = 1 := Nat.eq_of_beq_eq_true hok
          dsimp only at h
          split at h
          · rename_i hrt
            cases h
            exact W.vret hx hb (by rw [hret, hrt]) (fun t ht hW => hq t H locs ht hW hP hD hS) hfree hd hlocks
          · cases h
        case invokevirtual k =>
          obtain rfl : len = 3 := Nat.eq_of_beq_eq_true hok
          dsimp only at h
          split at h
          · cases h
          · rename_i j hj
            split at h
            · cases h
            · rename_i N hN
              split at h
              · rename_i a rest hdrop
                split at h
                · rename_i cc fs hw
                  cases hc : (Nat.beq cc N.1 && (ez_fit M N rest && (Nat.beq (st.take N.2.2.2.2.2.1).length N.2.2.2.2.2.1 && Nat.beq (ez_en (.ref a :: (st.take N.2.2.2.2.2.1).reverse) N.2.2.2.1).length N.2.2.2.1))) with
                  | false => rw [hc] at h; cases h
                  | true =>
                    rw [hc] at h
                    simp only [cond_true] at h
                    simp only [Bool.and_eq_true] at hc
                    obtain ⟨c1, c2, c3, c4⟩ := hc
                    have hcc : cc = N.1 := Nat.eq_of_beq_eq_true c1
                    subst hcc
                    obtain ⟨f1, f2, f3⟩ := ez_fit_of c2
                    have hlen : (st.take N.2.2.2.2.2.1).length = N.2.2.2.2.2.1 := Nat.eq_of_beq_eq_true c3
                    have hent : (ez_en (.ref a :: (st.take N.2.2.2.2.2.1).reverse) N.2.2.2.1).length = N.2.2.2.1 := Nat.eq_of_beq_eq_true c4
                    obtain ⟨N', hN', l1, l2, l3⟩ := ez_cc_of hj
                    have hNN : N' = N := Option.some.inj (hN'.symm.trans hN)
                    subst hNN
                    obtain ⟨m1, m2, m3, m4, m5, m6⟩ := ez_mt hN
                    split at h
                    · rename_i r1 w1 hev
                      have hMet := ez_met_of ih (l := l) hN hev hent D cI ad H.size
                      obtain ⟨q, hq1, -⟩ := hP a _ (ez_z_at hw)
                      obtain ⟨-, hRq, -⟩ := ez_cls hq1
                      obtain ⟨cellB, b1, b2, b3⟩ := va_recv hK hP hq1 (ez_z_at hw)
                      have hst : st = st.take N'.2.2.2.2.2.1 ++ .ref a :: rest := by rw [← hdrop, List.take_append_drop]
                      refine ez_call (a := (Value.ref (ad a) :: ((st.take N'.2.2.2.2.2.1).reverse.map (ez_v ad))).toArray) (rest := rest.map (ez_v ad)) (va_runV (As := (st.take N'.2.2.2.2.2.1).reverse.map (ez_v ad)) (b := ad a) (C := N'.2.1.cls) (n := N'.2.2.2.2.2.1) (nL := M.2.2.2.1) (Ts := ez_G) (own := ez_R M.1) (index := k) ⟨hx, hb, hml, hown, hts⟩ hMet
                        (cwV N'.2.2.2.2.2.1 hts (ez_goodV m1 l1 l2 l3 m2) rfl rfl rfl ⟨rfl, m5.1, m5.2, m6⟩ ⟨f1, f2⟩)
                        ⟨ez_blind, ⟨cellB, b1, b2, by rw [← m3, hRq]; exact b3⟩, fun U hU hW => ⟨rfl, by rw [hU], by rw [hU]; exact hP, va_K.moved hW.alike hK, hD.weaken (fun _ _ _ _ => trivial)⟩⟩
                        rfl (by rw [List.length_map, List.length_reverse]; exact hlen) hl.2.1 ?_ (lv_room (by rw [ez_cats]; exact f3)) hd ⟨Nat.le_refl _, Nat.le_refl _⟩) hS hAw (fun H1 locs1 g1 g2 g3 => ?_)
                      · show st.map (ez_v ad) = _
                        conv => lhs; rw [hst]
                        simp [ez_v]
                      · rw [← ez_toL]
                        exact ih mi (pc + 3) L (r1.toList ++ rest) w1 r w' h M hM p l e s m args below meth c H1 locs1 D cI ad A ls free Qc F hml hret hlocks hA g1 g2 g3 hl hq hAf
                    · cases h
                · cases h
              · cases h
        case invokestatic k =>
          obtain rfl : len = 3 := Nat.eq_of_beq_eq_true hok
          dsimp only at h
          split at h
          · rename_i f hf
            have hmm := ez_mm_of hf
            split at h
            · rename_i y x rest
              cases hc : (Nat.ble 1 M.2.2.2.2.2.2.1 && (Nat.ble ((rest.map fun v => v.category).sum + 13) M.2.2.2.2.2.2.2)) with
              | false => rw [hc] at h; cases h
              | true =>
                rw [hc] at h
                simp only [cond_true] at h
                simp only [Bool.and_eq_true] at hc
                have k1 := Nat.le_of_ble_eq_true hc.1
                have k2 := Nat.le_of_ble_eq_true hc.2
                have kk := ih mi (pc + 3) L _ w r w' h M hM p l e s m args below meth c H locs D cI ad A ls free Qc F hml hret hlocks hA hP hD hS hl hq hAf
                cases hf0 : Nat.beq f 0 with
                | true =>
                  rw [hf0] at kk
                  simp only [ez_mmok, hf0, cond_true, Bool.and_eq_true] at hmm
                  exact va_mmin hx hb (hml.trans hl.2.1.symm) hown (hts _ (ez_in_G hmm.1)) (hts _ (ez_in_G hmm.2.1)) (hts _ (ez_in_G hmm.2.2.1)) (hts _ (ez_in_G hmm.2.2.2)) k1 (by rw [ez_cats]; exact k2) (Nat.le_refl _) (Nat.le_refl _) hd kk
                | false =>
                  rw [hf0] at kk
                  simp only [ez_mmok, hf0, cond_false, Bool.and_eq_true] at hmm
                  exact va_mmax hx hb (hml.trans hl.2.1.symm) hown (hts _ (ez_in_G hmm.1)) (hts _ (ez_in_G hmm.2.1)) (hts _ (ez_in_G hmm.2.2.1)) (hts _ (ez_in_G hmm.2.2.2)) k1 (by rw [ez_cats]; exact k2) (Nat.le_refl _) (Nat.le_refl _) hd kk
            · cases h
          · split at h
            · cases h
            · rename_i j hj
              split at h
              · cases h
              · rename_i N hN
                cases hc : (Nat.beq M.1 N.1 && (ez_fit M N (st.drop N.2.2.2.2.2.1) && (Nat.beq (st.take N.2.2.2.2.2.1).length N.2.2.2.2.2.1 && Nat.beq (ez_en ((st.take N.2.2.2.2.2.1).reverse) N.2.2.2.1).length N.2.2.2.1))) with
                | false => rw [hc] at h; cases h
                | true =>
                  rw [hc] at h
                  simp only [cond_true] at h
                  simp only [Bool.and_eq_true] at hc
                  obtain ⟨c1, c2, c3, c4⟩ := hc
                  have hcc : M.1 = N.1 := Nat.eq_of_beq_eq_true c1
                  obtain ⟨f1, f2, f3⟩ := ez_fit_of c2
                  have hlen : (st.take N.2.2.2.2.2.1).length = N.2.2.2.2.2.1 := Nat.eq_of_beq_eq_true c3
                  have hent : (ez_en ((st.take N.2.2.2.2.2.1).reverse) N.2.2.2.1).length = N.2.2.2.1 := Nat.eq_of_beq_eq_true c4
                  obtain ⟨N', hN', l1, l2⟩ := ez_sc_of hj
                  have hNN : N' = N := Option.some.inj (hN'.symm.trans hN)
                  subst hNN
                  obtain ⟨m1, m2, m3, m4, m5, m6⟩ := ez_mt hN
                  split at h
                  · rename_i r1 w1 hev
                    have hMet := ez_met_of ih (l := l) hN hev hent D cI ad H.size
                    refine ez_call (a := ((st.take N'.2.2.2.2.2.1).reverse.map (ez_v ad)).toArray) (rest := (st.drop N'.2.2.2.2.2.1).map (ez_v ad)) (va_runS (As := (st.take N'.2.2.2.2.2.1).reverse.map (ez_v ad)) (n := N'.2.2.2.2.2.1) (nL := M.2.2.2.1) (Ts := ez_G) (own := ez_R M.1) (index := k) ⟨hx, hb, hml, hown, hts⟩ hMet
                      (cwS N'.2.2.2.2.2.1 hts (ez_goodS m1 l1 l2 (by rw [hcc, m3]; exact m2)) rfl rfl rfl ⟨by rw [hcc, m3], m5.1, m5.2, m6⟩ ⟨f1, f2⟩)
                      ⟨ez_blind, fun U hU hW => ⟨rfl, by rw [hU], by rw [hU]; exact hP, va_K.moved hW.alike hK, hD.weaken (fun _ _ _ _ => trivial)⟩⟩
                      rfl (by rw [List.length_map, List.length_reverse]; exact hlen) hl.2.1 ?_ (lv_room (by rw [ez_cats]; exact f3)) hd ⟨Nat.le_refl _, Nat.le_refl _⟩) hS hAw (fun H1 locs1 g1 g2 g3 => ?_)
                    · show st.map (ez_v ad) = _
                      rw [← List.map_reverse, List.reverse_reverse, ← List.map_append, List.take_append_drop]
                    · rw [← ez_toL]
                      exact ih mi (pc + 3) L (r1.toList ++ st.drop N'.2.2.2.2.2.1) w1 r w' h M hM p l e s m args below meth c H1 locs1 D cI ad A ls free Qc F hml hret hlocks hA g1 g2 g3 hl hq hAf
                  · cases h
        all_goals (
          dsimp only at h
          split at h
          · rename_i pc' L' st' w1 hs
            exact ez_simple F hs hok hd hP hD hS hl (fun ls' H' locs' g1 g2 g3 g4 => ih mi pc' L' st' w1 r w' h M hM p l e s m args below meth c H' locs' D cI ad A ls' free Qc F hml hret hlocks hA g2 g3 g4 g1 hq hAf)
          · cases h)
/-- A RUN OF THE INTERPRETER GIVES THE METHOD'S CONTRACT -/
theorem ez_met {n : Nat} {l : Launch} {j : Nat} {N : ez_M} (hN : ez_ms[j]? = some N) {As : List Value} {w w1 : ez_W} {r : Option Value} (h : ez_ev n j 0 (ez_en As N.2.2.2.1) [] w = some (r, w1)) (hlen : (ez_en As N.2.2.2.1).length = N.2.2.2.1) (D : va_G) (cI : ClassId) (ad : Nat → Nat) (sz : Nat) : ez_Met l N D cI ad sz As w r w1 := ez_met_of (ez_B_all n) hN h hlen D cI ad sz
