abbrev xM3 : ez_M := (1, yX1_arrange, cX1_arrange, 1, none, 0, 4, 92)
theorem xM3_ok : ez_ms[3]? = some xM3 := rfl
abbrev xM0 : ez_M := (0, yX0_arrange, cX0_arrange, 1, none, 0, 4, 95)
theorem xM0_ok : ez_ms[0]? = some xM0 := rfl
abbrev xM10 : ez_M := (2, yX2_arrange, cX2_arrange, 4, none, 0, 5, 118)
theorem xM10_ok : ez_ms[10]? = some xM10 := rfl
abbrev xM44 : ez_M := (4, yX4_arrange, cX4_arrange, 5, none, 0, 5, 117)
theorem xM44_ok : ez_ms[44]? = some xM44 := rfl
/-! ===== sort and kill on the machine: the way's arrange between two pieces ===== -/
theorem xz_pre {l : Launch} {y : MethodName} {ws : List Jvm.Cond} {rm : Room} {Pc Pc' : Array Value → State → Prop} {Qc : Array Value → State → Outcome → State → Prop} {mc ms : Nat} {free : Addr → Prop} (h : Met l y ws rm Pc Qc mc ms free) (hp : ∀ a U, Pc' a U → Pc a U) : Met l y ws rm Pc' Qc mc ms free :=
  fun p e h1 h2 h3 s m args below hf ha hp1 hk => h p e h1 h2 h3 s m args below hf ha (hp _ _ hp1) hk
def xz_MetP (l : Launch) (M : ez_M) (D : va_G) (cI : ClassId) (ad : Nat → Nat) (sz : Nat) (As : List Value) (w : ez_W) (r : Option Value) (w' : ez_W) : Prop :=
  Met l M.2.1 (ez_ws M) (ez_rm M) (xz_Pc D cI ad sz As w) (ez_Qc D cI ad sz w r w') 0 0 (va_A (ez_z cI ad w) sz)
theorem xz_MetP.of {l : Launch} {M : ez_M} {D : va_G} {cI : ClassId} {ad : Nat → Nat} {sz : Nat} {As : List Value} {w w' : ez_W} {r : Option Value} (h : ez_Met l M D cI ad sz As w r w') : xz_MetP l M D cI ad sz As w r w' :=
  xz_pre h (fun a U ⟨h0, h1, h2, h3, h4, _⟩ => ⟨h0, h1, h2, h3, h4⟩)
theorem ez_is.met {j : Nat} {N : ez_M} {As : List Value} {w w' : ez_W} {r : Option Value} (hN : ez_ms[j]? = some N) (h : ez_is j As w r w') (l : Launch) (D : va_G) (cI : ClassId) (ad : Nat → Nat) (sz : Nat) : ez_Met l N D cI ad sz As w r w' := by
  obtain ⟨N', h1, h2, n, r1, w1, h3, rfl, rfl⟩ := h
  obtain rfl : N' = N := Option.some.inj (h1.symm.trans hN)
  exact ez_met hN h3 h2 D cI ad sz
theorem wz_is {mi o pc k j : Nat} {t : List (Nat × Instr × Nat)} {L : ez_L} {st As rest : List Value} {w w1 : ez_W} {r : Option Value} {G : wz_G} (hm : ez_mh mi o t) (hi : ez_lk t pc = some (.invokevirtual k, 3)) (hc : ez_cal mi k st w = some (j, As, rest)) (h : ez_is j As w r w1) (kk : wz_E mi (pc + 3) L (r.toList ++ rest) w1 G) : wz_E mi pc L st w G :=
  wz_cl hm hi hc (h.imp (fun a v z => by obtain ⟨rfl, rfl⟩ := z; exact kk))
theorem wz_inc {mi o pc k : Nat} {c : Int} {t : List (Nat × Instr × Nat)} {L L' : ez_L} {st : List Value} {w : ez_W} {G : wz_G} {x v : Int32} (hm : ez_mh mi o t) (hi : ez_lk t pc = some (.iinc k c, 3)) (hx : ez_li L k = some x) (hv : x + Int32.ofInt c = v) (hs : ez_s1 L k (.int v) = some L') (kk : wz_E mi (pc + 3) L' st w G) : wz_E mi pc L st w G := by
  refine wz_step hm hi rfl ?_ kk
  simp only [ez_s, hx]
  rw [hv, hs]
/-- a method that answers a thing of the world -/
theorem xz_aret {l : Launch} {mi pcr a : Nat} {M : ez_M} {As : List Value} {w : ez_W} {nm : String} (hM : ez_ms[mi]? = some M) (hseg : wz_E mi 0 (ez_en As M.2.2.2.1) [] w (fun pc' _ st' w' => pc' = pcr ∧ st' = [.ref a] ∧ w' = w)) (hd : decode M.2.2.1 pcr = .ok (.areturn, 1)) (hr : M.2.2.2.2.1 = some (.object nm)) (hlen : (ez_en As M.2.2.2.1).length = M.2.2.2.1)
    (D : va_G) (cI : ClassId) (ad : Nat → Nat) (sz : Nat) : ez_Met l M D cI ad sz As w (some (.ref a)) w := by
  obtain ⟨-, -, g3, g4, -, -⟩ := ez_mt hM
  refine Met.ofW (cc := M.2.2.1) (maxL := M.2.2.2.1) (ret := M.2.2.2.2.1) g4 rfl ?_
  intro p e s m args below meth c s₁ B hml hv
  obtain ⟨rfl, hsz, hP0, hK, hD0⟩ := hv
  have hts := atoms_spec (ws := ez_ws M) B.pre
  have hown0 : s.vm.findClass M.2.1.cls = some m.cls := findClass_of_methodNamed B.named
  have hown : s.vm.findClass (ez_R M.1) = some m.cls := by rw [g3]; exact hown0
  have hG : ∀ w ∈ ez_G, w.before _ s = true := fun w hw => hts w (List.mem_cons_of_mem _ hw)
  subst hsz
  have hD := hD0.self (sz := s.heap.size)
  rw [lg_entry_eq]
  refine hseg M hM p l e _ s m _ below meth c 0 0 _ D cI ad (va_A (ez_z cI ad w) s.heap.size) ⟨B.exec, B.bytes, hown, hG, hK⟩ hml (Nat.le_refl _) (Nat.le_refl _) (Nat.le_refl _) (Nat.le_refl _) (fun q h => Or.inr h) ?_ s.heap [] _ hP0 hD va_S.rf (ez_entry hlen)
  rintro pc' L' st' w' ⟨rfl, rfl, rfl⟩ H locs ls hP hD1 hS hl
  exact W.aret (v := .ref (ad a)) B.exec B.bytes (by rw [B.returns]; exact hr) (Or.inl ⟨_, rfl⟩) (Or.inr ⟨_, rfl⟩) (fun t ht hW => ⟨⟨rfl, by rw [ht]; exact hP, va_K.moved hW.alike hK, hD1⟩, hS.F ht⟩) (fun q hq => hS.2.2 q hq) hd B.notSynchronized
def xz_wU (N : ez_M) : List Jvm.Cond := [.methodLink RX7 113 xz_arr, .sameMethod "SortBench$Way" "SortBench$Way" "arrange" "()V", .selects N.2.1.cls xz_arr N.2.1, .instanceMethod N.2.1]
theorem xs_gen {l : Launch} {mi j : Nat} {M N : ez_M} {As : List Value} {w0 w1 w2 w3 : ez_W} {pcx pcr a : Nat} {L1 : ez_L} {fs : List Value} {x : Int32} (hM : ez_ms[mi]? = some M) (hN : ez_ms[j]? = some N) (ho : M.1 = 6) (hseg1 : wz_E mi 0 (ez_en As M.2.2.2.1) [] w0 (fun pc' L' st' w' => pc' = pcx ∧ L' = L1 ∧ st' = [.ref a] ∧ w' = w1)) (hw : w1[a]? = some (.inr (N.1, fs)))
    (hAr : ∀ (D : va_G) (cI : ClassId) (ad : Nat → Nat) (sz : Nat), xz_MetP l N D cI ad sz [.ref a] w1 none w2) (hseg2 : wz_E mi (pcx + 3) L1 [] w2 (fun pc' _ st' w' => pc' = pcr ∧ st' = [.int x] ∧ w' = w3)) (hd : decode M.2.2.1 pcx = .ok (.invokevirtual 113, 3)) (hd2 : decode M.2.2.1 pcr = .ok (.ireturn, 1)) (hr : M.2.2.2.2.1 = some .int) (hlen : (ez_en As M.2.2.2.1).length = M.2.2.2.1)
    (hrm : N.2.2.2.2.2.2.1 + 1 ≤ M.2.2.2.2.2.2.1 ∧ 8 + (N.2.2.2.1 + 11) + N.2.2.2.2.2.2.2 ≤ M.2.2.2.2.2.2.2) (hU : ∀ w ∈ xz_wU N, w ∈ ez_G) (D : va_G) (cI : ClassId) (ad : Nat → Nat) (sz : Nat) : xz_MetP l M D cI ad sz As w0 (some (.int x)) w3 := by
  obtain ⟨-, -, g3, g4, -, -⟩ := ez_mt hM
  obtain ⟨m1, m2, m3, m4, m5, m6⟩ := ez_mt hN
  refine Met.ofW (cc := M.2.2.1) (maxL := M.2.2.2.1) (ret := M.2.2.2.2.1) g4 rfl ?_
  intro p e s m args below meth c s₁ B hml hv
  obtain ⟨rfl, hsz, hP0, hK, hD0, hZ⟩ := hv
  have hts := atoms_spec (ws := ez_ws M) B.pre
  have hown0 : s.vm.findClass M.2.1.cls = some m.cls := findClass_of_methodNamed B.named
  have hown : s.vm.findClass (ez_R M.1) = some m.cls := by rw [g3]; exact hown0
  have hown7 : s.vm.findClass RX7 = some m.cls := by rw [ho] at hown; exact hown
  have hG : ∀ w ∈ ez_G, w.before _ s = true := fun w hw => hts w (List.mem_cons_of_mem _ hw)
  subst hsz
  have hD := hD0.self (sz := s.heap.size)
  have F : ez_F p s m _ c D cI M.1 M.2.2.1 := ⟨B.exec, B.bytes, hown, hG, hK⟩
  rw [lg_entry_eq]
  refine hseg1 M hM p l e _ s m _ below meth c 0 0 _ D cI ad (va_A (ez_z cI ad w0) s.heap.size) F hml (Nat.le_refl _) (Nat.le_refl _) (Nat.le_refl _) (Nat.le_refl _) (fun q h => Or.inr h) ?_ s.heap [] _ hP0 hD va_S.rf (ez_entry hlen)
  rintro pc' L' st' w' ⟨rfl, rfl, rfl, rfl⟩ H locs ls hP hD1 hS hl
  have hAw : ∀ q, va_A (ez_z cI ad w') H.size q → va_A (ez_z cI ad w0) s.heap.size q := by
    intro q hq1
    rcases hq1 with ⟨k, e1, h1⟩ | h1
    · exact hD1.2 k (q, e1) h1
    · exact Or.inr (Nat.le_trans hS.1 h1)
  obtain ⟨q, hq1, -⟩ := hP a _ (ez_z_at hw)
  obtain ⟨-, hRq, -⟩ := ez_cls hq1
  obtain ⟨cellB, b1, b2, b3⟩ := va_recv hK hP hq1 (ez_z_at hw)
  obtain ⟨-, -, -, -, hdecl, -⟩ := id hZ
  have hGU : GoodIn ez_G (va_wsU RX7 113 N.2.1.cls "SortBench$Way" xz_arr N.2.1 (ez_ws N)) := by
    refine ez_G_good (fun w hw => ?_)
    unfold va_wsU ez_ws at hw
    simp only [List.mem_append, List.mem_cons, List.not_mem_nil, or_false] at hw
    rcases hw with (rfl | rfl | rfl | rfl | rfl) | rfl | hw
    · exact hU _ (by simp [xz_wU])
    · exact hU _ (by simp [xz_wU, xz_arr])
    · exact hU _ (by simp [xz_wU])
    · exact hU _ (by simp [xz_wU])
    · exact m2
    · exact m1
    · exact hw
  refine ez_call (a := (Value.ref (ad a) :: []).toArray) (rest := []) (w := w') (r := none) (w1 := w2) (va_runU (As := []) (b := ad a) (C := N.2.1.cls) (owner := "SortBench$Way") (x := xz_arr) (n := 0) (nL := M.2.2.2.1) (Ts := ez_G) (own := RX7) (index := 113) ⟨B.exec, B.bytes, hml, hown7, hG⟩ (hAr D cI ad H.size)
    (va_cwA 0 hG hGU rfl rfl rfl (hdecl xz_arr (by simp [xz_dec])) ⟨by decide, by decide, by decide +kernel⟩ hrm)
    ⟨xz_blind, ⟨cellB, b1, b2, by rw [← m3, hRq]; exact b3⟩, fun U hU hW => ⟨rfl, by rw [hU], by rw [hU]; exact hP, va_K.moved hW.alike hK, hD1.weaken (fun _ _ _ _ => trivial), hZ.at hS hU hW hAw⟩⟩
    rfl rfl hl.2.1 rfl (lv_room (by decide)) hd ⟨Nat.le_refl _, Nat.le_refl _⟩) hS hAw (fun H1 locs1 g1 g2 g3 => ?_)
  refine hseg2 M hM p l e _ s m _ below meth c 0 0 _ D cI ad (va_A (ez_z cI ad w0) s.heap.size) F hml (Nat.le_refl _) (Nat.le_refl _) (Nat.le_refl _) (Nat.le_refl _) (fun q h => Or.inr h) ?_ H1 locs1 ls g1 g2 g3 hl
  rintro pc' L' st' w' ⟨rfl, rfl, rfl⟩ H2 locs2 ls2 hP2 hD2 hS2 hl2
  exact W.iret (v := x) B.exec B.bytes (by rw [B.returns]; exact hr) (fun t ht hW => ⟨⟨rfl, by rw [ht]; exact hP2, va_K.moved hW.alike hK, hD2⟩, hS2.F ht⟩) (fun q hq => hS2.2.2 q hq) hd2 B.notSynchronized
theorem xs_way (r : cz_Row) (q : cz_Qk) (u : cz_Rn) (b : cz_Bn) {w : Nat} (hw : w ≤ 4) (l : Launch) (D : va_G) (cI : ClassId) (ad : Nat → Nat) (sz : Nat) : ez_Met l xM109 D cI ad sz [.ref 0, .int (nI w)] (cz_w r q u b) (some (.ref (w + 2))) (cz_w r q u b) := by
  match w, hw with
  | 0, _ => exact xz_aret (pcr := 36) xM109_ok (wz_go ez_h109 4 (pc' := 36) (L' := [some (.ref 0), some (.int (nI 0))]) (st' := [.ref 2]) (w' := cz_w r q u b) rfl (wz_stop ⟨rfl, rfl, rfl⟩)) (ez_dec xM109_ok (ez_h109.i rfl)) rfl rfl D cI ad sz
  | 1, _ => exact xz_aret (pcr := 41) xM109_ok (wz_go ez_h109 4 (pc' := 41) (L' := [some (.ref 0), some (.int (nI 1))]) (st' := [.ref 3]) (w' := cz_w r q u b) rfl (wz_stop ⟨rfl, rfl, rfl⟩)) (ez_dec xM109_ok (ez_h109.i rfl)) rfl rfl D cI ad sz
  | 2, _ => exact xz_aret (pcr := 46) xM109_ok (wz_go ez_h109 4 (pc' := 46) (L' := [some (.ref 0), some (.int (nI 2))]) (st' := [.ref 4]) (w' := cz_w r q u b) rfl (wz_stop ⟨rfl, rfl, rfl⟩)) (ez_dec xM109_ok (ez_h109.i rfl)) rfl rfl D cI ad sz
  | 3, _ => exact xz_aret (pcr := 51) xM109_ok (wz_go ez_h109 4 (pc' := 51) (L' := [some (.ref 0), some (.int (nI 3))]) (st' := [.ref 5]) (w' := cz_w r q u b) rfl (wz_stop ⟨rfl, rfl, rfl⟩)) (ez_dec xM109_ok (ez_h109.i rfl)) rfl rfl D cI ad sz
  | 4, _ => exact xz_aret (pcr := 56) xM109_ok (wz_go ez_h109 4 (pc' := 56) (L' := [some (.ref 0), some (.int (nI 4))]) (st' := [.ref 6]) (w' := cz_w r q u b) rfl (wz_stop ⟨rfl, rfl, rfl⟩)) (ez_dec xM109_ok (ez_h109.i rfl)) rfl rfl D cI ad sz
/-! ===== Steps.arrange: seven gaps ===== -/
theorem xs_in {n gp : Nat} (hn : n ≤ 600) {q : cz_Qk} {u : cz_Rn} {b : cz_Bn} {k : Nat} : ∀ (m i : Nat) (r r' : cz_Row), i + m ≤ 1200 → zw_st n gp q u b m i r r' → wz_E 122 23 [some (.ref 6), some (.ref 1000), some (.int (nI 7)), some (.int (nI k)), some (.int (nI gp)), some (.int (nI i))] [] (cz_w r q u b)
    (fun pc' L' st' w' => pc' = 9 ∧ (∃ i' : Nat, L' = [some (.ref 6), some (.ref 1000), some (.int (nI 7)), some (.int (nI (k + 1))), some (.int (nI gp)), some (.int (nI i'))]) ∧ st' = [] ∧ w' = cz_w r' q u b) := by
  intro m
  induction m with
  | zero =>
    intro i r r' hi h
    obtain ⟨h1, h2, h5⟩ := h
    rw [h5]
    refine wz_go ez_h122 3 (pc' := 29) (L' := [some (.ref 6), some (.ref 1000), some (.int (nI 7)), some (.int (nI (k))), some (.int (nI gp)), some (.int (nI (i)))]) (st' := [.ref 1, .int (nI i)]) (w' := cz_w r q u b) rfl ?_
    refine wz_is ez_h122 rfl rfl h1 ?_
    refine wz_go ez_h122 1 (pc' := bif decide (nI n ≤ nI i) then 49 else 35) (L' := [some (.ref 6), some (.ref 1000), some (.int (nI 7)), some (.int (nI (k))), some (.int (nI gp)), some (.int (nI (i)))]) (st' := []) (w' := cz_w r q u b) rfl ?_
    refine wz_ifT (zt_le (a := n) (b := i) (by omega) (by omega)) ?_
    refine wz_inc ez_h122 rfl rfl (v := nI (k + 1)) (zi_1 _) rfl ?_
    refine wz_go ez_h122 1 (pc' := 9) (L' := [some (.ref 6), some (.ref 1000), some (.int (nI 7)), some (.int (nI (k + 1))), some (.int (nI gp)), some (.int (nI (i)))]) (st' := []) (w' := cz_w r q u b) rfl ?_
    exact wz_stop ⟨rfl, ⟨i, rfl⟩, rfl, rfl⟩
  | succ m ih =>
    intro i r r' hi h
    obtain ⟨h1, h⟩ := h
    rcases h with ⟨h2, h5⟩ | ⟨h2, r1, h3, h4⟩
    · rw [h5]
      refine wz_go ez_h122 3 (pc' := 29) (L' := [some (.ref 6), some (.ref 1000), some (.int (nI 7)), some (.int (nI (k))), some (.int (nI gp)), some (.int (nI (i)))]) (st' := [.ref 1, .int (nI i)]) (w' := cz_w r q u b) rfl ?_
      refine wz_is ez_h122 rfl rfl h1 ?_
      refine wz_go ez_h122 1 (pc' := bif decide (nI n ≤ nI i) then 49 else 35) (L' := [some (.ref 6), some (.ref 1000), some (.int (nI 7)), some (.int (nI (k))), some (.int (nI gp)), some (.int (nI (i)))]) (st' := []) (w' := cz_w r q u b) rfl ?_
      refine wz_ifT (zt_le (a := n) (b := i) (by omega) (by omega)) ?_
      refine wz_inc ez_h122 rfl rfl (v := nI (k + 1)) (zi_1 _) rfl ?_
      refine wz_go ez_h122 1 (pc' := 9) (L' := [some (.ref 6), some (.ref 1000), some (.int (nI 7)), some (.int (nI (k + 1))), some (.int (nI gp)), some (.int (nI (i)))]) (st' := []) (w' := cz_w r q u b) rfl ?_
      exact wz_stop ⟨rfl, ⟨i, rfl⟩, rfl, rfl⟩
    · skip
      refine wz_go ez_h122 3 (pc' := 29) (L' := [some (.ref 6), some (.ref 1000), some (.int (nI 7)), some (.int (nI (k))), some (.int (nI gp)), some (.int (nI (i)))]) (st' := [.ref 1, .int (nI i)]) (w' := cz_w r q u b) rfl ?_
      refine wz_is ez_h122 rfl rfl h1 ?_
      refine wz_go ez_h122 1 (pc' := bif decide (nI n ≤ nI i) then 49 else 35) (L' := [some (.ref 6), some (.ref 1000), some (.int (nI 7)), some (.int (nI (k))), some (.int (nI gp)), some (.int (nI (i)))]) (st' := []) (w' := cz_w r q u b) rfl ?_
      refine wz_ifF (zt_nle (a := n) (b := i) (by omega) (by omega)) ?_
      refine wz_go ez_h122 3 (pc' := 40) (L' := [some (.ref 6), some (.ref 1000), some (.int (nI 7)), some (.int (nI (k))), some (.int (nI gp)), some (.int (nI (i)))]) (st' := [.int (nI gp), .int (nI i), .ref 6]) (w' := cz_w r q u b) rfl ?_
      refine wz_is ez_h122 rfl rfl h3 ?_
      refine wz_inc ez_h122 rfl rfl (v := nI (i + 1)) (zi_1 _) rfl ?_
      refine wz_go ez_h122 1 (pc' := 23) (L' := [some (.ref 6), some (.ref 1000), some (.int (nI 7)), some (.int (nI (k))), some (.int (nI gp)), some (.int (nI (i + 1)))]) (st' := []) (w' := cz_w r1 q u b) rfl ?_
      exact ih (i + 1) r1 r' (by omega) h4
theorem xs_gap : ∀ k, k < 7 → ∃ gp : Nat, ([301, 132, 57, 23, 10, 4, 1] : List Nat)[k]? = some gp ∧ xz_gap k = nI gp ∧ gp ≤ 600 := by
  intro k hk
  match k, hk with
  | 0, _ => exact ⟨301, rfl, rfl, by decide⟩
  | 1, _ => exact ⟨132, rfl, rfl, by decide⟩
  | 2, _ => exact ⟨57, rfl, rfl, by decide⟩
  | 3, _ => exact ⟨23, rfl, rfl, by decide⟩
  | 4, _ => exact ⟨10, rfl, rfl, by decide⟩
  | 5, _ => exact ⟨4, rfl, rfl, by decide⟩
  | 6, _ => exact ⟨1, rfl, rfl, by decide⟩
theorem xs_up (cI : ClassId) (ad : Nat → Nat) (ga : Nat) (r : cz_Row) (q : cz_Qk) (u : cz_Rn) (b : cz_Bn) : ez_z cI (va_up ad 1000 ga) (cz_w r q u b) = ez_z cI ad (cz_w r q u b) := rfl
theorem xs_fl : ez_in (.fieldLink RX5 7 RX5 "GAPS" "[I") = true := by decide +kernel
theorem xs_steps {n : Nat} (hn : n ≤ 600) {q : cz_Qk} {u : cz_Rn} {b : cz_Bn} {r r' : cz_Row} (h : zw_7 n q u b r r') (l : Launch) (D : va_G) (cI : ClassId) (ad : Nat → Nat) (sz : Nat) : xz_MetP l xM122 D cI ad sz [.ref 6] (cz_w r q u b) none (cz_w r' q u b) := by
  obtain ⟨V, rfl, rfl, hV⟩ := h
  obtain ⟨-, -, g3, g4, -, -⟩ := ez_mt xM122_ok
  refine Met.ofW (cc := xM122.2.2.1) (maxL := xM122.2.2.2.1) (ret := xM122.2.2.2.2.1) g4 rfl ?_
  intro p e s m args below meth c s₁ B hml hv
  obtain ⟨rfl, hsz, hP0, hK, hD0, hZ⟩ := hv
  have hts := atoms_spec (ws := ez_ws xM122) B.pre
  have hown0 : s.vm.findClass xM122.2.1.cls = some m.cls := findClass_of_methodNamed B.named
  have hown : s.vm.findClass RX5 = some m.cls := hown0
  have hG : ∀ w ∈ ez_G, w.before _ s = true := fun w hw => hts w (List.mem_cons_of_mem _ hw)
  subst hsz
  have hD := hD0.self (sz := s.heap.size)
  have F : ez_F p s m _ c D cI xM122.1 xM122.2.2.1 := ⟨B.exec, B.bytes, by rw [g3]; exact hown0, hG, hK⟩
  obtain ⟨-, -, -, -, -, -, ga, hZg, hTg⟩ := hZ
  rw [lg_entry_eq]
  have dd : ∀ {pc len : Nat} {i : Instr}, ez_lk _ pc = some (i, len) → decode xM122.2.2.1 pc = .ok (i, len) := fun hq => ez_dec xM122_ok (ez_h122.i hq)
  have loop : ∀ (d k : Nat), k + d = 7 → ∀ (g5 i5 : Option Value) (H : Heap) (locs : List Loc) (ls : Array Slot), va_P D vwCl (ez_z cI (va_up ad 1000 ga) (cz_w (V k) q u b)) H → va_D (va_A (ez_z cI ad (cz_w (V 0) q u b)) s.heap.size) (ez_z cI (va_up ad 1000 ga) (cz_w (V k) q u b)) → va_S (va_A (ez_z cI ad (cz_w (V 0) q u b)) s.heap.size) s.heap H locs →
      ez_l 6 (va_up ad 1000 ga) [some (.ref 6), some (.ref 1000), some (.int (nI 7)), some (.int (nI k)), g5, i5] ls → W p l e (headSpec (ez_ws xM122) (ez_rm xM122)).room s m ([Value.ref 6].map (ez_v ad)).toArray below meth c H locs 0 0 (MQ below (ez_Qc D cI ad s.heap.size (cz_w (V 0) q u b) none (cz_w (V 7) q u b)) ([Value.ref 6].map (ez_v ad)).toArray s 0 0 (va_A (ez_z cI ad (cz_w (V 0) q u b)) s.heap.size)) (F0 m 9 ls ([].map (ez_v (va_up ad 1000 ga)))) := by
    intro d
    induction d with
    | zero =>
      intro k hk g5 i5 H locs ls hP hD1 hS hl
      obtain rfl : k = 7 := by omega
      have sg : wz_E 122 9 [some (.ref 6), some (.ref 1000), some (.int (nI 7)), some (.int (nI 7)), g5, i5] [] (cz_w (V 7) q u b) (fun pc' _ st' w' => pc' = 55 ∧ st' = [] ∧ w' = cz_w (V 7) q u b) := by
        refine wz_go ez_h122 3 (pc' := bif decide (nI 7 ≤ nI 7) then 55 else 14) (L' := [some (.ref 6), some (.ref 1000), some (.int (nI 7)), some (.int (nI 7)), g5, i5]) (st' := []) (w' := cz_w (V 7) q u b) rfl ?_
        exact wz_ifT (zt_le (a := 7) (b := 7) (by omega) (by omega)) (wz_stop ⟨rfl, rfl, rfl⟩)
      refine sg xM122 xM122_ok p l e _ s m _ below meth c 0 0 _ D cI (va_up ad 1000 ga) _ F hml (Nat.le_refl _) (Nat.le_refl _) (Nat.le_refl _) (Nat.le_refl _) (fun q h => Or.inr h) ?_ H locs ls hP hD1 hS hl
      rintro pc' L' st' w' ⟨rfl, rfl, rfl⟩ H2 locs2 ls2 hP2 hD2 hS2 hl2
      exact W.vret B.exec B.bytes (by rw [B.returns]) (fun t ht hW => ⟨⟨rfl, by rw [ht]; exact hP2, va_K.moved hW.alike hK, hD2⟩, hS2.F ht⟩) (fun q hq => hS2.2.2 q hq) (dd rfl) B.notSynchronized
    | succ d ih =>
      intro k hk g5 i5 H locs ls hP hD1 hS hl
      obtain ⟨gp, e1, e2, e3⟩ := xs_gap k (by omega)
      have sg : wz_E 122 9 [some (.ref 6), some (.ref 1000), some (.int (nI 7)), some (.int (nI k)), g5, i5] [] (cz_w (V k) q u b) (fun pc' L' st' w' => pc' = 16 ∧ L' = [some (.ref 6), some (.ref 1000), some (.int (nI 7)), some (.int (nI k)), g5, i5] ∧ st' = [.int (nI k), .ref 1000] ∧ w' = cz_w (V k) q u b) := by
        refine wz_go ez_h122 3 (pc' := bif decide (nI 7 ≤ nI k) then 55 else 14) (L' := [some (.ref 6), some (.ref 1000), some (.int (nI 7)), some (.int (nI k)), g5, i5]) (st' := []) (w' := cz_w (V k) q u b) rfl ?_
        refine wz_ifF (zt_nle (a := 7) (b := k) (by omega) (by omega)) ?_
        exact wz_go ez_h122 2 (pc' := 16) (L' := [some (.ref 6), some (.ref 1000), some (.int (nI 7)), some (.int (nI k)), g5, i5]) (st' := [.int (nI k), .ref 1000]) (w' := cz_w (V k) q u b) rfl (wz_stop ⟨rfl, rfl, rfl, rfl⟩)
      have sg2 : wz_E 122 17 [some (.ref 6), some (.ref 1000), some (.int (nI 7)), some (.int (nI k)), g5, i5] [.int (nI gp)] (cz_w (V k) q u b) (fun pc' L' st' w' => pc' = 9 ∧ (∃ i' : Nat, L' = [some (.ref 6), some (.ref 1000), some (.int (nI 7)), some (.int (nI (k + 1))), some (.int (nI gp)), some (.int (nI i'))]) ∧ st' = [] ∧ w' = cz_w (V (k + 1)) q u b) := by
        refine wz_go ez_h122 3 (pc' := 23) (L' := [some (.ref 6), some (.ref 1000), some (.int (nI 7)), some (.int (nI k)), some (.int (nI gp)), some (.int (nI gp))]) (st' := []) (w' := cz_w (V k) q u b) rfl ?_
        exact xs_in hn 600 gp (V k) (V (k + 1)) (by omega) (hV k gp e1)
      refine sg xM122 xM122_ok p l e _ s m _ below meth c 0 0 _ D cI (va_up ad 1000 ga) _ F hml (Nat.le_refl _) (Nat.le_refl _) (Nat.le_refl _) (Nat.le_refl _) (fun q h => Or.inr h) ?_ H locs ls hP hD1 hS hl
      rintro pc' L' st' w' ⟨rfl, rfl, rfl, rfl⟩ H2 locs2 ls2 hP2 hD2 hS2 hl2
      refine va_ti B.exec B.bytes hTg hS2 (i := nI k) (v := .int (nI gp)) (nI_in (by omega) (by omega)) (by rw [nI_clamp (by omega)]; rw [e2]) (dd rfl) ?_
      refine sg2 xM122 xM122_ok p l e _ s m _ below meth c 0 0 _ D cI (va_up ad 1000 ga) _ F hml (Nat.le_refl _) (Nat.le_refl _) (Nat.le_refl _) (Nat.le_refl _) (fun q h => Or.inr h) ?_ H2 locs2 ls2 hP2 hD2 hS2 hl2
      rintro pc' L' st' w' ⟨rfl, ⟨i', rfl⟩, rfl, rfl⟩ H3 locs3 ls3 hP3 hD3 hS3 hl3
      exact ih (k + 1) (by omega) _ _ H3 locs3 ls3 hP3 hD3 hS3 hl3
  have hl0 : ez_l 6 ad [some (.ref 6), none, none, none, none, none] _ := ez_entry (As := [.ref 6]) (n := 6) rfl
  refine va_gets B.exec B.bytes hZg va_S.rf hown (hG _ (ez_in_G xs_fl)) (fun x hx => hx) (dd rfl) ?_
  refine lv_astore_n B.exec B.bytes (i := 1) (nL := 6) (dd rfl) rfl (ez_has hl0) (by decide) rfl (fun ls1 h1 => ?_)
  have hl1 : ez_l 6 (va_up ad 1000 ga) [some (.ref 6), some (.ref 1000), none, none, none, none] ls1 := ⟨rfl, h1.1, h1.2.1, fun i v hv => by
    match i, hv with
    | 0, hv => cases hv; exact h1.2.2 (0, _) (by simp [ez_p, ez_v, va_up, List.range, List.range.loop, Value.category])
    | 1, hv => cases hv; exact h1.2.2 (1, _) (by simp [ez_v, va_up])
    | 2, hv => cases hv
    | 3, hv => cases hv
    | 4, hv => cases hv
    | 5, hv => cases hv
    | k + 6, hv => cases hv⟩
  have sg1 : wz_E 122 4 [some (.ref 6), some (.ref 1000), none, none, none, none] [] (cz_w (V 0) q u b) (fun pc' L' st' w' => pc' = 5 ∧ L' = [some (.ref 6), some (.ref 1000), none, none, none, none] ∧ st' = [.ref 1000] ∧ w' = cz_w (V 0) q u b) := wz_go ez_h122 1 (pc' := 5) (L' := [some (.ref 6), some (.ref 1000), none, none, none, none]) (st' := [.ref 1000]) (w' := cz_w (V 0) q u b) rfl (wz_stop ⟨rfl, rfl, rfl, rfl⟩)
  refine sg1 xM122 xM122_ok p l e _ s m _ below meth c 0 0 _ D cI (va_up ad 1000 ga) (va_A (ez_z cI ad (cz_w (V 0) q u b)) s.heap.size) F hml (Nat.le_refl _) (Nat.le_refl _) (Nat.le_refl _) (Nat.le_refl _) (fun q h => Or.inr h) ?_ s.heap [] ls1 (by rw [xs_up]; exact hP0) (by rw [xs_up]; exact hD) va_S.rf hl1
  rintro pc' L' st' w' ⟨rfl, rfl, rfl, rfl⟩ H2 locs2 ls2 hP2 hD2 hS2 hl2
  refine va_tlen B.exec B.bytes hTg hS2 (v := nI 7) rfl (dd rfl) ?_
  have sg2 : wz_E 122 6 [some (.ref 6), some (.ref 1000), none, none, none, none] [.int (nI 7)] (cz_w (V 0) q u b) (fun pc' L' st' w' => pc' = 9 ∧ L' = [some (.ref 6), some (.ref 1000), some (.int (nI 7)), some (.int (nI 0)), none, none] ∧ st' = [] ∧ w' = cz_w (V 0) q u b) := wz_go ez_h122 3 (pc' := 9) (L' := [some (.ref 6), some (.ref 1000), some (.int (nI 7)), some (.int (nI 0)), none, none]) (st' := []) (w' := cz_w (V 0) q u b) rfl (wz_stop ⟨rfl, rfl, rfl, rfl⟩)
  refine sg2 xM122 xM122_ok p l e _ s m _ below meth c 0 0 _ D cI (va_up ad 1000 ga) (va_A (ez_z cI ad (cz_w (V 0) q u b)) s.heap.size) F hml (Nat.le_refl _) (Nat.le_refl _) (Nat.le_refl _) (Nat.le_refl _) (fun q h => Or.inr h) ?_ H2 locs2 ls2 hP2 hD2 hS2 hl2
  rintro pc' L' st' w' ⟨rfl, rfl, rfl, rfl⟩ H3 locs3 ls3 hP3 hD3 hS3 hl3
  exact loop 7 0 rfl none none H3 locs3 ls3 hP3 hD3 hS3 hl3
theorem xs_arr (l : Launch) {w : Nat} (hw : w ≤ 4) {r r' : cz_Row} {q q' : cz_Qk} {u u' : cz_Rn} {b b' : cz_Bn} (h : zw_A w (cz_w r q u b) (cz_w r' q' u' b')) : ∃ (j : Nat) (N : ez_M) (fs : List Value), ez_ms[j]? = some N ∧ (cz_w r q u b)[w + 2]? = some (.inr (N.1, fs)) ∧ (∀ wd ∈ xz_wU N, ez_in wd = true) ∧ (N.2.2.2.2.2.2.1 + 1 ≤ 8 ∧ 8 + (N.2.2.2.1 + 11) + N.2.2.2.2.2.2.2 ≤ 142) ∧
    ∀ (D : va_G) (cI : ClassId) (ad : Nat → Nat) (sz : Nat), xz_MetP l N D cI ad sz [.ref (w + 2)] (cz_w r q u b) none (cz_w r' q' u' b') := by
  match w, hw with
  | 0, _ => exact ⟨3, xM3, _, xM3_ok, rfl, by decide +kernel, ⟨by decide, by decide⟩, fun D cI ad sz => xz_MetP.of (ez_is.met xM3_ok h l D cI ad sz)⟩
  | 1, _ => exact ⟨0, xM0, _, xM0_ok, rfl, by decide +kernel, ⟨by decide, by decide⟩, fun D cI ad sz => xz_MetP.of (ez_is.met xM0_ok h l D cI ad sz)⟩
  | 2, _ => exact ⟨10, xM10, _, xM10_ok, rfl, by decide +kernel, ⟨by decide, by decide⟩, fun D cI ad sz => xz_MetP.of (ez_is.met xM10_ok h l D cI ad sz)⟩
  | 3, _ => exact ⟨44, xM44, _, xM44_ok, rfl, by decide +kernel, ⟨by decide, by decide⟩, fun D cI ad sz => xz_MetP.of (ez_is.met xM44_ok h l D cI ad sz)⟩
  | 4, _ =>
    obtain ⟨n, r1, r2, q1, u1, b1, hn, e1, e2, h7⟩ := h
    rw [e1, e2]
    exact ⟨122, xM122, _, xM122_ok, rfl, by decide +kernel, ⟨by decide, by decide⟩, fun D cI ad sz => xs_steps hn h7 l D cI ad sz⟩
theorem xs_sort (l : Launch) {r r' : cz_Row} {q q' : cz_Qk} {u u' : cz_Rn} {b b1 b' : cz_Bn} {x : Int32} {w : Nat} (hw : w ≤ 4) (h1 : ez_is 59 [.ref 0] (cz_w r q u b) none (cz_w r q u b1)) (h2 : zw_A w (cz_w r q u b1) (cz_w r' q' u' b1)) (h3 : ez_is 60 [.ref 0] (cz_w r' q' u' b1) (some (.int x)) (cz_w r' q' u' b')) (D : va_G) (cI : ClassId) (ad : Nat → Nat) (sz : Nat) : xz_MetP l xM120 D cI ad sz [.ref 0, .int (nI w)] (cz_w r q u b) (some (.int x)) (cz_w r' q' u' b') := by
  obtain ⟨j, N, fs, k1, k2, k3, k4, k5⟩ := xs_arr l hw h2
  refine xs_gen (pcx := 15) (pcr := 22) (L1 := [some (.ref 0), some (.int (nI w))]) xM120_ok k1 rfl ?_ k2 k5 ?_ (ez_dec xM120_ok (ez_h120.i rfl)) (ez_dec xM120_ok (ez_h120.i rfl)) rfl rfl k4 (fun w hw => ez_in_G (k3 w hw)) D cI ad sz
  · show wz_E 120 0 [some (.ref 0), some (.int (nI w))] [] (cz_w r q u b) (fun pc' L' st' w' => pc' = 15 ∧ L' = [some (.ref 0), some (.int (nI w))] ∧ st' = [.ref (w + 2)] ∧ w' = cz_w r q u b1)
    refine wz_go ez_h120 3 (pc' := 3) (L' := [some (.ref 0), some (.int (nI w))]) (st' := [.int (nI (4)), .int (nI w), .ref 0]) (w' := cz_w r q u b) rfl ?_
    refine wz_cl ez_h120 rfl rfl ?_
    refine ez_m.of (L := [some (.ref 0), some (.int (nI w)), some (.int (nI (4)))]) rfl rfl rfl ?_
    refine ez_go ez_h106 2 (pc' := bif decide ((nI w) < (nI 0)) then 9 else 4) (L' := [some (.ref 0), some (.int (nI w)), some (.int (nI (4)))]) (st' := []) (w' := cz_w r q u b) rfl ?_
    refine ez_ifF (zt_nlt (a := w) (b := 0) (by omega) (by omega)) ?_
    refine ez_go ez_h106 3 (pc' := bif decide ((nI w) ≤ (nI (4))) then 19 else 9) (L' := [some (.ref 0), some (.int (nI w)), some (.int (nI (4)))]) (st' := []) (w' := cz_w r q u b) rfl ?_
    refine ez_ifT (zt_le (a := w) (b := 4) (by omega) (by omega)) ?_
    refine ez_vret rfl ez_h106 rfl rfl ?_
    refine wz_go ez_h120 1 (pc' := 7) (L' := [some (.ref 0), some (.int (nI w))]) (st' := [.ref 0]) (w' := cz_w r q u b) rfl ?_
    refine wz_is ez_h120 rfl rfl h1 ?_
    refine wz_go ez_h120 2 (pc' := 12) (L' := [some (.ref 0), some (.int (nI w))]) (st' := [.int (nI w), .ref 0]) (w' := cz_w r q u b1) rfl ?_
    refine wz_clM ez_h120 rfl rfl xM109_ok (fun l D cI ad sz => xs_way r q u b1 hw l D cI ad sz) ?_
    exact wz_stop ⟨rfl, rfl, rfl, rfl⟩
  · show wz_E 120 18 [some (.ref 0), some (.int (nI w))] [] (cz_w r' q' u' b1) (fun pc' _ st' w' => pc' = 22 ∧ st' = [.int x] ∧ w' = cz_w r' q' u' b')
    refine wz_go ez_h120 1 (pc' := 19) (L' := [some (.ref 0), some (.int (nI w))]) (st' := [.ref 0]) (w' := cz_w r' q' u' b1) rfl ?_
    refine wz_is ez_h120 rfl rfl h3 ?_
    exact wz_stop ⟨rfl, rfl, rfl⟩
theorem xs_kill (l : Launch) {r r0 r' r2 : cz_Row} {q q' : cz_Qk} {u u' : cz_Rn} {b b1 b' : cz_Bn} {x : Int32} {w y : Nat} (hw : w ≤ 4) (hy : y ≤ 600) (h0 : ez_is 39 [.ref 1, .int (nI y)] (cz_w r q u b) none (cz_w r0 q u b)) (h1 : ez_is 59 [.ref 0] (cz_w r0 q u b) none (cz_w r0 q u b1)) (h2 : zw_A w (cz_w r0 q u b1) (cz_w r' q' u' b1)) (h4 : ez_is 40 [.ref 1] (cz_w r' q' u' b1) none (cz_w r2 q' u' b1)) (h3 : ez_is 60 [.ref 0] (cz_w r2 q' u' b1) (some (.int x)) (cz_w r2 q' u' b')) (D : va_G) (cI : ClassId) (ad : Nat → Nat) (sz : Nat) : xz_MetP l xM121 D cI ad sz [.ref 0, .int (nI w), .int (nI y)] (cz_w r q u b) (some (.int x)) (cz_w r2 q' u' b') := by
  obtain ⟨j, N, fs, k1, k2, k3, k4, k5⟩ := xs_arr l hw h2
  refine xs_gen (pcx := 28) (pcr := 42) (L1 := [some (.ref 0), some (.int (nI w)), some (.int (nI y))]) xM121_ok k1 rfl ?_ k2 k5 ?_ (ez_dec xM121_ok (ez_h121.i rfl)) (ez_dec xM121_ok (ez_h121.i rfl)) rfl rfl k4 (fun w hw => ez_in_G (k3 w hw)) D cI ad sz
  · show wz_E 121 0 [some (.ref 0), some (.int (nI w)), some (.int (nI y))] [] (cz_w r q u b) (fun pc' L' st' w' => pc' = 28 ∧ L' = [some (.ref 0), some (.int (nI w)), some (.int (nI y))] ∧ st' = [.ref (w + 2)] ∧ w' = cz_w r0 q u b1)
    refine wz_go ez_h121 3 (pc' := 3) (L' := [some (.ref 0), some (.int (nI w)), some (.int (nI y))]) (st' := [.int (nI (4)), .int (nI w), .ref 0]) (w' := cz_w r q u b) rfl ?_
    refine wz_cl ez_h121 rfl rfl ?_
    refine ez_m.of (L := [some (.ref 0), some (.int (nI w)), some (.int (nI (4)))]) rfl rfl rfl ?_
    refine ez_go ez_h106 2 (pc' := bif decide ((nI w) < (nI 0)) then 9 else 4) (L' := [some (.ref 0), some (.int (nI w)), some (.int (nI (4)))]) (st' := []) (w' := cz_w r q u b) rfl ?_
    refine ez_ifF (zt_nlt (a := w) (b := 0) (by omega) (by omega)) ?_
    refine ez_go ez_h106 3 (pc' := bif decide ((nI w) ≤ (nI (4))) then 19 else 9) (L' := [some (.ref 0), some (.int (nI w)), some (.int (nI (4)))]) (st' := []) (w' := cz_w r q u b) rfl ?_
    refine ez_ifT (zt_le (a := w) (b := 4) (by omega) (by omega)) ?_
    refine ez_vret rfl ez_h106 rfl rfl ?_
    refine wz_go ez_h121 2 (pc' := 8) (L' := [some (.ref 0), some (.int (nI w)), some (.int (nI y))]) (st' := [.int (nI y), .ref 0]) (w' := cz_w r q u b) rfl ?_
    refine wz_cl ez_h121 rfl rfl ?_
    refine ez_m.of (L := [some (.ref 0), some (.int (nI y))]) rfl rfl rfl ?_
    refine ez_go ez_h107 2 (pc' := bif decide ((nI y) < (nI 0)) then 11 else 4) (L' := [some (.ref 0), some (.int (nI y))]) (st' := []) (w' := cz_w r q u b) rfl ?_
    refine ez_ifF (zt_nlt (a := y) (b := 0) (by omega) (by omega)) ?_
    refine ez_go ez_h107 3 (pc' := bif decide ((nI y) ≤ (nI (600))) then 21 else 11) (L' := [some (.ref 0), some (.int (nI y))]) (st' := []) (w' := cz_w r q u b) rfl ?_
    refine ez_ifT (zt_le (a := y) (b := 600) (by omega) (by omega)) ?_
    refine ez_vret rfl ez_h107 rfl rfl ?_
    refine wz_go ez_h121 3 (pc' := 16) (L' := [some (.ref 0), some (.int (nI w)), some (.int (nI y))]) (st' := [.int (nI y), .ref 1]) (w' := cz_w r q u b) rfl ?_
    refine wz_is ez_h121 rfl rfl h0 ?_
    refine wz_go ez_h121 1 (pc' := 20) (L' := [some (.ref 0), some (.int (nI w)), some (.int (nI y))]) (st' := [.ref 0]) (w' := cz_w r0 q u b) rfl ?_
    refine wz_is ez_h121 rfl rfl h1 ?_
    refine wz_go ez_h121 2 (pc' := 25) (L' := [some (.ref 0), some (.int (nI w)), some (.int (nI y))]) (st' := [.int (nI w), .ref 0]) (w' := cz_w r0 q u b1) rfl ?_
    refine wz_clM ez_h121 rfl rfl xM109_ok (fun l D cI ad sz => xs_way r0 q u b1 hw l D cI ad sz) ?_
    exact wz_stop ⟨rfl, rfl, rfl, rfl⟩
  · show wz_E 121 31 [some (.ref 0), some (.int (nI w)), some (.int (nI y))] [] (cz_w r' q' u' b1) (fun pc' _ st' w' => pc' = 42 ∧ st' = [.int x] ∧ w' = cz_w r2 q' u' b')
    refine wz_go ez_h121 2 (pc' := 35) (L' := [some (.ref 0), some (.int (nI w)), some (.int (nI y))]) (st' := [.ref 1]) (w' := cz_w r' q' u' b1) rfl ?_
    refine wz_is ez_h121 rfl rfl h4 ?_
    refine wz_go ez_h121 1 (pc' := 39) (L' := [some (.ref 0), some (.int (nI w)), some (.int (nI y))]) (st' := [.ref 0]) (w' := cz_w r2 q' u' b1) rfl ?_
    refine wz_is ez_h121 rfl rfl h3 ?_
    exact wz_stop ⟨rfl, rfl, rfl⟩
