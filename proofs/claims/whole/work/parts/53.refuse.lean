/-! ===== a method that refuses: by its own throw, or by a check that it calls ===== -/
def xz_nm : List String := ["java/lang/RuntimeException", "java/lang/Exception"]
def xz_atoms (ic : Nat) (X : String) : List Jvm.Cond := vx_atS RX7 ic X xz_nm
def xz_bad (X : String) : List Jvm.Cond := [.castable X X, .declares (Bundle.initS "java/lang/RuntimeException"), .declares (Bundle.initS "java/lang/Exception"), .declares (Bundle.initS Bundle.tN)]
theorem xz_thr {l : Launch} {mi : Nat} {M : ez_M} {As : List Value} {w : ez_W} {pcx ik is ic : Nat} {X tx : String} (hlt : l.stackTraces = false) (hM : ez_ms[mi]? = some M) (ho : M.1 = 6)
    (hseg : wz_E mi 0 (ez_en As M.2.2.2.1) [] w (fun pc' _ st' w' => pc' = pcx ∧ st' = [] ∧ w' = w)) (hlen : (ez_en As M.2.2.2.1).length = M.2.2.2.1) (hrm : 6 ≤ M.2.2.2.2.2.2.1 ∧ 82 ≤ M.2.2.2.2.2.2.2)
    (d0 : decode M.2.2.1 pcx = .ok (.new ik, 3)) (d3 : decode M.2.2.1 (pcx + 3) = .ok (.dup, 1)) (d4 : decode M.2.2.1 (pcx + 4) = .ok (.ldc is, 2)) (d6 : decode M.2.2.1 (pcx + 6) = .ok (.invokespecial ic, 3)) (d9 : decode M.2.2.1 (pcx + 9) = .ok (.athrow, 1))
    (hfit : Bundle.fit X = true) (hst : (is, tx) ∈ xz_str) (hX : X ∈ xz_exc) (hk : Jvm.Cond.classLink RX7 ik X ∈ ez_G) (hini : Jvm.Cond.initialized X ∈ ez_G) (hat : ∀ w ∈ (xz_atoms ic X).filter goodWord, w ∈ ez_G) (hbad : ∀ w ∈ (xz_atoms ic X).filter (fun w => !goodWord w), w ∈ xz_bad X)
    (hgood : ∀ w ∈ Jvm.Cond.classLink RX7 ik X :: Jvm.Cond.initialized X :: xz_atoms ic X, vx_ot w = true) (D : va_G) (cI : ClassId) (ad : Nat → Nat) (sz : Nat) : xz_Met l M D cI ad sz As w X := by
  obtain ⟨-, -, g3, g4, -, -⟩ := ez_mt hM
  refine vx_ofW (cc := M.2.2.1) (maxL := M.2.2.2.1) (ret := M.2.2.2.2.1) g4 rfl ?_
  intro p e s m args below meth c s₁ B hml hnt hv
  obtain ⟨rfl, hsz, hP0, hK, hD0, hZ⟩ := hv
  have hts := atoms_spec (ws := ez_ws M) B.pre
  have hown : s.vm.findClass M.2.1.cls = some m.cls := findClass_of_methodNamed B.named
  have hG : ∀ w ∈ ez_G, w.before _ s = true := fun w hw => hts w (List.mem_cons_of_mem _ hw)
  have hown7 : s.vm.findClass RX7 = some m.cls := by
    rw [← g3, ho] at hown
    exact hown
  subst hsz
  have hD := hD0.self (sz := s.heap.size)
  rw [lg_entry_eq]
  refine hseg M hM p l e _ s m _ below meth c 0 0 _ D cI ad (va_A (ez_z cI ad w) s.heap.size) ⟨B.exec, B.bytes, by rw [g3]; exact hown, hG, hK⟩ hml (Nat.le_refl _) (Nat.le_refl _) (Nat.zero_le _) (Nat.zero_le _) (fun q h => Or.inr h) ?_ s.heap [] _ hP0 hD va_S.rf (ez_entry hlen)
  rintro pc' L' st' w' ⟨rfl, rfl, rfl⟩ H locs ls hP hD1 hS hl
  obtain ⟨hU, hN, hstr, hcast, hdec, -⟩ := hZ
  obtain ⟨sa, hsa⟩ := hstr _ hst
  refine vx_throwS (names := xz_nm) (ic := ic) B.exec B.bytes hlt hown7 hfit (by decide +kernel) (hG _ hk) (hG _ hini) hsa (vx_hat (fun w hw => hG w (hat w hw)) hbad (vx_c (hcast X hX) (vx_c (hdec (Bundle.initS "java/lang/RuntimeException") (by simp [xz_dec])) (vx_c (hdec (Bundle.initS "java/lang/Exception") (by simp [xz_dec])) (vx_c (hdec (Bundle.initS Bundle.tN) (by simp [xz_dec])) vx_n))))) hgood hU hN hS (hl.2.1.trans hml.symm) d0 d3 d4 d6 d9 (fun x hx => (hnt x hx).elim) ?_ ?_ (Nat.le_refl _) (Nat.le_refl _) B.notSynchronized ?_ (fun z hz => hS.2.2 z hz) (Nat.le_refl _) (Nat.le_refl _)
  · exact Nat.lt_of_lt_of_le (by decide) hrm.1
  · exact Nat.le_trans (show 0 + (13 * (xz_nm.length + 1) + 43) ≤ 82 by decide) hrm.2
  · intro t hW h1 h2
    have hP1 : va_P D vwCl (ez_z cI ad w') t.heap := hP.kept (fun k q hk => h2 q.1 (vx_lt hP hk))
    exact ⟨⟨rfl, hP1, va_K.moved hW hK, hD1⟩, Nat.le_trans hS.1 h1, fun q g1 g2 => by rw [h2 q (Nat.lt_of_lt_of_le g1 hS.1)]; exact hS.2.1 q g1 g2⟩
theorem xz_via {l : Launch} {mi j : Nat} {M N : ez_M} {As Bs rest : List Value} {w : ez_W} {pcx k : Nat} {fs : List Value} {E0 : String} (hM : ez_ms[mi]? = some M) (hN : ez_ms[j]? = some N) (hj : ez_at ez_cc M.1 k = some j)
    (hseg : wz_E mi 0 (ez_en As M.2.2.2.1) [] w (fun pc' _ st' w' => pc' = pcx ∧ st' = Bs.reverse ++ .ref 0 :: rest ∧ w' = w)) (hw : w[0]? = some (.inr (N.1, fs))) (hn : Bs.length = N.2.2.2.2.2.1) (hd : decode M.2.2.1 pcx = .ok (.invokevirtual k, 3)) (hfit : ez_fit M N rest = true) (hlen : (ez_en As M.2.2.2.1).length = M.2.2.2.1)
    (hX : ∀ (D : va_G) (cI : ClassId) (ad : Nat → Nat) (sz : Nat), xz_Met l N D cI ad sz (.ref 0 :: Bs) w E0) (D : va_G) (cI : ClassId) (ad : Nat → Nat) (sz : Nat) : xz_Met l M D cI ad sz As w E0 := by
  obtain ⟨-, -, g3, g4, -, -⟩ := ez_mt hM
  obtain ⟨m1, m2, m3, m4, m5, m6⟩ := ez_mt hN
  obtain ⟨f1, f2, f3⟩ := ez_fit_of hfit
  obtain ⟨N', hN', l1, l2, l3⟩ := ez_cc_of hj
  have hNN : N' = N := Option.some.inj (hN'.symm.trans hN)
  subst hNN
  refine vx_ofW (cc := M.2.2.1) (maxL := M.2.2.2.1) (ret := M.2.2.2.2.1) g4 rfl ?_
  intro p e s m args below meth c s₁ B hml hnt hv
  obtain ⟨rfl, hsz, hP0, hK, hD0, hZ⟩ := hv
  have hts := atoms_spec (ws := ez_ws M) B.pre
  have hown0 : s.vm.findClass M.2.1.cls = some m.cls := findClass_of_methodNamed B.named
  have hown : s.vm.findClass (ez_R M.1) = some m.cls := by rw [g3]; exact hown0
  have hG : ∀ w ∈ ez_G, w.before _ s = true := fun w hw => hts w (List.mem_cons_of_mem _ hw)
  subst hsz
  have hD := hD0.self (sz := s.heap.size)
  rw [lg_entry_eq]
  refine hseg M hM p l e _ s m _ below meth c 0 0 _ D cI ad (va_A (ez_z cI ad w) s.heap.size) ⟨B.exec, B.bytes, hown, hG, hK⟩ hml (Nat.le_refl _) (Nat.le_refl _) (Nat.zero_le _) (Nat.zero_le _) (fun q h => Or.inr h) ?_ s.heap [] _ hP0 hD va_S.rf (ez_entry hlen)
  rintro pc' L' st' w' ⟨rfl, rfl, rfl⟩ H locs ls hP hD1 hS hl
  have hAw : ∀ q, va_A (ez_z cI ad w') H.size q → va_A (ez_z cI ad w') s.heap.size q := by
    intro q hq1
    rcases hq1 with h1 | h1
    · exact Or.inl h1
    · exact Or.inr (Nat.le_trans hS.1 h1)
  obtain ⟨q, hq1, -⟩ := hP 0 _ (ez_z_at hw)
  obtain ⟨-, hRq, -⟩ := ez_cls hq1
  obtain ⟨cellB, b1, b2, b3⟩ := va_recv hK hP hq1 (ez_z_at hw)
  refine xz_call (rest := rest.map (ez_v ad)) (vx_runV (As := Bs.map (ez_v ad)) (b := ad 0) (C := N'.2.1.cls) (n := N'.2.2.2.2.2.1) (nL := M.2.2.2.1) (Ts := ez_G) (own := ez_R M.1) (index := k) ⟨B.exec, B.bytes, hml, hown, hG⟩ (hX D cI ad H.size)
    (cwV N'.2.2.2.2.2.1 hG (ez_goodV m1 l1 l2 l3 m2) rfl rfl rfl ⟨rfl, m5.1, m5.2, m6⟩ ⟨f1, f2⟩)
    ⟨xz_blind, ⟨cellB, b1, b2, by rw [← m3, hRq]; exact b3⟩, fun U hU hW => ⟨rfl, by rw [hU], by rw [hU]; exact hP, va_K.moved hW.alike hK, hD1.weaken (fun _ _ _ _ => trivial), hZ.at hS hU hW hAw⟩⟩
    rfl (by rw [List.length_map]; exact hn) hl.2.1 ?_ (lv_room (by rw [ez_cats]; exact f3)) hd ⟨Nat.le_refl _, Nat.le_refl _⟩) hS hAw (fun q ce t H1 locs1 z1 z2 z3 z4 z5 z6 z7 => ?_)
  · show (Bs.reverse ++ .ref 0 :: rest).map (ez_v ad) = _
    simp [ez_v]
  · exact vx_out (fun x hx => (hnt x hx).elim) B.notSynchronized z2 z3 z4 (fun t ht hW => ⟨⟨rfl, by rw [ht]; exact z5, va_K.moved hW hK, z6⟩, z7.F ht⟩) (fun z hz => z7.2.2 z hz) (Nat.le_refl _) (Nat.le_refl _)
