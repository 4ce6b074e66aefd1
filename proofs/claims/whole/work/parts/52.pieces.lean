/-! ===== pieces of a method's walk by the interpreter, in any room ===== -/
abbrev wz_G : Type := Nat → ez_L → List Value → ez_W → Prop
def wz_E (mi pc : Nat) (L : ez_L) (st : List Value) (w : ez_W) (G : wz_G) : Prop := ∀ M : ez_M, ez_ms[mi]? = some M →
  ∀ (p : Program) (l : Launch) (e : Env) (R : Room) (s : State) (m : MethodId) (args : Array Value) (below : List Frame) (meth : Method) (c : Code) (cells slots : Nat) (Q : State → Prop) (D : va_G) (cI : ClassId) (ad : Nat → Nat) (A : Nat → Prop),
  ez_F p s m args c D cI M.1 M.2.2.1 → c.maxLocals = M.2.2.2.1 → M.2.2.2.2.2.2.1 ≤ R.frames → M.2.2.2.2.2.2.2 ≤ R.locals → cells ≤ R.cells → slots ≤ R.slots → (∀ q : Nat, s.heap.size ≤ q → A q) →
  (∀ (pc' : Nat) (L' : ez_L) (st' : List Value) (w' : ez_W), G pc' L' st' w' → ∀ (H : Heap) (locs : List Loc) (ls : Array Slot), va_P D vwCl (ez_z cI ad w') H → va_D A (ez_z cI ad w') → va_S A s.heap H locs → ez_l M.2.2.2.1 ad L' ls → W p l e R s m args below meth c H locs cells slots Q (F0 m pc' ls (st'.map (ez_v ad)))) →
  ∀ (H : Heap) (locs : List Loc) (ls : Array Slot), va_P D vwCl (ez_z cI ad w) H → va_D A (ez_z cI ad w) → va_S A s.heap H locs → ez_l M.2.2.2.1 ad L ls → W p l e R s m args below meth c H locs cells slots Q (F0 m pc ls (st.map (ez_v ad)))
theorem wz_stop {mi pc : Nat} {L : ez_L} {st : List Value} {w : ez_W} {G : wz_G} (h : G pc L st w) : wz_E mi pc L st w G := fun _ _ _ _ _ _ _ _ _ _ _ _ _ _ _ _ _ _ _ _ _ _ _ _ _ _ k H locs ls hP hD hS hl => k _ _ _ _ h H locs ls hP hD hS hl
theorem wz_step {mi o pc pc' : Nat} {t : List (Nat × Instr × Nat)} {i : Instr} {len : Nat} {L L' : ez_L} {st st' : List Value} {w w' : ez_W} {G : wz_G} (hm : ez_mh mi o t) (hi : ez_lk t pc = some (i, len)) (hok : ez_ok i len = true) (hs : ez_s o i pc L st w = some (pc', L', st', w')) (k : wz_E mi pc' L' st' w' G) : wz_E mi pc L st w G := by
  intro M hM p l e R s m args below meth c cells slots Q D cI ad A F h1 h2 h3 h4 h5 h6 kk H locs ls hP hD hS hl
  have hd := ez_dec hM (hm.i hi)
  obtain ⟨M', g1, g2, g3⟩ := hm
  obtain rfl : M' = M := Option.some.inj (g1.symm.trans hM)
  subst g2
  exact ez_simple F hs hok hd hP hD hS hl (fun ls' H' locs' q1 q2 q3 q4 => k M' hM p l e R s m args below meth c cells slots Q D cI ad A F h1 h2 h3 h4 h5 h6 kk H' locs' ls' q2 q3 q4 q1)
theorem wz_go {mi o : Nat} {t : List (Nat × Instr × Nat)} (hm : ez_mh mi o t) {G : wz_G} : ∀ (k : Nat) {pc pc' : Nat} {L L' : ez_L} {st st' : List Value} {w w' : ez_W}, ez_run k o t pc L st w = some (pc', L', st', w') → wz_E mi pc' L' st' w' G → wz_E mi pc L st w G := by
  intro k
  induction k with
  | zero =>
    intro pc pc' L L' st st' w w' h kk
    cases h
    exact kk
  | succ k ih =>
    intro pc pc' L L' st st' w w' h kk
    unfold ez_run at h
    split at h
    · rename_i i len hi
      cases hok : ez_ok i len with
      | false => rw [hok] at h; cases h
      | true =>
        rw [hok] at h
        simp only [cond_true] at h
        split at h
        · rename_i pc1 L1 st1 w1 hs
          exact wz_step hm hi hok hs (ih h kk)
        · cases h
    · cases h
theorem wz_ifT {mi a b : Nat} {L : ez_L} {st : List Value} {w : ez_W} {G : wz_G} {c : Prop} {_ : Decidable c} (h : c) (ht : wz_E mi a L st w G) : wz_E mi (bif decide c then a else b) L st w G := by
  rw [decide_eq_true h]; exact ht
theorem wz_ifF {mi a b : Nat} {L : ez_L} {st : List Value} {w : ez_W} {G : wz_G} {c : Prop} {_ : Decidable c} (h : ¬ c) (hf : wz_E mi b L st w G) : wz_E mi (bif decide c then a else b) L st w G := by
  rw [decide_eq_false h]; exact hf
theorem wz_top {mi pc : Nat} {L : ez_L} {st : List Value} {w : ez_W} {G : wz_G} {x y : Int32} (h : x = y) (k : wz_E mi pc L (.int y :: st) w G) : wz_E mi pc L (.int x :: st) w G := h ▸ k
theorem wz_le {mi pc : Nat} {L L' : ez_L} {st : List Value} {w : ez_W} {G : wz_G} (h : ez_le L L') (k : wz_E mi pc L st w G) : wz_E mi pc L' st w G := by
  intro M hM p l e R s m args below meth c cells slots Q D cI ad A F h1 h2 h3 h4 h5 h6 kk H locs ls hP hD hS hls
  exact k M hM p l e R s m args below meth c cells slots Q D cI ad A F h1 h2 h3 h4 h5 h6 kk H locs ls hP hD hS ⟨h.1.trans hls.1, hls.2.1, hls.2.2.1, fun i v hv => hls.2.2.2 i v (h.2 i v hv)⟩
theorem wz_clM {mi o pc k j : Nat} {t : List (Nat × Instr × Nat)} {L : ez_L} {st As rest : List Value} {w w1 : ez_W} {r : Option Value} {G : wz_G} {N0 : ez_M} (hm : ez_mh mi o t) (hi : ez_lk t pc = some (.invokevirtual k, 3)) (hc : ez_cal mi k st w = some (j, As, rest)) (hN0 : ez_ms[j]? = some N0)
    (hMet : ∀ (l : Launch) (D : va_G) (cI : ClassId) (ad : Nat → Nat) (sz : Nat), ez_Met l N0 D cI ad sz As w r w1) (kk : wz_E mi (pc + 3) L (r.toList ++ rest) w1 G) : wz_E mi pc L st w G := by
  intro M hM p l e R s m args below meth c cells slots Q D cI ad A F h1 h2 h3 h4 h5 h6 kk0 H locs ls hP hD hS hl
  have hd := ez_dec hM (hm.i hi)
  have hAw : ∀ q, va_A (ez_z cI ad w) H.size q → A q := by
    intro q hq1
    rcases hq1 with ⟨k, e1, h1⟩ | h1
    · exact hD.2 k (q, e1) h1
    · exact h6 q (Nat.le_trans hS.1 h1)
  have F' := F
  obtain ⟨hx, hb, hown, hts, hK⟩ := F'
  unfold ez_cal at hc
  rw [hM] at hc
  dsimp only at hc
  split at hc
  · cases hc
  · rename_i j1 hj
    split at hc
    · cases hc
    · rename_i N hN
      split at hc
      · rename_i a rest1 hdrop
        split at hc
        · rename_i cc fs hw
          cases hb1 : (Nat.beq cc N.1 && (ez_fit M N rest1 && (Nat.beq (st.take N.2.2.2.2.2.1).length N.2.2.2.2.2.1 && Nat.beq (ez_en (.ref a :: (st.take N.2.2.2.2.2.1).reverse) N.2.2.2.1).length N.2.2.2.1))) with
          | false => rw [hb1] at hc; cases hc
          | true =>
            rw [hb1] at hc
            cases hc
            simp only [Bool.and_eq_true] at hb1
            obtain ⟨c1, c2, c3, c4⟩ := hb1
            have hcc : cc = N.1 := Nat.eq_of_beq_eq_true c1
            subst hcc
            obtain ⟨f1, f2, f3⟩ := ez_fit_of c2
            have hlen : (st.take N.2.2.2.2.2.1).length = N.2.2.2.2.2.1 := Nat.eq_of_beq_eq_true c3
            obtain ⟨N', hN', l1, l2, l3⟩ := ez_cc_of hj
            have hNN : N' = N := Option.some.inj (hN'.symm.trans hN)
            subst hNN
            have hN00 : N0 = N' := Option.some.inj (hN0.symm.trans hN)
            subst hN00
            obtain ⟨m1, m2, m3, m4, m5, m6⟩ := ez_mt hN
            have hMet1 := hMet l D cI ad H.size
            obtain ⟨q, hq1, -⟩ := hP a _ (ez_z_at hw)
            obtain ⟨-, hRq, -⟩ := ez_cls hq1
            obtain ⟨cellB, b1, b2, b3⟩ := va_recv hK hP hq1 (ez_z_at hw)
            have hst : st = st.take N0.2.2.2.2.2.1 ++ .ref a :: rest := by rw [← hdrop, List.take_append_drop]
            refine ez_call (a := (Value.ref (ad a) :: ((st.take N0.2.2.2.2.2.1).reverse.map (ez_v ad))).toArray) (rest := rest.map (ez_v ad)) (va_runV (As := (st.take N0.2.2.2.2.2.1).reverse.map (ez_v ad)) (b := ad a) (C := N0.2.1.cls) (n := N0.2.2.2.2.2.1) (nL := M.2.2.2.1) (Ts := ez_G) (own := ez_R M.1) (index := k) ⟨hx, hb, h1, hown, hts⟩ hMet1
              (cwV N0.2.2.2.2.2.1 hts (ez_goodV m1 l1 l2 l3 m2) rfl rfl rfl ⟨rfl, m5.1, m5.2, m6⟩ ⟨Nat.le_trans f1 h2, Nat.le_trans f2 h3⟩)
              ⟨ez_blind, ⟨cellB, b1, b2, by rw [← m3, hRq]; exact b3⟩, fun U hU hW => ⟨rfl, by rw [hU], by rw [hU]; exact hP, va_K.moved hW.alike hK, hD.weaken (fun _ _ _ _ => trivial)⟩⟩
              rfl (by rw [List.length_map, List.length_reverse]; exact hlen) hl.2.1 ?_ (lv_room (by rw [ez_cats]; exact f3)) hd ⟨h4, h5⟩) hS hAw (fun H1 locs1 g1 g2 g3 => ?_)
            · show st.map (ez_v ad) = _
              conv => lhs; rw [hst]
              simp [ez_v]
            · rw [← ez_toL]
              exact kk M hM p l e R s m args below meth c cells slots Q D cI ad A F h1 h2 h3 h4 h5 h6 kk0 H1 locs1 ls g1 g2 g3 hl
        · cases hc
      · cases hc
theorem wz_cl {mi o pc k j : Nat} {t : List (Nat × Instr × Nat)} {L : ez_L} {st As rest : List Value} {w : ez_W} {G : wz_G} (hm : ez_mh mi o t) (hi : ez_lk t pc = some (.invokevirtual k, 3)) (hc : ez_cal mi k st w = some (j, As, rest)) (kk : ez_m j As w (fun r w1 => wz_E mi (pc + 3) L (r.toList ++ rest) w1 G)) : wz_E mi pc L st w G := by
  obtain ⟨N, hN, hlen, n, r, w1, h1, h2⟩ := kk
  exact wz_clM hm hi hc hN (fun l D cI ad sz => ez_met hN h1 hlen D cI ad sz) h2
/-! ===== what stands outside the world: the statics that a throw reads, the texts, GAPS ===== -/
def xz_gap : Nat → Int32
  | 0 => 301
  | 1 => 132
  | 2 => 57
  | 3 => 23
  | 4 => 10
  | 5 => 4
  | _ => 1
def xz_str : List (Nat × String) := [(172, "more than 600 numbers"), (68, "span is below 1"), (168, "n is not 0 .. 600"), (80, "times is not 1 .. 600"), (164, "no such place"), (91, "no such range"), (166, "no such choice")]
def xz_exc : List String := ["java/lang/IllegalArgumentException", "java/lang/IndexOutOfBoundsException", "java/lang/UnsupportedOperationException"]
def xz_arr : MethodName := ⟨"SortBench$Way", "arrange", "()V"⟩
def xz_dec : List MethodName := [xz_arr, Bundle.initS "java/lang/RuntimeException", Bundle.initS "java/lang/Exception", Bundle.initS Bundle.tN]
def xz_Z (A : Nat → Prop) (U : State) : Prop := vx_Zq Bundle.tN "UNASSIGNED_STACK" Bundle.steD A U U.heap ∧ vx_Zq Bundle.tN "SUPPRESSED_SENTINEL" Bundle.listD A U U.heap ∧ (∀ q ∈ xz_str, ∃ sa, vk_R RX7 q.1 q.2 sa U) ∧ (∀ X ∈ xz_exc, va_Nw (.castable X X) U) ∧ (∀ x ∈ xz_dec, va_Nw (.declares x) U) ∧ va_Nc "java/lang/UnsupportedOperationException" "java/lang/IllegalArgumentException" U ∧
  ∃ ga : Nat, va_Z RX5 "GAPS" "[I" (.ref ga) A U U.heap ∧ va_T .int ga 7 (fun j => .int (xz_gap j)) A U U.heap
theorem xz_Z.at {A B : Nat → Prop} {s U : State} {H : Heap} {locs : List Loc} (h : xz_Z A s) (hS : va_S A s.heap H locs) (hU : U.heap = H) (hW : s.WarmedH U.vm) (hB : ∀ q, B q → A q) : xz_Z B U := by
  obtain ⟨h1, h2, h3, h4, h5, h8, ga, h6, h7⟩ := h
  subst hU
  have hk : ∀ a : Nat, a < s.heap.size → ¬ A a → U.heap[a]? = s.heap[a]? := hS.2.1
  exact ⟨(vx_Zq.moved hW.alike (h1.kept hk)).narrow hB, (vx_Zq.moved hW.alike (h2.kept hk)).narrow hB, fun q hq => (h3 q hq).imp fun sa z => z.warm hW, fun X hX => va_Nw.warmC hW (h4 X hX), fun x hx => va_Nw.warmD hW (h5 x hx), h8.moved hW.alike,
    ga, (va_Z.moved hW.alike (h6.kept hk)).narrow hB, (va_T.moved hW.alike (h7.kept hk)).narrow hB⟩
def xz_Pc (D : va_G) (cI : ClassId) (ad : Nat → Nat) (sz : Nat) (As : List Value) (w : ez_W) : Array Value → State → Prop :=
  va_Pc (As.map (ez_v ad)) (fun U => U.heap.size = sz ∧ va_P D vwCl (ez_z cI ad w) U.heap ∧ va_K D vwCl [(cI, .int)] U ∧ va_D (fun _ => True) (ez_z cI ad w) ∧ xz_Z (va_A (ez_z cI ad w) sz) U)
theorem xz_warm (s : State) : s.WarmedH s.vm := ⟨rfl, rfl, fun d k h => ⟨k, h, rfl, rfl, fun i => Or.inl rfl, Or.inl ⟨rfl, rfl⟩⟩⟩
theorem xz_Z.same {A : Nat → Prop} {U T : State} (h : xz_Z A U) (hh : T.heap = U.heap) (hv : T.vm = U.vm) : xz_Z A T := by
  have hW : U.WarmedH T.vm := hv ▸ xz_warm U
  exact h.at (locs := []) ⟨Nat.le_refl _, fun _ _ _ => rfl, fun _ z => nomatch z⟩ hh hW (fun _ z => z)
theorem xz_blind {D : va_G} {cI : ClassId} {ad : Nat → Nat} {sz : Nat} {As : List Value} {w : ez_W} : FrameBlind (xz_Pc D cI ad sz As w) := fun a U g mk q => by
  obtain ⟨q0, q1, qP, qK, qD, qZ⟩ := q
  exact ⟨q0, q1, qP, va_K.moved (u := U) (U := U.calling g mk a) (Vm.Alike.refl U.vm) qK, qD, qZ.same rfl rfl⟩
/-- what a refused call leaves: the world as it was, and what was thrown -/
def xz_XC (D : va_G) (cI : ClassId) (ad : Nat → Nat) (sz : Nat) (w : ez_W) (E0 : String) : String → State → State → Prop := fun E st t => (E = E0 ∧ va_P D vwCl (ez_z cI ad w) t.heap ∧ va_K D vwCl [(cI, .int)] t ∧ va_D (va_A (ez_z cI ad w) sz) (ez_z cI ad w)) ∧ va_F (va_A (ez_z cI ad w) sz) st t
def xz_rm (M : ez_M) : Room := { frames := M.2.2.2.2.2.2.1, cells := 1, slots := 6, locals := M.2.2.2.2.2.2.2 }
def xz_Met (l : Launch) (M : ez_M) (D : va_G) (cI : ClassId) (ad : Nat → Nat) (sz : Nat) (As : List Value) (w : ez_W) (E0 : String) : Prop :=
  vx_Met l M.2.1 (ez_ws M) (xz_rm M) (xz_Pc D cI ad sz As w) (fun _ _ _ _ => False) (xz_XC D cI ad sz w E0) 1 6 (va_A (ez_z cI ad w) sz)
section XZC
variable {p : Program} {l : Launch} {e : Env} {R : Room} {s : State} {m : MethodId} {args : Array Value} {below : List Frame} {meth : Method} {c : Code} {H H0 : Heap} {locs : List Loc} {cells slots : Nat} {Q : State → Prop}
theorem xz_call {D : va_G} {cI : ClassId} {ad : Nat → Nat} {w : ez_W} {E0 : String} {A : Nat → Prop} {pc : Nat} {ls : Array Slot} {st0 rest : List Value}
    (hr : vx_Run p l e R s m args below meth c H locs cells slots 1 6 (F0 m pc ls st0) rest (fun _ _ _ => False) (xz_XC D cI ad H.size w E0) (va_A (ez_z cI ad w) H.size)) (hS : va_S A H0 H locs) (hA : ∀ q, va_A (ez_z cI ad w) H.size q → A q)
    (kk : ∀ (q : Nat) (ce : Cell) (t : State) (H1 : Heap) (locs1 : List Loc), t.heap = H1 → H1[q]? = some ce → ce.vm = .none → s.vm.findClass E0 = some ce.cls → va_P D vwCl (ez_z cI ad w) H1 → va_D A (ez_z cI ad w) → va_S A H0 H1 locs1 → vx_W p l e R s m args below meth c H1 locs1 (cells + 1) (slots + 6) Q (F0 m pc ls rest) q) : W p l e R s m args below meth c H locs cells slots Q (F0 m pc ls st0) := by
  intro T hT X
  rcases hr T hT X with ⟨v, st₀, t, T', L, h0, X', hL, e1, e2, hF, st⟩ | ⟨q, st₀, t, T', L, E, ce, h0, X', hL, e1, e2, ⟨⟨hE, hP1, hK1, hD1⟩, hF⟩, hce, hcv, hcl, st⟩
  · exact hF.elim
  · subst hE
    obtain ⟨-, -, k3⟩ := vx_keep h0 e1 hS (fun q _ z => hA q z) hA hL hF
    obtain ⟨t2, a1, b1⟩ := kk q ce t T'.heap (locs ++ L) e1.symm (by rw [e1]; exact hce) hcv hcl (by rw [e1]; exact hP1) (hD1.weaken (fun _ q _ z => hA q.1 z)) k3 T' rfl X'
    exact ⟨t2, st.trans a1, b1⟩
end XZC
