/-! ===== worlds side by side; calls from the law and its helpers ===== -/
theorem xj_Pl {D : va_G} {cl : List vw_C} {a b : va_W} {H : Heap} (h : va_P D cl (a ++ b) H) : va_P D cl a H := fun k q hk => h k q (by rw [List.getElem?_append_left (List.getElem?_eq_some_iff.mp hk).1]; exact hk)
theorem xj_r {a b : va_W} {k : Nat} {q : Nat × va_E} (hk : b[k]? = some q) : (a ++ b)[a.length + k]? = some q := by
  rw [List.getElem?_append_right (Nat.le_add_right _ _), Nat.add_sub_cancel_left]; exact hk
theorem xj_l {a b : va_W} {k : Nat} {q : Nat × va_E} (hk : a[k]? = some q) : (a ++ b)[k]? = some q := by
  rw [List.getElem?_append_left (List.getElem?_eq_some_iff.mp hk).1]; exact hk
theorem xj_Pr {D : va_G} {cl : List vw_C} {a b : va_W} {H : Heap} (h : va_P D cl (a ++ b) H) : va_P D cl b H := fun k q hk => h (a.length + k) q (xj_r hk)
theorem xj_or {a b : va_W} {k : Nat} {q : Nat × va_E} (h : (a ++ b)[k]? = some q) : a[k]? = some q ∨ (a.length ≤ k ∧ b[k - a.length]? = some q) := by
  by_cases hk : k < a.length
  · rw [List.getElem?_append_left hk] at h; exact Or.inl h
  · rw [List.getElem?_append_right (by omega)] at h; exact Or.inr ⟨by omega, h⟩
theorem xj_PP {D : va_G} {cl : List vw_C} {a b : va_W} {H : Heap} (h1 : va_P D cl a H) (h2 : va_P D cl b H) : va_P D cl (a ++ b) H := fun k q hk => by
  rcases xj_or hk with h | ⟨-, h⟩
  · exact h1 k q h
  · exact h2 _ q h
theorem xj_Dl {A : Nat → Prop} {a b : va_W} (h : va_D A (a ++ b)) : va_D A a := ⟨fun i j p q hp hq e => h.1 i j p q (xj_l hp) (xj_l hq) e, fun k q hk => h.2 k q (xj_l hk)⟩
theorem xj_Dr {A : Nat → Prop} {a b : va_W} (h : va_D A (a ++ b)) : va_D A b := ⟨fun i j p q hp hq e => by have := h.1 _ _ p q (xj_r hp) (xj_r hq) e; omega, fun k q hk => h.2 _ q (xj_r hk)⟩
theorem xj_Dx {A : Nat → Prop} {a b : va_W} (h : va_D A (a ++ b)) : ∀ (i j : Nat) (p q : Nat × va_E), a[i]? = some p → b[j]? = some q → p.1 ≠ q.1 := fun i j p q hp hq e => by
  have h1 := h.1 _ _ p q (xj_l hp) (xj_r hq) e
  have h2 := (List.getElem?_eq_some_iff.mp hp).1
  omega
/-- the frame: what isn't the callee's stays -/
theorem xj_M {A0 : Nat → Prop} {D : va_G} {cl : List vw_C} {Z1 X Z2 X' : va_W} {H H1 : Heap} (hP : va_P D cl (Z1 ++ (X ++ Z2)) H) (hD : va_D A0 (Z1 ++ (X ++ Z2))) (hk : ∀ q : Nat, q < H.size → ¬ va_A X H.size q → H1[q]? = H[q]?) (hF : ∀ q, va_A X H.size q → A0 q) (hP1 : va_P D cl X' H1) (hD1 : va_D (va_A X H.size) X') : va_P D cl (Z1 ++ (X' ++ Z2)) H1 ∧ va_D A0 (Z1 ++ (X' ++ Z2)) := by
  have P1 := xj_Pl hP
  have P2 := xj_Pr (xj_Pr hP)
  have D1 := xj_Dl hD
  have D2 := xj_Dr (xj_Dr hD)
  have x1 : ∀ (i j : Nat) (p q : Nat × va_E), Z1[i]? = some p → X[j]? = some q → p.1 ≠ q.1 := fun i j p q hp hq => xj_Dx hD i j p q hp (xj_l hq)
  have x2 : ∀ (i j : Nat) (p q : Nat × va_E), X[i]? = some p → Z2[j]? = some q → p.1 ≠ q.1 := xj_Dx (xj_Dr hD)
  have x3 : ∀ (i j : Nat) (p q : Nat × va_E), Z1[i]? = some p → Z2[j]? = some q → p.1 ≠ q.1 := fun i j p q hp hq => xj_Dx hD i _ p q hp (xj_r hq)
  have n1 : ∀ (i : Nat) (p : Nat × va_E), Z1[i]? = some p → p.1 < H.size ∧ ¬ va_A X H.size p.1 := fun i p hp => ⟨vx_lt P1 hp, fun z => by
    rcases z with ⟨k, e, h⟩ | h
    · exact x1 i k p (p.1, e) hp h rfl
    · exact absurd (vx_lt P1 hp) (by omega)⟩
  have n2 : ∀ (i : Nat) (p : Nat × va_E), Z2[i]? = some p → p.1 < H.size ∧ ¬ va_A X H.size p.1 := fun i p hp => ⟨vx_lt P2 hp, fun z => by
    rcases z with ⟨k, e, h⟩ | h
    · exact x2 k i (p.1, e) p h hp rfl
    · exact absurd (vx_lt P2 hp) (by omega)⟩
  refine ⟨xj_PP (P1.kept (fun k q h => hk _ (n1 k q h).1 (n1 k q h).2)) (xj_PP hP1 (P2.kept (fun k q h => hk _ (n2 k q h).1 (n2 k q h).2))), ?_⟩
  refine va_D.app D1 (va_D.app (hD1.weaken (fun _ q _ z => hF q.1 z)) D2 (fun i j p q hp hq e => (n2 j q hq).2 (e ▸ hD1.2 i p hp))) (fun i j p q hp hq e => ?_)
  rcases xj_or hq with h | ⟨-, h⟩
  · exact (n1 i p hp).2 (e ▸ hD1.2 j q h)
  · exact x3 i _ p q hp h e
def xq (D : va_G) (tys : List (ClassId × FieldType)) (X : va_W) (sz : Nat) (r : Option Value) (X' : va_W) : Array Value → State → Outcome → State → Prop :=
  fun _ st oc t => (oc = .returned r ∧ va_P D vwCl X' t.heap ∧ va_K D vwCl tys t ∧ va_D (va_A X sz) X') ∧ va_F (va_A X sz) st t
theorem xj_A {A : Nat → Prop} {Z1 X Z2 : va_W} {H0 H : Heap} (hD : va_D A (Z1 ++ (X ++ Z2))) (hA0 : ∀ q : Nat, H0.size ≤ q → A q) (hz : H0.size ≤ H.size) : ∀ q, va_A X H.size q → A q := by
  intro q h
  rcases h with ⟨k, e, h⟩ | h
  · exact (xj_Dl (xj_Dr hD)).2 k (q, e) h
  · exact hA0 q (Nat.le_trans hz h)
section XJ
variable {p : Program} {l : Launch} {e : Env} {R : Room} {s : State} {m : MethodId} {args : Array Value} {below : List Frame} {meth : Method} {c : Code} {H H0 : Heap} {locs : List Loc} {cells slots : Nat} {Q : State → Prop}
variable {D : va_G} {cI : ClassId} {tys tys' : List (ClassId × FieldType)} {pc mc ms : Nat} {X X' Z1 Z2 : va_W} {ad : Nat → Nat} {A : Nat → Prop} {ls : Array Slot} {rest st0 : List Value} {a : Array Value} {r : Option Value} {w w1 : ez_W}
theorem xc_M (hr : va_Run p l e R s m args below meth c H locs cells slots mc ms (F0 m pc ls st0) rest (xq D tys X H.size r X' a) (va_A X H.size)) (hS : va_S A H0 H locs) (hA0 : ∀ q : Nat, H0.size ≤ q → A q) (hP : va_P D vwCl (Z1 ++ (X ++ Z2)) H) (hD : va_D A (Z1 ++ (X ++ Z2)))
    (kk : ∀ (H1 : Heap) (locs1 : List Loc), va_P D vwCl (Z1 ++ (X' ++ Z2)) H1 → va_D A (Z1 ++ (X' ++ Z2)) → va_S A H0 H1 locs1 → W p l e R s m args below meth c H1 locs1 (cells + mc) (slots + ms) Q (F0 m (pc + 3) ls (r.toList ++ rest))) : W p l e R s m args below meth c H locs cells slots Q (F0 m pc ls st0) := by
  have hA := xj_A hD hA0 hS.1
  intro T hT Y
  obtain ⟨v, st₀, t, T', L, h0, Y', hL, e1, e2, ⟨⟨hv, hP1, hK1, hD1⟩, hF⟩, st⟩ := hr T hT Y
  have hv' : v = r := by injection hv
  subst hv'
  obtain ⟨k1, k2, k3⟩ := vx_keep h0 e1 hS (fun q _ z => hA q z) hA hL hF
  obtain ⟨j1, j2⟩ := xj_M hP hD k2 hA (by rw [e1]; exact hP1) hD1
  obtain ⟨t2, a1, b1⟩ := kk T'.heap (locs ++ L) j1 j2 k3 T' rfl Y'
  exact ⟨t2, st t2 a1, b1⟩
theorem xc_X {E0 : String} (hr : vx_Run p l e R s m args below meth c H locs cells slots 1 6 (F0 m pc ls st0) rest (fun _ _ _ => False) (xz_XC D cI ad H.size w E0) (va_A (ez_z cI ad w) H.size)) (hS : va_S A H0 H locs) (hA0 : ∀ q : Nat, H0.size ≤ q → A q) (hP : va_P D vwCl (Z1 ++ (ez_z cI ad w ++ Z2)) H) (hD : va_D A (Z1 ++ (ez_z cI ad w ++ Z2)))
    (kk : ∀ (q : Nat) (ce : Cell) (H1 : Heap) (locs1 : List Loc), H1[q]? = some ce → ce.vm = .none → s.vm.findClass E0 = some ce.cls → va_P D vwCl (Z1 ++ (ez_z cI ad w ++ Z2)) H1 → va_D A (Z1 ++ (ez_z cI ad w ++ Z2)) → va_S A H0 H1 locs1 → vx_W p l e R s m args below meth c H1 locs1 (cells + 1) (slots + 6) Q (F0 m pc ls rest) q) : W p l e R s m args below meth c H locs cells slots Q (F0 m pc ls st0) := by
  have hA := xj_A hD hA0 hS.1
  intro T hT Y
  rcases hr T hT Y with ⟨v, st₀, t, T', L, h0, Y', hL, e1, e2, hF, st⟩ | ⟨q, st₀, t, T', L, E, ce, h0, Y', hL, e1, e2, ⟨⟨hE, hP1, hK1, hD1⟩, hF⟩, hce, hcv, hcl, st⟩
  · exact hF.elim
  · subst hE
    obtain ⟨k1, k2, k3⟩ := vx_keep h0 e1 hS (fun q _ z => hA q z) hA hL hF
    obtain ⟨j1, j2⟩ := xj_M hP hD k2 hA (by rw [e1]; exact hP1) hD1
    obtain ⟨t2, a1, b1⟩ := kk q ce T'.heap (locs ++ L) (by rw [e1]; exact hce) hcv hcl j1 j2 k3 T' rfl Y'
    exact ⟨t2, st.trans a1, b1⟩
/-- a class's method called from the law's class -/
def xh_in (k : Nat) (N : ez_M) : Prop := ez_in (.methodLink RL k N.2.1) = true ∧ ez_in (.instanceMethod N.2.1) = true ∧ ez_in (.selects N.2.1.cls N.2.1 N.2.1) = true
theorem xh_good {k : Nat} {N : ez_M} (h : xh_in k N) (h0 : Jvm.Cond.code N.2.1 N.2.2.1 N.2.2.2.1 N.2.2.2.2.1 ∈ ez_G) (h4 : Jvm.Cond.initialized N.2.1.cls ∈ ez_G) : GoodIn ez_G (wsV RL k N.2.1.cls N.2.1 (ez_ws N)) := by
  obtain ⟨h1, h2, h3⟩ := h
  refine ez_G_good (fun w hw => ?_)
  unfold wsV ez_ws at hw
  simp only [List.mem_append, List.mem_cons, List.not_mem_nil, or_false] at hw
  rcases hw with (rfl | rfl | rfl | rfl) | rfl | hw
  · exact ez_in_G h1
  · exact ez_in_G h2
  · exact ez_in_G h3
  · exact h4
  · exact h0
  · exact hw
theorem xh_callP {cc : ByteArray} {nL j k : Nat} {N : ez_M} {Bs fs : List Value} (hx : p.tables.exec = Jvm.exec) (hb : c.code = cc) (hml : c.maxLocals = nL) (hown : s.vm.findClass RL = some m.cls) (hG : ∀ w ∈ ez_G, w.before args s = true) (hK : va_K D vwCl [(cI, .int)] s) (hN : ez_ms[j]? = some N) (hin : xh_in k N)
    (hMet : ∀ sz, xz_MetP l N D cI ad sz (.ref 0 :: Bs) w r w1) (hw : w[0]? = some (.inr (N.1, fs))) (hn : Bs.length = N.2.2.2.2.2.1) (hrm : N.2.2.2.2.2.2.1 + 1 ≤ R.frames ∧ 8 + (N.2.2.2.1 + 11) + N.2.2.2.2.2.2.2 ≤ R.locals) (hsz : ls.size = nL) (hcat : (rest.map fun v => v.category).sum ≤ 8) (hd : decode cc pc = .ok (.invokevirtual k, 3)) (hc : cells ≤ R.cells) (hs : slots ≤ R.slots)
    (hZ : xz_Z A s) (hS : va_S A s.heap H locs) (hA0 : ∀ q : Nat, s.heap.size ≤ q → A q) (hP : va_P D vwCl (Z1 ++ (ez_z cI ad w ++ Z2)) H) (hD : va_D A (Z1 ++ (ez_z cI ad w ++ Z2))) (hst : st0 = (Bs.map (ez_v ad)).reverse ++ .ref (ad 0) :: rest)
    (kk : ∀ (H1 : Heap) (locs1 : List Loc), va_P D vwCl (Z1 ++ (ez_z cI ad w1 ++ Z2)) H1 → va_D A (Z1 ++ (ez_z cI ad w1 ++ Z2)) → va_S A s.heap H1 locs1 → W p l e R s m args below meth c H1 locs1 cells slots Q (F0 m (pc + 3) ls ((r.map (ez_v ad)).toList ++ rest))) : W p l e R s m args below meth c H locs cells slots Q (F0 m pc ls st0) := by
  obtain ⟨m1, m2, m3, m4, m5, m6⟩ := ez_mt hN
  have hPw := xj_Pl (xj_Pr hP)
  obtain ⟨q, hq1, -⟩ := hPw 0 _ (ez_z_at hw)
  obtain ⟨-, hRq, -⟩ := ez_cls hq1
  obtain ⟨cellB, b1, b2, b3⟩ := va_recv hK hPw hq1 (ez_z_at hw)
  exact xc_M (tys := [(cI, .int)]) (X := ez_z cI ad w) (X' := ez_z cI ad w1) (r := r.map (ez_v ad)) (a := (Value.ref (ad 0) :: Bs.map (ez_v ad)).toArray) (va_runV (As := Bs.map (ez_v ad)) (b := ad 0) (C := N.2.1.cls) (n := N.2.2.2.2.2.1) (nL := nL) (Ts := ez_G) (own := RL) (index := k) ⟨hx, hb, hml, hown, hG⟩ (hMet H.size)
    (cwV N.2.2.2.2.2.1 hG (xh_good hin m1 m2) rfl rfl rfl ⟨rfl, m5.1, m5.2, m6⟩ hrm)
    ⟨xz_blind, ⟨cellB, b1, b2, by rw [← m3, hRq]; exact b3⟩, fun U hU hW => ⟨rfl, by rw [hU], by rw [hU]; exact hPw, va_K.moved hW.alike hK, (xj_Dl (xj_Dr hD)).weaken (fun _ _ _ _ => trivial), hZ.at hS hU hW (xj_A hD hA0 hS.1)⟩⟩
    rfl (by rw [List.length_map]; exact hn) hsz hst (lv_room hcat) hd ⟨hc, hs⟩) hS hA0 hP hD kk
theorem xh_callX {cc : ByteArray} {nL j k : Nat} {N : ez_M} {Bs fs : List Value} {E0 : String} (hx : p.tables.exec = Jvm.exec) (hb : c.code = cc) (hml : c.maxLocals = nL) (hown : s.vm.findClass RL = some m.cls) (hG : ∀ w ∈ ez_G, w.before args s = true) (hK : va_K D vwCl [(cI, .int)] s) (hN : ez_ms[j]? = some N) (hin : xh_in k N)
    (hMet : ∀ sz, xz_Met l N D cI ad sz (.ref 0 :: Bs) w E0) (hw : w[0]? = some (.inr (N.1, fs))) (hn : Bs.length = N.2.2.2.2.2.1) (hrm : N.2.2.2.2.2.2.1 + 1 ≤ R.frames ∧ 8 + (N.2.2.2.1 + 11) + N.2.2.2.2.2.2.2 ≤ R.locals) (hsz : ls.size = nL) (hcat : (rest.map fun v => v.category).sum ≤ 8) (hd : decode cc pc = .ok (.invokevirtual k, 3)) (hc : cells + 1 ≤ R.cells) (hs : slots + 6 ≤ R.slots)
    (hZ : xz_Z A s) (hS : va_S A s.heap H locs) (hA0 : ∀ q : Nat, s.heap.size ≤ q → A q) (hP : va_P D vwCl (Z1 ++ (ez_z cI ad w ++ Z2)) H) (hD : va_D A (Z1 ++ (ez_z cI ad w ++ Z2))) (hst : st0 = (Bs.map (ez_v ad)).reverse ++ .ref (ad 0) :: rest)
    (kk : ∀ (q : Nat) (ce : Cell) (H1 : Heap) (locs1 : List Loc), H1[q]? = some ce → ce.vm = .none → s.vm.findClass E0 = some ce.cls → va_P D vwCl (Z1 ++ (ez_z cI ad w ++ Z2)) H1 → va_D A (Z1 ++ (ez_z cI ad w ++ Z2)) → va_S A s.heap H1 locs1 → vx_W p l e R s m args below meth c H1 locs1 (cells + 1) (slots + 6) Q (F0 m pc ls rest) q) : W p l e R s m args below meth c H locs cells slots Q (F0 m pc ls st0) := by
  obtain ⟨m1, m2, m3, m4, m5, m6⟩ := ez_mt hN
  have hPw := xj_Pl (xj_Pr hP)
  obtain ⟨q, hq1, -⟩ := hPw 0 _ (ez_z_at hw)
  obtain ⟨-, hRq, -⟩ := ez_cls hq1
  obtain ⟨cellB, b1, b2, b3⟩ := va_recv hK hPw hq1 (ez_z_at hw)
  exact xc_X (vx_runV (As := Bs.map (ez_v ad)) (b := ad 0) (C := N.2.1.cls) (n := N.2.2.2.2.2.1) (nL := nL) (Ts := ez_G) (own := RL) (index := k) ⟨hx, hb, hml, hown, hG⟩ (hMet H.size)
    (cwV N.2.2.2.2.2.1 hG (xh_good hin m1 m2) rfl rfl rfl ⟨rfl, m5.1, m5.2, m6⟩ hrm)
    ⟨xz_blind, ⟨cellB, b1, b2, by rw [← m3, hRq]; exact b3⟩, fun U hU hW => ⟨rfl, by rw [hU], by rw [hU]; exact hPw, va_K.moved hW.alike hK, (xj_Dl (xj_Dr hD)).weaken (fun _ _ _ _ => trivial), hZ.at hS hU hW (xj_A hD hA0 hS.1)⟩⟩
    rfl (by rw [List.length_map]; exact hn) hsz hst (lv_room hcat) hd ⟨hc, hs⟩) hS hA0 hP hD kk
end XJ
/-! ===== the law's helpers ===== -/
def xo (cL : ClassId) (qo : Nat) (o : Nat → Int64) : Nat × va_E := (qo, .inl (cL, 1, .inr (.inl o)))
def xX (cI cL : ClassId) (ad : Nat → Nat) (w : ez_W) (qo : Nat) (o : Nat → Int64) : va_W := ez_z cI ad w ++ [xo cL qo o]
def xh_rm : Room := { frames := 9, cells := 1, slots := 6, locals := 200 }
def xh_Pc (D : va_G) (cI cL : ClassId) (As : List Value) (X : va_W) (sz : Nat) : Array Value → State → Prop :=
  va_Pc As (fun U => U.heap.size = sz ∧ va_P D vwCl X U.heap ∧ va_K D vwCl [(cI, .int), (cL, .long)] U ∧ va_D (fun _ => True) X ∧ xz_Z (va_A X sz) U)
def xh_Met (l : Launch) (y : MethodName) (ws : List Jvm.Cond) (D : va_G) (cI cL : ClassId) (As : List Value) (X : va_W) (sz : Nat) (k : Int32) (X' : va_W) : Prop :=
  Met l y ws xh_rm (xh_Pc D cI cL As X sz) (xq D [(cI, .int), (cL, .long)] X sz (some (.int k)) X') 1 6 (va_A X sz)
theorem xh_blind {D : va_G} {cI cL : ClassId} {As : List Value} {X : va_W} {sz : Nat} : FrameBlind (xh_Pc D cI cL As X sz) := fun a U g mk q => by
  obtain ⟨q0, q1, qP, qK, qD, qZ⟩ := q
  exact ⟨q0, q1, qP, va_K.moved (u := U) (U := U.calling g mk a) (Vm.Alike.refl U.vm) qK, qD, qZ.same rfl rfl⟩
/-- what a helper's walk stands on -/
def xh_F (p : Program) (s : State) (m : MethodId) (args : Array Value) (meth : Method) (c : Code) (cc : ByteArray) (maxL : Nat) (hh : List (Nat × Nat × Nat × Nat)) (D : va_G) (cI cL : ClassId) : Prop :=
  p.tables.exec = Jvm.exec ∧ c.code = cc ∧ c.maxLocals = maxL ∧ s.vm.findClass RL = some m.cls ∧ (∀ w ∈ ez_G, w.before args s = true) ∧ meth.sig.returnType = some .int ∧ meth.locks = false ∧ c.exceptionTable.toList = tableOf hh ∧ va_K D vwCl [(cI, .int), (cL, .long)] s
theorem xh_of {l : Launch} {y : MethodName} {cc : ByteArray} {maxL : Nat} {hh : List (Nat × Nat × Nat × Nat)} {D : va_G} {cI cL : ClassId} {As : List Value} {X X' : va_W} {sz : Nat} {k : Int32} (hy : y.cls = RL) (hle : (lg_sl As).length ≤ maxL)
    (body : ∀ (p : Program) (e : Env) (s : State) (m : MethodId) (below : List Frame) (meth : Method) (c : Code) (ls : Array Slot), xh_F p s m As.toArray meth c cc maxL hh D cI cL → va_P D vwCl X s.heap → va_D (va_A X s.heap.size) X → xz_Z (va_A X s.heap.size) s → lv_has ls maxL (lv_args 0 As) →
      W p l e xh_rm s m As.toArray below meth c s.heap [] 0 0 (MQ below (xq D [(cI, .int), (cL, .long)] X s.heap.size (some (.int k)) X') As.toArray s 1 6 (va_A X s.heap.size)) (F0 m 0 ls [])) : xh_Met l y (.codeWith y cc maxL (some .int) hh :: ez_G) D cI cL As X sz k X' := by
  unfold xh_Met Met
  refine MetFree.of_bodyS (code := cc) (maxLocals := maxL) (ret := some .int) (by rw [hy]; decide +kernel) ?_ ?_
  · intro args s m h hn
    obtain ⟨m9, meth, c, hn9, h1, h2, h3, h4, -, h5, h6, -⟩ := Cond.codeWith_spec (atoms_spec (ws := .codeWith y cc maxL (some .int) hh :: ez_G) h _ List.mem_cons_self)
    cases hn.symm.trans hn9
    exact ⟨meth, c, h1, h2, h3, h4, h5, h6⟩
  · intro p e s m args below meth c s₁ B hml hP _
    have hh0 : s₁.heap = s.heap := by rw [B.state]; rfl
    have hts := atoms_spec (ws := .codeWith y cc maxL (some .int) hh :: ez_G) B.pre
    have htab := vx_table (x := y) B (hts _ List.mem_cons_self)
    have hown : s.vm.findClass y.cls = some m.cls := findClass_of_methodNamed B.named
    obtain ⟨rfl, hsz, hP0, hK, hD0, hZ⟩ := hP
    subst hsz
    have k := body p e s m below meth c _ ⟨B.exec, B.bytes, hml, by rw [← hy]; exact hown, fun w hw => hts w (List.mem_cons_of_mem _ hw), B.returns, B.notSynchronized, htab, hK⟩ hP0 (hD0.self (sz := s.heap.size)) hZ (lv_entry As hle)
    rw [← lg_entry_eq] at k
    obtain ⟨t, a1, o, b1, b2, b3⟩ := k s₁ hh0 (Stand.of_body B)
    exact ⟨t, o, a1, b1, b2, ⟨b3.1, b3.2⟩⟩
