/-! ===== what is made: the constructors ===== -/
def xn_Q (D : va_G) (X : va_W) (sz : Nat) (P : va_W → Prop) : Array Value → State → Outcome → State → Prop :=
  fun _ st oc t => (oc = .returned none ∧ ∃ Y, P Y ∧ va_P D vwCl Y t.heap ∧ va_D (va_A X sz) Y) ∧ va_F (va_A X sz) st t
def xn_Pc (D : va_G) (cI : ClassId) (As : List Value) (X : va_W) (sz : Nat) : Array Value → State → Prop :=
  va_Pc As (fun U => U.heap.size = sz ∧ va_P D vwCl X U.heap ∧ va_K D vwCl [(cI, .int)] U ∧ va_D (fun _ => True) X)
def xn_Met (l : Launch) (y : MethodName) (ws : List Jvm.Cond) (rm : Room) (D : va_G) (cI : ClassId) (As : List Value) (X : va_W) (sz : Nat) (P : va_W → Prop) (mc ms : Nat) : Prop :=
  Met l y ws rm (xn_Pc D cI As X sz) (xn_Q D X sz P) mc ms (va_A X sz)
theorem xn_blind {D : va_G} {cI : ClassId} {As : List Value} {X : va_W} {sz : Nat} : FrameBlind (xn_Pc D cI As X sz) := fun a U g mk q => by
  obtain ⟨q0, q1, qP, qK, qD⟩ := q
  exact ⟨q0, q1, qP, va_K.moved (u := U) (U := U.calling g mk a) (Vm.Alike.refl U.vm) qK, qD⟩
def xn_F (p : Program) (s : State) (m : MethodId) (args : Array Value) (meth : Method) (c : Code) (cc : ByteArray) (maxL : Nat) (own : String) (D : va_G) (cI : ClassId) : Prop :=
  p.tables.exec = Jvm.exec ∧ c.code = cc ∧ c.maxLocals = maxL ∧ s.vm.findClass own = some m.cls ∧ (∀ w ∈ ez_G, w.before args s = true) ∧ meth.sig.returnType = none ∧ meth.locks = false ∧ meth.name = "<init>" ∧ va_K D vwCl [(cI, .int)] s
theorem xn_of {l : Launch} {y : MethodName} {cc : ByteArray} {maxL : Nat} {rm : Room} {D : va_G} {cI : ClassId} {As : List Value} {X : va_W} {sz : Nat} {P : va_W → Prop} {mc ms : Nat} (hy : plainName y.cls = true) (hle : (lg_sl As).length ≤ maxL) (hy1 : y.name = "<init>")
    (body : ∀ (p : Program) (e : Env) (s : State) (m : MethodId) (below : List Frame) (meth : Method) (c : Code) (ls : Array Slot), xn_F p s m As.toArray meth c cc maxL y.cls D cI → va_P D vwCl X s.heap → va_D (va_A X s.heap.size) X → lv_has ls maxL (lv_args 0 As) →
      W p l e rm s m As.toArray below meth c s.heap [] 0 0 (MQ below (xn_Q D X s.heap.size P) As.toArray s mc ms (va_A X s.heap.size)) (F0 m 0 ls [])) : xn_Met l y (.code y cc maxL none :: ez_G) rm D cI As X sz P mc ms := by
  refine Met.ofW (cc := cc) (maxL := maxL) (ret := none) hy rfl ?_
  intro p e s m args below meth c s₁ B hml hv
  obtain ⟨rfl, hsz, hP, hK, hD0⟩ := hv
  have hts := atoms_spec (ws := .code y cc maxL none :: ez_G) B.pre
  have hown : s.vm.findClass y.cls = some m.cls := findClass_of_methodNamed B.named
  subst hsz
  have k := body p e s m below meth c _ ⟨B.exec, B.bytes, hml, hown, fun w hw => hts w (List.mem_cons_of_mem _ hw), B.returns, B.notSynchronized, (name_of_methodNamed B.named B.method).1.trans hy1, hK⟩ hP (hD0.self (sz := s.heap.size)) (lv_entry As hle)
  rw [← lg_entry_eq] at k
  exact k
section XN
variable {p : Program} {l : Launch} {e : Env} {R : Room} {s : State} {m : MethodId} {args : Array Value} {below : List Frame} {meth : Method} {c : Code} {H H0 : Heap} {locs : List Loc} {cells slots : Nat} {Q : State → Prop}
variable {D : va_G} {cI : ClassId} {tys : List (ClassId × FieldType)} {pc : Nat} {X Z1 Z2 ws : va_W} {A : Nat → Prop} {ls : Array Slot} {rest st0 : List Value}
theorem xw_ac : ez_in (.arrayClass .int) = true := by decide +kernel
theorem xz_newI {cc : ByteArray} {n : Int32} {N : Nat} (hx : p.tables.exec = Jvm.exec) (hb : c.code = cc) (hG : ∀ w ∈ ez_G, w.before args s = true) (hK : va_K D vwCl [(cI, .int)] s) (hP : va_P D vwCl ws H) (hD : va_D A ws) (hS : va_S A H0 H locs) (hA : ∀ q : Nat, H0.size ≤ q → A q)
    (hn : ¬ n < 0) (hN : n.toNatClampNeg = N) (hbytes : N * componentBytes .int ≤ 536870912) (hcells : cells + 1 ≤ R.cells) (hslots : slots + N ≤ R.slots) (hdg : decode cc pc = .ok (.newarray .int, 2))
    (kk : ∀ (q : Nat) (H1 : Heap), va_P D vwCl (ws ++ [(q, .inl (cI, N, .inl (fun _ => 0)))]) H1 → va_D A (ws ++ [(q, .inl (cI, N, .inl (fun _ => 0)))]) → va_S A H0 H1 locs → W p l e R s m args below meth c H1 locs (cells + 1) (slots + N) Q (F0 m (pc + 2) ls (.ref q :: rest))) : W p l e R s m args below meth c H locs cells slots Q (F0 m pc ls (.int n :: rest)) := by
  refine va_newa (D := D) (atype := .int) (tys := [(cI, .int)]) (ty := .int) (a0 := (N, .inl (fun _ => 0))) hx hb (hG (.arrayClass .int) (ez_in_G xw_ac)) rfl hK hP hD hS hA (fun _ => rfl) hn hN hbytes hcells hslots hdg (fun q cA H1 hK1 hP1 hD1 hS1 => ?_)
  have h1 : s.vm.findClass ("[" ++ FieldType.int.toString) = some cI := (hK.2 0 _ rfl).2
  have h2 : s.vm.findClass ("[" ++ FieldType.int.toString) = some cA := (hK1.2 1 _ rfl).2
  obtain rfl : cI = cA := Option.some.inj (h1.symm.trans h2)
  exact kk q H1 hP1 hD1 hS1
theorem xn_call {cc bytes : ByteArray} {nL maxL mc ms n index b : Nat} {own : String} {y : MethodName} {rm : Room} {As : List Value} {P : va_W → Prop} (hx : p.tables.exec = Jvm.exec) (hb : c.code = cc) (hml : c.maxLocals = nL) (hown : s.vm.findClass own = some m.cls) (hG : ∀ w ∈ ez_G, w.before args s = true) (hK : va_K D vwCl [(cI, .int)] s)
    (hM : ∀ sz, xn_Met l y (.code y bytes maxL none :: ez_G) rm D cI (.ref b :: As) X sz P mc ms) (hrc : rm.cells = mc) (hrs : rm.slots = ms) (hcode : ez_in (.code y bytes maxL none) = true) (hini : ez_in (.initialized y.cls) = true) (hl : ez_in (.methodLink own index y) = true) (hin : ez_in (.instanceMethod y) = true) (hy1 : y.name = "<init>")
    (hd : y.cls ≠ "java/lang/invoke/MethodHandle" ∧ y.cls ≠ "java/lang/invoke/VarHandle" ∧ (parseMethodDescriptor y.desc).map (fun d => d.parameters.length) = some n) (hR : rm.frames + 1 ≤ R.frames ∧ 8 + (maxL + 11) + rm.locals ≤ R.locals) (hn : As.length = n) (hsz : ls.size = nL) (hst : st0 = As.reverse ++ .ref b :: rest) (hcat : (rest.map fun v => v.category).sum ≤ 8) (hdg : decode cc pc = .ok (.invokespecial index, 3)) (hf : cells + mc ≤ R.cells ∧ slots + ms ≤ R.slots)
    (hS : va_S A H0 H locs) (hA0 : ∀ q : Nat, H0.size ≤ q → A q) (hP : va_P D vwCl (Z1 ++ (X ++ Z2)) H) (hD : va_D A (Z1 ++ (X ++ Z2)))
    (kk : ∀ (Y : va_W) (H1 : Heap) (locs1 : List Loc), P Y → va_P D vwCl (Z1 ++ (Y ++ Z2)) H1 → va_D A (Z1 ++ (Y ++ Z2)) → va_S A H0 H1 locs1 → W p l e R s m args below meth c H1 locs1 (cells + mc) (slots + ms) Q (F0 m (pc + 3) ls rest)) : W p l e R s m args below meth c H locs cells slots Q (F0 m pc ls st0) := by
  have hA := xj_A hD hA0 hS.1
  have hgood : GoodIn ez_G (.code y bytes maxL none :: ez_G) := ez_G_good (fun w hw => (List.mem_cons.mp hw).elim (fun e => by rw [e]; exact ez_in_G hcode) id)
  have hr := va_runI (e := e) (R := R) (below := below) (meth := meth) (locs := locs) (cells := cells) (slots := slots) (As := As) (b := b) (rest := rest) (g := F0 m pc ls st0) (Ts := ez_G) (own := own) (index := index) (nL := nL) (H := H) ⟨hx, hb, hml, hown, hG⟩ (hM H.size) (cwI n hG hgood rfl hrc hrs (hG _ (ez_in_G hini)) (hG _ (ez_in_G hl)) (hG _ (ez_in_G hin)) hy1 hd hR)
    ⟨xn_blind, fun U hU hW => ⟨rfl, by rw [hU], by rw [hU]; exact xj_Pl (xj_Pr hP), va_K.moved hW.alike hK, (xj_Dl (xj_Dr hD)).weaken (fun _ _ _ _ => trivial)⟩⟩ rfl hn hsz hst (lv_room hcat) hdg hf
  intro T hT Y
  obtain ⟨v, st₀, t, T', L, h0, Y', hL, e1, e2, ⟨⟨hv, V, hV, hP1, hD1⟩, hF⟩, st⟩ := hr T hT Y
  have hv' : v = none := by injection hv
  subst hv'
  obtain ⟨k1, k2, k3⟩ := vx_keep h0 e1 hS (fun q _ z => hA q z) hA hL hF
  obtain ⟨j1, j2⟩ := xj_M hP hD k2 hA (by rw [e1]; exact hP1) hD1
  obtain ⟨t2, a1, b1⟩ := kk V T'.heap (locs ++ L) hV j1 j2 k3 T' rfl Y'
  exact ⟨t2, st t2 a1, b1⟩
end XN
theorem dX6_0 : decode cX6_init 0 = .ok (.aload_n 0, 1) := by decide +kernel
theorem dX6_1 : decode cX6_init 1 = .ok (.invokespecial 1, 3) := by decide +kernel
theorem dX6_4 : decode cX6_init 4 = .ok (.aload_n 0, 1) := by decide +kernel
theorem dX6_5 : decode cX6_init 5 = .ok (.aload_n 1, 1) := by decide +kernel
theorem dX6_6 : decode cX6_init 6 = .ok (.putfield 7, 3) := by decide +kernel
theorem dX6_9 : decode cX6_init 9 = .ok (.return_, 1) := by decide +kernel
theorem xw6_1 : ez_in (.methodLink RX6 1 objectInit) = true := by decide +kernel
theorem xwo_i : ez_in (.instanceMethod objectInit) = true := by decide +kernel
theorem xwo_c : ez_in (.code objectInit ⟨#[0xb1]⟩ 1 none) = true := by decide +kernel
theorem xw6_7 : ez_in (.fieldLink RX6 7 "SortBench$Way" "row" "LSortBench$Row;") = true := by decide +kernel
set_option maxRecDepth 20000 in
theorem xn_6_0 (l : Launch) (D : va_G) (cI : ClassId) (h0 rr : Nat) (sz : Nat) : xn_Met l yX6_init (.code yX6_init cX6_init 2 none :: ez_G) { frames := 1, cells := 0, slots := 0, locals := 20 } D cI [.ref h0, .ref rr] [(h0, .inr (0, [.null]))] sz (fun Y => Y = [(h0, .inr (0, [.ref rr]))]) 0 0 := by
  refine xn_of (by decide) (Nat.le_of_ble_eq_true rfl) rfl ?_
  intro p e s m below meth c ls F hP hD hl
  obtain ⟨hx, hb, hml, hown, hG, hr, hlk, hin, hK⟩ := F
  have hA0 : ∀ q, s.heap.size ≤ q → va_A [(h0, .inr (0, [.null]))] s.heap.size q := fun q h => Or.inr h
  have hS : va_S (va_A [(h0, .inr (0, [.null]))] s.heap.size) s.heap s.heap [] := va_S.rf
  refine lv_aload_n hx hb dX6_0 rfl (lv_at hl 0 rfl) ?_
  refine W.objInit hx hb hown (hG _ (ez_in_G xw6_1)) (hG _ (ez_in_G xwo_i)) (hG _ (ez_in_G xwo_c)) rfl (by rw [hml]; exact hl.1) rfl dX6_1 (Nat.le_of_ble_eq_true rfl) (Nat.le_of_ble_eq_true rfl) ?_
  refine W.eq (g2 := F0 m 4 ls []) rfl ?_
  refine lv_aload_n hx hb dX6_4 rfl (lv_at hl 0 rfl) ?_
  refine lv_aload_n hx hb dX6_5 rfl (lv_at hl 1 rfl) ?_
  refine va_putF (D := D) (ci := 0) (v := .ref rr) (ty := .object "SortBench$Row") (C := RX0) (T := TX0) (N := 1) hx hb hG (fun w hw => ez_in_G (ez_w0 w hw)) tyX0 tyX0_ok nmX0 hown hK hP hD hS 0 rfl rfl 0 (by decide) (hG _ (ez_in_G xw6_7)) (fun _ h9 => h9) rfl hin rfl (by decide +kernel) rfl rfl (Nat.le_of_ble_eq_true rfl) dX6_6 (fun H locs hP hD hS => ?_)
  have hP : va_P D vwCl [(h0, .inr (0, [.ref rr]))] H := hP
  have hD : va_D (va_A [(h0, .inr (0, [.null]))] s.heap.size) [(h0, .inr (0, [.ref rr]))] := hD
  refine W.widen (k := 0) (n := 0) (by decide) (by decide) ?_
  exact W.vret hx hb hr (fun t ht hW => ⟨⟨rfl, _, rfl, by rw [ht]; exact hP, hD⟩, hS.F ht⟩) (fun q hq => hS.2.2 q hq) dX6_9 hlk
set_option maxRecDepth 20000 in
theorem xn_6_1 (l : Launch) (D : va_G) (cI : ClassId) (h0 rr : Nat) (sz : Nat) : xn_Met l yX6_init (.code yX6_init cX6_init 2 none :: ez_G) { frames := 1, cells := 0, slots := 0, locals := 20 } D cI [.ref h0, .ref rr] [(h0, .inr (1, [.null]))] sz (fun Y => Y = [(h0, .inr (1, [.ref rr]))]) 0 0 := by
  refine xn_of (by decide) (Nat.le_of_ble_eq_true rfl) rfl ?_
  intro p e s m below meth c ls F hP hD hl
  obtain ⟨hx, hb, hml, hown, hG, hr, hlk, hin, hK⟩ := F
  have hA0 : ∀ q, s.heap.size ≤ q → va_A [(h0, .inr (1, [.null]))] s.heap.size q := fun q h => Or.inr h
  have hS : va_S (va_A [(h0, .inr (1, [.null]))] s.heap.size) s.heap s.heap [] := va_S.rf
  refine lv_aload_n hx hb dX6_0 rfl (lv_at hl 0 rfl) ?_
  refine W.objInit hx hb hown (hG _ (ez_in_G xw6_1)) (hG _ (ez_in_G xwo_i)) (hG _ (ez_in_G xwo_c)) rfl (by rw [hml]; exact hl.1) rfl dX6_1 (Nat.le_of_ble_eq_true rfl) (Nat.le_of_ble_eq_true rfl) ?_
  refine W.eq (g2 := F0 m 4 ls []) rfl ?_
  refine lv_aload_n hx hb dX6_4 rfl (lv_at hl 0 rfl) ?_
  refine lv_aload_n hx hb dX6_5 rfl (lv_at hl 1 rfl) ?_
  refine va_putF (D := D) (ci := 1) (v := .ref rr) (ty := .object "SortBench$Row") (C := RX1) (T := TX1) (N := 1) hx hb hG (fun w hw => ez_in_G (ez_w1 w hw)) tyX1 tyX1_ok nmX1 hown hK hP hD hS 0 rfl rfl 0 (by decide) (hG _ (ez_in_G xw6_7)) (fun _ h9 => h9) rfl hin rfl (by decide +kernel) rfl rfl (Nat.le_of_ble_eq_true rfl) dX6_6 (fun H locs hP hD hS => ?_)
  have hP : va_P D vwCl [(h0, .inr (1, [.ref rr]))] H := hP
  have hD : va_D (va_A [(h0, .inr (1, [.null]))] s.heap.size) [(h0, .inr (1, [.ref rr]))] := hD
  refine W.widen (k := 0) (n := 0) (by decide) (by decide) ?_
  exact W.vret hx hb hr (fun t ht hW => ⟨⟨rfl, _, rfl, by rw [ht]; exact hP, hD⟩, hS.F ht⟩) (fun q hq => hS.2.2 q hq) dX6_9 hlk
set_option maxRecDepth 20000 in
theorem xn_6_2 (l : Launch) (D : va_G) (cI : ClassId) (h0 rr : Nat) (sz : Nat) : xn_Met l yX6_init (.code yX6_init cX6_init 2 none :: ez_G) { frames := 1, cells := 0, slots := 0, locals := 20 } D cI [.ref h0, .ref rr] [(h0, .inr (2, [.null, .null, .null, .null, .null, .null, .int 0, .int 0, .int 0, .int 0, .int 0, .int 0, .int 0, .long 0, .long 0]))] sz (fun Y => Y = [(h0, .inr (2, [.ref rr, .null, .null, .null, .null, .null, .int 0, .int 0, .int 0, .int 0, .int 0, .int 0, .int 0, .long 0, .long 0]))]) 0 0 := by
  refine xn_of (by decide) (Nat.le_of_ble_eq_true rfl) rfl ?_
  intro p e s m below meth c ls F hP hD hl
  obtain ⟨hx, hb, hml, hown, hG, hr, hlk, hin, hK⟩ := F
  have hA0 : ∀ q, s.heap.size ≤ q → va_A [(h0, .inr (2, [.null, .null, .null, .null, .null, .null, .int 0, .int 0, .int 0, .int 0, .int 0, .int 0, .int 0, .long 0, .long 0]))] s.heap.size q := fun q h => Or.inr h
  have hS : va_S (va_A [(h0, .inr (2, [.null, .null, .null, .null, .null, .null, .int 0, .int 0, .int 0, .int 0, .int 0, .int 0, .int 0, .long 0, .long 0]))] s.heap.size) s.heap s.heap [] := va_S.rf
  refine lv_aload_n hx hb dX6_0 rfl (lv_at hl 0 rfl) ?_
  refine W.objInit hx hb hown (hG _ (ez_in_G xw6_1)) (hG _ (ez_in_G xwo_i)) (hG _ (ez_in_G xwo_c)) rfl (by rw [hml]; exact hl.1) rfl dX6_1 (Nat.le_of_ble_eq_true rfl) (Nat.le_of_ble_eq_true rfl) ?_
  refine W.eq (g2 := F0 m 4 ls []) rfl ?_
  refine lv_aload_n hx hb dX6_4 rfl (lv_at hl 0 rfl) ?_
  refine lv_aload_n hx hb dX6_5 rfl (lv_at hl 1 rfl) ?_
  refine va_putF (D := D) (ci := 2) (v := .ref rr) (ty := .object "SortBench$Row") (C := RX2) (T := TX2) (N := 15) hx hb hG (fun w hw => ez_in_G (ez_w2 w hw)) tyX2 tyX2_ok nmX2 hown hK hP hD hS 0 rfl rfl 0 (by decide) (hG _ (ez_in_G xw6_7)) (fun _ h9 => h9) rfl hin rfl (by decide +kernel) rfl rfl (Nat.le_of_ble_eq_true rfl) dX6_6 (fun H locs hP hD hS => ?_)
  have hP : va_P D vwCl [(h0, .inr (2, [.ref rr, .null, .null, .null, .null, .null, .int 0, .int 0, .int 0, .int 0, .int 0, .int 0, .int 0, .long 0, .long 0]))] H := hP
  have hD : va_D (va_A [(h0, .inr (2, [.null, .null, .null, .null, .null, .null, .int 0, .int 0, .int 0, .int 0, .int 0, .int 0, .int 0, .long 0, .long 0]))] s.heap.size) [(h0, .inr (2, [.ref rr, .null, .null, .null, .null, .null, .int 0, .int 0, .int 0, .int 0, .int 0, .int 0, .int 0, .long 0, .long 0]))] := hD
  refine W.widen (k := 0) (n := 0) (by decide) (by decide) ?_
  exact W.vret hx hb hr (fun t ht hW => ⟨⟨rfl, _, rfl, by rw [ht]; exact hP, hD⟩, hS.F ht⟩) (fun q hq => hS.2.2 q hq) dX6_9 hlk
set_option maxRecDepth 20000 in
theorem xn_6_4 (l : Launch) (D : va_G) (cI : ClassId) (h0 rr : Nat) (sz : Nat) : xn_Met l yX6_init (.code yX6_init cX6_init 2 none :: ez_G) { frames := 1, cells := 0, slots := 0, locals := 20 } D cI [.ref h0, .ref rr] [(h0, .inr (4, [.null, .null, .null, .null, .int 0, .long 0, .long 0]))] sz (fun Y => Y = [(h0, .inr (4, [.ref rr, .null, .null, .null, .int 0, .long 0, .long 0]))]) 0 0 := by
  refine xn_of (by decide) (Nat.le_of_ble_eq_true rfl) rfl ?_
  intro p e s m below meth c ls F hP hD hl
  obtain ⟨hx, hb, hml, hown, hG, hr, hlk, hin, hK⟩ := F
  have hA0 : ∀ q, s.heap.size ≤ q → va_A [(h0, .inr (4, [.null, .null, .null, .null, .int 0, .long 0, .long 0]))] s.heap.size q := fun q h => Or.inr h
  have hS : va_S (va_A [(h0, .inr (4, [.null, .null, .null, .null, .int 0, .long 0, .long 0]))] s.heap.size) s.heap s.heap [] := va_S.rf
  refine lv_aload_n hx hb dX6_0 rfl (lv_at hl 0 rfl) ?_
  refine W.objInit hx hb hown (hG _ (ez_in_G xw6_1)) (hG _ (ez_in_G xwo_i)) (hG _ (ez_in_G xwo_c)) rfl (by rw [hml]; exact hl.1) rfl dX6_1 (Nat.le_of_ble_eq_true rfl) (Nat.le_of_ble_eq_true rfl) ?_
  refine W.eq (g2 := F0 m 4 ls []) rfl ?_
  refine lv_aload_n hx hb dX6_4 rfl (lv_at hl 0 rfl) ?_
  refine lv_aload_n hx hb dX6_5 rfl (lv_at hl 1 rfl) ?_
  refine va_putF (D := D) (ci := 4) (v := .ref rr) (ty := .object "SortBench$Row") (C := RX4) (T := TX4) (N := 7) hx hb hG (fun w hw => ez_in_G (ez_w4 w hw)) tyX4 tyX4_ok nmX4 hown hK hP hD hS 0 rfl rfl 0 (by decide) (hG _ (ez_in_G xw6_7)) (fun _ h9 => h9) rfl hin rfl (by decide +kernel) rfl rfl (Nat.le_of_ble_eq_true rfl) dX6_6 (fun H locs hP hD hS => ?_)
  have hP : va_P D vwCl [(h0, .inr (4, [.ref rr, .null, .null, .null, .int 0, .long 0, .long 0]))] H := hP
  have hD : va_D (va_A [(h0, .inr (4, [.null, .null, .null, .null, .int 0, .long 0, .long 0]))] s.heap.size) [(h0, .inr (4, [.ref rr, .null, .null, .null, .int 0, .long 0, .long 0]))] := hD
  refine W.widen (k := 0) (n := 0) (by decide) (by decide) ?_
  exact W.vret hx hb hr (fun t ht hW => ⟨⟨rfl, _, rfl, by rw [ht]; exact hP, hD⟩, hS.F ht⟩) (fun q hq => hS.2.2 q hq) dX6_9 hlk
set_option maxRecDepth 20000 in
theorem xn_6_5 (l : Launch) (D : va_G) (cI : ClassId) (h0 rr : Nat) (sz : Nat) : xn_Met l yX6_init (.code yX6_init cX6_init 2 none :: ez_G) { frames := 1, cells := 0, slots := 0, locals := 20 } D cI [.ref h0, .ref rr] [(h0, .inr (5, [.null]))] sz (fun Y => Y = [(h0, .inr (5, [.ref rr]))]) 0 0 := by
  refine xn_of (by decide) (Nat.le_of_ble_eq_true rfl) rfl ?_
  intro p e s m below meth c ls F hP hD hl
  obtain ⟨hx, hb, hml, hown, hG, hr, hlk, hin, hK⟩ := F
  have hA0 : ∀ q, s.heap.size ≤ q → va_A [(h0, .inr (5, [.null]))] s.heap.size q := fun q h => Or.inr h
  have hS : va_S (va_A [(h0, .inr (5, [.null]))] s.heap.size) s.heap s.heap [] := va_S.rf
  refine lv_aload_n hx hb dX6_0 rfl (lv_at hl 0 rfl) ?_
  refine W.objInit hx hb hown (hG _ (ez_in_G xw6_1)) (hG _ (ez_in_G xwo_i)) (hG _ (ez_in_G xwo_c)) rfl (by rw [hml]; exact hl.1) rfl dX6_1 (Nat.le_of_ble_eq_true rfl) (Nat.le_of_ble_eq_true rfl) ?_
  refine W.eq (g2 := F0 m 4 ls []) rfl ?_
  refine lv_aload_n hx hb dX6_4 rfl (lv_at hl 0 rfl) ?_
  refine lv_aload_n hx hb dX6_5 rfl (lv_at hl 1 rfl) ?_
  refine va_putF (D := D) (ci := 5) (v := .ref rr) (ty := .object "SortBench$Row") (C := RX5) (T := TX5) (N := 1) hx hb hG (fun w hw => ez_in_G (ez_w5 w hw)) tyX5 tyX5_ok nmX5 hown hK hP hD hS 0 rfl rfl 0 (by decide) (hG _ (ez_in_G xw6_7)) (fun _ h9 => h9) rfl hin rfl (by decide +kernel) rfl rfl (Nat.le_of_ble_eq_true rfl) dX6_6 (fun H locs hP hD hS => ?_)
  have hP : va_P D vwCl [(h0, .inr (5, [.ref rr]))] H := hP
  have hD : va_D (va_A [(h0, .inr (5, [.null]))] s.heap.size) [(h0, .inr (5, [.ref rr]))] := hD
  refine W.widen (k := 0) (n := 0) (by decide) (by decide) ?_
  exact W.vret hx hb hr (fun t ht hW => ⟨⟨rfl, _, rfl, by rw [ht]; exact hP, hD⟩, hS.F ht⟩) (fun q hq => hS.2.2 q hq) dX6_9 hlk
theorem dX0_0 : decode cX0_init 0 = .ok (.aload_n 0, 1) := by decide +kernel
theorem dX0_1 : decode cX0_init 1 = .ok (.aload_n 1, 1) := by decide +kernel
theorem dX0_2 : decode cX0_init 2 = .ok (.invokespecial 1, 3) := by decide +kernel
theorem dX0_5 : decode cX0_init 5 = .ok (.return_, 1) := by decide +kernel
theorem xw0_1 : ez_in (.methodLink RX0 1 yX6_init) = true := by decide +kernel
theorem xwc_6 : ez_in (.code yX6_init cX6_init 2 none) = true := by decide +kernel
theorem xwi_6 : ez_in (.initialized RX6) = true := by decide +kernel
theorem xwm_6 : ez_in (.instanceMethod yX6_init) = true := by decide +kernel
set_option maxRecDepth 20000 in
theorem xn_0_0 (l : Launch) (D : va_G) (cI : ClassId) (h0 rr : Nat) (sz : Nat) : xn_Met l yX0_init (.code yX0_init cX0_init 2 none :: ez_G) { frames := 2, cells := 0, slots := 0, locals := 60 } D cI [.ref h0, .ref rr] [(h0, .inr (0, [.null]))] sz (fun Y => Y = [(h0, .inr (0, [.ref rr]))]) 0 0 := by
  refine xn_of (by decide) (Nat.le_of_ble_eq_true rfl) rfl ?_
  intro p e s m below meth c ls F hP hD hl
  obtain ⟨hx, hb, hml, hown, hG, hr, hlk, hin, hK⟩ := F
  have hA0 : ∀ q, s.heap.size ≤ q → va_A [(h0, .inr (0, [.null]))] s.heap.size q := fun q h => Or.inr h
  have hS : va_S (va_A [(h0, .inr (0, [.null]))] s.heap.size) s.heap s.heap [] := va_S.rf
  refine lv_aload_n hx hb dX0_0 rfl (lv_at hl 0 rfl) ?_
  refine lv_aload_n hx hb dX0_1 rfl (lv_at hl 1 rfl) ?_
  refine xn_call (D := D) (cI := cI) (Z1 := []) (X := [(h0, .inr (0, [.null]))]) (Z2 := []) (b := h0) (As := [.ref rr]) (n := 1) (rest := []) hx hb hml hown hG hK (fun sz => xn_6_0 l D cI h0 rr sz) rfl rfl xwc_6 xwi_6 xw0_1 xwm_6 rfl ⟨by decide, by decide, by decide +kernel⟩ ⟨by decide, by decide⟩ rfl hl.1 rfl (Nat.le_of_ble_eq_true rfl) dX0_2 ⟨by decide, by decide⟩ hS hA0 hP hD (fun Y H locs hY hP hD hS => ?_)
  obtain rfl := hY
  refine W.widen (k := 0) (n := 0) (by decide) (by decide) ?_
  have hP : va_P D vwCl [(h0, .inr (0, [.ref rr]))] H := hP
  have hD : va_D (va_A [(h0, .inr (0, [.null]))] s.heap.size) [(h0, .inr (0, [.ref rr]))] := hD
  refine W.widen (k := 0) (n := 0) (by decide) (by decide) ?_
  exact W.vret hx hb hr (fun t ht hW => ⟨⟨rfl, _, rfl, by rw [ht]; exact hP, hD⟩, hS.F ht⟩) (fun q hq => hS.2.2 q hq) dX0_5 hlk
theorem dX1_0 : decode cX1_init 0 = .ok (.aload_n 0, 1) := by decide +kernel
theorem dX1_1 : decode cX1_init 1 = .ok (.aload_n 1, 1) := by decide +kernel
theorem dX1_2 : decode cX1_init 2 = .ok (.invokespecial 1, 3) := by decide +kernel
theorem dX1_5 : decode cX1_init 5 = .ok (.return_, 1) := by decide +kernel
theorem xw1_1 : ez_in (.methodLink RX1 1 yX6_init) = true := by decide +kernel
set_option maxRecDepth 20000 in
theorem xn_1_1 (l : Launch) (D : va_G) (cI : ClassId) (h0 rr : Nat) (sz : Nat) : xn_Met l yX1_init (.code yX1_init cX1_init 2 none :: ez_G) { frames := 2, cells := 0, slots := 0, locals := 60 } D cI [.ref h0, .ref rr] [(h0, .inr (1, [.null]))] sz (fun Y => Y = [(h0, .inr (1, [.ref rr]))]) 0 0 := by
  refine xn_of (by decide) (Nat.le_of_ble_eq_true rfl) rfl ?_
  intro p e s m below meth c ls F hP hD hl
  obtain ⟨hx, hb, hml, hown, hG, hr, hlk, hin, hK⟩ := F
  have hA0 : ∀ q, s.heap.size ≤ q → va_A [(h0, .inr (1, [.null]))] s.heap.size q := fun q h => Or.inr h
  have hS : va_S (va_A [(h0, .inr (1, [.null]))] s.heap.size) s.heap s.heap [] := va_S.rf
  refine lv_aload_n hx hb dX1_0 rfl (lv_at hl 0 rfl) ?_
  refine lv_aload_n hx hb dX1_1 rfl (lv_at hl 1 rfl) ?_
  refine xn_call (D := D) (cI := cI) (Z1 := []) (X := [(h0, .inr (1, [.null]))]) (Z2 := []) (b := h0) (As := [.ref rr]) (n := 1) (rest := []) hx hb hml hown hG hK (fun sz => xn_6_1 l D cI h0 rr sz) rfl rfl xwc_6 xwi_6 xw1_1 xwm_6 rfl ⟨by decide, by decide, by decide +kernel⟩ ⟨by decide, by decide⟩ rfl hl.1 rfl (Nat.le_of_ble_eq_true rfl) dX1_2 ⟨by decide, by decide⟩ hS hA0 hP hD (fun Y H locs hY hP hD hS => ?_)
  obtain rfl := hY
  refine W.widen (k := 0) (n := 0) (by decide) (by decide) ?_
  have hP : va_P D vwCl [(h0, .inr (1, [.ref rr]))] H := hP
  have hD : va_D (va_A [(h0, .inr (1, [.null]))] s.heap.size) [(h0, .inr (1, [.ref rr]))] := hD
  refine W.widen (k := 0) (n := 0) (by decide) (by decide) ?_
  exact W.vret hx hb hr (fun t ht hW => ⟨⟨rfl, _, rfl, by rw [ht]; exact hP, hD⟩, hS.F ht⟩) (fun q hq => hS.2.2 q hq) dX1_5 hlk
theorem dX5_0 : decode cX5_init 0 = .ok (.aload_n 0, 1) := by decide +kernel
theorem dX5_1 : decode cX5_init 1 = .ok (.aload_n 1, 1) := by decide +kernel
theorem dX5_2 : decode cX5_init 2 = .ok (.invokespecial 1, 3) := by decide +kernel
theorem dX5_5 : decode cX5_init 5 = .ok (.return_, 1) := by decide +kernel
theorem xw5_1 : ez_in (.methodLink RX5 1 yX6_init) = true := by decide +kernel
set_option maxRecDepth 20000 in
theorem xn_5_5 (l : Launch) (D : va_G) (cI : ClassId) (h0 rr : Nat) (sz : Nat) : xn_Met l yX5_init (.code yX5_init cX5_init 2 none :: ez_G) { frames := 2, cells := 0, slots := 0, locals := 60 } D cI [.ref h0, .ref rr] [(h0, .inr (5, [.null]))] sz (fun Y => Y = [(h0, .inr (5, [.ref rr]))]) 0 0 := by
  refine xn_of (by decide) (Nat.le_of_ble_eq_true rfl) rfl ?_
  intro p e s m below meth c ls F hP hD hl
  obtain ⟨hx, hb, hml, hown, hG, hr, hlk, hin, hK⟩ := F
  have hA0 : ∀ q, s.heap.size ≤ q → va_A [(h0, .inr (5, [.null]))] s.heap.size q := fun q h => Or.inr h
  have hS : va_S (va_A [(h0, .inr (5, [.null]))] s.heap.size) s.heap s.heap [] := va_S.rf
  refine lv_aload_n hx hb dX5_0 rfl (lv_at hl 0 rfl) ?_
  refine lv_aload_n hx hb dX5_1 rfl (lv_at hl 1 rfl) ?_
  refine xn_call (D := D) (cI := cI) (Z1 := []) (X := [(h0, .inr (5, [.null]))]) (Z2 := []) (b := h0) (As := [.ref rr]) (n := 1) (rest := []) hx hb hml hown hG hK (fun sz => xn_6_5 l D cI h0 rr sz) rfl rfl xwc_6 xwi_6 xw5_1 xwm_6 rfl ⟨by decide, by decide, by decide +kernel⟩ ⟨by decide, by decide⟩ rfl hl.1 rfl (Nat.le_of_ble_eq_true rfl) dX5_2 ⟨by decide, by decide⟩ hS hA0 hP hD (fun Y H locs hY hP hD hS => ?_)
  obtain rfl := hY
  refine W.widen (k := 0) (n := 0) (by decide) (by decide) ?_
  have hP : va_P D vwCl [(h0, .inr (5, [.ref rr]))] H := hP
  have hD : va_D (va_A [(h0, .inr (5, [.null]))] s.heap.size) [(h0, .inr (5, [.ref rr]))] := hD
  refine W.widen (k := 0) (n := 0) (by decide) (by decide) ?_
  exact W.vret hx hb hr (fun t ht hW => ⟨⟨rfl, _, rfl, by rw [ht]; exact hP, hD⟩, hS.F ht⟩) (fun q hq => hS.2.2 q hq) dX5_5 hlk
theorem dX3_0 : decode cX3_init 0 = .ok (.aload_n 0, 1) := by decide +kernel
theorem dX3_1 : decode cX3_init 1 = .ok (.invokespecial 3, 3) := by decide +kernel
theorem dX3_4 : decode cX3_init 4 = .ok (.aload_n 0, 1) := by decide +kernel
theorem dX3_5 : decode cX3_init 5 = .ok (.sipush 600, 3) := by decide +kernel
theorem dX3_8 : decode cX3_init 8 = .ok (.newarray .int, 2) := by decide +kernel
theorem dX3_10 : decode cX3_init 10 = .ok (.putfield 9, 3) := by decide +kernel
theorem dX3_13 : decode cX3_init 13 = .ok (.aload_n 0, 1) := by decide +kernel
theorem dX3_14 : decode cX3_init 14 = .ok (.sipush 600, 3) := by decide +kernel
theorem dX3_17 : decode cX3_init 17 = .ok (.newarray .int, 2) := by decide +kernel
theorem dX3_19 : decode cX3_init 19 = .ok (.putfield 15, 3) := by decide +kernel
theorem dX3_22 : decode cX3_init 22 = .ok (.aload_n 0, 1) := by decide +kernel
theorem dX3_23 : decode cX3_init 23 = .ok (.iconst (-1), 1) := by decide +kernel
theorem dX3_24 : decode cX3_init 24 = .ok (.putfield 18, 3) := by decide +kernel
theorem dX3_27 : decode cX3_init 27 = .ok (.return_, 1) := by decide +kernel
theorem xw3_3 : ez_in (.methodLink RX3 3 objectInit) = true := by decide +kernel
theorem xw3_9 : ez_in (.fieldLink RX3 9 "SortBench$Row" "numbers" "[I") = true := by decide +kernel
theorem xw3_15 : ez_in (.fieldLink RX3 15 "SortBench$Row" "things" "[I") = true := by decide +kernel
theorem xw3_18 : ez_in (.fieldLink RX3 18 "SortBench$Row" "candidate" "I") = true := by decide +kernel
set_option maxRecDepth 20000 in
theorem xn_3_3 (l : Launch) (D : va_G) (cI : ClassId) (h0 : Nat) (sz : Nat) : xn_Met l yX3_init (.code yX3_init cX3_init 1 none :: ez_G) { frames := 1, cells := 2, slots := 1200, locals := 20 } D cI [.ref h0] [(h0, .inr (3, [.null, .null, .int 0, .int 0, .long 0, .int 0, .int 0, .int 0]))] sz (fun Y => ∃ qa qb : Nat, Y = [(h0, .inr (3, [.ref qa, .ref qb, .int 0, .int 0, .long 0, .int 0, .int (-1), .int 0])), (qa, .inl (cI, 600, .inl (fun _ => 0))), (qb, .inl (cI, 600, .inl (fun _ => 0)))]) 2 1200 := by
  refine xn_of (by decide) (Nat.le_of_ble_eq_true rfl) rfl ?_
  intro p e s m below meth c ls F hP hD hl
  obtain ⟨hx, hb, hml, hown, hG, hr, hlk, hin, hK⟩ := F
  have hA0 : ∀ q, s.heap.size ≤ q → va_A [(h0, .inr (3, [.null, .null, .int 0, .int 0, .long 0, .int 0, .int 0, .int 0]))] s.heap.size q := fun q h => Or.inr h
  have hS : va_S (va_A [(h0, .inr (3, [.null, .null, .int 0, .int 0, .long 0, .int 0, .int 0, .int 0]))] s.heap.size) s.heap s.heap [] := va_S.rf
  refine lv_aload_n hx hb dX3_0 rfl (lv_at hl 0 rfl) ?_
  refine W.objInit hx hb hown (hG _ (ez_in_G xw3_3)) (hG _ (ez_in_G xwo_i)) (hG _ (ez_in_G xwo_c)) rfl (by rw [hml]; exact hl.1) rfl dX3_1 (Nat.le_of_ble_eq_true rfl) (Nat.le_of_ble_eq_true rfl) ?_
  refine W.eq (g2 := F0 m 4 ls []) rfl ?_
  refine lv_aload_n hx hb dX3_4 rfl (lv_at hl 0 rfl) ?_
  refine lv_sipush hx hb dX3_5 (v := 600) rfl ?_
  refine xz_newI (n := 600) (N := 600) hx hb hG hK hP hD hS hA0 (by decide) rfl (by decide) (by decide) (by decide) dX3_8 (fun qa H hP hD hS => ?_)
  refine W.widen (k := 1) (n := 600) (by decide) (by decide) ?_
  have hP : va_P D vwCl [(h0, .inr (3, [.null, .null, .int 0, .int 0, .long 0, .int 0, .int 0, .int 0])), (qa, .inl (cI, 600, .inl (fun _ => 0)))] H := hP
  have hD : va_D (va_A [(h0, .inr (3, [.null, .null, .int 0, .int 0, .long 0, .int 0, .int 0, .int 0]))] s.heap.size) [(h0, .inr (3, [.null, .null, .int 0, .int 0, .long 0, .int 0, .int 0, .int 0])), (qa, .inl (cI, 600, .inl (fun _ => 0)))] := hD
  refine va_putF (D := D) (ci := 3) (v := .ref qa) (ty := .array .int) (C := RX3) (T := TX3) (N := 8) hx hb hG (fun w hw => ez_in_G (ez_w3 w hw)) tyX3 tyX3_ok nmX3 hown hK hP hD hS 0 rfl rfl 0 (by decide) (hG _ (ez_in_G xw3_9)) (fun _ h9 => h9) rfl hin rfl (by decide +kernel) rfl rfl (Nat.le_of_ble_eq_true rfl) dX3_10 (fun H locs hP hD hS => ?_)
  have hP : va_P D vwCl [(h0, .inr (3, [.ref qa, .null, .int 0, .int 0, .long 0, .int 0, .int 0, .int 0])), (qa, .inl (cI, 600, .inl (fun _ => 0)))] H := hP
  have hD : va_D (va_A [(h0, .inr (3, [.null, .null, .int 0, .int 0, .long 0, .int 0, .int 0, .int 0]))] s.heap.size) [(h0, .inr (3, [.ref qa, .null, .int 0, .int 0, .long 0, .int 0, .int 0, .int 0])), (qa, .inl (cI, 600, .inl (fun _ => 0)))] := hD
  refine lv_aload_n hx hb dX3_13 rfl (lv_at hl 0 rfl) ?_
  refine lv_sipush hx hb dX3_14 (v := 600) rfl ?_
  refine xz_newI (n := 600) (N := 600) hx hb hG hK hP hD hS hA0 (by decide) rfl (by decide) (by decide) (by decide) dX3_17 (fun qb H hP hD hS => ?_)
  refine W.widen (k := 2) (n := 1200) (by decide) (by decide) ?_
  have hP : va_P D vwCl [(h0, .inr (3, [.ref qa, .null, .int 0, .int 0, .long 0, .int 0, .int 0, .int 0])), (qa, .inl (cI, 600, .inl (fun _ => 0))), (qb, .inl (cI, 600, .inl (fun _ => 0)))] H := hP
  have hD : va_D (va_A [(h0, .inr (3, [.null, .null, .int 0, .int 0, .long 0, .int 0, .int 0, .int 0]))] s.heap.size) [(h0, .inr (3, [.ref qa, .null, .int 0, .int 0, .long 0, .int 0, .int 0, .int 0])), (qa, .inl (cI, 600, .inl (fun _ => 0))), (qb, .inl (cI, 600, .inl (fun _ => 0)))] := hD
  refine va_putF (D := D) (ci := 3) (v := .ref qb) (ty := .array .int) (C := RX3) (T := TX3) (N := 8) hx hb hG (fun w hw => ez_in_G (ez_w3 w hw)) tyX3 tyX3_ok nmX3 hown hK hP hD hS 0 rfl rfl 1 (by decide) (hG _ (ez_in_G xw3_15)) (fun _ h9 => h9) rfl hin rfl (by decide +kernel) rfl rfl (Nat.le_of_ble_eq_true rfl) dX3_19 (fun H locs hP hD hS => ?_)
  have hP : va_P D vwCl [(h0, .inr (3, [.ref qa, .ref qb, .int 0, .int 0, .long 0, .int 0, .int 0, .int 0])), (qa, .inl (cI, 600, .inl (fun _ => 0))), (qb, .inl (cI, 600, .inl (fun _ => 0)))] H := hP
  have hD : va_D (va_A [(h0, .inr (3, [.null, .null, .int 0, .int 0, .long 0, .int 0, .int 0, .int 0]))] s.heap.size) [(h0, .inr (3, [.ref qa, .ref qb, .int 0, .int 0, .long 0, .int 0, .int 0, .int 0])), (qa, .inl (cI, 600, .inl (fun _ => 0))), (qb, .inl (cI, 600, .inl (fun _ => 0)))] := hD
  refine lv_aload_n hx hb dX3_22 rfl (lv_at hl 0 rfl) ?_
  refine lv_iconst hx hb dX3_23 (v := -1) rfl ?_
  refine va_put (D := D) (ci := 3) (v := .int (-1)) (ty := .int) (C := RX3) (T := TX3) (N := 8) hx hb hG (fun w hw => ez_in_G (ez_w3 w hw)) tyX3 tyX3_ok nmX3 hown hK hP hD hS 0 rfl rfl 6 (by decide) (hG _ (ez_in_G xw3_18)) (fun _ h9 => h9) rfl (by decide +kernel) rfl rfl (Nat.le_of_ble_eq_true rfl) dX3_24 (fun H locs hP hD hS => ?_)
  have hP : va_P D vwCl [(h0, .inr (3, [.ref qa, .ref qb, .int 0, .int 0, .long 0, .int 0, .int (-1), .int 0])), (qa, .inl (cI, 600, .inl (fun _ => 0))), (qb, .inl (cI, 600, .inl (fun _ => 0)))] H := hP
  have hD : va_D (va_A [(h0, .inr (3, [.null, .null, .int 0, .int 0, .long 0, .int 0, .int 0, .int 0]))] s.heap.size) [(h0, .inr (3, [.ref qa, .ref qb, .int 0, .int 0, .long 0, .int 0, .int (-1), .int 0])), (qa, .inl (cI, 600, .inl (fun _ => 0))), (qb, .inl (cI, 600, .inl (fun _ => 0)))] := hD
  refine W.widen (k := 2) (n := 1200) (by decide) (by decide) ?_
  exact W.vret hx hb hr (fun t ht hW => ⟨⟨rfl, _, ⟨qa, qb, rfl⟩, by rw [ht]; exact hP, hD⟩, hS.F ht⟩) (fun q hq => hS.2.2 q hq) dX3_27 hlk
theorem dX2_0 : decode cX2_init 0 = .ok (.aload_n 0, 1) := by decide +kernel
theorem dX2_1 : decode cX2_init 1 = .ok (.aload_n 1, 1) := by decide +kernel
theorem dX2_2 : decode cX2_init 2 = .ok (.invokespecial 3, 3) := by decide +kernel
theorem dX2_5 : decode cX2_init 5 = .ok (.aload_n 0, 1) := by decide +kernel
theorem dX2_6 : decode cX2_init 6 = .ok (.aload_n 2, 1) := by decide +kernel
theorem dX2_7 : decode cX2_init 7 = .ok (.putfield 9, 3) := by decide +kernel
theorem dX2_10 : decode cX2_init 10 = .ok (.aload_n 0, 1) := by decide +kernel
theorem dX2_11 : decode cX2_init 11 = .ok (.aload_n 3, 1) := by decide +kernel
theorem dX2_12 : decode cX2_init 12 = .ok (.putfield 15, 3) := by decide +kernel
theorem dX2_15 : decode cX2_init 15 = .ok (.aload_n 0, 1) := by decide +kernel
theorem dX2_16 : decode cX2_init 16 = .ok (.bipush 64, 2) := by decide +kernel
theorem dX2_18 : decode cX2_init 18 = .ok (.newarray .int, 2) := by decide +kernel
theorem dX2_20 : decode cX2_init 20 = .ok (.putfield 19, 3) := by decide +kernel
theorem dX2_23 : decode cX2_init 23 = .ok (.aload_n 0, 1) := by decide +kernel
theorem dX2_24 : decode cX2_init 24 = .ok (.bipush 64, 2) := by decide +kernel
theorem dX2_26 : decode cX2_init 26 = .ok (.newarray .int, 2) := by decide +kernel
theorem dX2_28 : decode cX2_init 28 = .ok (.putfield 23, 3) := by decide +kernel
theorem dX2_31 : decode cX2_init 31 = .ok (.aload_n 0, 1) := by decide +kernel
theorem dX2_32 : decode cX2_init 32 = .ok (.bipush 64, 2) := by decide +kernel
theorem dX2_34 : decode cX2_init 34 = .ok (.newarray .int, 2) := by decide +kernel
theorem dX2_36 : decode cX2_init 36 = .ok (.putfield 26, 3) := by decide +kernel
theorem dX2_39 : decode cX2_init 39 = .ok (.return_, 1) := by decide +kernel
theorem xw2_3 : ez_in (.methodLink RX2 3 yX6_init) = true := by decide +kernel
theorem xw2_9 : ez_in (.fieldLink RX2 9 "SortBench$Quick" "inserting" "LSortBench$Inserting;") = true := by decide +kernel
theorem xw2_15 : ez_in (.fieldLink RX2 15 "SortBench$Quick" "heap" "LSortBench$Heap;") = true := by decide +kernel
theorem xw2_19 : ez_in (.fieldLink RX2 19 "SortBench$Quick" "waitingFrom" "[I") = true := by decide +kernel
theorem xw2_23 : ez_in (.fieldLink RX2 23 "SortBench$Quick" "waitingTo" "[I") = true := by decide +kernel
theorem xw2_26 : ez_in (.fieldLink RX2 26 "SortBench$Quick" "waitingBudget" "[I") = true := by decide +kernel
set_option maxRecDepth 20000 in
theorem xn_2_2 (l : Launch) (D : va_G) (cI : ClassId) (h0 rr ri rh : Nat) (sz : Nat) : xn_Met l yX2_init (.code yX2_init cX2_init 4 none :: ez_G) { frames := 2, cells := 3, slots := 192, locals := 60 } D cI [.ref h0, .ref rr, .ref ri, .ref rh] [(h0, .inr (2, [.null, .null, .null, .null, .null, .null, .int 0, .int 0, .int 0, .int 0, .int 0, .int 0, .int 0, .long 0, .long 0]))] sz (fun Y => ∃ qa qb qc : Nat, Y = [(h0, .inr (2, [.ref rr, .ref ri, .ref rh, .ref qa, .ref qb, .ref qc, .int 0, .int 0, .int 0, .int 0, .int 0, .int 0, .int 0, .long 0, .long 0])), (qa, .inl (cI, 64, .inl (fun _ => 0))), (qb, .inl (cI, 64, .inl (fun _ => 0))), (qc, .inl (cI, 64, .inl (fun _ => 0)))]) 3 192 := by
  refine xn_of (by decide) (Nat.le_of_ble_eq_true rfl) rfl ?_
  intro p e s m below meth c ls F hP hD hl
  obtain ⟨hx, hb, hml, hown, hG, hr, hlk, hin, hK⟩ := F
  have hA0 : ∀ q, s.heap.size ≤ q → va_A [(h0, .inr (2, [.null, .null, .null, .null, .null, .null, .int 0, .int 0, .int 0, .int 0, .int 0, .int 0, .int 0, .long 0, .long 0]))] s.heap.size q := fun q h => Or.inr h
  have hS : va_S (va_A [(h0, .inr (2, [.null, .null, .null, .null, .null, .null, .int 0, .int 0, .int 0, .int 0, .int 0, .int 0, .int 0, .long 0, .long 0]))] s.heap.size) s.heap s.heap [] := va_S.rf
  refine lv_aload_n hx hb dX2_0 rfl (lv_at hl 0 rfl) ?_
  refine lv_aload_n hx hb dX2_1 rfl (lv_at hl 1 rfl) ?_
  refine xn_call (D := D) (cI := cI) (Z1 := []) (X := [(h0, .inr (2, [.null, .null, .null, .null, .null, .null, .int 0, .int 0, .int 0, .int 0, .int 0, .int 0, .int 0, .long 0, .long 0]))]) (Z2 := []) (b := h0) (As := [.ref rr]) (n := 1) (rest := []) hx hb hml hown hG hK (fun sz => xn_6_2 l D cI h0 rr sz) rfl rfl xwc_6 xwi_6 xw2_3 xwm_6 rfl ⟨by decide, by decide, by decide +kernel⟩ ⟨by decide, by decide⟩ rfl hl.1 rfl (Nat.le_of_ble_eq_true rfl) dX2_2 ⟨by decide, by decide⟩ hS hA0 hP hD (fun Y H locs hY hP hD hS => ?_)
  obtain rfl := hY
  refine W.widen (k := 0) (n := 0) (by decide) (by decide) ?_
  have hP : va_P D vwCl [(h0, .inr (2, [.ref rr, .null, .null, .null, .null, .null, .int 0, .int 0, .int 0, .int 0, .int 0, .int 0, .int 0, .long 0, .long 0]))] H := hP
  have hD : va_D (va_A [(h0, .inr (2, [.null, .null, .null, .null, .null, .null, .int 0, .int 0, .int 0, .int 0, .int 0, .int 0, .int 0, .long 0, .long 0]))] s.heap.size) [(h0, .inr (2, [.ref rr, .null, .null, .null, .null, .null, .int 0, .int 0, .int 0, .int 0, .int 0, .int 0, .int 0, .long 0, .long 0]))] := hD
  refine lv_aload_n hx hb dX2_5 rfl (lv_at hl 0 rfl) ?_
  refine lv_aload_n hx hb dX2_6 rfl (lv_at hl 2 rfl) ?_
  refine va_putF (D := D) (ci := 2) (v := .ref ri) (ty := .object "SortBench$Inserting") (C := RX2) (T := TX2) (N := 15) hx hb hG (fun w hw => ez_in_G (ez_w2 w hw)) tyX2 tyX2_ok nmX2 hown hK hP hD hS 0 rfl rfl 1 (by decide) (hG _ (ez_in_G xw2_9)) (fun _ h9 => h9) rfl hin rfl (by decide +kernel) rfl rfl (Nat.le_of_ble_eq_true rfl) dX2_7 (fun H locs hP hD hS => ?_)
  have hP : va_P D vwCl [(h0, .inr (2, [.ref rr, .ref ri, .null, .null, .null, .null, .int 0, .int 0, .int 0, .int 0, .int 0, .int 0, .int 0, .long 0, .long 0]))] H := hP
  have hD : va_D (va_A [(h0, .inr (2, [.null, .null, .null, .null, .null, .null, .int 0, .int 0, .int 0, .int 0, .int 0, .int 0, .int 0, .long 0, .long 0]))] s.heap.size) [(h0, .inr (2, [.ref rr, .ref ri, .null, .null, .null, .null, .int 0, .int 0, .int 0, .int 0, .int 0, .int 0, .int 0, .long 0, .long 0]))] := hD
  refine lv_aload_n hx hb dX2_10 rfl (lv_at hl 0 rfl) ?_
  refine lv_aload_n hx hb dX2_11 rfl (lv_at hl 3 rfl) ?_
  refine va_putF (D := D) (ci := 2) (v := .ref rh) (ty := .object "SortBench$Heap") (C := RX2) (T := TX2) (N := 15) hx hb hG (fun w hw => ez_in_G (ez_w2 w hw)) tyX2 tyX2_ok nmX2 hown hK hP hD hS 0 rfl rfl 2 (by decide) (hG _ (ez_in_G xw2_15)) (fun _ h9 => h9) rfl hin rfl (by decide +kernel) rfl rfl (Nat.le_of_ble_eq_true rfl) dX2_12 (fun H locs hP hD hS => ?_)
  have hP : va_P D vwCl [(h0, .inr (2, [.ref rr, .ref ri, .ref rh, .null, .null, .null, .int 0, .int 0, .int 0, .int 0, .int 0, .int 0, .int 0, .long 0, .long 0]))] H := hP
  have hD : va_D (va_A [(h0, .inr (2, [.null, .null, .null, .null, .null, .null, .int 0, .int 0, .int 0, .int 0, .int 0, .int 0, .int 0, .long 0, .long 0]))] s.heap.size) [(h0, .inr (2, [.ref rr, .ref ri, .ref rh, .null, .null, .null, .int 0, .int 0, .int 0, .int 0, .int 0, .int 0, .int 0, .long 0, .long 0]))] := hD
  refine lv_aload_n hx hb dX2_15 rfl (lv_at hl 0 rfl) ?_
  refine lv_bipush hx hb dX2_16 (v := 64) rfl ?_
  refine xz_newI (n := 64) (N := 64) hx hb hG hK hP hD hS hA0 (by decide) rfl (by decide) (by decide) (by decide) dX2_18 (fun qa H hP hD hS => ?_)
  refine W.widen (k := 1) (n := 64) (by decide) (by decide) ?_
  have hP : va_P D vwCl [(h0, .inr (2, [.ref rr, .ref ri, .ref rh, .null, .null, .null, .int 0, .int 0, .int 0, .int 0, .int 0, .int 0, .int 0, .long 0, .long 0])), (qa, .inl (cI, 64, .inl (fun _ => 0)))] H := hP
  have hD : va_D (va_A [(h0, .inr (2, [.null, .null, .null, .null, .null, .null, .int 0, .int 0, .int 0, .int 0, .int 0, .int 0, .int 0, .long 0, .long 0]))] s.heap.size) [(h0, .inr (2, [.ref rr, .ref ri, .ref rh, .null, .null, .null, .int 0, .int 0, .int 0, .int 0, .int 0, .int 0, .int 0, .long 0, .long 0])), (qa, .inl (cI, 64, .inl (fun _ => 0)))] := hD
  refine va_putF (D := D) (ci := 2) (v := .ref qa) (ty := .array .int) (C := RX2) (T := TX2) (N := 15) hx hb hG (fun w hw => ez_in_G (ez_w2 w hw)) tyX2 tyX2_ok nmX2 hown hK hP hD hS 0 rfl rfl 3 (by decide) (hG _ (ez_in_G xw2_19)) (fun _ h9 => h9) rfl hin rfl (by decide +kernel) rfl rfl (Nat.le_of_ble_eq_true rfl) dX2_20 (fun H locs hP hD hS => ?_)
  have hP : va_P D vwCl [(h0, .inr (2, [.ref rr, .ref ri, .ref rh, .ref qa, .null, .null, .int 0, .int 0, .int 0, .int 0, .int 0, .int 0, .int 0, .long 0, .long 0])), (qa, .inl (cI, 64, .inl (fun _ => 0)))] H := hP
  have hD : va_D (va_A [(h0, .inr (2, [.null, .null, .null, .null, .null, .null, .int 0, .int 0, .int 0, .int 0, .int 0, .int 0, .int 0, .long 0, .long 0]))] s.heap.size) [(h0, .inr (2, [.ref rr, .ref ri, .ref rh, .ref qa, .null, .null, .int 0, .int 0, .int 0, .int 0, .int 0, .int 0, .int 0, .long 0, .long 0])), (qa, .inl (cI, 64, .inl (fun _ => 0)))] := hD
  refine lv_aload_n hx hb dX2_23 rfl (lv_at hl 0 rfl) ?_
  refine lv_bipush hx hb dX2_24 (v := 64) rfl ?_
  refine xz_newI (n := 64) (N := 64) hx hb hG hK hP hD hS hA0 (by decide) rfl (by decide) (by decide) (by decide) dX2_26 (fun qb H hP hD hS => ?_)
  refine W.widen (k := 2) (n := 128) (by decide) (by decide) ?_
  have hP : va_P D vwCl [(h0, .inr (2, [.ref rr, .ref ri, .ref rh, .ref qa, .null, .null, .int 0, .int 0, .int 0, .int 0, .int 0, .int 0, .int 0, .long 0, .long 0])), (qa, .inl (cI, 64, .inl (fun _ => 0))), (qb, .inl (cI, 64, .inl (fun _ => 0)))] H := hP
  have hD : va_D (va_A [(h0, .inr (2, [.null, .null, .null, .null, .null, .null, .int 0, .int 0, .int 0, .int 0, .int 0, .int 0, .int 0, .long 0, .long 0]))] s.heap.size) [(h0, .inr (2, [.ref rr, .ref ri, .ref rh, .ref qa, .null, .null, .int 0, .int 0, .int 0, .int 0, .int 0, .int 0, .int 0, .long 0, .long 0])), (qa, .inl (cI, 64, .inl (fun _ => 0))), (qb, .inl (cI, 64, .inl (fun _ => 0)))] := hD
  refine va_putF (D := D) (ci := 2) (v := .ref qb) (ty := .array .int) (C := RX2) (T := TX2) (N := 15) hx hb hG (fun w hw => ez_in_G (ez_w2 w hw)) tyX2 tyX2_ok nmX2 hown hK hP hD hS 0 rfl rfl 4 (by decide) (hG _ (ez_in_G xw2_23)) (fun _ h9 => h9) rfl hin rfl (by decide +kernel) rfl rfl (Nat.le_of_ble_eq_true rfl) dX2_28 (fun H locs hP hD hS => ?_)
  have hP : va_P D vwCl [(h0, .inr (2, [.ref rr, .ref ri, .ref rh, .ref qa, .ref qb, .null, .int 0, .int 0, .int 0, .int 0, .int 0, .int 0, .int 0, .long 0, .long 0])), (qa, .inl (cI, 64, .inl (fun _ => 0))), (qb, .inl (cI, 64, .inl (fun _ => 0)))] H := hP
  have hD : va_D (va_A [(h0, .inr (2, [.null, .null, .null, .null, .null, .null, .int 0, .int 0, .int 0, .int 0, .int 0, .int 0, .int 0, .long 0, .long 0]))] s.heap.size) [(h0, .inr (2, [.ref rr, .ref ri, .ref rh, .ref qa, .ref qb, .null, .int 0, .int 0, .int 0, .int 0, .int 0, .int 0, .int 0, .long 0, .long 0])), (qa, .inl (cI, 64, .inl (fun _ => 0))), (qb, .inl (cI, 64, .inl (fun _ => 0)))] := hD
  refine lv_aload_n hx hb dX2_31 rfl (lv_at hl 0 rfl) ?_
  refine lv_bipush hx hb dX2_32 (v := 64) rfl ?_
  refine xz_newI (n := 64) (N := 64) hx hb hG hK hP hD hS hA0 (by decide) rfl (by decide) (by decide) (by decide) dX2_34 (fun qc H hP hD hS => ?_)
  refine W.widen (k := 3) (n := 192) (by decide) (by decide) ?_
  have hP : va_P D vwCl [(h0, .inr (2, [.ref rr, .ref ri, .ref rh, .ref qa, .ref qb, .null, .int 0, .int 0, .int 0, .int 0, .int 0, .int 0, .int 0, .long 0, .long 0])), (qa, .inl (cI, 64, .inl (fun _ => 0))), (qb, .inl (cI, 64, .inl (fun _ => 0))), (qc, .inl (cI, 64, .inl (fun _ => 0)))] H := hP
  have hD : va_D (va_A [(h0, .inr (2, [.null, .null, .null, .null, .null, .null, .int 0, .int 0, .int 0, .int 0, .int 0, .int 0, .int 0, .long 0, .long 0]))] s.heap.size) [(h0, .inr (2, [.ref rr, .ref ri, .ref rh, .ref qa, .ref qb, .null, .int 0, .int 0, .int 0, .int 0, .int 0, .int 0, .int 0, .long 0, .long 0])), (qa, .inl (cI, 64, .inl (fun _ => 0))), (qb, .inl (cI, 64, .inl (fun _ => 0))), (qc, .inl (cI, 64, .inl (fun _ => 0)))] := hD
  refine va_putF (D := D) (ci := 2) (v := .ref qc) (ty := .array .int) (C := RX2) (T := TX2) (N := 15) hx hb hG (fun w hw => ez_in_G (ez_w2 w hw)) tyX2 tyX2_ok nmX2 hown hK hP hD hS 0 rfl rfl 5 (by decide) (hG _ (ez_in_G xw2_26)) (fun _ h9 => h9) rfl hin rfl (by decide +kernel) rfl rfl (Nat.le_of_ble_eq_true rfl) dX2_36 (fun H locs hP hD hS => ?_)
  have hP : va_P D vwCl [(h0, .inr (2, [.ref rr, .ref ri, .ref rh, .ref qa, .ref qb, .ref qc, .int 0, .int 0, .int 0, .int 0, .int 0, .int 0, .int 0, .long 0, .long 0])), (qa, .inl (cI, 64, .inl (fun _ => 0))), (qb, .inl (cI, 64, .inl (fun _ => 0))), (qc, .inl (cI, 64, .inl (fun _ => 0)))] H := hP
  have hD : va_D (va_A [(h0, .inr (2, [.null, .null, .null, .null, .null, .null, .int 0, .int 0, .int 0, .int 0, .int 0, .int 0, .int 0, .long 0, .long 0]))] s.heap.size) [(h0, .inr (2, [.ref rr, .ref ri, .ref rh, .ref qa, .ref qb, .ref qc, .int 0, .int 0, .int 0, .int 0, .int 0, .int 0, .int 0, .long 0, .long 0])), (qa, .inl (cI, 64, .inl (fun _ => 0))), (qb, .inl (cI, 64, .inl (fun _ => 0))), (qc, .inl (cI, 64, .inl (fun _ => 0)))] := hD
  refine W.widen (k := 3) (n := 192) (by decide) (by decide) ?_
  exact W.vret hx hb hr (fun t ht hW => ⟨⟨rfl, _, ⟨qa, qb, qc, rfl⟩, by rw [ht]; exact hP, hD⟩, hS.F ht⟩) (fun q hq => hS.2.2 q hq) dX2_39 hlk
theorem dX4_0 : decode cX4_init 0 = .ok (.aload_n 0, 1) := by decide +kernel
theorem dX4_1 : decode cX4_init 1 = .ok (.aload_n 1, 1) := by decide +kernel
theorem dX4_2 : decode cX4_init 2 = .ok (.invokespecial 3, 3) := by decide +kernel
theorem dX4_5 : decode cX4_init 5 = .ok (.aload_n 0, 1) := by decide +kernel
theorem dX4_6 : decode cX4_init 6 = .ok (.bipush 40, 2) := by decide +kernel
theorem dX4_8 : decode cX4_init 8 = .ok (.newarray .int, 2) := by decide +kernel
theorem dX4_10 : decode cX4_init 10 = .ok (.putfield 11, 3) := by decide +kernel
theorem dX4_13 : decode cX4_init 13 = .ok (.aload_n 0, 1) := by decide +kernel
theorem dX4_14 : decode cX4_init 14 = .ok (.bipush 40, 2) := by decide +kernel
theorem dX4_16 : decode cX4_init 16 = .ok (.newarray .int, 2) := by decide +kernel
theorem dX4_18 : decode cX4_init 18 = .ok (.putfield 15, 3) := by decide +kernel
theorem dX4_21 : decode cX4_init 21 = .ok (.aload_n 0, 1) := by decide +kernel
theorem dX4_22 : decode cX4_init 22 = .ok (.sipush 600, 3) := by decide +kernel
theorem dX4_25 : decode cX4_init 25 = .ok (.newarray .int, 2) := by decide +kernel
theorem dX4_27 : decode cX4_init 27 = .ok (.putfield 18, 3) := by decide +kernel
theorem dX4_30 : decode cX4_init 30 = .ok (.return_, 1) := by decide +kernel
theorem xw4_3 : ez_in (.methodLink RX4 3 yX6_init) = true := by decide +kernel
theorem xw4_11 : ez_in (.fieldLink RX4 11 "SortBench$Runs" "begins" "[I") = true := by decide +kernel
theorem xw4_15 : ez_in (.fieldLink RX4 15 "SortBench$Runs" "sizes" "[I") = true := by decide +kernel
theorem xw4_18 : ez_in (.fieldLink RX4 18 "SortBench$Runs" "spare" "[I") = true := by decide +kernel
set_option maxRecDepth 20000 in
theorem xn_4_4 (l : Launch) (D : va_G) (cI : ClassId) (h0 rr : Nat) (sz : Nat) : xn_Met l yX4_init (.code yX4_init cX4_init 2 none :: ez_G) { frames := 2, cells := 3, slots := 680, locals := 60 } D cI [.ref h0, .ref rr] [(h0, .inr (4, [.null, .null, .null, .null, .int 0, .long 0, .long 0]))] sz (fun Y => ∃ qa qb qc : Nat, Y = [(h0, .inr (4, [.ref rr, .ref qa, .ref qb, .ref qc, .int 0, .long 0, .long 0])), (qa, .inl (cI, 40, .inl (fun _ => 0))), (qb, .inl (cI, 40, .inl (fun _ => 0))), (qc, .inl (cI, 600, .inl (fun _ => 0)))]) 3 680 := by
  refine xn_of (by decide) (Nat.le_of_ble_eq_true rfl) rfl ?_
  intro p e s m below meth c ls F hP hD hl
  obtain ⟨hx, hb, hml, hown, hG, hr, hlk, hin, hK⟩ := F
  have hA0 : ∀ q, s.heap.size ≤ q → va_A [(h0, .inr (4, [.null, .null, .null, .null, .int 0, .long 0, .long 0]))] s.heap.size q := fun q h => Or.inr h
  have hS : va_S (va_A [(h0, .inr (4, [.null, .null, .null, .null, .int 0, .long 0, .long 0]))] s.heap.size) s.heap s.heap [] := va_S.rf
  refine lv_aload_n hx hb dX4_0 rfl (lv_at hl 0 rfl) ?_
  refine lv_aload_n hx hb dX4_1 rfl (lv_at hl 1 rfl) ?_
  refine xn_call (D := D) (cI := cI) (Z1 := []) (X := [(h0, .inr (4, [.null, .null, .null, .null, .int 0, .long 0, .long 0]))]) (Z2 := []) (b := h0) (As := [.ref rr]) (n := 1) (rest := []) hx hb hml hown hG hK (fun sz => xn_6_4 l D cI h0 rr sz) rfl rfl xwc_6 xwi_6 xw4_3 xwm_6 rfl ⟨by decide, by decide, by decide +kernel⟩ ⟨by decide, by decide⟩ rfl hl.1 rfl (Nat.le_of_ble_eq_true rfl) dX4_2 ⟨by decide, by decide⟩ hS hA0 hP hD (fun Y H locs hY hP hD hS => ?_)
  obtain rfl := hY
  refine W.widen (k := 0) (n := 0) (by decide) (by decide) ?_
  have hP : va_P D vwCl [(h0, .inr (4, [.ref rr, .null, .null, .null, .int 0, .long 0, .long 0]))] H := hP
  have hD : va_D (va_A [(h0, .inr (4, [.null, .null, .null, .null, .int 0, .long 0, .long 0]))] s.heap.size) [(h0, .inr (4, [.ref rr, .null, .null, .null, .int 0, .long 0, .long 0]))] := hD
  refine lv_aload_n hx hb dX4_5 rfl (lv_at hl 0 rfl) ?_
  refine lv_bipush hx hb dX4_6 (v := 40) rfl ?_
  refine xz_newI (n := 40) (N := 40) hx hb hG hK hP hD hS hA0 (by decide) rfl (by decide) (by decide) (by decide) dX4_8 (fun qa H hP hD hS => ?_)
  refine W.widen (k := 1) (n := 40) (by decide) (by decide) ?_
  have hP : va_P D vwCl [(h0, .inr (4, [.ref rr, .null, .null, .null, .int 0, .long 0, .long 0])), (qa, .inl (cI, 40, .inl (fun _ => 0)))] H := hP
  have hD : va_D (va_A [(h0, .inr (4, [.null, .null, .null, .null, .int 0, .long 0, .long 0]))] s.heap.size) [(h0, .inr (4, [.ref rr, .null, .null, .null, .int 0, .long 0, .long 0])), (qa, .inl (cI, 40, .inl (fun _ => 0)))] := hD
  refine va_putF (D := D) (ci := 4) (v := .ref qa) (ty := .array .int) (C := RX4) (T := TX4) (N := 7) hx hb hG (fun w hw => ez_in_G (ez_w4 w hw)) tyX4 tyX4_ok nmX4 hown hK hP hD hS 0 rfl rfl 1 (by decide) (hG _ (ez_in_G xw4_11)) (fun _ h9 => h9) rfl hin rfl (by decide +kernel) rfl rfl (Nat.le_of_ble_eq_true rfl) dX4_10 (fun H locs hP hD hS => ?_)
  have hP : va_P D vwCl [(h0, .inr (4, [.ref rr, .ref qa, .null, .null, .int 0, .long 0, .long 0])), (qa, .inl (cI, 40, .inl (fun _ => 0)))] H := hP
  have hD : va_D (va_A [(h0, .inr (4, [.null, .null, .null, .null, .int 0, .long 0, .long 0]))] s.heap.size) [(h0, .inr (4, [.ref rr, .ref qa, .null, .null, .int 0, .long 0, .long 0])), (qa, .inl (cI, 40, .inl (fun _ => 0)))] := hD
  refine lv_aload_n hx hb dX4_13 rfl (lv_at hl 0 rfl) ?_
  refine lv_bipush hx hb dX4_14 (v := 40) rfl ?_
  refine xz_newI (n := 40) (N := 40) hx hb hG hK hP hD hS hA0 (by decide) rfl (by decide) (by decide) (by decide) dX4_16 (fun qb H hP hD hS => ?_)
  refine W.widen (k := 2) (n := 80) (by decide) (by decide) ?_
  have hP : va_P D vwCl [(h0, .inr (4, [.ref rr, .ref qa, .null, .null, .int 0, .long 0, .long 0])), (qa, .inl (cI, 40, .inl (fun _ => 0))), (qb, .inl (cI, 40, .inl (fun _ => 0)))] H := hP
  have hD : va_D (va_A [(h0, .inr (4, [.null, .null, .null, .null, .int 0, .long 0, .long 0]))] s.heap.size) [(h0, .inr (4, [.ref rr, .ref qa, .null, .null, .int 0, .long 0, .long 0])), (qa, .inl (cI, 40, .inl (fun _ => 0))), (qb, .inl (cI, 40, .inl (fun _ => 0)))] := hD
  refine va_putF (D := D) (ci := 4) (v := .ref qb) (ty := .array .int) (C := RX4) (T := TX4) (N := 7) hx hb hG (fun w hw => ez_in_G (ez_w4 w hw)) tyX4 tyX4_ok nmX4 hown hK hP hD hS 0 rfl rfl 2 (by decide) (hG _ (ez_in_G xw4_15)) (fun _ h9 => h9) rfl hin rfl (by decide +kernel) rfl rfl (Nat.le_of_ble_eq_true rfl) dX4_18 (fun H locs hP hD hS => ?_)
  have hP : va_P D vwCl [(h0, .inr (4, [.ref rr, .ref qa, .ref qb, .null, .int 0, .long 0, .long 0])), (qa, .inl (cI, 40, .inl (fun _ => 0))), (qb, .inl (cI, 40, .inl (fun _ => 0)))] H := hP
  have hD : va_D (va_A [(h0, .inr (4, [.null, .null, .null, .null, .int 0, .long 0, .long 0]))] s.heap.size) [(h0, .inr (4, [.ref rr, .ref qa, .ref qb, .null, .int 0, .long 0, .long 0])), (qa, .inl (cI, 40, .inl (fun _ => 0))), (qb, .inl (cI, 40, .inl (fun _ => 0)))] := hD
  refine lv_aload_n hx hb dX4_21 rfl (lv_at hl 0 rfl) ?_
  refine lv_sipush hx hb dX4_22 (v := 600) rfl ?_
  refine xz_newI (n := 600) (N := 600) hx hb hG hK hP hD hS hA0 (by decide) rfl (by decide) (by decide) (by decide) dX4_25 (fun qc H hP hD hS => ?_)
  refine W.widen (k := 3) (n := 680) (by decide) (by decide) ?_
  have hP : va_P D vwCl [(h0, .inr (4, [.ref rr, .ref qa, .ref qb, .null, .int 0, .long 0, .long 0])), (qa, .inl (cI, 40, .inl (fun _ => 0))), (qb, .inl (cI, 40, .inl (fun _ => 0))), (qc, .inl (cI, 600, .inl (fun _ => 0)))] H := hP
  have hD : va_D (va_A [(h0, .inr (4, [.null, .null, .null, .null, .int 0, .long 0, .long 0]))] s.heap.size) [(h0, .inr (4, [.ref rr, .ref qa, .ref qb, .null, .int 0, .long 0, .long 0])), (qa, .inl (cI, 40, .inl (fun _ => 0))), (qb, .inl (cI, 40, .inl (fun _ => 0))), (qc, .inl (cI, 600, .inl (fun _ => 0)))] := hD
  refine va_putF (D := D) (ci := 4) (v := .ref qc) (ty := .array .int) (C := RX4) (T := TX4) (N := 7) hx hb hG (fun w hw => ez_in_G (ez_w4 w hw)) tyX4 tyX4_ok nmX4 hown hK hP hD hS 0 rfl rfl 3 (by decide) (hG _ (ez_in_G xw4_18)) (fun _ h9 => h9) rfl hin rfl (by decide +kernel) rfl rfl (Nat.le_of_ble_eq_true rfl) dX4_27 (fun H locs hP hD hS => ?_)
  have hP : va_P D vwCl [(h0, .inr (4, [.ref rr, .ref qa, .ref qb, .ref qc, .int 0, .long 0, .long 0])), (qa, .inl (cI, 40, .inl (fun _ => 0))), (qb, .inl (cI, 40, .inl (fun _ => 0))), (qc, .inl (cI, 600, .inl (fun _ => 0)))] H := hP
  have hD : va_D (va_A [(h0, .inr (4, [.null, .null, .null, .null, .int 0, .long 0, .long 0]))] s.heap.size) [(h0, .inr (4, [.ref rr, .ref qa, .ref qb, .ref qc, .int 0, .long 0, .long 0])), (qa, .inl (cI, 40, .inl (fun _ => 0))), (qb, .inl (cI, 40, .inl (fun _ => 0))), (qc, .inl (cI, 600, .inl (fun _ => 0)))] := hD
  refine W.widen (k := 3) (n := 680) (by decide) (by decide) ?_
  exact W.vret hx hb hr (fun t ht hW => ⟨⟨rfl, _, ⟨qa, qb, qc, rfl⟩, by rw [ht]; exact hP, hD⟩, hS.F ht⟩) (fun q hq => hS.2.2 q hq) dX4_30 hlk
theorem dX7_0 : decode cX7_init 0 = .ok (.aload_n 0, 1) := by decide +kernel
theorem dX7_1 : decode cX7_init 1 = .ok (.invokespecial 1, 3) := by decide +kernel
theorem dX7_4 : decode cX7_init 4 = .ok (.aload_n 0, 1) := by decide +kernel
theorem dX7_5 : decode cX7_init 5 = .ok (.new 7, 3) := by decide +kernel
theorem dX7_8 : decode cX7_init 8 = .ok (.dup, 1) := by decide +kernel
theorem dX7_9 : decode cX7_init 9 = .ok (.invokespecial 9, 3) := by decide +kernel
theorem dX7_12 : decode cX7_init 12 = .ok (.putfield 10, 3) := by decide +kernel
theorem dX7_15 : decode cX7_init 15 = .ok (.aload_n 0, 1) := by decide +kernel
theorem dX7_16 : decode cX7_init 16 = .ok (.new 16, 3) := by decide +kernel
theorem dX7_19 : decode cX7_init 19 = .ok (.dup, 1) := by decide +kernel
theorem dX7_20 : decode cX7_init 20 = .ok (.aload_n 0, 1) := by decide +kernel
theorem dX7_21 : decode cX7_init 21 = .ok (.getfield 10, 3) := by decide +kernel
theorem dX7_24 : decode cX7_init 24 = .ok (.invokespecial 18, 3) := by decide +kernel
theorem dX7_27 : decode cX7_init 27 = .ok (.putfield 21, 3) := by decide +kernel
theorem dX7_30 : decode cX7_init 30 = .ok (.aload_n 0, 1) := by decide +kernel
theorem dX7_31 : decode cX7_init 31 = .ok (.new 25, 3) := by decide +kernel
theorem dX7_34 : decode cX7_init 34 = .ok (.dup, 1) := by decide +kernel
theorem dX7_35 : decode cX7_init 35 = .ok (.aload_n 0, 1) := by decide +kernel
theorem dX7_36 : decode cX7_init 36 = .ok (.getfield 10, 3) := by decide +kernel
theorem dX7_39 : decode cX7_init 39 = .ok (.invokespecial 27, 3) := by decide +kernel
theorem dX7_42 : decode cX7_init 42 = .ok (.putfield 28, 3) := by decide +kernel
theorem dX7_45 : decode cX7_init 45 = .ok (.aload_n 0, 1) := by decide +kernel
theorem dX7_46 : decode cX7_init 46 = .ok (.new 32, 3) := by decide +kernel
theorem dX7_49 : decode cX7_init 49 = .ok (.dup, 1) := by decide +kernel
theorem dX7_50 : decode cX7_init 50 = .ok (.aload_n 0, 1) := by decide +kernel
theorem dX7_51 : decode cX7_init 51 = .ok (.getfield 10, 3) := by decide +kernel
theorem dX7_54 : decode cX7_init 54 = .ok (.aload_n 0, 1) := by decide +kernel
theorem dX7_55 : decode cX7_init 55 = .ok (.getfield 21, 3) := by decide +kernel
theorem dX7_58 : decode cX7_init 58 = .ok (.aload_n 0, 1) := by decide +kernel
theorem dX7_59 : decode cX7_init 59 = .ok (.getfield 28, 3) := by decide +kernel
theorem dX7_62 : decode cX7_init 62 = .ok (.invokespecial 34, 3) := by decide +kernel
theorem dX7_65 : decode cX7_init 65 = .ok (.putfield 37, 3) := by decide +kernel
theorem dX7_68 : decode cX7_init 68 = .ok (.aload_n 0, 1) := by decide +kernel
theorem dX7_69 : decode cX7_init 69 = .ok (.new 41, 3) := by decide +kernel
theorem dX7_72 : decode cX7_init 72 = .ok (.dup, 1) := by decide +kernel
theorem dX7_73 : decode cX7_init 73 = .ok (.aload_n 0, 1) := by decide +kernel
theorem dX7_74 : decode cX7_init 74 = .ok (.getfield 10, 3) := by decide +kernel
theorem dX7_77 : decode cX7_init 77 = .ok (.invokespecial 43, 3) := by decide +kernel
theorem dX7_80 : decode cX7_init 80 = .ok (.putfield 44, 3) := by decide +kernel
theorem dX7_83 : decode cX7_init 83 = .ok (.aload_n 0, 1) := by decide +kernel
theorem dX7_84 : decode cX7_init 84 = .ok (.new 48, 3) := by decide +kernel
theorem dX7_87 : decode cX7_init 87 = .ok (.dup, 1) := by decide +kernel
theorem dX7_88 : decode cX7_init 88 = .ok (.aload_n 0, 1) := by decide +kernel
theorem dX7_89 : decode cX7_init 89 = .ok (.getfield 10, 3) := by decide +kernel
theorem dX7_92 : decode cX7_init 92 = .ok (.invokespecial 50, 3) := by decide +kernel
theorem dX7_95 : decode cX7_init 95 = .ok (.putfield 51, 3) := by decide +kernel
theorem dX7_98 : decode cX7_init 98 = .ok (.return_, 1) := by decide +kernel
theorem xw7_1 : ez_in (.methodLink RX7 1 objectInit) = true := by decide +kernel
theorem xw7_7 : ez_in (.classLink RX7 7 RX3) = true := by decide +kernel
theorem xwn_3 : ez_in (.instantiable RX3 8) = true := by decide +kernel
theorem xwi_3 : ez_in (.initialized RX3) = true := by decide +kernel
theorem xw7_9 : ez_in (.methodLink RX7 9 yX3_init) = true := by decide +kernel
theorem xwc_3 : ez_in (.code yX3_init cX3_init 1 none) = true := by decide +kernel
theorem xwm_3 : ez_in (.instanceMethod yX3_init) = true := by decide +kernel
theorem xw7_10 : ez_in (.fieldLink RX7 10 "SortBench" "row" "LSortBench$Row;") = true := by decide +kernel
theorem xw7_16 : ez_in (.classLink RX7 16 RX1) = true := by decide +kernel
theorem xwn_1 : ez_in (.instantiable RX1 1) = true := by decide +kernel
theorem xwi_1 : ez_in (.initialized RX1) = true := by decide +kernel
theorem xw7_18 : ez_in (.methodLink RX7 18 yX1_init) = true := by decide +kernel
theorem xwc_1 : ez_in (.code yX1_init cX1_init 2 none) = true := by decide +kernel
theorem xwm_1 : ez_in (.instanceMethod yX1_init) = true := by decide +kernel
theorem xw7_21 : ez_in (.fieldLink RX7 21 "SortBench" "inserting" "LSortBench$Inserting;") = true := by decide +kernel
theorem xw7_25 : ez_in (.classLink RX7 25 RX0) = true := by decide +kernel
theorem xwn_0 : ez_in (.instantiable RX0 1) = true := by decide +kernel
theorem xwi_0 : ez_in (.initialized RX0) = true := by decide +kernel
theorem xw7_27 : ez_in (.methodLink RX7 27 yX0_init) = true := by decide +kernel
theorem xwc_0 : ez_in (.code yX0_init cX0_init 2 none) = true := by decide +kernel
theorem xwm_0 : ez_in (.instanceMethod yX0_init) = true := by decide +kernel
theorem xw7_28 : ez_in (.fieldLink RX7 28 "SortBench" "heap" "LSortBench$Heap;") = true := by decide +kernel
theorem xw7_32 : ez_in (.classLink RX7 32 RX2) = true := by decide +kernel
theorem xwn_2 : ez_in (.instantiable RX2 15) = true := by decide +kernel
theorem xwi_2 : ez_in (.initialized RX2) = true := by decide +kernel
theorem xw7_34 : ez_in (.methodLink RX7 34 yX2_init) = true := by decide +kernel
theorem xwc_2 : ez_in (.code yX2_init cX2_init 4 none) = true := by decide +kernel
theorem xwm_2 : ez_in (.instanceMethod yX2_init) = true := by decide +kernel
theorem xw7_37 : ez_in (.fieldLink RX7 37 "SortBench" "quick" "LSortBench$Quick;") = true := by decide +kernel
theorem xw7_41 : ez_in (.classLink RX7 41 RX4) = true := by decide +kernel
theorem xwn_4 : ez_in (.instantiable RX4 7) = true := by decide +kernel
theorem xwi_4 : ez_in (.initialized RX4) = true := by decide +kernel
theorem xw7_43 : ez_in (.methodLink RX7 43 yX4_init) = true := by decide +kernel
theorem xwc_4 : ez_in (.code yX4_init cX4_init 2 none) = true := by decide +kernel
theorem xwm_4 : ez_in (.instanceMethod yX4_init) = true := by decide +kernel
theorem xw7_44 : ez_in (.fieldLink RX7 44 "SortBench" "runs" "LSortBench$Runs;") = true := by decide +kernel
theorem xw7_48 : ez_in (.classLink RX7 48 RX5) = true := by decide +kernel
theorem xwn_5 : ez_in (.instantiable RX5 1) = true := by decide +kernel
theorem xwi_5 : ez_in (.initialized RX5) = true := by decide +kernel
theorem xw7_50 : ez_in (.methodLink RX7 50 yX5_init) = true := by decide +kernel
theorem xwc_5 : ez_in (.code yX5_init cX5_init 2 none) = true := by decide +kernel
theorem xwm_5 : ez_in (.instanceMethod yX5_init) = true := by decide +kernel
theorem xw7_51 : ez_in (.fieldLink RX7 51 "SortBench" "steps" "LSortBench$Steps;") = true := by decide +kernel
set_option maxRecDepth 20000 in
theorem xn_7_7 (l : Launch) (D : va_G) (cI : ClassId) (h0 : Nat) (sz : Nat) : xn_Met l yX7_init (.code yX7_init cX7_init 1 none :: ez_G) { frames := 3, cells := 14, slots := 2105, locals := 100 } D cI [.ref h0] [(h0, .inr (6, [.null, .null, .null, .null, .null, .null, .long 0, .long 0, .long 0, .long 0]))] sz (fun Y => ∃ qr qn qt qi qh qk qf qo qb qu qs qz qp qe : Nat, Y = [(h0, .inr (6, [.ref qr, .ref qi, .ref qh, .ref qk, .ref qu, .ref qe, .long 0, .long 0, .long 0, .long 0])), (qr, .inr (3, [.ref qn, .ref qt, .int 0, .int 0, .long 0, .int 0, .int (-1), .int 0])), (qn, .inl (cI, 600, .inl (fun _ => 0))), (qt, .inl (cI, 600, .inl (fun _ => 0))), (qi, .inr (1, [.ref qr])), (qh, .inr (0, [.ref qr])), (qk, .inr (2, [.ref qr, .ref qi, .ref qh, .ref qf, .ref qo, .ref qb, .int 0, .int 0, .int 0, .int 0, .int 0, .int 0, .int 0, .long 0, .long 0])), (qf, .inl (cI, 64, .inl (fun _ => 0))), (qo, .inl (cI, 64, .inl (fun _ => 0))), (qb, .inl (cI, 64, .inl (fun _ => 0))), (qu, .inr (4, [.ref qr, .ref qs, .ref qz, .ref qp, .int 0, .long 0, .long 0])), (qs, .inl (cI, 40, .inl (fun _ => 0))), (qz, .inl (cI, 40, .inl (fun _ => 0))), (qp, .inl (cI, 600, .inl (fun _ => 0))), (qe, .inr (5, [.ref qr]))]) 14 2105 := by
  refine xn_of (by decide) (Nat.le_of_ble_eq_true rfl) rfl ?_
  intro p e s m below meth c ls F hP hD hl
  obtain ⟨hx, hb, hml, hown, hG, hr, hlk, hin, hK⟩ := F
  have hA0 : ∀ q, s.heap.size ≤ q → va_A [(h0, .inr (6, [.null, .null, .null, .null, .null, .null, .long 0, .long 0, .long 0, .long 0]))] s.heap.size q := fun q h => Or.inr h
  have hS : va_S (va_A [(h0, .inr (6, [.null, .null, .null, .null, .null, .null, .long 0, .long 0, .long 0, .long 0]))] s.heap.size) s.heap s.heap [] := va_S.rf
  refine lv_aload_n hx hb dX7_0 rfl (lv_at hl 0 rfl) ?_
  refine W.objInit hx hb hown (hG _ (ez_in_G xw7_1)) (hG _ (ez_in_G xwo_i)) (hG _ (ez_in_G xwo_c)) rfl (by rw [hml]; exact hl.1) rfl dX7_1 (Nat.le_of_ble_eq_true rfl) (Nat.le_of_ble_eq_true rfl) ?_
  refine W.eq (g2 := F0 m 4 ls []) rfl ?_
  refine lv_aload_n hx hb dX7_4 rfl (lv_at hl 0 rfl) ?_
  refine va_new (ci := 3) (fs := [.null, .null, .int 0, .int 0, .long 0, .int 0, .int 0, .int 0]) (C := RX3) (T := TX3) (N := 8) hx hb hG (fun w hw => ez_in_G (ez_w3 w hw)) tyX3 tyX3_ok hown (hG _ (ez_in_G xw7_7)) (hG _ (ez_in_G xwn_3)) (hG _ (ez_in_G xwi_3)) hK hP hD hS hA0 rfl (fun j hj => by rcases (show j = 0 ∨ j = 1 ∨ j = 2 ∨ j = 3 ∨ j = 4 ∨ j = 5 ∨ j = 6 ∨ j = 7 by omega) with rfl | rfl | rfl | rfl | rfl | rfl | rfl | rfl <;> rfl) (by decide) (by decide) dX7_5 (fun qr H hP hD hS => ?_)
  refine W.widen (k := 1) (n := 8) (by decide) (by decide) ?_
  have hP : va_P D vwCl [(h0, .inr (6, [.null, .null, .null, .null, .null, .null, .long 0, .long 0, .long 0, .long 0])), (qr, .inr (3, [.null, .null, .int 0, .int 0, .long 0, .int 0, .int 0, .int 0]))] H := hP
  have hD : va_D (va_A [(h0, .inr (6, [.null, .null, .null, .null, .null, .null, .long 0, .long 0, .long 0, .long 0]))] s.heap.size) [(h0, .inr (6, [.null, .null, .null, .null, .null, .null, .long 0, .long 0, .long 0, .long 0])), (qr, .inr (3, [.null, .null, .int 0, .int 0, .long 0, .int 0, .int 0, .int 0]))] := hD
  refine lv_dup hx hb dX7_8 rfl ?_
  refine xn_call (D := D) (cI := cI) (Z1 := [(h0, .inr (6, [.null, .null, .null, .null, .null, .null, .long 0, .long 0, .long 0, .long 0]))]) (X := [(qr, .inr (3, [.null, .null, .int 0, .int 0, .long 0, .int 0, .int 0, .int 0]))]) (Z2 := []) (b := qr) (As := []) (n := 0) (rest := [.ref qr, .ref h0]) hx hb hml hown hG hK (fun sz => xn_3_3 l D cI qr sz) rfl rfl xwc_3 xwi_3 xw7_9 xwm_3 rfl ⟨by decide, by decide, by decide +kernel⟩ ⟨by decide, by decide⟩ rfl hl.1 rfl (Nat.le_of_ble_eq_true rfl) dX7_9 ⟨by decide, by decide⟩ hS hA0 hP hD (fun Y H locs hY hP hD hS => ?_)
  obtain ⟨qn, qt, rfl⟩ := hY
  refine W.widen (k := 3) (n := 1208) (by decide) (by decide) ?_
  have hP : va_P D vwCl [(h0, .inr (6, [.null, .null, .null, .null, .null, .null, .long 0, .long 0, .long 0, .long 0])), (qr, .inr (3, [.ref qn, .ref qt, .int 0, .int 0, .long 0, .int 0, .int (-1), .int 0])), (qn, .inl (cI, 600, .inl (fun _ => 0))), (qt, .inl (cI, 600, .inl (fun _ => 0)))] H := hP
  have hD : va_D (va_A [(h0, .inr (6, [.null, .null, .null, .null, .null, .null, .long 0, .long 0, .long 0, .long 0]))] s.heap.size) [(h0, .inr (6, [.null, .null, .null, .null, .null, .null, .long 0, .long 0, .long 0, .long 0])), (qr, .inr (3, [.ref qn, .ref qt, .int 0, .int 0, .long 0, .int 0, .int (-1), .int 0])), (qn, .inl (cI, 600, .inl (fun _ => 0))), (qt, .inl (cI, 600, .inl (fun _ => 0)))] := hD
  refine va_putF (D := D) (ci := 6) (v := .ref qr) (ty := .object "SortBench$Row") (C := RX7) (T := TX7) (N := 10) hx hb hG (fun w hw => ez_in_G (ez_w6 w hw)) tyX7 tyX7_ok nmX7 hown hK hP hD hS 0 rfl rfl 0 (by decide) (hG _ (ez_in_G xw7_10)) (fun _ h9 => h9) rfl hin rfl (by decide +kernel) rfl rfl (Nat.le_of_ble_eq_true rfl) dX7_12 (fun H locs hP hD hS => ?_)
  have hP : va_P D vwCl [(h0, .inr (6, [.ref qr, .null, .null, .null, .null, .null, .long 0, .long 0, .long 0, .long 0])), (qr, .inr (3, [.ref qn, .ref qt, .int 0, .int 0, .long 0, .int 0, .int (-1), .int 0])), (qn, .inl (cI, 600, .inl (fun _ => 0))), (qt, .inl (cI, 600, .inl (fun _ => 0)))] H := hP
  have hD : va_D (va_A [(h0, .inr (6, [.null, .null, .null, .null, .null, .null, .long 0, .long 0, .long 0, .long 0]))] s.heap.size) [(h0, .inr (6, [.ref qr, .null, .null, .null, .null, .null, .long 0, .long 0, .long 0, .long 0])), (qr, .inr (3, [.ref qn, .ref qt, .int 0, .int 0, .long 0, .int 0, .int (-1), .int 0])), (qn, .inl (cI, 600, .inl (fun _ => 0))), (qt, .inl (cI, 600, .inl (fun _ => 0)))] := hD
  refine lv_aload_n hx hb dX7_15 rfl (lv_at hl 0 rfl) ?_
  refine va_new (ci := 1) (fs := [.null]) (C := RX1) (T := TX1) (N := 1) hx hb hG (fun w hw => ez_in_G (ez_w1 w hw)) tyX1 tyX1_ok hown (hG _ (ez_in_G xw7_16)) (hG _ (ez_in_G xwn_1)) (hG _ (ez_in_G xwi_1)) hK hP hD hS hA0 rfl (fun j hj => by rcases (show j = 0 by omega) with rfl <;> rfl) (by decide) (by decide) dX7_16 (fun qi H hP hD hS => ?_)
  refine W.widen (k := 4) (n := 1209) (by decide) (by decide) ?_
  have hP : va_P D vwCl [(h0, .inr (6, [.ref qr, .null, .null, .null, .null, .null, .long 0, .long 0, .long 0, .long 0])), (qr, .inr (3, [.ref qn, .ref qt, .int 0, .int 0, .long 0, .int 0, .int (-1), .int 0])), (qn, .inl (cI, 600, .inl (fun _ => 0))), (qt, .inl (cI, 600, .inl (fun _ => 0))), (qi, .inr (1, [.null]))] H := hP
  have hD : va_D (va_A [(h0, .inr (6, [.null, .null, .null, .null, .null, .null, .long 0, .long 0, .long 0, .long 0]))] s.heap.size) [(h0, .inr (6, [.ref qr, .null, .null, .null, .null, .null, .long 0, .long 0, .long 0, .long 0])), (qr, .inr (3, [.ref qn, .ref qt, .int 0, .int 0, .long 0, .int 0, .int (-1), .int 0])), (qn, .inl (cI, 600, .inl (fun _ => 0))), (qt, .inl (cI, 600, .inl (fun _ => 0))), (qi, .inr (1, [.null]))] := hD
  refine lv_dup hx hb dX7_19 rfl ?_
  refine lv_aload_n hx hb dX7_20 rfl (lv_at hl 0 rfl) ?_
  refine va_get (D := D) (ci := 6) (C := RX7) (T := TX7) (N := 10) hx hb hG (fun w hw => ez_in_G (ez_w6 w hw)) hown hK hP 0 rfl rfl 0 (by decide) (hG _ (ez_in_G xw7_10)) (fun _ h9 => h9) (v := .ref qr) rfl dX7_21 ?_
  refine xn_call (D := D) (cI := cI) (Z1 := [(h0, .inr (6, [.ref qr, .null, .null, .null, .null, .null, .long 0, .long 0, .long 0, .long 0])), (qr, .inr (3, [.ref qn, .ref qt, .int 0, .int 0, .long 0, .int 0, .int (-1), .int 0])), (qn, .inl (cI, 600, .inl (fun _ => 0))), (qt, .inl (cI, 600, .inl (fun _ => 0)))]) (X := [(qi, .inr (1, [.null]))]) (Z2 := []) (b := qi) (As := [.ref qr]) (n := 1) (rest := [.ref qi, .ref h0]) hx hb hml hown hG hK (fun sz => xn_1_1 l D cI qi qr sz) rfl rfl xwc_1 xwi_1 xw7_18 xwm_1 rfl ⟨by decide, by decide, by decide +kernel⟩ ⟨by decide, by decide⟩ rfl hl.1 rfl (Nat.le_of_ble_eq_true rfl) dX7_24 ⟨by decide, by decide⟩ hS hA0 hP hD (fun Y H locs hY hP hD hS => ?_)
  obtain rfl := hY
  refine W.widen (k := 4) (n := 1209) (by decide) (by decide) ?_
  have hP : va_P D vwCl [(h0, .inr (6, [.ref qr, .null, .null, .null, .null, .null, .long 0, .long 0, .long 0, .long 0])), (qr, .inr (3, [.ref qn, .ref qt, .int 0, .int 0, .long 0, .int 0, .int (-1), .int 0])), (qn, .inl (cI, 600, .inl (fun _ => 0))), (qt, .inl (cI, 600, .inl (fun _ => 0))), (qi, .inr (1, [.ref qr]))] H := hP
  have hD : va_D (va_A [(h0, .inr (6, [.null, .null, .null, .null, .null, .null, .long 0, .long 0, .long 0, .long 0]))] s.heap.size) [(h0, .inr (6, [.ref qr, .null, .null, .null, .null, .null, .long 0, .long 0, .long 0, .long 0])), (qr, .inr (3, [.ref qn, .ref qt, .int 0, .int 0, .long 0, .int 0, .int (-1), .int 0])), (qn, .inl (cI, 600, .inl (fun _ => 0))), (qt, .inl (cI, 600, .inl (fun _ => 0))), (qi, .inr (1, [.ref qr]))] := hD
  refine va_putF (D := D) (ci := 6) (v := .ref qi) (ty := .object "SortBench$Inserting") (C := RX7) (T := TX7) (N := 10) hx hb hG (fun w hw => ez_in_G (ez_w6 w hw)) tyX7 tyX7_ok nmX7 hown hK hP hD hS 0 rfl rfl 1 (by decide) (hG _ (ez_in_G xw7_21)) (fun _ h9 => h9) rfl hin rfl (by decide +kernel) rfl rfl (Nat.le_of_ble_eq_true rfl) dX7_27 (fun H locs hP hD hS => ?_)
  have hP : va_P D vwCl [(h0, .inr (6, [.ref qr, .ref qi, .null, .null, .null, .null, .long 0, .long 0, .long 0, .long 0])), (qr, .inr (3, [.ref qn, .ref qt, .int 0, .int 0, .long 0, .int 0, .int (-1), .int 0])), (qn, .inl (cI, 600, .inl (fun _ => 0))), (qt, .inl (cI, 600, .inl (fun _ => 0))), (qi, .inr (1, [.ref qr]))] H := hP
  have hD : va_D (va_A [(h0, .inr (6, [.null, .null, .null, .null, .null, .null, .long 0, .long 0, .long 0, .long 0]))] s.heap.size) [(h0, .inr (6, [.ref qr, .ref qi, .null, .null, .null, .null, .long 0, .long 0, .long 0, .long 0])), (qr, .inr (3, [.ref qn, .ref qt, .int 0, .int 0, .long 0, .int 0, .int (-1), .int 0])), (qn, .inl (cI, 600, .inl (fun _ => 0))), (qt, .inl (cI, 600, .inl (fun _ => 0))), (qi, .inr (1, [.ref qr]))] := hD
  refine lv_aload_n hx hb dX7_30 rfl (lv_at hl 0 rfl) ?_
  refine va_new (ci := 0) (fs := [.null]) (C := RX0) (T := TX0) (N := 1) hx hb hG (fun w hw => ez_in_G (ez_w0 w hw)) tyX0 tyX0_ok hown (hG _ (ez_in_G xw7_25)) (hG _ (ez_in_G xwn_0)) (hG _ (ez_in_G xwi_0)) hK hP hD hS hA0 rfl (fun j hj => by rcases (show j = 0 by omega) with rfl <;> rfl) (by decide) (by decide) dX7_31 (fun qh H hP hD hS => ?_)
  refine W.widen (k := 5) (n := 1210) (by decide) (by decide) ?_
  have hP : va_P D vwCl [(h0, .inr (6, [.ref qr, .ref qi, .null, .null, .null, .null, .long 0, .long 0, .long 0, .long 0])), (qr, .inr (3, [.ref qn, .ref qt, .int 0, .int 0, .long 0, .int 0, .int (-1), .int 0])), (qn, .inl (cI, 600, .inl (fun _ => 0))), (qt, .inl (cI, 600, .inl (fun _ => 0))), (qi, .inr (1, [.ref qr])), (qh, .inr (0, [.null]))] H := hP
  have hD : va_D (va_A [(h0, .inr (6, [.null, .null, .null, .null, .null, .null, .long 0, .long 0, .long 0, .long 0]))] s.heap.size) [(h0, .inr (6, [.ref qr, .ref qi, .null, .null, .null, .null, .long 0, .long 0, .long 0, .long 0])), (qr, .inr (3, [.ref qn, .ref qt, .int 0, .int 0, .long 0, .int 0, .int (-1), .int 0])), (qn, .inl (cI, 600, .inl (fun _ => 0))), (qt, .inl (cI, 600, .inl (fun _ => 0))), (qi, .inr (1, [.ref qr])), (qh, .inr (0, [.null]))] := hD
  refine lv_dup hx hb dX7_34 rfl ?_
  refine lv_aload_n hx hb dX7_35 rfl (lv_at hl 0 rfl) ?_
  refine va_get (D := D) (ci := 6) (C := RX7) (T := TX7) (N := 10) hx hb hG (fun w hw => ez_in_G (ez_w6 w hw)) hown hK hP 0 rfl rfl 0 (by decide) (hG _ (ez_in_G xw7_10)) (fun _ h9 => h9) (v := .ref qr) rfl dX7_36 ?_
  refine xn_call (D := D) (cI := cI) (Z1 := [(h0, .inr (6, [.ref qr, .ref qi, .null, .null, .null, .null, .long 0, .long 0, .long 0, .long 0])), (qr, .inr (3, [.ref qn, .ref qt, .int 0, .int 0, .long 0, .int 0, .int (-1), .int 0])), (qn, .inl (cI, 600, .inl (fun _ => 0))), (qt, .inl (cI, 600, .inl (fun _ => 0))), (qi, .inr (1, [.ref qr]))]) (X := [(qh, .inr (0, [.null]))]) (Z2 := []) (b := qh) (As := [.ref qr]) (n := 1) (rest := [.ref qh, .ref h0]) hx hb hml hown hG hK (fun sz => xn_0_0 l D cI qh qr sz) rfl rfl xwc_0 xwi_0 xw7_27 xwm_0 rfl ⟨by decide, by decide, by decide +kernel⟩ ⟨by decide, by decide⟩ rfl hl.1 rfl (Nat.le_of_ble_eq_true rfl) dX7_39 ⟨by decide, by decide⟩ hS hA0 hP hD (fun Y H locs hY hP hD hS => ?_)
  obtain rfl := hY
  refine W.widen (k := 5) (n := 1210) (by decide) (by decide) ?_
  have hP : va_P D vwCl [(h0, .inr (6, [.ref qr, .ref qi, .null, .null, .null, .null, .long 0, .long 0, .long 0, .long 0])), (qr, .inr (3, [.ref qn, .ref qt, .int 0, .int 0, .long 0, .int 0, .int (-1), .int 0])), (qn, .inl (cI, 600, .inl (fun _ => 0))), (qt, .inl (cI, 600, .inl (fun _ => 0))), (qi, .inr (1, [.ref qr])), (qh, .inr (0, [.ref qr]))] H := hP
  have hD : va_D (va_A [(h0, .inr (6, [.null, .null, .null, .null, .null, .null, .long 0, .long 0, .long 0, .long 0]))] s.heap.size) [(h0, .inr (6, [.ref qr, .ref qi, .null, .null, .null, .null, .long 0, .long 0, .long 0, .long 0])), (qr, .inr (3, [.ref qn, .ref qt, .int 0, .int 0, .long 0, .int 0, .int (-1), .int 0])), (qn, .inl (cI, 600, .inl (fun _ => 0))), (qt, .inl (cI, 600, .inl (fun _ => 0))), (qi, .inr (1, [.ref qr])), (qh, .inr (0, [.ref qr]))] := hD
  refine va_putF (D := D) (ci := 6) (v := .ref qh) (ty := .object "SortBench$Heap") (C := RX7) (T := TX7) (N := 10) hx hb hG (fun w hw => ez_in_G (ez_w6 w hw)) tyX7 tyX7_ok nmX7 hown hK hP hD hS 0 rfl rfl 2 (by decide) (hG _ (ez_in_G xw7_28)) (fun _ h9 => h9) rfl hin rfl (by decide +kernel) rfl rfl (Nat.le_of_ble_eq_true rfl) dX7_42 (fun H locs hP hD hS => ?_)
  have hP : va_P D vwCl [(h0, .inr (6, [.ref qr, .ref qi, .ref qh, .null, .null, .null, .long 0, .long 0, .long 0, .long 0])), (qr, .inr (3, [.ref qn, .ref qt, .int 0, .int 0, .long 0, .int 0, .int (-1), .int 0])), (qn, .inl (cI, 600, .inl (fun _ => 0))), (qt, .inl (cI, 600, .inl (fun _ => 0))), (qi, .inr (1, [.ref qr])), (qh, .inr (0, [.ref qr]))] H := hP
  have hD : va_D (va_A [(h0, .inr (6, [.null, .null, .null, .null, .null, .null, .long 0, .long 0, .long 0, .long 0]))] s.heap.size) [(h0, .inr (6, [.ref qr, .ref qi, .ref qh, .null, .null, .null, .long 0, .long 0, .long 0, .long 0])), (qr, .inr (3, [.ref qn, .ref qt, .int 0, .int 0, .long 0, .int 0, .int (-1), .int 0])), (qn, .inl (cI, 600, .inl (fun _ => 0))), (qt, .inl (cI, 600, .inl (fun _ => 0))), (qi, .inr (1, [.ref qr])), (qh, .inr (0, [.ref qr]))] := hD
  refine lv_aload_n hx hb dX7_45 rfl (lv_at hl 0 rfl) ?_
  refine va_new (ci := 2) (fs := [.null, .null, .null, .null, .null, .null, .int 0, .int 0, .int 0, .int 0, .int 0, .int 0, .int 0, .long 0, .long 0]) (C := RX2) (T := TX2) (N := 15) hx hb hG (fun w hw => ez_in_G (ez_w2 w hw)) tyX2 tyX2_ok hown (hG _ (ez_in_G xw7_32)) (hG _ (ez_in_G xwn_2)) (hG _ (ez_in_G xwi_2)) hK hP hD hS hA0 rfl (fun j hj => by rcases (show j = 0 ∨ j = 1 ∨ j = 2 ∨ j = 3 ∨ j = 4 ∨ j = 5 ∨ j = 6 ∨ j = 7 ∨ j = 8 ∨ j = 9 ∨ j = 10 ∨ j = 11 ∨ j = 12 ∨ j = 13 ∨ j = 14 by omega) with rfl | rfl | rfl | rfl | rfl | rfl | rfl | rfl | rfl | rfl | rfl | rfl | rfl | rfl | rfl <;> rfl) (by decide) (by decide) dX7_46 (fun qk H hP hD hS => ?_)
  refine W.widen (k := 6) (n := 1225) (by decide) (by decide) ?_
  have hP : va_P D vwCl [(h0, .inr (6, [.ref qr, .ref qi, .ref qh, .null, .null, .null, .long 0, .long 0, .long 0, .long 0])), (qr, .inr (3, [.ref qn, .ref qt, .int 0, .int 0, .long 0, .int 0, .int (-1), .int 0])), (qn, .inl (cI, 600, .inl (fun _ => 0))), (qt, .inl (cI, 600, .inl (fun _ => 0))), (qi, .inr (1, [.ref qr])), (qh, .inr (0, [.ref qr])), (qk, .inr (2, [.null, .null, .null, .null, .null, .null, .int 0, .int 0, .int 0, .int 0, .int 0, .int 0, .int 0, .long 0, .long 0]))] H := hP
  have hD : va_D (va_A [(h0, .inr (6, [.null, .null, .null, .null, .null, .null, .long 0, .long 0, .long 0, .long 0]))] s.heap.size) [(h0, .inr (6, [.ref qr, .ref qi, .ref qh, .null, .null, .null, .long 0, .long 0, .long 0, .long 0])), (qr, .inr (3, [.ref qn, .ref qt, .int 0, .int 0, .long 0, .int 0, .int (-1), .int 0])), (qn, .inl (cI, 600, .inl (fun _ => 0))), (qt, .inl (cI, 600, .inl (fun _ => 0))), (qi, .inr (1, [.ref qr])), (qh, .inr (0, [.ref qr])), (qk, .inr (2, [.null, .null, .null, .null, .null, .null, .int 0, .int 0, .int 0, .int 0, .int 0, .int 0, .int 0, .long 0, .long 0]))] := hD
  refine lv_dup hx hb dX7_49 rfl ?_
  refine lv_aload_n hx hb dX7_50 rfl (lv_at hl 0 rfl) ?_
  refine va_get (D := D) (ci := 6) (C := RX7) (T := TX7) (N := 10) hx hb hG (fun w hw => ez_in_G (ez_w6 w hw)) hown hK hP 0 rfl rfl 0 (by decide) (hG _ (ez_in_G xw7_10)) (fun _ h9 => h9) (v := .ref qr) rfl dX7_51 ?_
  refine lv_aload_n hx hb dX7_54 rfl (lv_at hl 0 rfl) ?_
  refine va_get (D := D) (ci := 6) (C := RX7) (T := TX7) (N := 10) hx hb hG (fun w hw => ez_in_G (ez_w6 w hw)) hown hK hP 0 rfl rfl 1 (by decide) (hG _ (ez_in_G xw7_21)) (fun _ h9 => h9) (v := .ref qi) rfl dX7_55 ?_
  refine lv_aload_n hx hb dX7_58 rfl (lv_at hl 0 rfl) ?_
  refine va_get (D := D) (ci := 6) (C := RX7) (T := TX7) (N := 10) hx hb hG (fun w hw => ez_in_G (ez_w6 w hw)) hown hK hP 0 rfl rfl 2 (by decide) (hG _ (ez_in_G xw7_28)) (fun _ h9 => h9) (v := .ref qh) rfl dX7_59 ?_
  refine xn_call (D := D) (cI := cI) (Z1 := [(h0, .inr (6, [.ref qr, .ref qi, .ref qh, .null, .null, .null, .long 0, .long 0, .long 0, .long 0])), (qr, .inr (3, [.ref qn, .ref qt, .int 0, .int 0, .long 0, .int 0, .int (-1), .int 0])), (qn, .inl (cI, 600, .inl (fun _ => 0))), (qt, .inl (cI, 600, .inl (fun _ => 0))), (qi, .inr (1, [.ref qr])), (qh, .inr (0, [.ref qr]))]) (X := [(qk, .inr (2, [.null, .null, .null, .null, .null, .null, .int 0, .int 0, .int 0, .int 0, .int 0, .int 0, .int 0, .long 0, .long 0]))]) (Z2 := []) (b := qk) (As := [.ref qr, .ref qi, .ref qh]) (n := 3) (rest := [.ref qk, .ref h0]) hx hb hml hown hG hK (fun sz => xn_2_2 l D cI qk qr qi qh sz) rfl rfl xwc_2 xwi_2 xw7_34 xwm_2 rfl ⟨by decide, by decide, by decide +kernel⟩ ⟨by decide, by decide⟩ rfl hl.1 rfl (Nat.le_of_ble_eq_true rfl) dX7_62 ⟨by decide, by decide⟩ hS hA0 hP hD (fun Y H locs hY hP hD hS => ?_)
  obtain ⟨qf, qo, qb, rfl⟩ := hY
  refine W.widen (k := 9) (n := 1417) (by decide) (by decide) ?_
  have hP : va_P D vwCl [(h0, .inr (6, [.ref qr, .ref qi, .ref qh, .null, .null, .null, .long 0, .long 0, .long 0, .long 0])), (qr, .inr (3, [.ref qn, .ref qt, .int 0, .int 0, .long 0, .int 0, .int (-1), .int 0])), (qn, .inl (cI, 600, .inl (fun _ => 0))), (qt, .inl (cI, 600, .inl (fun _ => 0))), (qi, .inr (1, [.ref qr])), (qh, .inr (0, [.ref qr])), (qk, .inr (2, [.ref qr, .ref qi, .ref qh, .ref qf, .ref qo, .ref qb, .int 0, .int 0, .int 0, .int 0, .int 0, .int 0, .int 0, .long 0, .long 0])), (qf, .inl (cI, 64, .inl (fun _ => 0))), (qo, .inl (cI, 64, .inl (fun _ => 0))), (qb, .inl (cI, 64, .inl (fun _ => 0)))] H := hP
  have hD : va_D (va_A [(h0, .inr (6, [.null, .null, .null, .null, .null, .null, .long 0, .long 0, .long 0, .long 0]))] s.heap.size) [(h0, .inr (6, [.ref qr, .ref qi, .ref qh, .null, .null, .null, .long 0, .long 0, .long 0, .long 0])), (qr, .inr (3, [.ref qn, .ref qt, .int 0, .int 0, .long 0, .int 0, .int (-1), .int 0])), (qn, .inl (cI, 600, .inl (fun _ => 0))), (qt, .inl (cI, 600, .inl (fun _ => 0))), (qi, .inr (1, [.ref qr])), (qh, .inr (0, [.ref qr])), (qk, .inr (2, [.ref qr, .ref qi, .ref qh, .ref qf, .ref qo, .ref qb, .int 0, .int 0, .int 0, .int 0, .int 0, .int 0, .int 0, .long 0, .long 0])), (qf, .inl (cI, 64, .inl (fun _ => 0))), (qo, .inl (cI, 64, .inl (fun _ => 0))), (qb, .inl (cI, 64, .inl (fun _ => 0)))] := hD
  refine va_putF (D := D) (ci := 6) (v := .ref qk) (ty := .object "SortBench$Quick") (C := RX7) (T := TX7) (N := 10) hx hb hG (fun w hw => ez_in_G (ez_w6 w hw)) tyX7 tyX7_ok nmX7 hown hK hP hD hS 0 rfl rfl 3 (by decide) (hG _ (ez_in_G xw7_37)) (fun _ h9 => h9) rfl hin rfl (by decide +kernel) rfl rfl (Nat.le_of_ble_eq_true rfl) dX7_65 (fun H locs hP hD hS => ?_)
  have hP : va_P D vwCl [(h0, .inr (6, [.ref qr, .ref qi, .ref qh, .ref qk, .null, .null, .long 0, .long 0, .long 0, .long 0])), (qr, .inr (3, [.ref qn, .ref qt, .int 0, .int 0, .long 0, .int 0, .int (-1), .int 0])), (qn, .inl (cI, 600, .inl (fun _ => 0))), (qt, .inl (cI, 600, .inl (fun _ => 0))), (qi, .inr (1, [.ref qr])), (qh, .inr (0, [.ref qr])), (qk, .inr (2, [.ref qr, .ref qi, .ref qh, .ref qf, .ref qo, .ref qb, .int 0, .int 0, .int 0, .int 0, .int 0, .int 0, .int 0, .long 0, .long 0])), (qf, .inl (cI, 64, .inl (fun _ => 0))), (qo, .inl (cI, 64, .inl (fun _ => 0))), (qb, .inl (cI, 64, .inl (fun _ => 0)))] H := hP
  have hD : va_D (va_A [(h0, .inr (6, [.null, .null, .null, .null, .null, .null, .long 0, .long 0, .long 0, .long 0]))] s.heap.size) [(h0, .inr (6, [.ref qr, .ref qi, .ref qh, .ref qk, .null, .null, .long 0, .long 0, .long 0, .long 0])), (qr, .inr (3, [.ref qn, .ref qt, .int 0, .int 0, .long 0, .int 0, .int (-1), .int 0])), (qn, .inl (cI, 600, .inl (fun _ => 0))), (qt, .inl (cI, 600, .inl (fun _ => 0))), (qi, .inr (1, [.ref qr])), (qh, .inr (0, [.ref qr])), (qk, .inr (2, [.ref qr, .ref qi, .ref qh, .ref qf, .ref qo, .ref qb, .int 0, .int 0, .int 0, .int 0, .int 0, .int 0, .int 0, .long 0, .long 0])), (qf, .inl (cI, 64, .inl (fun _ => 0))), (qo, .inl (cI, 64, .inl (fun _ => 0))), (qb, .inl (cI, 64, .inl (fun _ => 0)))] := hD
  refine lv_aload_n hx hb dX7_68 rfl (lv_at hl 0 rfl) ?_
  refine va_new (ci := 4) (fs := [.null, .null, .null, .null, .int 0, .long 0, .long 0]) (C := RX4) (T := TX4) (N := 7) hx hb hG (fun w hw => ez_in_G (ez_w4 w hw)) tyX4 tyX4_ok hown (hG _ (ez_in_G xw7_41)) (hG _ (ez_in_G xwn_4)) (hG _ (ez_in_G xwi_4)) hK hP hD hS hA0 rfl (fun j hj => by rcases (show j = 0 ∨ j = 1 ∨ j = 2 ∨ j = 3 ∨ j = 4 ∨ j = 5 ∨ j = 6 by omega) with rfl | rfl | rfl | rfl | rfl | rfl | rfl <;> rfl) (by decide) (by decide) dX7_69 (fun qu H hP hD hS => ?_)
  refine W.widen (k := 10) (n := 1424) (by decide) (by decide) ?_
  have hP : va_P D vwCl [(h0, .inr (6, [.ref qr, .ref qi, .ref qh, .ref qk, .null, .null, .long 0, .long 0, .long 0, .long 0])), (qr, .inr (3, [.ref qn, .ref qt, .int 0, .int 0, .long 0, .int 0, .int (-1), .int 0])), (qn, .inl (cI, 600, .inl (fun _ => 0))), (qt, .inl (cI, 600, .inl (fun _ => 0))), (qi, .inr (1, [.ref qr])), (qh, .inr (0, [.ref qr])), (qk, .inr (2, [.ref qr, .ref qi, .ref qh, .ref qf, .ref qo, .ref qb, .int 0, .int 0, .int 0, .int 0, .int 0, .int 0, .int 0, .long 0, .long 0])), (qf, .inl (cI, 64, .inl (fun _ => 0))), (qo, .inl (cI, 64, .inl (fun _ => 0))), (qb, .inl (cI, 64, .inl (fun _ => 0))), (qu, .inr (4, [.null, .null, .null, .null, .int 0, .long 0, .long 0]))] H := hP
  have hD : va_D (va_A [(h0, .inr (6, [.null, .null, .null, .null, .null, .null, .long 0, .long 0, .long 0, .long 0]))] s.heap.size) [(h0, .inr (6, [.ref qr, .ref qi, .ref qh, .ref qk, .null, .null, .long 0, .long 0, .long 0, .long 0])), (qr, .inr (3, [.ref qn, .ref qt, .int 0, .int 0, .long 0, .int 0, .int (-1), .int 0])), (qn, .inl (cI, 600, .inl (fun _ => 0))), (qt, .inl (cI, 600, .inl (fun _ => 0))), (qi, .inr (1, [.ref qr])), (qh, .inr (0, [.ref qr])), (qk, .inr (2, [.ref qr, .ref qi, .ref qh, .ref qf, .ref qo, .ref qb, .int 0, .int 0, .int 0, .int 0, .int 0, .int 0, .int 0, .long 0, .long 0])), (qf, .inl (cI, 64, .inl (fun _ => 0))), (qo, .inl (cI, 64, .inl (fun _ => 0))), (qb, .inl (cI, 64, .inl (fun _ => 0))), (qu, .inr (4, [.null, .null, .null, .null, .int 0, .long 0, .long 0]))] := hD
  refine lv_dup hx hb dX7_72 rfl ?_
  refine lv_aload_n hx hb dX7_73 rfl (lv_at hl 0 rfl) ?_
  refine va_get (D := D) (ci := 6) (C := RX7) (T := TX7) (N := 10) hx hb hG (fun w hw => ez_in_G (ez_w6 w hw)) hown hK hP 0 rfl rfl 0 (by decide) (hG _ (ez_in_G xw7_10)) (fun _ h9 => h9) (v := .ref qr) rfl dX7_74 ?_
  refine xn_call (D := D) (cI := cI) (Z1 := [(h0, .inr (6, [.ref qr, .ref qi, .ref qh, .ref qk, .null, .null, .long 0, .long 0, .long 0, .long 0])), (qr, .inr (3, [.ref qn, .ref qt, .int 0, .int 0, .long 0, .int 0, .int (-1), .int 0])), (qn, .inl (cI, 600, .inl (fun _ => 0))), (qt, .inl (cI, 600, .inl (fun _ => 0))), (qi, .inr (1, [.ref qr])), (qh, .inr (0, [.ref qr])), (qk, .inr (2, [.ref qr, .ref qi, .ref qh, .ref qf, .ref qo, .ref qb, .int 0, .int 0, .int 0, .int 0, .int 0, .int 0, .int 0, .long 0, .long 0])), (qf, .inl (cI, 64, .inl (fun _ => 0))), (qo, .inl (cI, 64, .inl (fun _ => 0))), (qb, .inl (cI, 64, .inl (fun _ => 0)))]) (X := [(qu, .inr (4, [.null, .null, .null, .null, .int 0, .long 0, .long 0]))]) (Z2 := []) (b := qu) (As := [.ref qr]) (n := 1) (rest := [.ref qu, .ref h0]) hx hb hml hown hG hK (fun sz => xn_4_4 l D cI qu qr sz) rfl rfl xwc_4 xwi_4 xw7_43 xwm_4 rfl ⟨by decide, by decide, by decide +kernel⟩ ⟨by decide, by decide⟩ rfl hl.1 rfl (Nat.le_of_ble_eq_true rfl) dX7_77 ⟨by decide, by decide⟩ hS hA0 hP hD (fun Y H locs hY hP hD hS => ?_)
  obtain ⟨qs, qz, qp, rfl⟩ := hY
  refine W.widen (k := 13) (n := 2104) (by decide) (by decide) ?_
  have hP : va_P D vwCl [(h0, .inr (6, [.ref qr, .ref qi, .ref qh, .ref qk, .null, .null, .long 0, .long 0, .long 0, .long 0])), (qr, .inr (3, [.ref qn, .ref qt, .int 0, .int 0, .long 0, .int 0, .int (-1), .int 0])), (qn, .inl (cI, 600, .inl (fun _ => 0))), (qt, .inl (cI, 600, .inl (fun _ => 0))), (qi, .inr (1, [.ref qr])), (qh, .inr (0, [.ref qr])), (qk, .inr (2, [.ref qr, .ref qi, .ref qh, .ref qf, .ref qo, .ref qb, .int 0, .int 0, .int 0, .int 0, .int 0, .int 0, .int 0, .long 0, .long 0])), (qf, .inl (cI, 64, .inl (fun _ => 0))), (qo, .inl (cI, 64, .inl (fun _ => 0))), (qb, .inl (cI, 64, .inl (fun _ => 0))), (qu, .inr (4, [.ref qr, .ref qs, .ref qz, .ref qp, .int 0, .long 0, .long 0])), (qs, .inl (cI, 40, .inl (fun _ => 0))), (qz, .inl (cI, 40, .inl (fun _ => 0))), (qp, .inl (cI, 600, .inl (fun _ => 0)))] H := hP
  have hD : va_D (va_A [(h0, .inr (6, [.null, .null, .null, .null, .null, .null, .long 0, .long 0, .long 0, .long 0]))] s.heap.size) [(h0, .inr (6, [.ref qr, .ref qi, .ref qh, .ref qk, .null, .null, .long 0, .long 0, .long 0, .long 0])), (qr, .inr (3, [.ref qn, .ref qt, .int 0, .int 0, .long 0, .int 0, .int (-1), .int 0])), (qn, .inl (cI, 600, .inl (fun _ => 0))), (qt, .inl (cI, 600, .inl (fun _ => 0))), (qi, .inr (1, [.ref qr])), (qh, .inr (0, [.ref qr])), (qk, .inr (2, [.ref qr, .ref qi, .ref qh, .ref qf, .ref qo, .ref qb, .int 0, .int 0, .int 0, .int 0, .int 0, .int 0, .int 0, .long 0, .long 0])), (qf, .inl (cI, 64, .inl (fun _ => 0))), (qo, .inl (cI, 64, .inl (fun _ => 0))), (qb, .inl (cI, 64, .inl (fun _ => 0))), (qu, .inr (4, [.ref qr, .ref qs, .ref qz, .ref qp, .int 0, .long 0, .long 0])), (qs, .inl (cI, 40, .inl (fun _ => 0))), (qz, .inl (cI, 40, .inl (fun _ => 0))), (qp, .inl (cI, 600, .inl (fun _ => 0)))] := hD
  refine va_putF (D := D) (ci := 6) (v := .ref qu) (ty := .object "SortBench$Runs") (C := RX7) (T := TX7) (N := 10) hx hb hG (fun w hw => ez_in_G (ez_w6 w hw)) tyX7 tyX7_ok nmX7 hown hK hP hD hS 0 rfl rfl 4 (by decide) (hG _ (ez_in_G xw7_44)) (fun _ h9 => h9) rfl hin rfl (by decide +kernel) rfl rfl (Nat.le_of_ble_eq_true rfl) dX7_80 (fun H locs hP hD hS => ?_)
  have hP : va_P D vwCl [(h0, .inr (6, [.ref qr, .ref qi, .ref qh, .ref qk, .ref qu, .null, .long 0, .long 0, .long 0, .long 0])), (qr, .inr (3, [.ref qn, .ref qt, .int 0, .int 0, .long 0, .int 0, .int (-1), .int 0])), (qn, .inl (cI, 600, .inl (fun _ => 0))), (qt, .inl (cI, 600, .inl (fun _ => 0))), (qi, .inr (1, [.ref qr])), (qh, .inr (0, [.ref qr])), (qk, .inr (2, [.ref qr, .ref qi, .ref qh, .ref qf, .ref qo, .ref qb, .int 0, .int 0, .int 0, .int 0, .int 0, .int 0, .int 0, .long 0, .long 0])), (qf, .inl (cI, 64, .inl (fun _ => 0))), (qo, .inl (cI, 64, .inl (fun _ => 0))), (qb, .inl (cI, 64, .inl (fun _ => 0))), (qu, .inr (4, [.ref qr, .ref qs, .ref qz, .ref qp, .int 0, .long 0, .long 0])), (qs, .inl (cI, 40, .inl (fun _ => 0))), (qz, .inl (cI, 40, .inl (fun _ => 0))), (qp, .inl (cI, 600, .inl (fun _ => 0)))] H := hP
  have hD : va_D (va_A [(h0, .inr (6, [.null, .null, .null, .null, .null, .null, .long 0, .long 0, .long 0, .long 0]))] s.heap.size) [(h0, .inr (6, [.ref qr, .ref qi, .ref qh, .ref qk, .ref qu, .null, .long 0, .long 0, .long 0, .long 0])), (qr, .inr (3, [.ref qn, .ref qt, .int 0, .int 0, .long 0, .int 0, .int (-1), .int 0])), (qn, .inl (cI, 600, .inl (fun _ => 0))), (qt, .inl (cI, 600, .inl (fun _ => 0))), (qi, .inr (1, [.ref qr])), (qh, .inr (0, [.ref qr])), (qk, .inr (2, [.ref qr, .ref qi, .ref qh, .ref qf, .ref qo, .ref qb, .int 0, .int 0, .int 0, .int 0, .int 0, .int 0, .int 0, .long 0, .long 0])), (qf, .inl (cI, 64, .inl (fun _ => 0))), (qo, .inl (cI, 64, .inl (fun _ => 0))), (qb, .inl (cI, 64, .inl (fun _ => 0))), (qu, .inr (4, [.ref qr, .ref qs, .ref qz, .ref qp, .int 0, .long 0, .long 0])), (qs, .inl (cI, 40, .inl (fun _ => 0))), (qz, .inl (cI, 40, .inl (fun _ => 0))), (qp, .inl (cI, 600, .inl (fun _ => 0)))] := hD
  refine lv_aload_n hx hb dX7_83 rfl (lv_at hl 0 rfl) ?_
  refine va_new (ci := 5) (fs := [.null]) (C := RX5) (T := TX5) (N := 1) hx hb hG (fun w hw => ez_in_G (ez_w5 w hw)) tyX5 tyX5_ok hown (hG _ (ez_in_G xw7_48)) (hG _ (ez_in_G xwn_5)) (hG _ (ez_in_G xwi_5)) hK hP hD hS hA0 rfl (fun j hj => by rcases (show j = 0 by omega) with rfl <;> rfl) (by decide) (by decide) dX7_84 (fun qe H hP hD hS => ?_)
  refine W.widen (k := 14) (n := 2105) (by decide) (by decide) ?_
  have hP : va_P D vwCl [(h0, .inr (6, [.ref qr, .ref qi, .ref qh, .ref qk, .ref qu, .null, .long 0, .long 0, .long 0, .long 0])), (qr, .inr (3, [.ref qn, .ref qt, .int 0, .int 0, .long 0, .int 0, .int (-1), .int 0])), (qn, .inl (cI, 600, .inl (fun _ => 0))), (qt, .inl (cI, 600, .inl (fun _ => 0))), (qi, .inr (1, [.ref qr])), (qh, .inr (0, [.ref qr])), (qk, .inr (2, [.ref qr, .ref qi, .ref qh, .ref qf, .ref qo, .ref qb, .int 0, .int 0, .int 0, .int 0, .int 0, .int 0, .int 0, .long 0, .long 0])), (qf, .inl (cI, 64, .inl (fun _ => 0))), (qo, .inl (cI, 64, .inl (fun _ => 0))), (qb, .inl (cI, 64, .inl (fun _ => 0))), (qu, .inr (4, [.ref qr, .ref qs, .ref qz, .ref qp, .int 0, .long 0, .long 0])), (qs, .inl (cI, 40, .inl (fun _ => 0))), (qz, .inl (cI, 40, .inl (fun _ => 0))), (qp, .inl (cI, 600, .inl (fun _ => 0))), (qe, .inr (5, [.null]))] H := hP
  have hD : va_D (va_A [(h0, .inr (6, [.null, .null, .null, .null, .null, .null, .long 0, .long 0, .long 0, .long 0]))] s.heap.size) [(h0, .inr (6, [.ref qr, .ref qi, .ref qh, .ref qk, .ref qu, .null, .long 0, .long 0, .long 0, .long 0])), (qr, .inr (3, [.ref qn, .ref qt, .int 0, .int 0, .long 0, .int 0, .int (-1), .int 0])), (qn, .inl (cI, 600, .inl (fun _ => 0))), (qt, .inl (cI, 600, .inl (fun _ => 0))), (qi, .inr (1, [.ref qr])), (qh, .inr (0, [.ref qr])), (qk, .inr (2, [.ref qr, .ref qi, .ref qh, .ref qf, .ref qo, .ref qb, .int 0, .int 0, .int 0, .int 0, .int 0, .int 0, .int 0, .long 0, .long 0])), (qf, .inl (cI, 64, .inl (fun _ => 0))), (qo, .inl (cI, 64, .inl (fun _ => 0))), (qb, .inl (cI, 64, .inl (fun _ => 0))), (qu, .inr (4, [.ref qr, .ref qs, .ref qz, .ref qp, .int 0, .long 0, .long 0])), (qs, .inl (cI, 40, .inl (fun _ => 0))), (qz, .inl (cI, 40, .inl (fun _ => 0))), (qp, .inl (cI, 600, .inl (fun _ => 0))), (qe, .inr (5, [.null]))] := hD
  refine lv_dup hx hb dX7_87 rfl ?_
  refine lv_aload_n hx hb dX7_88 rfl (lv_at hl 0 rfl) ?_
  refine va_get (D := D) (ci := 6) (C := RX7) (T := TX7) (N := 10) hx hb hG (fun w hw => ez_in_G (ez_w6 w hw)) hown hK hP 0 rfl rfl 0 (by decide) (hG _ (ez_in_G xw7_10)) (fun _ h9 => h9) (v := .ref qr) rfl dX7_89 ?_
  refine xn_call (D := D) (cI := cI) (Z1 := [(h0, .inr (6, [.ref qr, .ref qi, .ref qh, .ref qk, .ref qu, .null, .long 0, .long 0, .long 0, .long 0])), (qr, .inr (3, [.ref qn, .ref qt, .int 0, .int 0, .long 0, .int 0, .int (-1), .int 0])), (qn, .inl (cI, 600, .inl (fun _ => 0))), (qt, .inl (cI, 600, .inl (fun _ => 0))), (qi, .inr (1, [.ref qr])), (qh, .inr (0, [.ref qr])), (qk, .inr (2, [.ref qr, .ref qi, .ref qh, .ref qf, .ref qo, .ref qb, .int 0, .int 0, .int 0, .int 0, .int 0, .int 0, .int 0, .long 0, .long 0])), (qf, .inl (cI, 64, .inl (fun _ => 0))), (qo, .inl (cI, 64, .inl (fun _ => 0))), (qb, .inl (cI, 64, .inl (fun _ => 0))), (qu, .inr (4, [.ref qr, .ref qs, .ref qz, .ref qp, .int 0, .long 0, .long 0])), (qs, .inl (cI, 40, .inl (fun _ => 0))), (qz, .inl (cI, 40, .inl (fun _ => 0))), (qp, .inl (cI, 600, .inl (fun _ => 0)))]) (X := [(qe, .inr (5, [.null]))]) (Z2 := []) (b := qe) (As := [.ref qr]) (n := 1) (rest := [.ref qe, .ref h0]) hx hb hml hown hG hK (fun sz => xn_5_5 l D cI qe qr sz) rfl rfl xwc_5 xwi_5 xw7_50 xwm_5 rfl ⟨by decide, by decide, by decide +kernel⟩ ⟨by decide, by decide⟩ rfl hl.1 rfl (Nat.le_of_ble_eq_true rfl) dX7_92 ⟨by decide, by decide⟩ hS hA0 hP hD (fun Y H locs hY hP hD hS => ?_)
  obtain rfl := hY
  refine W.widen (k := 14) (n := 2105) (by decide) (by decide) ?_
  have hP : va_P D vwCl [(h0, .inr (6, [.ref qr, .ref qi, .ref qh, .ref qk, .ref qu, .null, .long 0, .long 0, .long 0, .long 0])), (qr, .inr (3, [.ref qn, .ref qt, .int 0, .int 0, .long 0, .int 0, .int (-1), .int 0])), (qn, .inl (cI, 600, .inl (fun _ => 0))), (qt, .inl (cI, 600, .inl (fun _ => 0))), (qi, .inr (1, [.ref qr])), (qh, .inr (0, [.ref qr])), (qk, .inr (2, [.ref qr, .ref qi, .ref qh, .ref qf, .ref qo, .ref qb, .int 0, .int 0, .int 0, .int 0, .int 0, .int 0, .int 0, .long 0, .long 0])), (qf, .inl (cI, 64, .inl (fun _ => 0))), (qo, .inl (cI, 64, .inl (fun _ => 0))), (qb, .inl (cI, 64, .inl (fun _ => 0))), (qu, .inr (4, [.ref qr, .ref qs, .ref qz, .ref qp, .int 0, .long 0, .long 0])), (qs, .inl (cI, 40, .inl (fun _ => 0))), (qz, .inl (cI, 40, .inl (fun _ => 0))), (qp, .inl (cI, 600, .inl (fun _ => 0))), (qe, .inr (5, [.ref qr]))] H := hP
  have hD : va_D (va_A [(h0, .inr (6, [.null, .null, .null, .null, .null, .null, .long 0, .long 0, .long 0, .long 0]))] s.heap.size) [(h0, .inr (6, [.ref qr, .ref qi, .ref qh, .ref qk, .ref qu, .null, .long 0, .long 0, .long 0, .long 0])), (qr, .inr (3, [.ref qn, .ref qt, .int 0, .int 0, .long 0, .int 0, .int (-1), .int 0])), (qn, .inl (cI, 600, .inl (fun _ => 0))), (qt, .inl (cI, 600, .inl (fun _ => 0))), (qi, .inr (1, [.ref qr])), (qh, .inr (0, [.ref qr])), (qk, .inr (2, [.ref qr, .ref qi, .ref qh, .ref qf, .ref qo, .ref qb, .int 0, .int 0, .int 0, .int 0, .int 0, .int 0, .int 0, .long 0, .long 0])), (qf, .inl (cI, 64, .inl (fun _ => 0))), (qo, .inl (cI, 64, .inl (fun _ => 0))), (qb, .inl (cI, 64, .inl (fun _ => 0))), (qu, .inr (4, [.ref qr, .ref qs, .ref qz, .ref qp, .int 0, .long 0, .long 0])), (qs, .inl (cI, 40, .inl (fun _ => 0))), (qz, .inl (cI, 40, .inl (fun _ => 0))), (qp, .inl (cI, 600, .inl (fun _ => 0))), (qe, .inr (5, [.ref qr]))] := hD
  refine va_putF (D := D) (ci := 6) (v := .ref qe) (ty := .object "SortBench$Steps") (C := RX7) (T := TX7) (N := 10) hx hb hG (fun w hw => ez_in_G (ez_w6 w hw)) tyX7 tyX7_ok nmX7 hown hK hP hD hS 0 rfl rfl 5 (by decide) (hG _ (ez_in_G xw7_51)) (fun _ h9 => h9) rfl hin rfl (by decide +kernel) rfl rfl (Nat.le_of_ble_eq_true rfl) dX7_95 (fun H locs hP hD hS => ?_)
  have hP : va_P D vwCl [(h0, .inr (6, [.ref qr, .ref qi, .ref qh, .ref qk, .ref qu, .ref qe, .long 0, .long 0, .long 0, .long 0])), (qr, .inr (3, [.ref qn, .ref qt, .int 0, .int 0, .long 0, .int 0, .int (-1), .int 0])), (qn, .inl (cI, 600, .inl (fun _ => 0))), (qt, .inl (cI, 600, .inl (fun _ => 0))), (qi, .inr (1, [.ref qr])), (qh, .inr (0, [.ref qr])), (qk, .inr (2, [.ref qr, .ref qi, .ref qh, .ref qf, .ref qo, .ref qb, .int 0, .int 0, .int 0, .int 0, .int 0, .int 0, .int 0, .long 0, .long 0])), (qf, .inl (cI, 64, .inl (fun _ => 0))), (qo, .inl (cI, 64, .inl (fun _ => 0))), (qb, .inl (cI, 64, .inl (fun _ => 0))), (qu, .inr (4, [.ref qr, .ref qs, .ref qz, .ref qp, .int 0, .long 0, .long 0])), (qs, .inl (cI, 40, .inl (fun _ => 0))), (qz, .inl (cI, 40, .inl (fun _ => 0))), (qp, .inl (cI, 600, .inl (fun _ => 0))), (qe, .inr (5, [.ref qr]))] H := hP
  have hD : va_D (va_A [(h0, .inr (6, [.null, .null, .null, .null, .null, .null, .long 0, .long 0, .long 0, .long 0]))] s.heap.size) [(h0, .inr (6, [.ref qr, .ref qi, .ref qh, .ref qk, .ref qu, .ref qe, .long 0, .long 0, .long 0, .long 0])), (qr, .inr (3, [.ref qn, .ref qt, .int 0, .int 0, .long 0, .int 0, .int (-1), .int 0])), (qn, .inl (cI, 600, .inl (fun _ => 0))), (qt, .inl (cI, 600, .inl (fun _ => 0))), (qi, .inr (1, [.ref qr])), (qh, .inr (0, [.ref qr])), (qk, .inr (2, [.ref qr, .ref qi, .ref qh, .ref qf, .ref qo, .ref qb, .int 0, .int 0, .int 0, .int 0, .int 0, .int 0, .int 0, .long 0, .long 0])), (qf, .inl (cI, 64, .inl (fun _ => 0))), (qo, .inl (cI, 64, .inl (fun _ => 0))), (qb, .inl (cI, 64, .inl (fun _ => 0))), (qu, .inr (4, [.ref qr, .ref qs, .ref qz, .ref qp, .int 0, .long 0, .long 0])), (qs, .inl (cI, 40, .inl (fun _ => 0))), (qz, .inl (cI, 40, .inl (fun _ => 0))), (qp, .inl (cI, 600, .inl (fun _ => 0))), (qe, .inr (5, [.ref qr]))] := hD
  refine W.widen (k := 14) (n := 2105) (by decide) (by decide) ?_
  exact W.vret hx hb hr (fun t ht hW => ⟨⟨rfl, _, ⟨qr, qn, qt, qi, qh, qk, qf, qo, qb, qu, qs, qz, qp, qe, rfl⟩, by rw [ht]; exact hP, hD⟩, hS.F ht⟩) (fun q hq => hS.2.2 q hq) dX7_98 hlk
theorem dX8_0 : decode cX8_init 0 = .ok (.aload_n 0, 1) := by decide +kernel
theorem dX8_1 : decode cX8_init 1 = .ok (.invokespecial 1, 3) := by decide +kernel
theorem dX8_4 : decode cX8_init 4 = .ok (.aload_n 0, 1) := by decide +kernel
theorem dX8_5 : decode cX8_init 5 = .ok (.sipush 600, 3) := by decide +kernel
theorem dX8_8 : decode cX8_init 8 = .ok (.newarray .int, 2) := by decide +kernel
theorem dX8_10 : decode cX8_init 10 = .ok (.putfield 7, 3) := by decide +kernel
theorem dX8_13 : decode cX8_init 13 = .ok (.aload_n 0, 1) := by decide +kernel
theorem dX8_14 : decode cX8_init 14 = .ok (.sipush 600, 3) := by decide +kernel
theorem dX8_17 : decode cX8_init 17 = .ok (.newarray .int, 2) := by decide +kernel
theorem dX8_19 : decode cX8_init 19 = .ok (.putfield 13, 3) := by decide +kernel
theorem dX8_22 : decode cX8_init 22 = .ok (.aload_n 0, 1) := by decide +kernel
theorem dX8_23 : decode cX8_init 23 = .ok (.sipush 600, 3) := by decide +kernel
theorem dX8_26 : decode cX8_init 26 = .ok (.newarray .int, 2) := by decide +kernel
theorem dX8_28 : decode cX8_init 28 = .ok (.putfield 16, 3) := by decide +kernel
theorem dX8_31 : decode cX8_init 31 = .ok (.aload_n 0, 1) := by decide +kernel
theorem dX8_32 : decode cX8_init 32 = .ok (.sipush 600, 3) := by decide +kernel
theorem dX8_35 : decode cX8_init 35 = .ok (.newarray .int, 2) := by decide +kernel
theorem dX8_37 : decode cX8_init 37 = .ok (.putfield 19, 3) := by decide +kernel
theorem dX8_40 : decode cX8_init 40 = .ok (.aload_n 0, 1) := by decide +kernel
theorem dX8_41 : decode cX8_init 41 = .ok (.sipush 600, 3) := by decide +kernel
theorem dX8_44 : decode cX8_init 44 = .ok (.newarray .int, 2) := by decide +kernel
theorem dX8_46 : decode cX8_init 46 = .ok (.putfield 22, 3) := by decide +kernel
theorem dX8_49 : decode cX8_init 49 = .ok (.aload_n 0, 1) := by decide +kernel
theorem dX8_50 : decode cX8_init 50 = .ok (.sipush 600, 3) := by decide +kernel
theorem dX8_53 : decode cX8_init 53 = .ok (.newarray .int, 2) := by decide +kernel
theorem dX8_55 : decode cX8_init 55 = .ok (.putfield 25, 3) := by decide +kernel
theorem dX8_58 : decode cX8_init 58 = .ok (.aload_n 0, 1) := by decide +kernel
theorem dX8_59 : decode cX8_init 59 = .ok (.sipush 600, 3) := by decide +kernel
theorem dX8_62 : decode cX8_init 62 = .ok (.newarray .int, 2) := by decide +kernel
theorem dX8_64 : decode cX8_init 64 = .ok (.putfield 28, 3) := by decide +kernel
theorem dX8_67 : decode cX8_init 67 = .ok (.aload_n 0, 1) := by decide +kernel
theorem dX8_68 : decode cX8_init 68 = .ok (.sipush 600, 3) := by decide +kernel
theorem dX8_71 : decode cX8_init 71 = .ok (.newarray .int, 2) := by decide +kernel
theorem dX8_73 : decode cX8_init 73 = .ok (.putfield 31, 3) := by decide +kernel
theorem dX8_76 : decode cX8_init 76 = .ok (.aload_n 0, 1) := by decide +kernel
theorem dX8_77 : decode cX8_init 77 = .ok (.sipush 600, 3) := by decide +kernel
theorem dX8_80 : decode cX8_init 80 = .ok (.newarray .int, 2) := by decide +kernel
theorem dX8_82 : decode cX8_init 82 = .ok (.putfield 34, 3) := by decide +kernel
theorem dX8_85 : decode cX8_init 85 = .ok (.aload_n 0, 1) := by decide +kernel
theorem dX8_86 : decode cX8_init 86 = .ok (.sipush 600, 3) := by decide +kernel
theorem dX8_89 : decode cX8_init 89 = .ok (.newarray .int, 2) := by decide +kernel
theorem dX8_91 : decode cX8_init 91 = .ok (.putfield 37, 3) := by decide +kernel
theorem dX8_94 : decode cX8_init 94 = .ok (.return_, 1) := by decide +kernel
theorem xw8_1 : ez_in (.methodLink RX8 1 objectInit) = true := by decide +kernel
theorem xw8_7 : ez_in (.fieldLink RX8 7 "SortBenchModel" "numbers" "[I") = true := by decide +kernel
theorem xw8_13 : ez_in (.fieldLink RX8 13 "SortBenchModel" "tags" "[I") = true := by decide +kernel
theorem xw8_16 : ez_in (.fieldLink RX8 16 "SortBenchModel" "settled" "[I") = true := by decide +kernel
theorem xw8_19 : ez_in (.fieldLink RX8 19 "SortBenchModel" "row" "[I") = true := by decide +kernel
theorem xw8_22 : ez_in (.fieldLink RX8 22 "SortBenchModel" "other" "[I") = true := by decide +kernel
theorem xw8_25 : ez_in (.fieldLink RX8 25 "SortBenchModel" "begins" "[I") = true := by decide +kernel
theorem xw8_28 : ez_in (.fieldLink RX8 28 "SortBenchModel" "ends" "[I") = true := by decide +kernel
theorem xw8_31 : ez_in (.fieldLink RX8 31 "SortBenchModel" "waitFrom" "[I") = true := by decide +kernel
theorem xw8_34 : ez_in (.fieldLink RX8 34 "SortBenchModel" "waitTo" "[I") = true := by decide +kernel
theorem xw8_37 : ez_in (.fieldLink RX8 37 "SortBenchModel" "waitBudget" "[I") = true := by decide +kernel
set_option maxRecDepth 20000 in
theorem xn_8_8 (l : Launch) (D : va_G) (cI : ClassId) (h0 : Nat) (sz : Nat) : xn_Met l yX8_init (.code yX8_init cX8_init 1 none :: ez_G) { frames := 1, cells := 10, slots := 6000, locals := 20 } D cI [.ref h0] [(h0, .inr (7, [.int 0, .int 0, .null, .null, .null, .int 0, .int 0, .int 0, .int 0, .null, .null, .long 0, .long 0, .long 0, .long 0, .long 0, .long 0, .long 0, .null, .null, .int 0, .null, .null, .null, .int 0, .int 0]))] sz (fun Y => ∃ q1 q2 q3 q4 q5 q6 q7 q8 q9 q10 : Nat, Y = [(h0, .inr (7, [.int 0, .int 0, .ref q1, .ref q2, .ref q3, .int 0, .int 0, .int 0, .int 0, .ref q4, .ref q5, .long 0, .long 0, .long 0, .long 0, .long 0, .long 0, .long 0, .ref q6, .ref q7, .int 0, .ref q8, .ref q9, .ref q10, .int 0, .int 0])), (q1, .inl (cI, 600, .inl (fun _ => 0))), (q2, .inl (cI, 600, .inl (fun _ => 0))), (q3, .inl (cI, 600, .inl (fun _ => 0))), (q4, .inl (cI, 600, .inl (fun _ => 0))), (q5, .inl (cI, 600, .inl (fun _ => 0))), (q6, .inl (cI, 600, .inl (fun _ => 0))), (q7, .inl (cI, 600, .inl (fun _ => 0))), (q8, .inl (cI, 600, .inl (fun _ => 0))), (q9, .inl (cI, 600, .inl (fun _ => 0))), (q10, .inl (cI, 600, .inl (fun _ => 0)))]) 10 6000 := by
  refine xn_of (by decide) (Nat.le_of_ble_eq_true rfl) rfl ?_
  intro p e s m below meth c ls F hP hD hl
  obtain ⟨hx, hb, hml, hown, hG, hr, hlk, hin, hK⟩ := F
  have hA0 : ∀ q, s.heap.size ≤ q → va_A [(h0, .inr (7, [.int 0, .int 0, .null, .null, .null, .int 0, .int 0, .int 0, .int 0, .null, .null, .long 0, .long 0, .long 0, .long 0, .long 0, .long 0, .long 0, .null, .null, .int 0, .null, .null, .null, .int 0, .int 0]))] s.heap.size q := fun q h => Or.inr h
  have hS : va_S (va_A [(h0, .inr (7, [.int 0, .int 0, .null, .null, .null, .int 0, .int 0, .int 0, .int 0, .null, .null, .long 0, .long 0, .long 0, .long 0, .long 0, .long 0, .long 0, .null, .null, .int 0, .null, .null, .null, .int 0, .int 0]))] s.heap.size) s.heap s.heap [] := va_S.rf
  refine lv_aload_n hx hb dX8_0 rfl (lv_at hl 0 rfl) ?_
  refine W.objInit hx hb hown (hG _ (ez_in_G xw8_1)) (hG _ (ez_in_G xwo_i)) (hG _ (ez_in_G xwo_c)) rfl (by rw [hml]; exact hl.1) rfl dX8_1 (Nat.le_of_ble_eq_true rfl) (Nat.le_of_ble_eq_true rfl) ?_
  refine W.eq (g2 := F0 m 4 ls []) rfl ?_
  refine lv_aload_n hx hb dX8_4 rfl (lv_at hl 0 rfl) ?_
  refine lv_sipush hx hb dX8_5 (v := 600) rfl ?_
  refine xz_newI (n := 600) (N := 600) hx hb hG hK hP hD hS hA0 (by decide) rfl (by decide) (by decide) (by decide) dX8_8 (fun q1 H hP hD hS => ?_)
  refine W.widen (k := 1) (n := 600) (by decide) (by decide) ?_
  have hP : va_P D vwCl [(h0, .inr (7, [.int 0, .int 0, .null, .null, .null, .int 0, .int 0, .int 0, .int 0, .null, .null, .long 0, .long 0, .long 0, .long 0, .long 0, .long 0, .long 0, .null, .null, .int 0, .null, .null, .null, .int 0, .int 0])), (q1, .inl (cI, 600, .inl (fun _ => 0)))] H := hP
  have hD : va_D (va_A [(h0, .inr (7, [.int 0, .int 0, .null, .null, .null, .int 0, .int 0, .int 0, .int 0, .null, .null, .long 0, .long 0, .long 0, .long 0, .long 0, .long 0, .long 0, .null, .null, .int 0, .null, .null, .null, .int 0, .int 0]))] s.heap.size) [(h0, .inr (7, [.int 0, .int 0, .null, .null, .null, .int 0, .int 0, .int 0, .int 0, .null, .null, .long 0, .long 0, .long 0, .long 0, .long 0, .long 0, .long 0, .null, .null, .int 0, .null, .null, .null, .int 0, .int 0])), (q1, .inl (cI, 600, .inl (fun _ => 0)))] := hD
  refine va_putF (D := D) (ci := 7) (v := .ref q1) (ty := .array .int) (C := RX8) (T := TX8) (N := 26) hx hb hG (fun w hw => ez_in_G (ez_w7 w hw)) tyX8 tyX8_ok nmX8 hown hK hP hD hS 0 rfl rfl 2 (by decide) (hG _ (ez_in_G xw8_7)) (fun _ h9 => h9) rfl hin rfl (by decide +kernel) rfl rfl (Nat.le_of_ble_eq_true rfl) dX8_10 (fun H locs hP hD hS => ?_)
  have hP : va_P D vwCl [(h0, .inr (7, [.int 0, .int 0, .ref q1, .null, .null, .int 0, .int 0, .int 0, .int 0, .null, .null, .long 0, .long 0, .long 0, .long 0, .long 0, .long 0, .long 0, .null, .null, .int 0, .null, .null, .null, .int 0, .int 0])), (q1, .inl (cI, 600, .inl (fun _ => 0)))] H := hP
  have hD : va_D (va_A [(h0, .inr (7, [.int 0, .int 0, .null, .null, .null, .int 0, .int 0, .int 0, .int 0, .null, .null, .long 0, .long 0, .long 0, .long 0, .long 0, .long 0, .long 0, .null, .null, .int 0, .null, .null, .null, .int 0, .int 0]))] s.heap.size) [(h0, .inr (7, [.int 0, .int 0, .ref q1, .null, .null, .int 0, .int 0, .int 0, .int 0, .null, .null, .long 0, .long 0, .long 0, .long 0, .long 0, .long 0, .long 0, .null, .null, .int 0, .null, .null, .null, .int 0, .int 0])), (q1, .inl (cI, 600, .inl (fun _ => 0)))] := hD
  refine lv_aload_n hx hb dX8_13 rfl (lv_at hl 0 rfl) ?_
  refine lv_sipush hx hb dX8_14 (v := 600) rfl ?_
  refine xz_newI (n := 600) (N := 600) hx hb hG hK hP hD hS hA0 (by decide) rfl (by decide) (by decide) (by decide) dX8_17 (fun q2 H hP hD hS => ?_)
  refine W.widen (k := 2) (n := 1200) (by decide) (by decide) ?_
  have hP : va_P D vwCl [(h0, .inr (7, [.int 0, .int 0, .ref q1, .null, .null, .int 0, .int 0, .int 0, .int 0, .null, .null, .long 0, .long 0, .long 0, .long 0, .long 0, .long 0, .long 0, .null, .null, .int 0, .null, .null, .null, .int 0, .int 0])), (q1, .inl (cI, 600, .inl (fun _ => 0))), (q2, .inl (cI, 600, .inl (fun _ => 0)))] H := hP
  have hD : va_D (va_A [(h0, .inr (7, [.int 0, .int 0, .null, .null, .null, .int 0, .int 0, .int 0, .int 0, .null, .null, .long 0, .long 0, .long 0, .long 0, .long 0, .long 0, .long 0, .null, .null, .int 0, .null, .null, .null, .int 0, .int 0]))] s.heap.size) [(h0, .inr (7, [.int 0, .int 0, .ref q1, .null, .null, .int 0, .int 0, .int 0, .int 0, .null, .null, .long 0, .long 0, .long 0, .long 0, .long 0, .long 0, .long 0, .null, .null, .int 0, .null, .null, .null, .int 0, .int 0])), (q1, .inl (cI, 600, .inl (fun _ => 0))), (q2, .inl (cI, 600, .inl (fun _ => 0)))] := hD
  refine va_putF (D := D) (ci := 7) (v := .ref q2) (ty := .array .int) (C := RX8) (T := TX8) (N := 26) hx hb hG (fun w hw => ez_in_G (ez_w7 w hw)) tyX8 tyX8_ok nmX8 hown hK hP hD hS 0 rfl rfl 3 (by decide) (hG _ (ez_in_G xw8_13)) (fun _ h9 => h9) rfl hin rfl (by decide +kernel) rfl rfl (Nat.le_of_ble_eq_true rfl) dX8_19 (fun H locs hP hD hS => ?_)
  have hP : va_P D vwCl [(h0, .inr (7, [.int 0, .int 0, .ref q1, .ref q2, .null, .int 0, .int 0, .int 0, .int 0, .null, .null, .long 0, .long 0, .long 0, .long 0, .long 0, .long 0, .long 0, .null, .null, .int 0, .null, .null, .null, .int 0, .int 0])), (q1, .inl (cI, 600, .inl (fun _ => 0))), (q2, .inl (cI, 600, .inl (fun _ => 0)))] H := hP
  have hD : va_D (va_A [(h0, .inr (7, [.int 0, .int 0, .null, .null, .null, .int 0, .int 0, .int 0, .int 0, .null, .null, .long 0, .long 0, .long 0, .long 0, .long 0, .long 0, .long 0, .null, .null, .int 0, .null, .null, .null, .int 0, .int 0]))] s.heap.size) [(h0, .inr (7, [.int 0, .int 0, .ref q1, .ref q2, .null, .int 0, .int 0, .int 0, .int 0, .null, .null, .long 0, .long 0, .long 0, .long 0, .long 0, .long 0, .long 0, .null, .null, .int 0, .null, .null, .null, .int 0, .int 0])), (q1, .inl (cI, 600, .inl (fun _ => 0))), (q2, .inl (cI, 600, .inl (fun _ => 0)))] := hD
  refine lv_aload_n hx hb dX8_22 rfl (lv_at hl 0 rfl) ?_
  refine lv_sipush hx hb dX8_23 (v := 600) rfl ?_
  refine xz_newI (n := 600) (N := 600) hx hb hG hK hP hD hS hA0 (by decide) rfl (by decide) (by decide) (by decide) dX8_26 (fun q3 H hP hD hS => ?_)
  refine W.widen (k := 3) (n := 1800) (by decide) (by decide) ?_
  have hP : va_P D vwCl [(h0, .inr (7, [.int 0, .int 0, .ref q1, .ref q2, .null, .int 0, .int 0, .int 0, .int 0, .null, .null, .long 0, .long 0, .long 0, .long 0, .long 0, .long 0, .long 0, .null, .null, .int 0, .null, .null, .null, .int 0, .int 0])), (q1, .inl (cI, 600, .inl (fun _ => 0))), (q2, .inl (cI, 600, .inl (fun _ => 0))), (q3, .inl (cI, 600, .inl (fun _ => 0)))] H := hP
  have hD : va_D (va_A [(h0, .inr (7, [.int 0, .int 0, .null, .null, .null, .int 0, .int 0, .int 0, .int 0, .null, .null, .long 0, .long 0, .long 0, .long 0, .long 0, .long 0, .long 0, .null, .null, .int 0, .null, .null, .null, .int 0, .int 0]))] s.heap.size) [(h0, .inr (7, [.int 0, .int 0, .ref q1, .ref q2, .null, .int 0, .int 0, .int 0, .int 0, .null, .null, .long 0, .long 0, .long 0, .long 0, .long 0, .long 0, .long 0, .null, .null, .int 0, .null, .null, .null, .int 0, .int 0])), (q1, .inl (cI, 600, .inl (fun _ => 0))), (q2, .inl (cI, 600, .inl (fun _ => 0))), (q3, .inl (cI, 600, .inl (fun _ => 0)))] := hD
  refine va_putF (D := D) (ci := 7) (v := .ref q3) (ty := .array .int) (C := RX8) (T := TX8) (N := 26) hx hb hG (fun w hw => ez_in_G (ez_w7 w hw)) tyX8 tyX8_ok nmX8 hown hK hP hD hS 0 rfl rfl 4 (by decide) (hG _ (ez_in_G xw8_16)) (fun _ h9 => h9) rfl hin rfl (by decide +kernel) rfl rfl (Nat.le_of_ble_eq_true rfl) dX8_28 (fun H locs hP hD hS => ?_)
  have hP : va_P D vwCl [(h0, .inr (7, [.int 0, .int 0, .ref q1, .ref q2, .ref q3, .int 0, .int 0, .int 0, .int 0, .null, .null, .long 0, .long 0, .long 0, .long 0, .long 0, .long 0, .long 0, .null, .null, .int 0, .null, .null, .null, .int 0, .int 0])), (q1, .inl (cI, 600, .inl (fun _ => 0))), (q2, .inl (cI, 600, .inl (fun _ => 0))), (q3, .inl (cI, 600, .inl (fun _ => 0)))] H := hP
  have hD : va_D (va_A [(h0, .inr (7, [.int 0, .int 0, .null, .null, .null, .int 0, .int 0, .int 0, .int 0, .null, .null, .long 0, .long 0, .long 0, .long 0, .long 0, .long 0, .long 0, .null, .null, .int 0, .null, .null, .null, .int 0, .int 0]))] s.heap.size) [(h0, .inr (7, [.int 0, .int 0, .ref q1, .ref q2, .ref q3, .int 0, .int 0, .int 0, .int 0, .null, .null, .long 0, .long 0, .long 0, .long 0, .long 0, .long 0, .long 0, .null, .null, .int 0, .null, .null, .null, .int 0, .int 0])), (q1, .inl (cI, 600, .inl (fun _ => 0))), (q2, .inl (cI, 600, .inl (fun _ => 0))), (q3, .inl (cI, 600, .inl (fun _ => 0)))] := hD
  refine lv_aload_n hx hb dX8_31 rfl (lv_at hl 0 rfl) ?_
  refine lv_sipush hx hb dX8_32 (v := 600) rfl ?_
  refine xz_newI (n := 600) (N := 600) hx hb hG hK hP hD hS hA0 (by decide) rfl (by decide) (by decide) (by decide) dX8_35 (fun q4 H hP hD hS => ?_)
  refine W.widen (k := 4) (n := 2400) (by decide) (by decide) ?_
  have hP : va_P D vwCl [(h0, .inr (7, [.int 0, .int 0, .ref q1, .ref q2, .ref q3, .int 0, .int 0, .int 0, .int 0, .null, .null, .long 0, .long 0, .long 0, .long 0, .long 0, .long 0, .long 0, .null, .null, .int 0, .null, .null, .null, .int 0, .int 0])), (q1, .inl (cI, 600, .inl (fun _ => 0))), (q2, .inl (cI, 600, .inl (fun _ => 0))), (q3, .inl (cI, 600, .inl (fun _ => 0))), (q4, .inl (cI, 600, .inl (fun _ => 0)))] H := hP
  have hD : va_D (va_A [(h0, .inr (7, [.int 0, .int 0, .null, .null, .null, .int 0, .int 0, .int 0, .int 0, .null, .null, .long 0, .long 0, .long 0, .long 0, .long 0, .long 0, .long 0, .null, .null, .int 0, .null, .null, .null, .int 0, .int 0]))] s.heap.size) [(h0, .inr (7, [.int 0, .int 0, .ref q1, .ref q2, .ref q3, .int 0, .int 0, .int 0, .int 0, .null, .null, .long 0, .long 0, .long 0, .long 0, .long 0, .long 0, .long 0, .null, .null, .int 0, .null, .null, .null, .int 0, .int 0])), (q1, .inl (cI, 600, .inl (fun _ => 0))), (q2, .inl (cI, 600, .inl (fun _ => 0))), (q3, .inl (cI, 600, .inl (fun _ => 0))), (q4, .inl (cI, 600, .inl (fun _ => 0)))] := hD
  refine va_putF (D := D) (ci := 7) (v := .ref q4) (ty := .array .int) (C := RX8) (T := TX8) (N := 26) hx hb hG (fun w hw => ez_in_G (ez_w7 w hw)) tyX8 tyX8_ok nmX8 hown hK hP hD hS 0 rfl rfl 9 (by decide) (hG _ (ez_in_G xw8_19)) (fun _ h9 => h9) rfl hin rfl (by decide +kernel) rfl rfl (Nat.le_of_ble_eq_true rfl) dX8_37 (fun H locs hP hD hS => ?_)
  have hP : va_P D vwCl [(h0, .inr (7, [.int 0, .int 0, .ref q1, .ref q2, .ref q3, .int 0, .int 0, .int 0, .int 0, .ref q4, .null, .long 0, .long 0, .long 0, .long 0, .long 0, .long 0, .long 0, .null, .null, .int 0, .null, .null, .null, .int 0, .int 0])), (q1, .inl (cI, 600, .inl (fun _ => 0))), (q2, .inl (cI, 600, .inl (fun _ => 0))), (q3, .inl (cI, 600, .inl (fun _ => 0))), (q4, .inl (cI, 600, .inl (fun _ => 0)))] H := hP
  have hD : va_D (va_A [(h0, .inr (7, [.int 0, .int 0, .null, .null, .null, .int 0, .int 0, .int 0, .int 0, .null, .null, .long 0, .long 0, .long 0, .long 0, .long 0, .long 0, .long 0, .null, .null, .int 0, .null, .null, .null, .int 0, .int 0]))] s.heap.size) [(h0, .inr (7, [.int 0, .int 0, .ref q1, .ref q2, .ref q3, .int 0, .int 0, .int 0, .int 0, .ref q4, .null, .long 0, .long 0, .long 0, .long 0, .long 0, .long 0, .long 0, .null, .null, .int 0, .null, .null, .null, .int 0, .int 0])), (q1, .inl (cI, 600, .inl (fun _ => 0))), (q2, .inl (cI, 600, .inl (fun _ => 0))), (q3, .inl (cI, 600, .inl (fun _ => 0))), (q4, .inl (cI, 600, .inl (fun _ => 0)))] := hD
  refine lv_aload_n hx hb dX8_40 rfl (lv_at hl 0 rfl) ?_
  refine lv_sipush hx hb dX8_41 (v := 600) rfl ?_
  refine xz_newI (n := 600) (N := 600) hx hb hG hK hP hD hS hA0 (by decide) rfl (by decide) (by decide) (by decide) dX8_44 (fun q5 H hP hD hS => ?_)
  refine W.widen (k := 5) (n := 3000) (by decide) (by decide) ?_
  have hP : va_P D vwCl [(h0, .inr (7, [.int 0, .int 0, .ref q1, .ref q2, .ref q3, .int 0, .int 0, .int 0, .int 0, .ref q4, .null, .long 0, .long 0, .long 0, .long 0, .long 0, .long 0, .long 0, .null, .null, .int 0, .null, .null, .null, .int 0, .int 0])), (q1, .inl (cI, 600, .inl (fun _ => 0))), (q2, .inl (cI, 600, .inl (fun _ => 0))), (q3, .inl (cI, 600, .inl (fun _ => 0))), (q4, .inl (cI, 600, .inl (fun _ => 0))), (q5, .inl (cI, 600, .inl (fun _ => 0)))] H := hP
  have hD : va_D (va_A [(h0, .inr (7, [.int 0, .int 0, .null, .null, .null, .int 0, .int 0, .int 0, .int 0, .null, .null, .long 0, .long 0, .long 0, .long 0, .long 0, .long 0, .long 0, .null, .null, .int 0, .null, .null, .null, .int 0, .int 0]))] s.heap.size) [(h0, .inr (7, [.int 0, .int 0, .ref q1, .ref q2, .ref q3, .int 0, .int 0, .int 0, .int 0, .ref q4, .null, .long 0, .long 0, .long 0, .long 0, .long 0, .long 0, .long 0, .null, .null, .int 0, .null, .null, .null, .int 0, .int 0])), (q1, .inl (cI, 600, .inl (fun _ => 0))), (q2, .inl (cI, 600, .inl (fun _ => 0))), (q3, .inl (cI, 600, .inl (fun _ => 0))), (q4, .inl (cI, 600, .inl (fun _ => 0))), (q5, .inl (cI, 600, .inl (fun _ => 0)))] := hD
  refine va_putF (D := D) (ci := 7) (v := .ref q5) (ty := .array .int) (C := RX8) (T := TX8) (N := 26) hx hb hG (fun w hw => ez_in_G (ez_w7 w hw)) tyX8 tyX8_ok nmX8 hown hK hP hD hS 0 rfl rfl 10 (by decide) (hG _ (ez_in_G xw8_22)) (fun _ h9 => h9) rfl hin rfl (by decide +kernel) rfl rfl (Nat.le_of_ble_eq_true rfl) dX8_46 (fun H locs hP hD hS => ?_)
  have hP : va_P D vwCl [(h0, .inr (7, [.int 0, .int 0, .ref q1, .ref q2, .ref q3, .int 0, .int 0, .int 0, .int 0, .ref q4, .ref q5, .long 0, .long 0, .long 0, .long 0, .long 0, .long 0, .long 0, .null, .null, .int 0, .null, .null, .null, .int 0, .int 0])), (q1, .inl (cI, 600, .inl (fun _ => 0))), (q2, .inl (cI, 600, .inl (fun _ => 0))), (q3, .inl (cI, 600, .inl (fun _ => 0))), (q4, .inl (cI, 600, .inl (fun _ => 0))), (q5, .inl (cI, 600, .inl (fun _ => 0)))] H := hP
  have hD : va_D (va_A [(h0, .inr (7, [.int 0, .int 0, .null, .null, .null, .int 0, .int 0, .int 0, .int 0, .null, .null, .long 0, .long 0, .long 0, .long 0, .long 0, .long 0, .long 0, .null, .null, .int 0, .null, .null, .null, .int 0, .int 0]))] s.heap.size) [(h0, .inr (7, [.int 0, .int 0, .ref q1, .ref q2, .ref q3, .int 0, .int 0, .int 0, .int 0, .ref q4, .ref q5, .long 0, .long 0, .long 0, .long 0, .long 0, .long 0, .long 0, .null, .null, .int 0, .null, .null, .null, .int 0, .int 0])), (q1, .inl (cI, 600, .inl (fun _ => 0))), (q2, .inl (cI, 600, .inl (fun _ => 0))), (q3, .inl (cI, 600, .inl (fun _ => 0))), (q4, .inl (cI, 600, .inl (fun _ => 0))), (q5, .inl (cI, 600, .inl (fun _ => 0)))] := hD
  refine lv_aload_n hx hb dX8_49 rfl (lv_at hl 0 rfl) ?_
  refine lv_sipush hx hb dX8_50 (v := 600) rfl ?_
  refine xz_newI (n := 600) (N := 600) hx hb hG hK hP hD hS hA0 (by decide) rfl (by decide) (by decide) (by decide) dX8_53 (fun q6 H hP hD hS => ?_)
  refine W.widen (k := 6) (n := 3600) (by decide) (by decide) ?_
  have hP : va_P D vwCl [(h0, .inr (7, [.int 0, .int 0, .ref q1, .ref q2, .ref q3, .int 0, .int 0, .int 0, .int 0, .ref q4, .ref q5, .long 0, .long 0, .long 0, .long 0, .long 0, .long 0, .long 0, .null, .null, .int 0, .null, .null, .null, .int 0, .int 0])), (q1, .inl (cI, 600, .inl (fun _ => 0))), (q2, .inl (cI, 600, .inl (fun _ => 0))), (q3, .inl (cI, 600, .inl (fun _ => 0))), (q4, .inl (cI, 600, .inl (fun _ => 0))), (q5, .inl (cI, 600, .inl (fun _ => 0))), (q6, .inl (cI, 600, .inl (fun _ => 0)))] H := hP
  have hD : va_D (va_A [(h0, .inr (7, [.int 0, .int 0, .null, .null, .null, .int 0, .int 0, .int 0, .int 0, .null, .null, .long 0, .long 0, .long 0, .long 0, .long 0, .long 0, .long 0, .null, .null, .int 0, .null, .null, .null, .int 0, .int 0]))] s.heap.size) [(h0, .inr (7, [.int 0, .int 0, .ref q1, .ref q2, .ref q3, .int 0, .int 0, .int 0, .int 0, .ref q4, .ref q5, .long 0, .long 0, .long 0, .long 0, .long 0, .long 0, .long 0, .null, .null, .int 0, .null, .null, .null, .int 0, .int 0])), (q1, .inl (cI, 600, .inl (fun _ => 0))), (q2, .inl (cI, 600, .inl (fun _ => 0))), (q3, .inl (cI, 600, .inl (fun _ => 0))), (q4, .inl (cI, 600, .inl (fun _ => 0))), (q5, .inl (cI, 600, .inl (fun _ => 0))), (q6, .inl (cI, 600, .inl (fun _ => 0)))] := hD
  refine va_putF (D := D) (ci := 7) (v := .ref q6) (ty := .array .int) (C := RX8) (T := TX8) (N := 26) hx hb hG (fun w hw => ez_in_G (ez_w7 w hw)) tyX8 tyX8_ok nmX8 hown hK hP hD hS 0 rfl rfl 18 (by decide) (hG _ (ez_in_G xw8_25)) (fun _ h9 => h9) rfl hin rfl (by decide +kernel) rfl rfl (Nat.le_of_ble_eq_true rfl) dX8_55 (fun H locs hP hD hS => ?_)
  have hP : va_P D vwCl [(h0, .inr (7, [.int 0, .int 0, .ref q1, .ref q2, .ref q3, .int 0, .int 0, .int 0, .int 0, .ref q4, .ref q5, .long 0, .long 0, .long 0, .long 0, .long 0, .long 0, .long 0, .ref q6, .null, .int 0, .null, .null, .null, .int 0, .int 0])), (q1, .inl (cI, 600, .inl (fun _ => 0))), (q2, .inl (cI, 600, .inl (fun _ => 0))), (q3, .inl (cI, 600, .inl (fun _ => 0))), (q4, .inl (cI, 600, .inl (fun _ => 0))), (q5, .inl (cI, 600, .inl (fun _ => 0))), (q6, .inl (cI, 600, .inl (fun _ => 0)))] H := hP
  have hD : va_D (va_A [(h0, .inr (7, [.int 0, .int 0, .null, .null, .null, .int 0, .int 0, .int 0, .int 0, .null, .null, .long 0, .long 0, .long 0, .long 0, .long 0, .long 0, .long 0, .null, .null, .int 0, .null, .null, .null, .int 0, .int 0]))] s.heap.size) [(h0, .inr (7, [.int 0, .int 0, .ref q1, .ref q2, .ref q3, .int 0, .int 0, .int 0, .int 0, .ref q4, .ref q5, .long 0, .long 0, .long 0, .long 0, .long 0, .long 0, .long 0, .ref q6, .null, .int 0, .null, .null, .null, .int 0, .int 0])), (q1, .inl (cI, 600, .inl (fun _ => 0))), (q2, .inl (cI, 600, .inl (fun _ => 0))), (q3, .inl (cI, 600, .inl (fun _ => 0))), (q4, .inl (cI, 600, .inl (fun _ => 0))), (q5, .inl (cI, 600, .inl (fun _ => 0))), (q6, .inl (cI, 600, .inl (fun _ => 0)))] := hD
  refine lv_aload_n hx hb dX8_58 rfl (lv_at hl 0 rfl) ?_
  refine lv_sipush hx hb dX8_59 (v := 600) rfl ?_
  refine xz_newI (n := 600) (N := 600) hx hb hG hK hP hD hS hA0 (by decide) rfl (by decide) (by decide) (by decide) dX8_62 (fun q7 H hP hD hS => ?_)
  refine W.widen (k := 7) (n := 4200) (by decide) (by decide) ?_
  have hP : va_P D vwCl [(h0, .inr (7, [.int 0, .int 0, .ref q1, .ref q2, .ref q3, .int 0, .int 0, .int 0, .int 0, .ref q4, .ref q5, .long 0, .long 0, .long 0, .long 0, .long 0, .long 0, .long 0, .ref q6, .null, .int 0, .null, .null, .null, .int 0, .int 0])), (q1, .inl (cI, 600, .inl (fun _ => 0))), (q2, .inl (cI, 600, .inl (fun _ => 0))), (q3, .inl (cI, 600, .inl (fun _ => 0))), (q4, .inl (cI, 600, .inl (fun _ => 0))), (q5, .inl (cI, 600, .inl (fun _ => 0))), (q6, .inl (cI, 600, .inl (fun _ => 0))), (q7, .inl (cI, 600, .inl (fun _ => 0)))] H := hP
  have hD : va_D (va_A [(h0, .inr (7, [.int 0, .int 0, .null, .null, .null, .int 0, .int 0, .int 0, .int 0, .null, .null, .long 0, .long 0, .long 0, .long 0, .long 0, .long 0, .long 0, .null, .null, .int 0, .null, .null, .null, .int 0, .int 0]))] s.heap.size) [(h0, .inr (7, [.int 0, .int 0, .ref q1, .ref q2, .ref q3, .int 0, .int 0, .int 0, .int 0, .ref q4, .ref q5, .long 0, .long 0, .long 0, .long 0, .long 0, .long 0, .long 0, .ref q6, .null, .int 0, .null, .null, .null, .int 0, .int 0])), (q1, .inl (cI, 600, .inl (fun _ => 0))), (q2, .inl (cI, 600, .inl (fun _ => 0))), (q3, .inl (cI, 600, .inl (fun _ => 0))), (q4, .inl (cI, 600, .inl (fun _ => 0))), (q5, .inl (cI, 600, .inl (fun _ => 0))), (q6, .inl (cI, 600, .inl (fun _ => 0))), (q7, .inl (cI, 600, .inl (fun _ => 0)))] := hD
  refine va_putF (D := D) (ci := 7) (v := .ref q7) (ty := .array .int) (C := RX8) (T := TX8) (N := 26) hx hb hG (fun w hw => ez_in_G (ez_w7 w hw)) tyX8 tyX8_ok nmX8 hown hK hP hD hS 0 rfl rfl 19 (by decide) (hG _ (ez_in_G xw8_28)) (fun _ h9 => h9) rfl hin rfl (by decide +kernel) rfl rfl (Nat.le_of_ble_eq_true rfl) dX8_64 (fun H locs hP hD hS => ?_)
  have hP : va_P D vwCl [(h0, .inr (7, [.int 0, .int 0, .ref q1, .ref q2, .ref q3, .int 0, .int 0, .int 0, .int 0, .ref q4, .ref q5, .long 0, .long 0, .long 0, .long 0, .long 0, .long 0, .long 0, .ref q6, .ref q7, .int 0, .null, .null, .null, .int 0, .int 0])), (q1, .inl (cI, 600, .inl (fun _ => 0))), (q2, .inl (cI, 600, .inl (fun _ => 0))), (q3, .inl (cI, 600, .inl (fun _ => 0))), (q4, .inl (cI, 600, .inl (fun _ => 0))), (q5, .inl (cI, 600, .inl (fun _ => 0))), (q6, .inl (cI, 600, .inl (fun _ => 0))), (q7, .inl (cI, 600, .inl (fun _ => 0)))] H := hP
  have hD : va_D (va_A [(h0, .inr (7, [.int 0, .int 0, .null, .null, .null, .int 0, .int 0, .int 0, .int 0, .null, .null, .long 0, .long 0, .long 0, .long 0, .long 0, .long 0, .long 0, .null, .null, .int 0, .null, .null, .null, .int 0, .int 0]))] s.heap.size) [(h0, .inr (7, [.int 0, .int 0, .ref q1, .ref q2, .ref q3, .int 0, .int 0, .int 0, .int 0, .ref q4, .ref q5, .long 0, .long 0, .long 0, .long 0, .long 0, .long 0, .long 0, .ref q6, .ref q7, .int 0, .null, .null, .null, .int 0, .int 0])), (q1, .inl (cI, 600, .inl (fun _ => 0))), (q2, .inl (cI, 600, .inl (fun _ => 0))), (q3, .inl (cI, 600, .inl (fun _ => 0))), (q4, .inl (cI, 600, .inl (fun _ => 0))), (q5, .inl (cI, 600, .inl (fun _ => 0))), (q6, .inl (cI, 600, .inl (fun _ => 0))), (q7, .inl (cI, 600, .inl (fun _ => 0)))] := hD
  refine lv_aload_n hx hb dX8_67 rfl (lv_at hl 0 rfl) ?_
  refine lv_sipush hx hb dX8_68 (v := 600) rfl ?_
  refine xz_newI (n := 600) (N := 600) hx hb hG hK hP hD hS hA0 (by decide) rfl (by decide) (by decide) (by decide) dX8_71 (fun q8 H hP hD hS => ?_)
  refine W.widen (k := 8) (n := 4800) (by decide) (by decide) ?_
  have hP : va_P D vwCl [(h0, .inr (7, [.int 0, .int 0, .ref q1, .ref q2, .ref q3, .int 0, .int 0, .int 0, .int 0, .ref q4, .ref q5, .long 0, .long 0, .long 0, .long 0, .long 0, .long 0, .long 0, .ref q6, .ref q7, .int 0, .null, .null, .null, .int 0, .int 0])), (q1, .inl (cI, 600, .inl (fun _ => 0))), (q2, .inl (cI, 600, .inl (fun _ => 0))), (q3, .inl (cI, 600, .inl (fun _ => 0))), (q4, .inl (cI, 600, .inl (fun _ => 0))), (q5, .inl (cI, 600, .inl (fun _ => 0))), (q6, .inl (cI, 600, .inl (fun _ => 0))), (q7, .inl (cI, 600, .inl (fun _ => 0))), (q8, .inl (cI, 600, .inl (fun _ => 0)))] H := hP
  have hD : va_D (va_A [(h0, .inr (7, [.int 0, .int 0, .null, .null, .null, .int 0, .int 0, .int 0, .int 0, .null, .null, .long 0, .long 0, .long 0, .long 0, .long 0, .long 0, .long 0, .null, .null, .int 0, .null, .null, .null, .int 0, .int 0]))] s.heap.size) [(h0, .inr (7, [.int 0, .int 0, .ref q1, .ref q2, .ref q3, .int 0, .int 0, .int 0, .int 0, .ref q4, .ref q5, .long 0, .long 0, .long 0, .long 0, .long 0, .long 0, .long 0, .ref q6, .ref q7, .int 0, .null, .null, .null, .int 0, .int 0])), (q1, .inl (cI, 600, .inl (fun _ => 0))), (q2, .inl (cI, 600, .inl (fun _ => 0))), (q3, .inl (cI, 600, .inl (fun _ => 0))), (q4, .inl (cI, 600, .inl (fun _ => 0))), (q5, .inl (cI, 600, .inl (fun _ => 0))), (q6, .inl (cI, 600, .inl (fun _ => 0))), (q7, .inl (cI, 600, .inl (fun _ => 0))), (q8, .inl (cI, 600, .inl (fun _ => 0)))] := hD
  refine va_putF (D := D) (ci := 7) (v := .ref q8) (ty := .array .int) (C := RX8) (T := TX8) (N := 26) hx hb hG (fun w hw => ez_in_G (ez_w7 w hw)) tyX8 tyX8_ok nmX8 hown hK hP hD hS 0 rfl rfl 21 (by decide) (hG _ (ez_in_G xw8_31)) (fun _ h9 => h9) rfl hin rfl (by decide +kernel) rfl rfl (Nat.le_of_ble_eq_true rfl) dX8_73 (fun H locs hP hD hS => ?_)
  have hP : va_P D vwCl [(h0, .inr (7, [.int 0, .int 0, .ref q1, .ref q2, .ref q3, .int 0, .int 0, .int 0, .int 0, .ref q4, .ref q5, .long 0, .long 0, .long 0, .long 0, .long 0, .long 0, .long 0, .ref q6, .ref q7, .int 0, .ref q8, .null, .null, .int 0, .int 0])), (q1, .inl (cI, 600, .inl (fun _ => 0))), (q2, .inl (cI, 600, .inl (fun _ => 0))), (q3, .inl (cI, 600, .inl (fun _ => 0))), (q4, .inl (cI, 600, .inl (fun _ => 0))), (q5, .inl (cI, 600, .inl (fun _ => 0))), (q6, .inl (cI, 600, .inl (fun _ => 0))), (q7, .inl (cI, 600, .inl (fun _ => 0))), (q8, .inl (cI, 600, .inl (fun _ => 0)))] H := hP
  have hD : va_D (va_A [(h0, .inr (7, [.int 0, .int 0, .null, .null, .null, .int 0, .int 0, .int 0, .int 0, .null, .null, .long 0, .long 0, .long 0, .long 0, .long 0, .long 0, .long 0, .null, .null, .int 0, .null, .null, .null, .int 0, .int 0]))] s.heap.size) [(h0, .inr (7, [.int 0, .int 0, .ref q1, .ref q2, .ref q3, .int 0, .int 0, .int 0, .int 0, .ref q4, .ref q5, .long 0, .long 0, .long 0, .long 0, .long 0, .long 0, .long 0, .ref q6, .ref q7, .int 0, .ref q8, .null, .null, .int 0, .int 0])), (q1, .inl (cI, 600, .inl (fun _ => 0))), (q2, .inl (cI, 600, .inl (fun _ => 0))), (q3, .inl (cI, 600, .inl (fun _ => 0))), (q4, .inl (cI, 600, .inl (fun _ => 0))), (q5, .inl (cI, 600, .inl (fun _ => 0))), (q6, .inl (cI, 600, .inl (fun _ => 0))), (q7, .inl (cI, 600, .inl (fun _ => 0))), (q8, .inl (cI, 600, .inl (fun _ => 0)))] := hD
  refine lv_aload_n hx hb dX8_76 rfl (lv_at hl 0 rfl) ?_
  refine lv_sipush hx hb dX8_77 (v := 600) rfl ?_
  refine xz_newI (n := 600) (N := 600) hx hb hG hK hP hD hS hA0 (by decide) rfl (by decide) (by decide) (by decide) dX8_80 (fun q9 H hP hD hS => ?_)
  refine W.widen (k := 9) (n := 5400) (by decide) (by decide) ?_
  have hP : va_P D vwCl [(h0, .inr (7, [.int 0, .int 0, .ref q1, .ref q2, .ref q3, .int 0, .int 0, .int 0, .int 0, .ref q4, .ref q5, .long 0, .long 0, .long 0, .long 0, .long 0, .long 0, .long 0, .ref q6, .ref q7, .int 0, .ref q8, .null, .null, .int 0, .int 0])), (q1, .inl (cI, 600, .inl (fun _ => 0))), (q2, .inl (cI, 600, .inl (fun _ => 0))), (q3, .inl (cI, 600, .inl (fun _ => 0))), (q4, .inl (cI, 600, .inl (fun _ => 0))), (q5, .inl (cI, 600, .inl (fun _ => 0))), (q6, .inl (cI, 600, .inl (fun _ => 0))), (q7, .inl (cI, 600, .inl (fun _ => 0))), (q8, .inl (cI, 600, .inl (fun _ => 0))), (q9, .inl (cI, 600, .inl (fun _ => 0)))] H := hP
  have hD : va_D (va_A [(h0, .inr (7, [.int 0, .int 0, .null, .null, .null, .int 0, .int 0, .int 0, .int 0, .null, .null, .long 0, .long 0, .long 0, .long 0, .long 0, .long 0, .long 0, .null, .null, .int 0, .null, .null, .null, .int 0, .int 0]))] s.heap.size) [(h0, .inr (7, [.int 0, .int 0, .ref q1, .ref q2, .ref q3, .int 0, .int 0, .int 0, .int 0, .ref q4, .ref q5, .long 0, .long 0, .long 0, .long 0, .long 0, .long 0, .long 0, .ref q6, .ref q7, .int 0, .ref q8, .null, .null, .int 0, .int 0])), (q1, .inl (cI, 600, .inl (fun _ => 0))), (q2, .inl (cI, 600, .inl (fun _ => 0))), (q3, .inl (cI, 600, .inl (fun _ => 0))), (q4, .inl (cI, 600, .inl (fun _ => 0))), (q5, .inl (cI, 600, .inl (fun _ => 0))), (q6, .inl (cI, 600, .inl (fun _ => 0))), (q7, .inl (cI, 600, .inl (fun _ => 0))), (q8, .inl (cI, 600, .inl (fun _ => 0))), (q9, .inl (cI, 600, .inl (fun _ => 0)))] := hD
  refine va_putF (D := D) (ci := 7) (v := .ref q9) (ty := .array .int) (C := RX8) (T := TX8) (N := 26) hx hb hG (fun w hw => ez_in_G (ez_w7 w hw)) tyX8 tyX8_ok nmX8 hown hK hP hD hS 0 rfl rfl 22 (by decide) (hG _ (ez_in_G xw8_34)) (fun _ h9 => h9) rfl hin rfl (by decide +kernel) rfl rfl (Nat.le_of_ble_eq_true rfl) dX8_82 (fun H locs hP hD hS => ?_)
  have hP : va_P D vwCl [(h0, .inr (7, [.int 0, .int 0, .ref q1, .ref q2, .ref q3, .int 0, .int 0, .int 0, .int 0, .ref q4, .ref q5, .long 0, .long 0, .long 0, .long 0, .long 0, .long 0, .long 0, .ref q6, .ref q7, .int 0, .ref q8, .ref q9, .null, .int 0, .int 0])), (q1, .inl (cI, 600, .inl (fun _ => 0))), (q2, .inl (cI, 600, .inl (fun _ => 0))), (q3, .inl (cI, 600, .inl (fun _ => 0))), (q4, .inl (cI, 600, .inl (fun _ => 0))), (q5, .inl (cI, 600, .inl (fun _ => 0))), (q6, .inl (cI, 600, .inl (fun _ => 0))), (q7, .inl (cI, 600, .inl (fun _ => 0))), (q8, .inl (cI, 600, .inl (fun _ => 0))), (q9, .inl (cI, 600, .inl (fun _ => 0)))] H := hP
  have hD : va_D (va_A [(h0, .inr (7, [.int 0, .int 0, .null, .null, .null, .int 0, .int 0, .int 0, .int 0, .null, .null, .long 0, .long 0, .long 0, .long 0, .long 0, .long 0, .long 0, .null, .null, .int 0, .null, .null, .null, .int 0, .int 0]))] s.heap.size) [(h0, .inr (7, [.int 0, .int 0, .ref q1, .ref q2, .ref q3, .int 0, .int 0, .int 0, .int 0, .ref q4, .ref q5, .long 0, .long 0, .long 0, .long 0, .long 0, .long 0, .long 0, .ref q6, .ref q7, .int 0, .ref q8, .ref q9, .null, .int 0, .int 0])), (q1, .inl (cI, 600, .inl (fun _ => 0))), (q2, .inl (cI, 600, .inl (fun _ => 0))), (q3, .inl (cI, 600, .inl (fun _ => 0))), (q4, .inl (cI, 600, .inl (fun _ => 0))), (q5, .inl (cI, 600, .inl (fun _ => 0))), (q6, .inl (cI, 600, .inl (fun _ => 0))), (q7, .inl (cI, 600, .inl (fun _ => 0))), (q8, .inl (cI, 600, .inl (fun _ => 0))), (q9, .inl (cI, 600, .inl (fun _ => 0)))] := hD
  refine lv_aload_n hx hb dX8_85 rfl (lv_at hl 0 rfl) ?_
  refine lv_sipush hx hb dX8_86 (v := 600) rfl ?_
  refine xz_newI (n := 600) (N := 600) hx hb hG hK hP hD hS hA0 (by decide) rfl (by decide) (by decide) (by decide) dX8_89 (fun q10 H hP hD hS => ?_)
  refine W.widen (k := 10) (n := 6000) (by decide) (by decide) ?_
  have hP : va_P D vwCl [(h0, .inr (7, [.int 0, .int 0, .ref q1, .ref q2, .ref q3, .int 0, .int 0, .int 0, .int 0, .ref q4, .ref q5, .long 0, .long 0, .long 0, .long 0, .long 0, .long 0, .long 0, .ref q6, .ref q7, .int 0, .ref q8, .ref q9, .null, .int 0, .int 0])), (q1, .inl (cI, 600, .inl (fun _ => 0))), (q2, .inl (cI, 600, .inl (fun _ => 0))), (q3, .inl (cI, 600, .inl (fun _ => 0))), (q4, .inl (cI, 600, .inl (fun _ => 0))), (q5, .inl (cI, 600, .inl (fun _ => 0))), (q6, .inl (cI, 600, .inl (fun _ => 0))), (q7, .inl (cI, 600, .inl (fun _ => 0))), (q8, .inl (cI, 600, .inl (fun _ => 0))), (q9, .inl (cI, 600, .inl (fun _ => 0))), (q10, .inl (cI, 600, .inl (fun _ => 0)))] H := hP
  have hD : va_D (va_A [(h0, .inr (7, [.int 0, .int 0, .null, .null, .null, .int 0, .int 0, .int 0, .int 0, .null, .null, .long 0, .long 0, .long 0, .long 0, .long 0, .long 0, .long 0, .null, .null, .int 0, .null, .null, .null, .int 0, .int 0]))] s.heap.size) [(h0, .inr (7, [.int 0, .int 0, .ref q1, .ref q2, .ref q3, .int 0, .int 0, .int 0, .int 0, .ref q4, .ref q5, .long 0, .long 0, .long 0, .long 0, .long 0, .long 0, .long 0, .ref q6, .ref q7, .int 0, .ref q8, .ref q9, .null, .int 0, .int 0])), (q1, .inl (cI, 600, .inl (fun _ => 0))), (q2, .inl (cI, 600, .inl (fun _ => 0))), (q3, .inl (cI, 600, .inl (fun _ => 0))), (q4, .inl (cI, 600, .inl (fun _ => 0))), (q5, .inl (cI, 600, .inl (fun _ => 0))), (q6, .inl (cI, 600, .inl (fun _ => 0))), (q7, .inl (cI, 600, .inl (fun _ => 0))), (q8, .inl (cI, 600, .inl (fun _ => 0))), (q9, .inl (cI, 600, .inl (fun _ => 0))), (q10, .inl (cI, 600, .inl (fun _ => 0)))] := hD
  refine va_putF (D := D) (ci := 7) (v := .ref q10) (ty := .array .int) (C := RX8) (T := TX8) (N := 26) hx hb hG (fun w hw => ez_in_G (ez_w7 w hw)) tyX8 tyX8_ok nmX8 hown hK hP hD hS 0 rfl rfl 23 (by decide) (hG _ (ez_in_G xw8_37)) (fun _ h9 => h9) rfl hin rfl (by decide +kernel) rfl rfl (Nat.le_of_ble_eq_true rfl) dX8_91 (fun H locs hP hD hS => ?_)
  have hP : va_P D vwCl [(h0, .inr (7, [.int 0, .int 0, .ref q1, .ref q2, .ref q3, .int 0, .int 0, .int 0, .int 0, .ref q4, .ref q5, .long 0, .long 0, .long 0, .long 0, .long 0, .long 0, .long 0, .ref q6, .ref q7, .int 0, .ref q8, .ref q9, .ref q10, .int 0, .int 0])), (q1, .inl (cI, 600, .inl (fun _ => 0))), (q2, .inl (cI, 600, .inl (fun _ => 0))), (q3, .inl (cI, 600, .inl (fun _ => 0))), (q4, .inl (cI, 600, .inl (fun _ => 0))), (q5, .inl (cI, 600, .inl (fun _ => 0))), (q6, .inl (cI, 600, .inl (fun _ => 0))), (q7, .inl (cI, 600, .inl (fun _ => 0))), (q8, .inl (cI, 600, .inl (fun _ => 0))), (q9, .inl (cI, 600, .inl (fun _ => 0))), (q10, .inl (cI, 600, .inl (fun _ => 0)))] H := hP
  have hD : va_D (va_A [(h0, .inr (7, [.int 0, .int 0, .null, .null, .null, .int 0, .int 0, .int 0, .int 0, .null, .null, .long 0, .long 0, .long 0, .long 0, .long 0, .long 0, .long 0, .null, .null, .int 0, .null, .null, .null, .int 0, .int 0]))] s.heap.size) [(h0, .inr (7, [.int 0, .int 0, .ref q1, .ref q2, .ref q3, .int 0, .int 0, .int 0, .int 0, .ref q4, .ref q5, .long 0, .long 0, .long 0, .long 0, .long 0, .long 0, .long 0, .ref q6, .ref q7, .int 0, .ref q8, .ref q9, .ref q10, .int 0, .int 0])), (q1, .inl (cI, 600, .inl (fun _ => 0))), (q2, .inl (cI, 600, .inl (fun _ => 0))), (q3, .inl (cI, 600, .inl (fun _ => 0))), (q4, .inl (cI, 600, .inl (fun _ => 0))), (q5, .inl (cI, 600, .inl (fun _ => 0))), (q6, .inl (cI, 600, .inl (fun _ => 0))), (q7, .inl (cI, 600, .inl (fun _ => 0))), (q8, .inl (cI, 600, .inl (fun _ => 0))), (q9, .inl (cI, 600, .inl (fun _ => 0))), (q10, .inl (cI, 600, .inl (fun _ => 0)))] := hD
  refine W.widen (k := 10) (n := 6000) (by decide) (by decide) ?_
  exact W.vret hx hb hr (fun t ht hW => ⟨⟨rfl, _, ⟨q1, q2, q3, q4, q5, q6, q7, q8, q9, q10, rfl⟩, by rw [ht]; exact hP, hD⟩, hS.F ht⟩) (fun q hq => hS.2.2 q hq) dX8_94 hlk
