/-! ===== a run of the interpreter is a run of the machine: calls and returns ===== -/
theorem ez_chunk {α : Type} {r : List α} {P : α → Prop} {a n i : Nat} {x : α} (h : ∀ p ∈ (r.drop a).take n, P p) (hx : r[i]? = some x) (h1 : a ≤ i) (h2 : i < a + n) : P x := by
  refine h x (List.mem_of_getElem? (i := i - a) ?_)
  rw [List.getElem?_take, if_pos (by omega), List.getElem?_drop]
  rw [show a + (i - a) = i by omega]
  exact hx
theorem ez_ms_length : ez_ms.length = 123 := by decide +kernel
theorem ez_tb_length : ez_tb.length = 123 := by decide +kernel
theorem ez_dec {mi pc len : Nat} {i : Instr} {M : ez_M} (hM : ez_ms[mi]? = some M) (h : ez_i mi pc = some (i, len)) : decode M.2.2.1 pc = .ok (i, len) := by
  obtain ⟨t, h1, h2⟩ := ez_at_mem h
  have hm : mi < 123 := by rw [← ez_ms_length]; exact (List.getElem?_eq_some_iff.mp hM).1
  have hz : (ez_ms.zip ez_tb)[mi]? = some (M, t) := by rw [List.getElem?_zip_eq_some]; exact ⟨hM, h1⟩
  have hd : ez_dok M.2.2.1 t = true := by
    by_cases c0 : mi < 15
    · exact ez_chunk (P := fun p => ez_dok p.1.2.2.1 p.2 = true) ez_d_ok0 hz (by omega) (by omega)
    by_cases c1 : mi < 30
    · exact ez_chunk (P := fun p => ez_dok p.1.2.2.1 p.2 = true) ez_d_ok15 hz (by omega) (by omega)
    by_cases c2 : mi < 45
    · exact ez_chunk (P := fun p => ez_dok p.1.2.2.1 p.2 = true) ez_d_ok30 hz (by omega) (by omega)
    by_cases c3 : mi < 60
    · exact ez_chunk (P := fun p => ez_dok p.1.2.2.1 p.2 = true) ez_d_ok45 hz (by omega) (by omega)
    by_cases c4 : mi < 75
    · exact ez_chunk (P := fun p => ez_dok p.1.2.2.1 p.2 = true) ez_d_ok60 hz (by omega) (by omega)
    by_cases c5 : mi < 90
    · exact ez_chunk (P := fun p => ez_dok p.1.2.2.1 p.2 = true) ez_d_ok75 hz (by omega) (by omega)
    by_cases c6 : mi < 105
    · exact ez_chunk (P := fun p => ez_dok p.1.2.2.1 p.2 = true) ez_d_ok90 hz (by omega) (by omega)
    by_cases c7 : mi < 120
    · exact ez_chunk (P := fun p => ez_dok p.1.2.2.1 p.2 = true) ez_d_ok105 hz (by omega) (by omega)
    exact ez_chunk (P := fun p => ez_dok p.1.2.2.1 p.2 = true) ez_d_ok120 hz (by omega) (by omega)
  have h3 := List.all_eq_true.mp hd _ h2
  simpa using h3
theorem ez_mt {mi : Nat} {M : ez_M} (hM : ez_ms[mi]? = some M) : Jvm.Cond.code M.2.1 M.2.2.1 M.2.2.2.1 M.2.2.2.2.1 ∈ ez_G ∧ Jvm.Cond.initialized M.2.1.cls ∈ ez_G ∧ ez_R M.1 = M.2.1.cls ∧ plainName M.2.1.cls = true ∧ (M.2.1.cls ≠ "java/lang/invoke/MethodHandle" ∧ M.2.1.cls ≠ "java/lang/invoke/VarHandle") ∧ (parseMethodDescriptor M.2.1.desc).map (fun d => d.parameters.length) = some M.2.2.2.2.2.1 := by
  have hm : mi < 123 := by rw [← ez_ms_length]; exact (List.getElem?_eq_some_iff.mp hM).1
  have hm2 : mi < ez_msp.length := by rw [← ez_ms_len, ez_ms_length]; exact hm
  have hz : (ez_ms.zip ez_msp)[mi]? = some (M, ez_msp[mi]) := by rw [List.getElem?_zip_eq_some]; exact ⟨hM, List.getElem?_eq_getElem hm2⟩
  generalize ez_msp[mi] = q at hz
  have hd : ez_mok M q = true := by
    by_cases c0 : mi < 15
    · exact ez_chunk (P := fun p => ez_mok p.1 p.2 = true) ez_ms_ok0 hz (by omega) (by omega)
    by_cases c1 : mi < 30
    · exact ez_chunk (P := fun p => ez_mok p.1 p.2 = true) ez_ms_ok15 hz (by omega) (by omega)
    by_cases c2 : mi < 45
    · exact ez_chunk (P := fun p => ez_mok p.1 p.2 = true) ez_ms_ok30 hz (by omega) (by omega)
    by_cases c3 : mi < 60
    · exact ez_chunk (P := fun p => ez_mok p.1 p.2 = true) ez_ms_ok45 hz (by omega) (by omega)
    by_cases c4 : mi < 75
    · exact ez_chunk (P := fun p => ez_mok p.1 p.2 = true) ez_ms_ok60 hz (by omega) (by omega)
    by_cases c5 : mi < 90
    · exact ez_chunk (P := fun p => ez_mok p.1 p.2 = true) ez_ms_ok75 hz (by omega) (by omega)
    by_cases c6 : mi < 105
    · exact ez_chunk (P := fun p => ez_mok p.1 p.2 = true) ez_ms_ok90 hz (by omega) (by omega)
    by_cases c7 : mi < 120
    · exact ez_chunk (P := fun p => ez_mok p.1 p.2 = true) ez_ms_ok105 hz (by omega) (by omega)
    exact ez_chunk (P := fun p => ez_mok p.1 p.2 = true) ez_ms_ok120 hz (by omega) (by omega)
  simp only [ez_mok, Bool.and_eq_true, decide_eq_true_eq] at hd
  obtain ⟨a1, a2, a3, a4, a5, a6⟩ := hd
  exact ⟨ez_inp_G a1, ez_inp_G a2, a3, a4, a5, a6⟩
theorem ez_cc_of {o k j : Nat} (h : ez_at ez_cc o k = some j) : ∃ N, ez_ms[j]? = some N ∧ Jvm.Cond.methodLink (ez_R o) k N.2.1 ∈ ez_G ∧ Jvm.Cond.instanceMethod N.2.1 ∈ ez_G ∧ Jvm.Cond.selects N.2.1.cls N.2.1 N.2.1 ∈ ez_G := by
  obtain ⟨r, h1, h2⟩ := ez_at_mem h
  have ho : o < 8 := (List.getElem?_eq_some_iff.mp h1).1
  have hlen := ez_cc_len o (List.mem_range.mpr ho)
  rw [h1, Option.getD_some] at hlen
  obtain ⟨i, hi⟩ := List.getElem?_of_mem h2
  have hil : i < r.length := (List.getElem?_eq_some_iff.mp hi).1
  have hq : (((ez_ccp[o]?).getD []))[i]? = some (((ez_ccp[o]?).getD [])[i]'(by omega)) := List.getElem?_eq_getElem _
  generalize (((ez_ccp[o]?).getD [])[i]'(by omega)) = q at hq
  have hz : (r.zip ((ez_ccp[o]?).getD []))[i]? = some ((k, j), q) := by rw [List.getElem?_zip_eq_some]; exact ⟨hi, hq⟩
  have hall : (r.zip ((ez_ccp[o]?).getD [])).all (ez_cok o) = true := by
    have hr : r = (ez_cc[o]?).getD [] := by rw [h1]; rfl
    rw [hr]
    match o, ho with
    | 0, _ => exact ez_cc_ok0
    | 1, _ => exact ez_cc_ok1
    | 2, _ => exact ez_cc_ok2
    | 3, _ => exact ez_cc_ok3
    | 4, _ => exact ez_cc_ok4
    | 5, _ => exact ez_cc_ok5
    | 6, _ => exact ez_cc_ok6
    | 7, _ => exact ez_cc_ok7
  have h3 : ez_cok o ((k, j), q) = true := List.all_eq_true.mp hall _ (List.mem_of_getElem? hz)
  unfold ez_cok at h3
  split at h3
  · rename_i N hN
    simp only [Bool.and_eq_true] at h3
    exact ⟨N, hN, ez_inp_G h3.1, ez_inp_G h3.2.1, ez_inp_G h3.2.2⟩
  · cases h3
theorem ez_sc_of {o k j : Nat} (h : ez_at ez_sc o k = some j) : ∃ N, ez_ms[j]? = some N ∧ Jvm.Cond.methodLink (ez_R o) k N.2.1 ∈ ez_G ∧ Jvm.Cond.static N.2.1 ∈ ez_G := by
  obtain ⟨r, h1, h2⟩ := ez_at_mem h
  have ho : o < 8 := (List.getElem?_eq_some_iff.mp h1).1
  have h3 := ez_sc_ok o (List.mem_range.mpr ho)
  rw [h1, Option.getD_some] at h3
  have h4 : ez_sok o (k, j) = true := List.all_eq_true.mp h3 _ h2
  unfold ez_sok at h4
  split at h4
  · rename_i N hN
    simp only [Bool.and_eq_true] at h4
    exact ⟨N, hN, ez_in_G h4.1, ez_in_G h4.2⟩
  · cases h4
theorem ez_mm_of {o k f : Nat} (h : ez_at ez_mm o k = some f) : ez_mmok o (k, f) = true := by
  obtain ⟨r, h1, h2⟩ := ez_at_mem h
  have ho : o < 8 := (List.getElem?_eq_some_iff.mp h1).1
  have h3 := ez_mm_ok o (List.mem_range.mpr ho)
  rw [h1, Option.getD_some] at h3
  exact List.all_eq_true.mp h3 _ h2
def ez_rm (M : ez_M) : Room := { frames := M.2.2.2.2.2.2.1, cells := 0, slots := 0, locals := M.2.2.2.2.2.2.2 }
def ez_ws (M : ez_M) : List Jvm.Cond := Jvm.Cond.code M.2.1 M.2.2.1 M.2.2.2.1 M.2.2.2.2.1 :: ez_G
def ez_Pc (D : va_G) (cI : ClassId) (ad : Nat → Nat) (sz : Nat) (As : List Value) (w : ez_W) : Array Value → State → Prop :=
  va_Pc (As.map (ez_v ad)) (fun U => U.heap.size = sz ∧ va_P D vwCl (ez_z cI ad w) U.heap ∧ va_K D vwCl [(cI, .int)] U ∧ va_D (fun _ => True) (ez_z cI ad w))
def ez_Qc (D : va_G) (cI : ClassId) (ad : Nat → Nat) (sz : Nat) (w : ez_W) (r : Option Value) (w' : ez_W) : Array Value → State → Outcome → State → Prop :=
  fun _ st oc t => (oc = .returned (r.map (ez_v ad)) ∧ va_P D vwCl (ez_z cI ad w') t.heap ∧ va_K D vwCl [(cI, .int)] t ∧ va_D (va_A (ez_z cI ad w) sz) (ez_z cI ad w')) ∧ va_F (va_A (ez_z cI ad w) sz) st t
/-- the contract that a run gives -/
def ez_Met (l : Launch) (M : ez_M) (D : va_G) (cI : ClassId) (ad : Nat → Nat) (sz : Nat) (As : List Value) (w : ez_W) (r : Option Value) (w' : ez_W) : Prop :=
  Met l M.2.1 (ez_ws M) (ez_rm M) (ez_Pc D cI ad sz As w) (ez_Qc D cI ad sz w r w') 0 0 (va_A (ez_z cI ad w) sz)
theorem ez_blind {D : va_G} {cI : ClassId} {ad : Nat → Nat} {sz : Nat} {As : List Value} {w : ez_W} : FrameBlind (ez_Pc D cI ad sz As w) := fun a U g mk q => by
  obtain ⟨q0, q1, qP, qK, qD⟩ := q
  exact ⟨q0, q1, qP, va_K.moved (u := U) (U := U.calling g mk a) (Vm.Alike.refl U.vm) qK, qD⟩
section EZ
variable {p : Program} {l : Launch} {e : Env} {R : Room} {s : State} {m : MethodId} {args : Array Value} {below : List Frame} {meth : Method} {c : Code} {H H0 : Heap} {locs : List Loc} {cells slots : Nat} {Q : State → Prop}
variable {D : va_G} {cI : ClassId} {pc : Nat} {w w1 : ez_W} {ad : Nat → Nat} {A : Nat → Prop} {ls : Array Slot} {rest st0 : List Value} {a : Array Value} {r : Option Value}
theorem ez_call (hr : va_Run p l e R s m args below meth c H locs cells slots 0 0 (F0 m pc ls st0) rest (ez_Qc D cI ad H.size w r w1 a) (va_A (ez_z cI ad w) H.size)) (hS : va_S A H0 H locs) (hA : ∀ q, va_A (ez_z cI ad w) H.size q → A q)
    (kk : ∀ (H1 : Heap) (locs1 : List Loc), va_P D vwCl (ez_z cI ad w1) H1 → va_D A (ez_z cI ad w1) → va_S A H0 H1 locs1 → W p l e R s m args below meth c H1 locs1 cells slots Q (F0 m (pc + 3) ls ((r.map (ez_v ad)).toList ++ rest))) : W p l e R s m args below meth c H locs cells slots Q (F0 m pc ls st0) := by
  intro T hT X
  obtain ⟨v, st₀, t, T', L, h0, X', hL, e1, e2, ⟨⟨hv, hP1, hK1, hD1⟩, hz, hk⟩, st⟩ := hr T hT X
  have hv' : v = r.map (ez_v ad) := by injection hv
  subst hv'
  rw [h0] at hz hk
  obtain ⟨t2, a1, b1⟩ := kk T'.heap (locs ++ L) (by rw [e1]; exact hP1) (hD1.weaken (fun k q _ h => hA q.1 h))
    ⟨Nat.le_trans hS.1 (by rw [e1]; exact hz), fun q h1 h2 => by rw [e1, hk q (Nat.lt_of_lt_of_le h1 hS.1) (fun z => h2 (hA q z))]; exact hS.2.1 q h1 h2, fun q hq => by
      rcases List.mem_append.mp hq with h | h
      · exact hS.2.2 q h
      · exact hA _ (hL q h)⟩ T' rfl X'
  exact ⟨t2, st t2 a1, b1⟩
end EZ
theorem ez_sl (ad : Nat → Nat) (vs : List Value) : lg_sl (vs.map (ez_v ad)) = (vs.flatMap fun v => if v.category = 2 then [some v, none] else [some v]).map (fun x => match x with
    | some v => Slot.val (ez_v ad v)
    | none => Slot.second) := by
  unfold lg_sl
  induction vs with
  | nil => rfl
  | cons v vs ih =>
    simp only [List.map_cons, List.flatMap_cons, List.map_append, ih, ez_v_cat]
    congr 1
    split <;> rfl
theorem ez_entry {ad : Nat → Nat} {As : List Value} {n : Nat} (h : (ez_en As n).length = n) : ez_l n ad (ez_en As n) ((lg_sl (As.map (ez_v ad)) ++ List.replicate (n - (lg_sl (As.map (ez_v ad))).length) Slot.unset).toArray) := by
  have hlen : (lg_sl (As.map (ez_v ad))).length = (As.flatMap fun v => if v.category = 2 then [some v, none] else [some v]).length := by rw [ez_sl, List.length_map]
  have hle : (lg_sl (As.map (ez_v ad))).length ≤ n := by
    rw [hlen]
    unfold ez_en at h
    rw [List.length_append, List.length_replicate] at h
    omega
  have h0 := lv_entry (As.map (ez_v ad)) hle
  refine ⟨h, h0.1, h0.2.1, fun i v hi => ?_⟩
  unfold ez_en at hi
  rw [List.getElem?_toArray]
  by_cases hk : i < (As.flatMap fun v => if v.category = 2 then [some v, none] else [some v]).length
  · rw [List.getElem?_append_left hk] at hi
    rw [List.getElem?_append_left (by rw [hlen]; exact hk), ez_sl, List.getElem?_map, hi]
    rfl
  · rw [List.getElem?_append_right (by omega)] at hi
    rw [List.getElem?_replicate] at hi
    split at hi <;> cases hi
/-- the walk of a run's rest -/
def ez_B (n : Nat) : Prop := ∀ (mi pc : Nat) (L : ez_L) (st : List Value) (w : ez_W) (r : Option Value) (w' : ez_W), ez_ev n mi pc L st w = some (r, w') → ∀ (M : ez_M), ez_ms[mi]? = some M →
  ∀ (p : Program) (l : Launch) (e : Env) (s : State) (m : MethodId) (args : Array Value) (below : List Frame) (meth : Method) (c : Code) (H : Heap) (locs : List Loc) (D : va_G) (cI : ClassId) (ad : Nat → Nat) (A : Nat → Prop) (ls : Array Slot) (free : Addr → Prop) (Qc : Array Value → State → Outcome → State → Prop),
  ez_F p s m args c D cI M.1 M.2.2.1 → c.maxLocals = M.2.2.2.1 → meth.sig.returnType = M.2.2.2.2.1 → meth.locks = false → (∀ q : Nat, s.heap.size ≤ q → A q) → va_P D vwCl (ez_z cI ad w) H → va_D A (ez_z cI ad w) → va_S A s.heap H locs → ez_l M.2.2.2.1 ad L ls →
  (∀ (t : State) (H' : Heap) (locs' : List Loc), t.heap = H' → s.WarmedH t.vm → va_P D vwCl (ez_z cI ad w') H' → va_D A (ez_z cI ad w') → va_S A s.heap H' locs' → Qc args s (.returned (r.map (ez_v ad))) t) → (∀ q : Nat, A q → free q) →
  W p l e (ez_rm M) s m args below meth c H locs 0 0 (MQ below Qc args s 0 0 free) (F0 m pc ls (st.map (ez_v ad)))
theorem ez_met_of {n : Nat} (hB : ez_B n) {l : Launch} {j : Nat} {N : ez_M} (hN : ez_ms[j]? = some N) {As : List Value} {w w1 : ez_W} {r : Option Value} (h : ez_ev n j 0 (ez_en As N.2.2.2.1) [] w = some (r, w1)) (hlen : (ez_en As N.2.2.2.1).length = N.2.2.2.1) (D : va_G) (cI : ClassId) (ad : Nat → Nat) (sz : Nat) : ez_Met l N D cI ad sz As w r w1 := by
  obtain ⟨-, -, g3, g4, -, -⟩ := ez_mt hN
  refine Met.ofW (cc := N.2.2.1) (maxL := N.2.2.2.1) (ret := N.2.2.2.2.1) g4 rfl ?_
  intro p e s m args below meth c s₁ B hml hv
  obtain ⟨rfl, hsz, hP, hK, hD0⟩ := hv
  have hts := atoms_spec (ws := ez_ws N) B.pre
  have hown : s.vm.findClass N.2.1.cls = some m.cls := findClass_of_methodNamed B.named
  subst hsz
  have hD := hD0.self (sz := s.heap.size)
  rw [lg_entry_eq]
  refine hB j 0 _ [] w r w1 h N hN p l e s m _ below meth c s.heap [] D cI ad (va_A (ez_z cI ad w) s.heap.size) _ (va_A (ez_z cI ad w) s.heap.size) _ ⟨B.exec, B.bytes, by rw [g3]; exact hown, fun w hw => hts w (List.mem_cons_of_mem _ hw), hK⟩ hml B.returns B.notSynchronized (fun q h => Or.inr h) hP hD va_S.rf (ez_entry hlen) ?_ (fun q h => h)
  intro t H' locs' ht hW hP' hD' hS'
  exact ⟨⟨rfl, by rw [ht]; exact hP', va_K.moved hW.alike hK, hD'⟩, hS'.F ht⟩
