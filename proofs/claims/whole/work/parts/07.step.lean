/-! ===== what the tables say of a field, a class, a constant ===== -/
theorem ez_w0 : ∀ w ∈ wsX00, ez_in w = true := by decide +kernel
theorem ez_w1 : ∀ w ∈ wsX10, ez_in w = true := by decide +kernel
theorem ez_w2 : ∀ w ∈ wsX20, ez_in w = true := by decide +kernel
theorem ez_w3 : ∀ w ∈ wsX30, ez_in w = true := by decide +kernel
theorem ez_w4 : ∀ w ∈ wsX40, ez_in w = true := by decide +kernel
theorem ez_w5 : ∀ w ∈ wsX50, ez_in w = true := by decide +kernel
theorem ez_w6 : ∀ w ∈ wsX70, ez_in w = true := by decide +kernel
theorem ez_w7 : ∀ w ∈ wsX80, ez_in w = true := by decide +kernel
def ez_cf (q : vw_C) : Prop := (∀ w ∈ u_ws q.1 q.2.1 q.2.2, w ∈ ez_G) ∧ ∃ ty0 : Nat → FieldType, (∀ k, k < q.2.2 → parseFieldDescriptor (q.2.1 k).2.2.1 = some (ty0 k)) ∧ (∀ a, a < q.2.2 → ∀ b, b < q.2.2 → a ≠ b → (q.2.1 a).2.1 ≠ (q.2.1 b).2.1)
theorem ez_cls {o : Nat} {q : vw_C} (h : vwCl[o]? = some q) : o < 8 ∧ ez_R o = q.1 ∧ ez_cf q := by
  have ho : o < 8 := (List.getElem?_eq_some_iff.mp h).1
  refine ⟨ho, by unfold ez_R; rw [h], ?_⟩
  match o, h with
  | 0, h => cases h; exact ⟨fun w hw => ez_in_G (ez_w0 w hw), tyX0, tyX0_ok, nmX0⟩
  | 1, h => cases h; exact ⟨fun w hw => ez_in_G (ez_w1 w hw), tyX1, tyX1_ok, nmX1⟩
  | 2, h => cases h; exact ⟨fun w hw => ez_in_G (ez_w2 w hw), tyX2, tyX2_ok, nmX2⟩
  | 3, h => cases h; exact ⟨fun w hw => ez_in_G (ez_w3 w hw), tyX3, tyX3_ok, nmX3⟩
  | 4, h => cases h; exact ⟨fun w hw => ez_in_G (ez_w4 w hw), tyX4, tyX4_ok, nmX4⟩
  | 5, h => cases h; exact ⟨fun w hw => ez_in_G (ez_w5 w hw), tyX5, tyX5_ok, nmX5⟩
  | 6, h => cases h; exact ⟨fun w hw => ez_in_G (ez_w6 w hw), tyX7, tyX7_ok, nmX7⟩
  | 7, h => cases h; exact ⟨fun w hw => ez_in_G (ez_w7 w hw), tyX8, tyX8_ok, nmX8⟩
theorem ez_fld {o idx k kd : Nat} (h : ez_at ez_ff o idx = some (k, kd)) : ∃ q : vw_C, vwCl[o]? = some q ∧ k < q.2.2 ∧ Jvm.Cond.fieldLink q.1 idx q.1 (q.2.1 k).2.1 (q.2.1 k).2.2.1 ∈ ez_G ∧ ((q.2.1 k).1 = q.1 ∨ Jvm.Cond.sameField q.1 (q.2.1 k).1 (q.2.1 k).2.1 (q.2.1 k).2.2.1 ∈ ez_G) ∧ ez_fk kd (q.2.1 k) = true := by
  obtain ⟨r, h1, h2⟩ := ez_at_mem h
  have ho : o < 8 := (List.getElem?_eq_some_iff.mp h1).1
  have hl : vwCl.length = 8 := rfl
  have hq : vwCl[o]? = some (vwCl[o]'(by omega)) := List.getElem?_eq_getElem _
  generalize (vwCl[o]'(by omega)) = q at hq
  have hz : (q, r) ∈ vwCl.zip ez_ff := by
    refine List.mem_of_getElem? (i := o) ?_
    rw [List.getElem?_zip_eq_some]
    exact ⟨hq, h1⟩
  have h3 := List.all_eq_true.mp (ez_ff_ok _ hz) _ h2
  simp only [ez_fok, Bool.and_eq_true, Bool.or_eq_true, decide_eq_true_eq] at h3
  obtain ⟨a1, a2, a3, a4⟩ := h3
  exact ⟨q, hq, a1, ez_in_G a2, a3.imp id ez_in_G, a4⟩
theorem ez_kk_of {o k : Nat} {v : Int32} (h : ez_at ez_kk o k = some v) : Jvm.Cond.constant (ez_R o) k v ∈ ez_G := by
  obtain ⟨r, h1, h2⟩ := ez_at_mem h
  have ho : o < 8 := (List.getElem?_eq_some_iff.mp h1).1
  have h3 := ez_kk_ok o (List.mem_range.mpr ho)
  rw [h1, Option.getD_some] at h3
  have h4 : ez_kok o (k, v) = true := List.all_eq_true.mp h3 _ h2
  unfold ez_kok at h4
  exact ez_in_G h4
theorem ez_kl_of {o k : Nat} {v : Int64} (h : ez_at ez_kl o k = some v) : Jvm.Cond.constantLong (ez_R o) k v ∈ ez_G := by
  obtain ⟨r, h1, h2⟩ := ez_at_mem h
  have ho : o < 8 := (List.getElem?_eq_some_iff.mp h1).1
  have h3 := ez_kl_ok o (List.mem_range.mpr ho)
  rw [h1, Option.getD_some] at h3
  have h4 : ez_klok o (k, v) = true := List.all_eq_true.mp h3 _ h2
  unfold ez_klok at h4
  exact ez_in_G h4
theorem ez_ft_of {kd : Nat} {v : Value} {f : String × String × String × Bool} (h : ez_fk kd f = true) (hv : ez_ft kd v = true) : f.2.2.2 = false ∧ ∃ ty, parseFieldDescriptor f.2.2.1 = some ty ∧ narrow ty v = v ∧ fits ty v = true := by
  unfold ez_ft at hv
  split at hv
  · simp only [ez_fk, Bool.and_eq_true, decide_eq_true_eq, Bool.not_eq_true'] at h
    exact ⟨h.1, _, h.2, rfl, rfl⟩
  · simp only [ez_fk, Bool.and_eq_true, decide_eq_true_eq, Bool.not_eq_true'] at h
    exact ⟨h.1, _, h.2, rfl, rfl⟩
  · simp only [ez_fk, Bool.and_eq_true, decide_eq_true_eq, Bool.not_eq_true'] at h
    refine ⟨h.1, _, h.2, ?_, hv⟩
    simp only [Bool.or_eq_true, beq_iff_eq] at hv
    rcases hv with rfl | rfl <;> rfl
  · cases hv
/-- what a method's walk stands on -/
def ez_F (p : Program) (s : State) (m : MethodId) (args : Array Value) (c : Code) (D : va_G) (cI : ClassId) (o : Nat) (bytes : ByteArray) : Prop :=
  p.tables.exec = Jvm.exec ∧ c.code = bytes ∧ s.vm.findClass (ez_R o) = some m.cls ∧ (∀ w ∈ ez_G, w.before args s = true) ∧ va_K D vwCl [(cI, .int)] s
section EZ
variable {p : Program} {l : Launch} {e : Env} {R : Room} {s : State} {m : MethodId} {args : Array Value} {below : List Frame} {meth : Method} {c : Code} {H H0 : Heap} {locs : List Loc} {cells slots : Nat} {Q : State → Prop}
variable {D : va_G} {cI : ClassId} {o pc pc' len nL : Nat} {bytes : ByteArray} {L L' : ez_L} {st st' : List Value} {w w' : ez_W} {ad : Nat → Nat} {A : Nat → Prop} {ls : Array Slot} {i : Instr}
theorem ez_getf {k a j kd : Nat} {cc : Nat} {fs : List Value} {v : Value} (F : ez_F p s m args c D cI o bytes) (hd : decode bytes pc = .ok (.getfield k, 3)) (hP : va_P D vwCl (ez_z cI ad w) H) (hf : ez_at ez_ff o k = some (j, kd)) (hw : w[a]? = some (.inr (cc, fs))) (hc : Nat.beq cc o = true) (hv : fs[j]? = some v)
    (kk : W p l e R s m args below meth c H locs cells slots Q (F0 m (pc + 3) ls (ez_v ad v :: st.map (ez_v ad)))) : W p l e R s m args below meth c H locs cells slots Q (F0 m pc ls (.ref (ad a) :: st.map (ez_v ad))) := by
  obtain ⟨hx, hb, hown, hts, hK⟩ := F
  obtain ⟨q, h1, h2, h3, h4, -⟩ := ez_fld hf
  obtain ⟨-, hR, hG, -⟩ := ez_cls h1
  have hcc : cc = o := Nat.eq_of_beq_eq_true hc
  subst hcc
  rw [hR] at hown
  refine va_get (D := D) (ci := cc) (C := q.1) (T := q.2.1) (N := q.2.2) hx hb hts hG hown hK hP a (ez_z_at hw) h1 j h2 (hts _ h3) (fun x hx1 => ?_) (v := ez_v ad v) (by simp [hv]) hd kk
  rcases h4 with h4 | h4
  · rw [h4] at hx1; exact hx1
  · exact u_same (hts _ h4) x hx1
theorem ez_putf {k a j kd : Nat} {cc : Nat} {fs : List Value} {v : Value} (F : ez_F p s m args c D cI o bytes) (hd : decode bytes pc = .ok (.putfield k, 3)) (hP : va_P D vwCl (ez_z cI ad w) H) (hD : va_D A (ez_z cI ad w)) (hS : va_S A H0 H locs) (hf : ez_at ez_ff o k = some (j, kd)) (hw : w[a]? = some (.inr (cc, fs))) (hc : Nat.beq cc o = true) (hj : Nat.blt j fs.length = true) (hv : ez_ft kd v = true)
    (kk : ∀ (H1 : Heap) (locs1 : List Loc), va_P D vwCl (ez_z cI ad (w.set a (.inr (cc, fs.set j v)))) H1 → va_D A (ez_z cI ad (w.set a (.inr (cc, fs.set j v)))) → va_S A H0 H1 locs1 → W p l e R s m args below meth c H1 locs1 cells slots Q (F0 m (pc + 3) ls (st.map (ez_v ad)))) : W p l e R s m args below meth c H locs cells slots Q (F0 m pc ls (ez_v ad v :: .ref (ad a) :: st.map (ez_v ad))) := by
  obtain ⟨hx, hb, hown, hts, hK⟩ := F
  obtain ⟨q, h1, h2, h3, h4, h5⟩ := ez_fld hf
  obtain ⟨-, hR, hG, ty0, hty, hnm⟩ := ez_cls h1
  have hcc : cc = o := Nat.eq_of_beq_eq_true hc
  subst hcc
  rw [hR] at hown
  have hvv : ez_ft kd (ez_v ad v) = true := by cases v <;> first | exact hv | (simp [ez_ft] at hv; done) | (unfold ez_ft at hv; split at hv <;> first | contradiction | (rename_i q1; cases q1))
  obtain ⟨f1, ty, f2, f3, f4⟩ := ez_ft_of h5 hvv
  refine va_put (D := D) (ci := cc) (C := q.1) (T := q.2.1) (N := q.2.2) hx hb hts hG ty0 hty hnm hown hK hP hD hS a (ez_z_at hw) h1 j h2 (hts _ h3) (fun x hx1 => ?_) f1 f2 f3 f4 (by rw [List.length_map]; exact Nat.le_of_ble_eq_true hj) hd (fun H1 locs1 g1 g2 g3 => kk H1 locs1 ?_ ?_ g3)
  · rcases h4 with h4 | h4
    · rw [h4] at hx1; exact hx1
    · exact u_same (hts _ h4) x hx1
  · rw [ez_z_set]
    show va_P D vwCl ((ez_z cI ad w).set a (ad a, .inr (cc, (fs.set j v).map (ez_v ad)))) H1
    rw [List.map_set]
    exact g1
  · rw [ez_z_set]
    show va_D A ((ez_z cI ad w).set a (ad a, .inr (cc, (fs.set j v).map (ez_v ad))))
    rw [List.map_set]
    exact g2
end EZ
