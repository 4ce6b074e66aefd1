/-! ===== small rules, and the row's reads and writes over the relations ===== -/
theorem ez_top {mi pc : Nat} {L : ez_L} {st : List Value} {w : ez_W} {post : Option Value → ez_W → Prop} {x y : Int32} (h : x = y) (k : ez_E mi pc L (.int y :: st) w post) : ez_E mi pc L (.int x :: st) w post := h ▸ k
theorem ez_topl {mi pc : Nat} {L : ez_L} {st : List Value} {w : ez_W} {post : Option Value → ez_W → Prop} {x y : Int64} (h : x = y) (k : ez_E mi pc L (.long y :: st) w post) : ez_E mi pc L (.long x :: st) w post := h ▸ k
theorem ez_inc {mi o pc k : Nat} {c : Int} {t : List (Nat × Instr × Nat)} {L L' : ez_L} {st : List Value} {w : ez_W} {post : Option Value → ez_W → Prop} {x v : Int32} (hm : ez_mh mi o t) (hi : ez_lk t pc = some (.iinc k c, 3)) (hx : ez_li L k = some x) (hv : x + Int32.ofInt c = v) (hs : ez_s1 L k (.int v) = some L') (kk : ez_E mi (pc + 3) L' st w post) : ez_E mi pc L st w post := by
  refine ez_step hm hi rfl ?_ kk
  simp only [ez_s, hx]
  rw [hv, hs]
theorem zi_1 (a : Nat) : nI a + Int32.ofInt 1 = nI (a + 1) := nI_1 a
theorem zi_m {a : Nat} (h : 0 < a) : nI a + Int32.ofInt (-1) = nI (a - 1) := sb_m1 h
theorem ez_l0 : ez_le [] [] := ez_le_rf _
theorem ez_lc {L L' : ez_L} {v : Option Value} (h : ez_le L L') : ez_le (v :: L) (v :: L') := ⟨by simp [h.1], fun k u hk => by
  cases k with
  | zero => exact hk
  | succ k => exact h.2 k u (by simpa using hk)⟩
theorem ez_ln {L L' : ez_L} {v : Option Value} (h : ez_le L L') : ez_le (none :: L) (v :: L') := ⟨by simp [h.1], fun k u hk => by
  cases k with
  | zero => simp at hk
  | succ k => exact h.2 k u (by simpa using hk)⟩
theorem zt_lt {a b : Nat} (h : a < b) (hb : b < 2 ^ 31) : nI a < nI b := nI_lt h hb
theorem zt_nlt {a b : Nat} (h : ¬ a < b) (ha : a < 2 ^ 31) : ¬ nI a < nI b := nI_nlt (by omega) ha
theorem zt_le {a b : Nat} (h : a ≤ b) (hb : b < 2 ^ 31) : nI a ≤ nI b := nI_le h hb
theorem zt_nle {a b : Nat} (h : ¬ a ≤ b) (ha : a < 2 ^ 31) : ¬ nI a ≤ nI b := nI_ge (by omega) ha
theorem zt_eq {a b : Nat} (h : a = b) : nI a = nI b := by rw [h]
theorem zt_ne {a b : Nat} (h : ¬ a = b) (ha : a < 2 ^ 31) (hb : b < 2 ^ 31) : ¬ nI a = nI b := fun q => h ((nI_eq ha hb).mp q)
theorem zz_t {b : Bool} (h : b = true) : ¬ zs_z b = 0 := by rw [h]; decide
theorem zz_f {b : Bool} (h : b = false) : zs_z b = 0 := by rw [h]; rfl
def zs_sw (row : Nat → Nat) (i j : Nat) : Nat → Nat := va_up (va_up row i (row j)) j (row i)
theorem cr_up {E : ze_T} {row : Nat → Nat} {g : zs_G} {sz ord adv cand stl : Int32} {asked : Int64} {num thg : Nat → Int32} {k x : Nat} (h : cr_R E row g (sz, ord, asked, adv, cand, stl, num, thg)) : cr_R E (va_up row k x) g (sz, ord, asked, adv, cand, stl, num, upd thg k (nI (ze_pi E x))) := by
  obtain ⟨h1, h2, h3, h4, h5⟩ := h
  refine ⟨h1, h2, h3, fun j hj => ?_, h5⟩
  show upd thg k (nI (ze_pi E x)) j = nI (ze_pi E (va_up row k x j))
  by_cases e : j = k
  · subst e; rw [pk_us, va_up_self]
  · rw [pk_un e, va_up_ne _ _ e]; exact h4 j hj
theorem cr_at {E : ze_T} {row : Nat → Nat} {g : zs_G} {r : cz_Row} (hE : ze_ok E) (hr : cr_R E row g r) {k : Nat} (hk : k < ze_n E) (q : cz_Qk) (u : cz_Rn) (b : cz_Bn) {post : Option Value → ez_W → Prop} (h : post (some (.int (nI (ze_pi E (row k))))) (cz_w r q u b)) : ez_m 32 [.ref 1, .int (nI k)] (cz_w r q u b) post := by
  have hn := hE.1
  obtain ⟨sz, ord, asked, adv, cand, stl, num, thg⟩ := r
  refine lf_at k (by omega) sz ord asked adv cand stl num thg q u b ?_
  have e : thg k = nI (ze_pi E (row k)) := hr.2.2.2.1 k hk
  rw [e]
  exact h
theorem cr_set {E : ze_T} {row : Nat → Nat} {g : zs_G} {r : cz_Row} (hE : ze_ok E) (hr : cr_R E row g r) {k x : Nat} (hk : k < ze_n E) (q : cz_Qk) (u : cz_Rn) (b : cz_Bn) {post : Option Value → ez_W → Prop} (h : ∀ r' : cz_Row, cr_R E (va_up row k x) g r' → post none (cz_w r' q u b)) : ez_m 33 [.ref 1, .int (nI k), .int (nI (ze_pi E x))] (cz_w r q u b) post := by
  have hn := hE.1
  obtain ⟨sz, ord, asked, adv, cand, stl, num, thg⟩ := r
  exact lf_set k (nI (ze_pi E x)) (by omega) sz ord asked adv cand stl num thg q u b (h _ (cr_up hr))
theorem cr_size {E : ze_T} {row : Nat → Nat} {g : zs_G} {r : cz_Row} (hr : cr_R E row g r) (q : cz_Qk) (u : cz_Rn) (b : cz_Bn) {post : Option Value → ez_W → Prop} (h : post (some (.int (nI (ze_n E)))) (cz_w r q u b)) : ez_m 26 [.ref 1] (cz_w r q u b) post := by
  obtain ⟨sz, ord, asked, adv, cand, stl, num, thg⟩ := r
  refine lf_size sz ord asked adv cand stl num thg q u b ?_
  have e : sz = nI (ze_n E) := hr.1
  rw [← e] at h
  exact h
/-- the reference reads its row -/
theorem mr_ld {E : ze_T} {row : Nat → Nat} {g : zs_G} {A : mz_A} {mi o pc : Nat} {t : List (Nat × Instr × Nat)} {L : ez_L} {st : List Value} {Q : mz_Q} {U : mz_U} {T : mz_T} {post : Option Value → ez_W → Prop} (hm : ez_mh mi o t) (hi : ez_lk t pc = some (.iaload, 1)) (hE : ze_ok E) (hr : mr_R E row g A) {k : Nat} (hk : k < ze_n E) (h : ez_E mi (pc + 1) L (.int (nI (row k)) :: st) (mz_w A Q U T) post) : ez_E mi pc L (.int (nI k) :: .ref 4 :: st) (mz_w A Q U T) post := by
  have hn := hE.1
  refine ez_ald hm hi rfl k rfl (by omega) (by omega) ?_
  rw [hr.2.2.2.2.1 k hk]
  exact h
theorem mr_up {E : ze_T} {row : Nat → Nat} {g : zs_G} {msz mord madv mcand mnx : Int32} {mcmp mlat : Int64} {mnum mset mrow : Nat → Int32} {k x : Nat} (h : mr_R E row g (msz, mord, madv, mcand, mnx, mcmp, mlat, mnum, mset, mrow)) : mr_R E (va_up row k x) g (msz, mord, madv, mcand, mnx, mcmp, mlat, mnum, mset, upd mrow k (nI x)) := by
  obtain ⟨h1, h2, h3, h3b, h4, h5⟩ := h
  refine ⟨h1, h2, h3, h3b, fun j hj => ?_, h5⟩
  show upd mrow k (nI x) j = nI (va_up row k x j)
  by_cases e : j = k
  · subst e; rw [pk_us, va_up_self]
  · rw [pk_un e, va_up_ne _ _ e]; exact h4 j hj
/-- the reference writes its row -/
theorem mr_st {E : ze_T} {row : Nat → Nat} {g : zs_G} {A : mz_A} {mi o pc : Nat} {t : List (Nat × Instr × Nat)} {L : ez_L} {st : List Value} {Q : mz_Q} {U : mz_U} {T : mz_T} {post : Option Value → ez_W → Prop} (hm : ez_mh mi o t) (hi : ez_lk t pc = some (.iastore, 1)) (hE : ze_ok E) (hr : mr_R E row g A) {k x : Nat} (hk : k < ze_n E) (h : ∀ A' : mz_A, mr_R E (va_up row k x) g A' → ez_E mi (pc + 1) L st (mz_w A' Q U T) post) : ez_E mi pc L (.int (nI x) :: .int (nI k) :: .ref 4 :: st) (mz_w A Q U T) post := by
  have hn := hE.1
  obtain ⟨msz, mord, madv, mcand, mnx, mcmp, mlat, mnum, mset, mrow⟩ := A
  exact ez_ast hm hi rfl k rfl (by omega) (by omega) (h _ (mr_up hr))
theorem mr_swap {E : ze_T} {row : Nat → Nat} {g : zs_G} {A : mz_A} (hE : ze_ok E) (hr : mr_R E row g A) {i j : Nat} (hi : i < ze_n E) (hj : j < ze_n E) (Q : mz_Q) (U : mz_U) (T : mz_T) {post : Option Value → ez_W → Prop} (h : ∀ A' : mz_A, mr_R E (zs_sw row i j) g A' → post none (mz_w A' Q U T)) : ez_m 75 [.ref 0, .int (nI i), .int (nI j)] (mz_w A Q U T) post := by
  have hn := hE.1
  obtain ⟨msz, mord, madv, mcand, mnx, mcmp, mlat, mnum, mset, mrow⟩ := A
  have e1 : mrow i = nI (row i) := hr.2.2.2.2.1 i hi
  have e2 : mrow j = nI (row j) := hr.2.2.2.2.1 j hj
  refine lf_mswap i j (by omega) (by omega) msz mord madv mcand mnx mcmp mlat mnum mset mrow Q U T ?_
  unfold pf_mswap
  rw [e1, e2]
  exact h _ (mr_up (mr_up hr))
/-- reach: from a place of a method to another one of it -/
def cr_G (E : ze_T) (mi pc : Nat) (L : ez_L) (row : Nat → Nat) (g : zs_G) (pc' : Nat) (L' : ez_L) (row' : Nat → Nat) (g' : zs_G) : Prop := ∀ (r : cz_Row) (q : cz_Qk) (u : cz_Rn) (b : cz_Bn) (post : Option Value → ez_W → Prop), cr_R E row g r → (∀ r' : cz_Row, cr_R E row' g' r' → ez_E mi pc' L' [] (cz_w r' q u b) post) → ez_E mi pc L [] (cz_w r q u b) post
/-- a method that touches the row alone -/
def cr_M (E : ze_T) (j : Nat) (As : List Value) (row : Nat → Nat) (g : zs_G) (a : Option Value) (row' : Nat → Nat) (g' : zs_G) : Prop := ∀ (r : cz_Row) (q : cz_Qk) (u : cz_Rn) (b : cz_Bn) (post : Option Value → ez_W → Prop), cr_R E row g r → (∀ r' : cz_Row, cr_R E row' g' r' → post a (cz_w r' q u b)) → ez_m j As (cz_w r q u b) post
def mr_G (E : ze_T) (mi pc : Nat) (L : ez_L) (row : Nat → Nat) (g : zs_G) (pc' : Nat) (L' : ez_L) (row' : Nat → Nat) (g' : zs_G) : Prop := ∀ (A : mz_A) (Q : mz_Q) (U : mz_U) (T : mz_T) (post : Option Value → ez_W → Prop), mr_R E row g A → (∀ A' : mz_A, mr_R E row' g' A' → ez_E mi pc' L' [] (mz_w A' Q U T) post) → ez_E mi pc L [] (mz_w A Q U T) post
def mr_M (E : ze_T) (j : Nat) (As : List Value) (row : Nat → Nat) (g : zs_G) (a : Option Value) (row' : Nat → Nat) (g' : zs_G) : Prop := ∀ (A : mz_A) (Q : mz_Q) (U : mz_U) (T : mz_T) (post : Option Value → ez_W → Prop), mr_R E row g A → (∀ A' : mz_A, mr_R E row' g' A' → post a (mz_w A' Q U T)) → ez_m j As (mz_w A Q U T) post
theorem cr_G.tr {E : ze_T} {mi p1 p2 p3 : Nat} {L1 L2 L3 : ez_L} {r1 r2 r3 : Nat → Nat} {g1 g2 g3 : zs_G} (h : cr_G E mi p1 L1 r1 g1 p2 L2 r2 g2) (k : cr_G E mi p2 L2 r2 g2 p3 L3 r3 g3) : cr_G E mi p1 L1 r1 g1 p3 L3 r3 g3 := fun r q u b post hr kk => h r q u b post hr (fun r' hr' => k r' q u b post hr' kk)
theorem mr_G.tr {E : ze_T} {mi p1 p2 p3 : Nat} {L1 L2 L3 : ez_L} {r1 r2 r3 : Nat → Nat} {g1 g2 g3 : zs_G} (h : mr_G E mi p1 L1 r1 g1 p2 L2 r2 g2) (k : mr_G E mi p2 L2 r2 g2 p3 L3 r3 g3) : mr_G E mi p1 L1 r1 g1 p3 L3 r3 g3 := fun A Q U T post hr kk => h A Q U T post hr (fun r' hr' => k r' Q U T post hr' kk)
theorem zz_01 (b : Bool) : zs_z b = 0 ∨ zs_z b = 1 := by cases b <;> simp [zs_z]
theorem zr_ok.sw {E : ze_T} {row : Nat → Nat} {g : zs_G} (h : zr_ok E row g) {i j : Nat} (hi : i < ze_n E) (hj : j < ze_n E) : zr_ok E (zs_sw row i j) g := (h.set (h.1 j hj)).set (h.1 i hi)
/-- what was known stays known -/
def zg_le (E : ze_T) (g g' : zs_G) : Prop := ∀ u v, u < ze_n E → zs_K (ze_md E) (ze_ka E) g u v → zs_K (ze_md E) (ze_ka E) g' u v
theorem zg_le.rf {E : ze_T} (g : zs_G) : zg_le E g g := fun _ _ _ h => h
theorem zg_le.tr {E : ze_T} {g1 g2 g3 : zs_G} (h : zg_le E g1 g2) (k : zg_le E g2 g3) : zg_le E g1 g3 := fun u v hu q => k u v hu (h u v hu q)
theorem zg_le.go {E : ze_T} {row : Nat → Nat} {g : zs_G} (h : zr_ok E row g) (x y : Nat) : zg_le E g (zs_g (ze_md E) x y g) := fun _ _ hu q => q.mono h.2 hu x y
/-- within b .. e only what was there, outside nothing changed -/
def zp_in (row row' : Nat → Nat) (b e : Nat) : Prop := (∀ k, b ≤ k → k < e → ∃ j, b ≤ j ∧ j < e ∧ row' k = row j) ∧ ∀ k, k < b ∨ e ≤ k → row' k = row k
theorem zp_in.rf (row : Nat → Nat) (b e : Nat) : zp_in row row b e := ⟨fun k h1 h2 => ⟨k, h1, h2, rfl⟩, fun _ _ => rfl⟩
theorem zp_in.tr {r1 r2 r3 : Nat → Nat} {b e : Nat} (h : zp_in r1 r2 b e) (k : zp_in r2 r3 b e) : zp_in r1 r3 b e := ⟨fun j h1 h2 => by
  obtain ⟨i, a1, a2, a3⟩ := k.1 j h1 h2
  obtain ⟨i', b1, b2, b3⟩ := h.1 i a1 a2
  exact ⟨i', b1, b2, a3.trans b3⟩, fun j hj => (k.2 j hj).trans (h.2 j hj)⟩
theorem zp_in.wide {r1 r2 : Nat → Nat} {b e b' e' : Nat} (h : zp_in r1 r2 b e) (h1 : b' ≤ b) (h2 : e ≤ e') : zp_in r1 r2 b' e' := ⟨fun k a1 a2 => by
  by_cases c : b ≤ k ∧ k < e
  · obtain ⟨j, c1, c2, c3⟩ := h.1 k c.1 c.2
    exact ⟨j, by omega, by omega, c3⟩
  · exact ⟨k, a1, a2, h.2 k (by omega)⟩, fun k hk => h.2 k (by omega)⟩
theorem zp_in.sw (row : Nat → Nat) {i j b e : Nat} (hi : b ≤ i ∧ i < e) (hj : b ≤ j ∧ j < e) : zp_in row (zs_sw row i j) b e := ⟨fun k h1 h2 => by
  unfold zs_sw
  by_cases c : k = j
  · exact ⟨i, hi.1, hi.2, by rw [c, va_up_self]⟩
  · rw [va_up_ne _ _ c]
    by_cases c2 : k = i
    · exact ⟨j, hj.1, hj.2, by rw [c2, va_up_self]⟩
    · exact ⟨k, h1, h2, by rw [va_up_ne _ _ c2]⟩, fun k hk => by
  unfold zs_sw
  rw [va_up_ne _ _ (by omega), va_up_ne _ _ (by omega)]⟩
