/-! ===== known to be less ===== -/
def zs_L (md : Bool) (ka : Nat → Int64) (g : zs_G) (x y : Nat) : Prop := bif md then (∃ a, g.2.1 x = some a ∧ ∀ b, g.2.1 y = some b → a < b) else ka x < ka y
theorem zs_b_L {md : Bool} {ka : Nat → Int64} {g : zs_G} {x y : Nat} (h : zs_b md ka x y g = true) : zs_L md ka (zs_g md x y g) x y := by
  cases md
  · show ka x < ka y
    exact of_decide_eq_true h
  · replace h : zs_lt (zs_st x y g) x y = true := h
    unfold zs_lt at h
    show ∃ a, zs_st x y g x = some a ∧ ∀ b, zs_st x y g y = some b → a < b
    split at h
    · rename_i a e1 e2
      exact ⟨a, e1, fun b hb => by rw [e2] at hb; cases hb⟩
    · rename_i a b e1 e2
      exact ⟨a, e1, fun c hc => by rw [e2] at hc; cases hc; exact of_decide_eq_true h⟩
    · cases h
theorem zs_L.mono {md : Bool} {ka : Nat → Int64} {n : Nat} {g : zs_G} {u v : Nat} (hI : md = true → zs_I n g) (hu : u < n) (h : zs_L md ka g u v) (x y : Nat) : zs_L md ka (zs_g md x y g) u v := by
  cases md
  · exact h
  · have hI := hI rfl
    obtain ⟨a, h1, h2⟩ := h
    refine ⟨a, zs_st_some h1, fun b hb => ?_⟩
    replace hb : zs_st x y g v = some b := hb
    cases hv : g.2.1 v with
    | some b' =>
      rw [zs_st_some hv] at hb
      cases hb
      exact h2 _ hv
    | none =>
      rw [(zs_st_new hI hb hv).1]
      exact hI.2.1 u a hu h1
theorem zs_L.b {md : Bool} {ka : Nat → Int64} {g : zs_G} {x y : Nat} (h : zs_L md ka g x y) : zs_b md ka x y g = true := by
  cases md
  · replace h : ka x < ka y := h
    show decide (ka x < ka y) = true
    exact decide_eq_true h
  · obtain ⟨a, h1, h2⟩ := h
    show zs_lt (zs_st x y g) x y = true
    have e : zs_st x y g = g.2.1 := by
      unfold zs_st
      rw [if_neg (fun z => by rw [h1] at z; cases z.1)]
    rw [e]
    unfold zs_lt
    rw [h1]
    cases hy : g.2.1 y with
    | none => rfl
    | some b => exact decide_eq_true (h2 b hy)
theorem zs_L.K {md : Bool} {ka : Nat → Int64} {g : zs_G} {x y : Nat} (h : zs_L md ka g x y) : zs_K md ka g x y := by
  cases md
  · exact Int64.le_of_lt h
  · exact Or.inr h
/-- what was known stays known, also 'less' -/
def zx_le (E : ze_T) (g g' : zs_G) : Prop := zg_le E g g' ∧ ∀ u v, u < ze_n E → zs_L (ze_md E) (ze_ka E) g u v → zs_L (ze_md E) (ze_ka E) g' u v
theorem zx_le.rf {E : ze_T} (g : zs_G) : zx_le E g g := ⟨zg_le.rf g, fun _ _ _ h => h⟩
theorem zx_le.tr {E : ze_T} {g1 g2 g3 : zs_G} (h : zx_le E g1 g2) (k : zx_le E g2 g3) : zx_le E g1 g3 := ⟨h.1.tr k.1, fun u v hu q => k.2 u v hu (h.2 u v hu q)⟩
theorem zx_le.go {E : ze_T} {row : Nat → Nat} {g : zs_G} (h : zr_ok E row g) (x y : Nat) : zx_le E g (zs_g (ze_md E) x y g) := ⟨zg_le.go h x y, fun _ _ hu q => q.mono h.2 hu x y⟩
/-- TWO -/
theorem zk_two {E : ze_T} (hE : ze_ok E) {i j : Nat} (hi : i < ze_n E) (hj : j < ze_n E) {row : Nat → Nat} {g : zs_G} (hw : zr_ok E row g) :
    ∃ (row' : Nat → Nat) (g' : zs_G), zr_ok E row' g' ∧ zg_le E g g' ∧ (row' = row ∨ row' = zs_sw row i j) ∧ (i ≠ j → zs_K (ze_md E) (ze_ka E) g' (row' i) (row' j)) ∧ cr_M E 17 [.ref 4, .int (nI i), .int (nI j)] row g none row' g' ∧ mr_M E 79 [.ref 0, .int (nI i), .int (nI j)] row g none row' g' := by
  have hn := hE.1
  have hw1 := hw.go (hw.1 j hj) (hw.1 i hi)
  have hg1 : zg_le E g _ := zg_le.go hw (row j) (row i)
  cases hb : zs_b (ze_md E) (ze_ka E) (row j) (row i) g with
  | false =>
    refine ⟨row, _, hw1, hg1, Or.inl rfl, fun _ => zs_b_f hw.2 (hw.1 j hj) (hw.1 i hi) hb, ?_, ?_⟩
    · refine cr_H.m (L := [some (.ref 4), some (.int (nI (i))), some (.int (nI (j)))]) (fun r q u bb post hr kk => ?_) rfl rfl rfl
      refine ez_go ez_h17 5 (pc' := 9) (L' := [some (.ref 4), some (.int (nI (i))), some (.int (nI (j)))]) (st' := [.int (nI (j)), .ref 1, .ref 1]) (w' := cz_w r q u bb) rfl ?_
      refine ez_cl ez_h17 rfl rfl ?_
      refine cr_at hE hr (k := j) (by omega) q u bb ?_
      refine ez_go ez_h17 3 (pc' := 17) (L' := [some (.ref 4), some (.int (nI (i))), some (.int (nI (j)))]) (st' := [.int (nI (i)), .ref 1, .int (nI (ze_pi E (row j))), .ref 1]) (w' := cz_w r q u bb) rfl ?_
      refine ez_cl ez_h17 rfl rfl ?_
      refine cr_at hE hr (k := i) (by omega) q u bb ?_
      refine ez_cl ez_h17 rfl rfl ?_
      refine cr_less hE hr hw.2 (x := row j) (y := row i) (hw.1 j (by omega)) (hw.1 i (by omega)) q u bb (fun r4 hr4 => ?_)
      refine ez_go ez_h17 1 (pc' := bif decide ((zs_z (zs_b (ze_md E) (ze_ka E) (row j) (row i) g)) = 0) then 35 else 26) (L' := [some (.ref 4), some (.int (nI (i))), some (.int (nI (j)))]) (st' := []) (w' := cz_w r4 q u bb) rfl ?_
      refine ez_ifT (zz_f hb) ?_
      exact ez_vret rfl ez_h17 rfl rfl (kk _ hr4)
    · refine mr_H.m (L := [some (.ref 0), some (.int (nI (i))), some (.int (nI (j)))]) (fun A Q U T post hA kk => ?_) rfl rfl rfl
      refine ez_go ez_h79 3 (pc' := 3) (L' := [some (.ref 0), some (.int (nI (i))), some (.int (nI (j)))]) (st' := [.int (nI (i)), .int (nI (j)), .ref 0]) (w' := mz_w A Q U T) rfl ?_
      refine ez_cl ez_h79 rfl rfl ?_
      refine mr_lessAt hE hA hw (i := j) (j := i) (by omega) (by omega) Q U T (fun A5 hA5 => ?_)
      refine ez_go ez_h79 1 (pc' := bif decide ((zs_z (zs_b (ze_md E) (ze_ka E) (row j) (row i) g)) = 0) then 15 else 9) (L' := [some (.ref 0), some (.int (nI (i))), some (.int (nI (j)))]) (st' := []) (w' := mz_w A5 Q U T) rfl ?_
      refine ez_ifT (zz_f hb) ?_
      exact ez_vret rfl ez_h79 rfl rfl (kk _ hA5)
  | true =>
    refine ⟨zs_sw row i j, _, hw1.sw hi hj, hg1, Or.inr rfl, fun hne => ?_, ?_, ?_⟩
    · have e1 : zs_sw row i j i = row j := by unfold zs_sw; rw [va_up_ne _ _ hne, va_up_self]
      have e2 : zs_sw row i j j = row i := by unfold zs_sw; rw [va_up_self]
      rw [e1, e2]
      exact (zs_b_t hw.2 (hw.1 j hj) (hw.1 i hi) hb).1
    · refine cr_H.m (L := [some (.ref 4), some (.int (nI (i))), some (.int (nI (j)))]) (fun r q u bb post hr kk => ?_) rfl rfl rfl
      refine ez_go ez_h17 5 (pc' := 9) (L' := [some (.ref 4), some (.int (nI (i))), some (.int (nI (j)))]) (st' := [.int (nI (j)), .ref 1, .ref 1]) (w' := cz_w r q u bb) rfl ?_
      refine ez_cl ez_h17 rfl rfl ?_
      refine cr_at hE hr (k := j) (by omega) q u bb ?_
      refine ez_go ez_h17 3 (pc' := 17) (L' := [some (.ref 4), some (.int (nI (i))), some (.int (nI (j)))]) (st' := [.int (nI (i)), .ref 1, .int (nI (ze_pi E (row j))), .ref 1]) (w' := cz_w r q u bb) rfl ?_
      refine ez_cl ez_h17 rfl rfl ?_
      refine cr_at hE hr (k := i) (by omega) q u bb ?_
      refine ez_cl ez_h17 rfl rfl ?_
      refine cr_less hE hr hw.2 (x := row j) (y := row i) (hw.1 j (by omega)) (hw.1 i (by omega)) q u bb (fun r6 hr6 => ?_)
      refine ez_go ez_h17 1 (pc' := bif decide ((zs_z (zs_b (ze_md E) (ze_ka E) (row j) (row i) g)) = 0) then 35 else 26) (L' := [some (.ref 4), some (.int (nI (i))), some (.int (nI (j)))]) (st' := []) (w' := cz_w r6 q u bb) rfl ?_
      refine ez_ifF (zz_t hb) ?_
      refine ez_go ez_h17 4 (pc' := 32) (L' := [some (.ref 4), some (.int (nI (i))), some (.int (nI (j)))]) (st' := [.int (nI (j)), .int (nI (i)), .ref 1]) (w' := cz_w r6 q u bb) rfl ?_
      refine ez_cl ez_h17 rfl rfl ?_
      refine cr_swap hE hr6 (i := i) (j := j) (by omega) (by omega) q u bb (fun r7 hr7 => ?_)
      exact ez_vret rfl ez_h17 rfl rfl (kk _ hr7)
    · refine mr_H.m (L := [some (.ref 0), some (.int (nI (i))), some (.int (nI (j)))]) (fun A Q U T post hA kk => ?_) rfl rfl rfl
      refine ez_go ez_h79 3 (pc' := 3) (L' := [some (.ref 0), some (.int (nI (i))), some (.int (nI (j)))]) (st' := [.int (nI (i)), .int (nI (j)), .ref 0]) (w' := mz_w A Q U T) rfl ?_
      refine ez_cl ez_h79 rfl rfl ?_
      refine mr_lessAt hE hA hw (i := j) (j := i) (by omega) (by omega) Q U T (fun A8 hA8 => ?_)
      refine ez_go ez_h79 1 (pc' := bif decide ((zs_z (zs_b (ze_md E) (ze_ka E) (row j) (row i) g)) = 0) then 15 else 9) (L' := [some (.ref 0), some (.int (nI (i))), some (.int (nI (j)))]) (st' := []) (w' := mz_w A8 Q U T) rfl ?_
      refine ez_ifF (zz_t hb) ?_
      refine ez_go ez_h79 3 (pc' := 12) (L' := [some (.ref 0), some (.int (nI (i))), some (.int (nI (j)))]) (st' := [.int (nI (j)), .int (nI (i)), .ref 0]) (w' := mz_w A8 Q U T) rfl ?_
      refine ez_cl ez_h79 rfl rfl ?_
      refine mr_swap hE hA8 (i := i) (j := j) (by omega) (by omega) Q U T (fun A9 hA9 => ?_)
      exact ez_vret rfl ez_h79 rfl rfl (kk _ hA9)
theorem zk_swp {row : Nat → Nat} {i j : Nat} (hne : i ≠ j) : zs_sw row i j i = row j ∧ zs_sw row i j j = row i := by
  unfold zs_sw
  exact ⟨by rw [va_up_ne _ _ hne, va_up_self], by rw [va_up_self]⟩
theorem zk_swo {row : Nat → Nat} {i j k : Nat} (h1 : k ≠ i) (h2 : k ≠ j) : zs_sw row i j k = row k := by
  unfold zs_sw
  rw [va_up_ne _ _ h2, va_up_ne _ _ h1]
/-- THREE -/
theorem zk_three {E : ze_T} (hE : ze_ok E) {i j k : Nat} (hi : i < ze_n E) (hj : j < ze_n E) (hk : k < ze_n E) (h1 : i ≠ j) (h2 : j ≠ k) (h3 : i ≠ k) {row : Nat → Nat} {g : zs_G} (hw : zr_ok E row g) :
    ∃ (row' : Nat → Nat) (g' : zs_G), zr_ok E row' g' ∧ zg_le E g g' ∧ (∀ b e, b ≤ i → b ≤ j → b ≤ k → i < e → j < e → k < e → zp_in row row' b e) ∧ zs_K (ze_md E) (ze_ka E) g' (row' i) (row' j) ∧ zs_K (ze_md E) (ze_ka E) g' (row' j) (row' k) ∧ cr_M E 16 [.ref 4, .int (nI i), .int (nI j), .int (nI k)] row g none row' g' ∧ mr_M E 80 [.ref 0, .int (nI i), .int (nI j), .int (nI k)] row g none row' g' := by
  have hn := hE.1
  obtain ⟨r1, g1, w1, l1, s1, k1, c1, m1⟩ := zk_two hE (i := i) (j := j) hi hj hw
  obtain ⟨r2, g2, w2, l2, s2, k2, c2, m2⟩ := zk_two hE (i := j) (j := k) hj hk w1
  obtain ⟨r3, g3, w3, l3, s3, k3, c3, m3⟩ := zk_two hE (i := i) (j := j) hi hj w2
  have hp1 : ∀ b e, b ≤ i → b ≤ j → i < e → j < e → zp_in row r1 b e := fun b e a1 a2 a3 a4 => by rcases s1 with rfl | rfl <;> first | exact zp_in.rf _ _ _ | exact zp_in.sw row ⟨a1, a3⟩ ⟨a2, a4⟩
  have hp2 : ∀ b e, b ≤ j → b ≤ k → j < e → k < e → zp_in r1 r2 b e := fun b e a1 a2 a3 a4 => by rcases s2 with rfl | rfl <;> first | exact zp_in.rf _ _ _ | exact zp_in.sw r1 ⟨a1, a3⟩ ⟨a2, a4⟩
  have hp3 : ∀ b e, b ≤ i → b ≤ j → i < e → j < e → zp_in r2 r3 b e := fun b e a1 a2 a3 a4 => by rcases s3 with rfl | rfl <;> first | exact zp_in.rf _ _ _ | exact zp_in.sw r2 ⟨a1, a3⟩ ⟨a2, a4⟩
  have q1 := k1 h1
  have q2 := k2 h2
  have q3 := k3 h1
  refine ⟨r3, g3, w3, (l1.tr l2).tr l3, fun b e a1 a2 a3 a4 a5 a6 => ((hp1 b e a1 a2 a4 a5).tr (hp2 b e a2 a3 a5 a6)).tr (hp3 b e a1 a2 a4 a5), q3, ?_, ?_, ?_⟩
  · have e1 : r2 i = r1 i := by rcases s2 with rfl | rfl <;> first | rfl | exact zk_swo h1 h3
    have q1' : zs_K (ze_md E) (ze_ka E) g2 (r1 i) (r1 j) := l2 _ _ (w1.1 i hi) q1
    have q4 : zs_K (ze_md E) (ze_ka E) g2 (r2 i) (r2 k) := by
      rw [e1]
      rcases s2 with rfl | rfl
      · exact q1'.tr q2
      · rw [(zk_swp h2).2]; exact q1'
    have q5 : zs_K (ze_md E) (ze_ka E) g3 (r2 j) (r2 k) := l3 _ _ (w2.1 j hj) q2
    have q6 : zs_K (ze_md E) (ze_ka E) g3 (r2 i) (r2 k) := l3 _ _ (w2.1 i hi) q4
    rcases s3 with rfl | rfl
    · exact q5
    · rw [(zk_swp h1).2, zk_swo (fun z => h3 z.symm) (fun z => h2 z.symm)]; exact q6
  · refine cr_H.m (L := [some (.ref 4), some (.int (nI (i))), some (.int (nI (j))), some (.int (nI (k)))]) (fun r q u bb post hr kk => ?_) rfl rfl rfl
    refine ez_go ez_h16 3 (pc' := 3) (L' := [some (.ref 4), some (.int (nI (i))), some (.int (nI (j))), some (.int (nI (k)))]) (st' := [.int (nI (j)), .int (nI (i)), .ref 4]) (w' := cz_w r q u bb) rfl ?_
    refine ez_cl ez_h16 rfl rfl ?_
    refine c1 _ q u bb _ hr (fun r71 hr71 => ?_)
    refine ez_go ez_h16 3 (pc' := 9) (L' := [some (.ref 4), some (.int (nI (i))), some (.int (nI (j))), some (.int (nI (k)))]) (st' := [.int (nI (k)), .int (nI (j)), .ref 4]) (w' := cz_w r71 q u bb) rfl ?_
    refine ez_cl ez_h16 rfl rfl ?_
    refine c2 _ q u bb _ hr71 (fun r72 hr72 => ?_)
    refine ez_go ez_h16 3 (pc' := 15) (L' := [some (.ref 4), some (.int (nI (i))), some (.int (nI (j))), some (.int (nI (k)))]) (st' := [.int (nI (j)), .int (nI (i)), .ref 4]) (w' := cz_w r72 q u bb) rfl ?_
    refine ez_cl ez_h16 rfl rfl ?_
    refine c3 _ q u bb _ hr72 (fun r73 hr73 => ?_)
    exact ez_vret rfl ez_h16 rfl rfl (kk _ hr73)
  · refine mr_H.m (L := [some (.ref 0), some (.int (nI (i))), some (.int (nI (j))), some (.int (nI (k)))]) (fun A Q U T post hA kk => ?_) rfl rfl rfl
    refine ez_go ez_h80 3 (pc' := 3) (L' := [some (.ref 0), some (.int (nI (i))), some (.int (nI (j))), some (.int (nI (k)))]) (st' := [.int (nI (j)), .int (nI (i)), .ref 0]) (w' := mz_w A Q U T) rfl ?_
    refine ez_cl ez_h80 rfl rfl ?_
    refine m1 _ Q U T _ hA (fun A71 hA71 => ?_)
    refine ez_go ez_h80 3 (pc' := 9) (L' := [some (.ref 0), some (.int (nI (i))), some (.int (nI (j))), some (.int (nI (k)))]) (st' := [.int (nI (k)), .int (nI (j)), .ref 0]) (w' := mz_w A71 Q U T) rfl ?_
    refine ez_cl ez_h80 rfl rfl ?_
    refine m2 _ Q U T _ hA71 (fun A72 hA72 => ?_)
    refine ez_go ez_h80 3 (pc' := 15) (L' := [some (.ref 0), some (.int (nI (i))), some (.int (nI (j))), some (.int (nI (k)))]) (st' := [.int (nI (j)), .int (nI (i)), .ref 0]) (w' := mz_w A72 Q U T) rfl ?_
    refine ez_cl ez_h80 rfl rfl ?_
    refine m3 _ Q U T _ hA72 (fun A73 hA73 => ?_)
    exact ez_vret rfl ez_h80 rfl rfl (kk _ hA73)
theorem zk_dG {E : ze_T} (hE : ze_ok E) {x lo : Nat} (hx : x < ze_n E) {row : Nat → Nat} : ∀ (s l : Nat) (g : zs_G), l ≤ lo + s → lo ≤ l → l < ze_n E → zr_ok E row g → zs_K (ze_md E) (ze_ka E) g (row lo) x →
    ∃ (l' : Nat) (g' : zs_G), lo ≤ l' ∧ l' ≤ l ∧ zr_ok E row g' ∧ zx_le E g g' ∧ zs_K (ze_md E) (ze_ka E) g' (row l') x ∧ (∀ k, l' < k → k ≤ l → zs_L (ze_md E) (ze_ka E) g' x (row k)) ∧
      (∀ st : Nat, cr_H E 22 4 [some (.ref 4), some (.int (nI (st))), some (.int (nI (ze_pi E (x)))), some (.int (nI (l)))] row g (some (.int (nI l'))) row g') ∧ (∀ b e f : Nat, mr_G E 81 15 [some (.ref 0), some (.int (nI (b))), some (.int (nI (e))), some (.int (nI (x))), some (.int (nI (f))), some (.int (nI (l))), none] row g 36 [some (.ref 0), some (.int (nI (b))), some (.int (nI (e))), some (.int (nI (x))), some (.int (nI (f))), some (.int (nI (l'))), none] row g') ∧ (∀ b e f : Nat, mr_G E 81 138 [some (.ref 0), some (.int (nI (b))), some (.int (nI (e))), some (.int (nI (x))), some (.int (nI (f))), some (.int (nI (l))), none] row g 159 [some (.ref 0), some (.int (nI (b))), some (.int (nI (e))), some (.int (nI (x))), some (.int (nI (f))), some (.int (nI (l'))), none] row g') := by
  have hn := hE.1
  intro s
  induction s using Nat.strongRecOn with
  | _ s ih =>
    intro l g h1 h2 h3 hw hb0
    have hw1 := hw.go hx (hw.1 l (by omega))
    have hg1 : zx_le E g _ := zx_le.go hw (x) (row l)
    cases hb : zs_b (ze_md E) (ze_ka E) x (row l) g with
    | false =>
      refine ⟨l, _, h2, Nat.le_refl _, hw1, hg1, zs_b_f hw.2 hx (hw.1 l (by omega)) hb, fun k k1 k2 => by omega, fun st => ?_, fun b e f => ?_, fun b e f => ?_⟩
      · intro r q u bb post hr kk
        refine ez_go ez_h22 2 (pc' := bif decide ((nI (l)) < (nI 0)) then 33 else 8) (L' := [some (.ref 4), some (.int (nI (st))), some (.int (nI (ze_pi E (x)))), some (.int (nI (l)))]) (st' := []) (w' := cz_w r q u bb) rfl ?_
        refine ez_ifF (zt_nlt (a := l) (b := 0) (by omega) (by omega)) ?_
        refine ez_go ez_h22 6 (pc' := 18) (L' := [some (.ref 4), some (.int (nI (st))), some (.int (nI (ze_pi E (x)))), some (.int (nI (l)))]) (st' := [.int (nI (l)), .ref 1, .int (nI (ze_pi E (x))), .ref 1]) (w' := cz_w r q u bb) rfl ?_
        refine ez_cl ez_h22 rfl rfl ?_
        refine cr_at hE hr (k := l) (by omega) q u bb ?_
        refine ez_cl ez_h22 rfl rfl ?_
        refine cr_less hE hr hw.2 (x := x) (y := row l) hx (hw.1 l (by omega)) q u bb (fun r10 hr10 => ?_)
        refine ez_go ez_h22 1 (pc' := bif decide ((zs_z (zs_b (ze_md E) (ze_ka E) x (row l) g)) = 0) then 33 else 27) (L' := [some (.ref 4), some (.int (nI (st))), some (.int (nI (ze_pi E (x)))), some (.int (nI (l)))]) (st' := []) (w' := cz_w r10 q u bb) rfl ?_
        refine ez_ifT (zz_f hb) ?_
        refine ez_go ez_h22 1 (pc' := 34) (L' := [some (.ref 4), some (.int (nI (st))), some (.int (nI (ze_pi E (x)))), some (.int (nI (l)))]) (st' := [.int (nI (l))]) (w' := cz_w r10 q u bb) rfl ?_
        exact ez_iret rfl ez_h22 rfl rfl (kk _ hr10)
      · intro A Q U T post hA kk
        refine ez_go ez_h81 5 (pc' := 23) (L' := [some (.ref 0), some (.int (nI (b))), some (.int (nI (e))), some (.int (nI (x))), some (.int (nI (f))), some (.int (nI (l))), none]) (st' := [.int (nI (l)), .ref 4, .int (nI (x)), .ref 0]) (w' := mz_w A Q U T) rfl ?_
        refine mr_ld ez_h81 rfl hE hA (k := l) (by omega) ?_
        refine ez_cl ez_h81 rfl rfl ?_
        refine mr_less hE hA hw.2 (x := x) (y := row l) hx (hw.1 l (by omega)) Q U T (fun A11 hA11 => ?_)
        refine ez_go ez_h81 1 (pc' := bif decide ((zs_z (zs_b (ze_md E) (ze_ka E) x (row l) g)) = 0) then 36 else 30) (L' := [some (.ref 0), some (.int (nI (b))), some (.int (nI (e))), some (.int (nI (x))), some (.int (nI (f))), some (.int (nI (l))), none]) (st' := []) (w' := mz_w A11 Q U T) rfl ?_
        refine ez_ifT (zz_f hb) ?_
        exact ez_E.le (ez_lc (ez_lc (ez_lc (ez_lc (ez_lc (ez_lc (ez_lc ez_l0))))))) (kk _ hA11)
      · intro A Q U T post hA kk
        refine ez_go ez_h81 5 (pc' := 146) (L' := [some (.ref 0), some (.int (nI (b))), some (.int (nI (e))), some (.int (nI (x))), some (.int (nI (f))), some (.int (nI (l))), none]) (st' := [.int (nI (l)), .ref 4, .int (nI (x)), .ref 0]) (w' := mz_w A Q U T) rfl ?_
        refine mr_ld ez_h81 rfl hE hA (k := l) (by omega) ?_
        refine ez_cl ez_h81 rfl rfl ?_
        refine mr_less hE hA hw.2 (x := x) (y := row l) hx (hw.1 l (by omega)) Q U T (fun A12 hA12 => ?_)
        refine ez_go ez_h81 1 (pc' := bif decide ((zs_z (zs_b (ze_md E) (ze_ka E) x (row l) g)) = 0) then 159 else 153) (L' := [some (.ref 0), some (.int (nI (b))), some (.int (nI (e))), some (.int (nI (x))), some (.int (nI (f))), some (.int (nI (l))), none]) (st' := []) (w' := mz_w A12 Q U T) rfl ?_
        refine ez_ifT (zz_f hb) ?_
        exact ez_E.le (ez_lc (ez_lc (ez_lc (ez_lc (ez_lc (ez_lc (ez_lc ez_l0))))))) (kk _ hA12)
    | true =>
      have hne : l ≠ lo := fun z => by
        rw [z] at hb
        rw [zs_b_K hw.2 hx (hw.1 lo (by omega)) hb0] at hb
        cases hb
      obtain ⟨l', g', a1, a2, a3, a4, a5, a6, a7, a8, a9⟩ := ih (s - 1) (by omega) (l - 1) _ (by omega) (by omega) (by omega) hw1 (hg1.1 _ _ (hw.1 lo (by omega)) hb0)
      refine ⟨l', g', a1, by omega, a3, hg1.tr a4, a5, fun k k1 k2 => ?_, fun st => ?_, fun b e f => ?_, fun b e f => ?_⟩
      · by_cases c : k = l
        · rw [c]; exact a4.2 _ _ hx (zs_b_L hb)
        · exact a6 k (by omega) (by omega)
      · intro r q u bb post hr kk
        refine ez_go ez_h22 2 (pc' := bif decide ((nI (l)) < (nI 0)) then 33 else 8) (L' := [some (.ref 4), some (.int (nI (st))), some (.int (nI (ze_pi E (x)))), some (.int (nI (l)))]) (st' := []) (w' := cz_w r q u bb) rfl ?_
        refine ez_ifF (zt_nlt (a := l) (b := 0) (by omega) (by omega)) ?_
        refine ez_go ez_h22 6 (pc' := 18) (L' := [some (.ref 4), some (.int (nI (st))), some (.int (nI (ze_pi E (x)))), some (.int (nI (l)))]) (st' := [.int (nI (l)), .ref 1, .int (nI (ze_pi E (x))), .ref 1]) (w' := cz_w r q u bb) rfl ?_
        refine ez_cl ez_h22 rfl rfl ?_
        refine cr_at hE hr (k := l) (by omega) q u bb ?_
        refine ez_cl ez_h22 rfl rfl ?_
        refine cr_less hE hr hw.2 (x := x) (y := row l) hx (hw.1 l (by omega)) q u bb (fun r13 hr13 => ?_)
        refine ez_go ez_h22 1 (pc' := bif decide ((zs_z (zs_b (ze_md E) (ze_ka E) x (row l) g)) = 0) then 33 else 27) (L' := [some (.ref 4), some (.int (nI (st))), some (.int (nI (ze_pi E (x)))), some (.int (nI (l)))]) (st' := []) (w' := cz_w r13 q u bb) rfl ?_
        refine ez_ifF (zz_t hb) ?_
        refine ez_inc ez_h22 rfl rfl (v := nI (l - 1)) (zi_m (by omega)) rfl ?_
        refine ez_go ez_h22 1 (pc' := 4) (L' := [some (.ref 4), some (.int (nI (st))), some (.int (nI (ze_pi E (x)))), some (.int (nI (l - 1)))]) (st' := []) (w' := cz_w r13 q u bb) rfl ?_
        exact a7 st _ q u bb post hr13 kk
      · intro A Q U T post hA kk
        refine ez_go ez_h81 5 (pc' := 23) (L' := [some (.ref 0), some (.int (nI (b))), some (.int (nI (e))), some (.int (nI (x))), some (.int (nI (f))), some (.int (nI (l))), none]) (st' := [.int (nI (l)), .ref 4, .int (nI (x)), .ref 0]) (w' := mz_w A Q U T) rfl ?_
        refine mr_ld ez_h81 rfl hE hA (k := l) (by omega) ?_
        refine ez_cl ez_h81 rfl rfl ?_
        refine mr_less hE hA hw.2 (x := x) (y := row l) hx (hw.1 l (by omega)) Q U T (fun A14 hA14 => ?_)
        refine ez_go ez_h81 1 (pc' := bif decide ((zs_z (zs_b (ze_md E) (ze_ka E) x (row l) g)) = 0) then 36 else 30) (L' := [some (.ref 0), some (.int (nI (b))), some (.int (nI (e))), some (.int (nI (x))), some (.int (nI (f))), some (.int (nI (l))), none]) (st' := []) (w' := mz_w A14 Q U T) rfl ?_
        refine ez_ifF (zz_t hb) ?_
        refine ez_inc ez_h81 rfl rfl (v := nI (l - 1)) (zi_m (by omega)) rfl ?_
        refine ez_go ez_h81 1 (pc' := 15) (L' := [some (.ref 0), some (.int (nI (b))), some (.int (nI (e))), some (.int (nI (x))), some (.int (nI (f))), some (.int (nI (l - 1))), none]) (st' := []) (w' := mz_w A14 Q U T) rfl ?_
        exact ez_E.le (ez_lc (ez_lc (ez_lc (ez_lc (ez_lc (ez_lc (ez_lc ez_l0))))))) (a8 b e f _ Q U T post hA14 kk)
      · intro A Q U T post hA kk
        refine ez_go ez_h81 5 (pc' := 146) (L' := [some (.ref 0), some (.int (nI (b))), some (.int (nI (e))), some (.int (nI (x))), some (.int (nI (f))), some (.int (nI (l))), none]) (st' := [.int (nI (l)), .ref 4, .int (nI (x)), .ref 0]) (w' := mz_w A Q U T) rfl ?_
        refine mr_ld ez_h81 rfl hE hA (k := l) (by omega) ?_
        refine ez_cl ez_h81 rfl rfl ?_
        refine mr_less hE hA hw.2 (x := x) (y := row l) hx (hw.1 l (by omega)) Q U T (fun A15 hA15 => ?_)
        refine ez_go ez_h81 1 (pc' := bif decide ((zs_z (zs_b (ze_md E) (ze_ka E) x (row l) g)) = 0) then 159 else 153) (L' := [some (.ref 0), some (.int (nI (b))), some (.int (nI (e))), some (.int (nI (x))), some (.int (nI (f))), some (.int (nI (l))), none]) (st' := []) (w' := mz_w A15 Q U T) rfl ?_
        refine ez_ifF (zz_t hb) ?_
        refine ez_inc ez_h81 rfl rfl (v := nI (l - 1)) (zi_m (by omega)) rfl ?_
        refine ez_go ez_h81 1 (pc' := 138) (L' := [some (.ref 0), some (.int (nI (b))), some (.int (nI (e))), some (.int (nI (x))), some (.int (nI (f))), some (.int (nI (l - 1))), none]) (st' := []) (w' := mz_w A15 Q U T) rfl ?_
        exact ez_E.le (ez_lc (ez_lc (ez_lc (ez_lc (ez_lc (ez_lc (ez_lc ez_l0))))))) (a9 b e f _ Q U T post hA15 kk)
theorem zk_uG {E : ze_T} (hE : ze_ok E) {x hi : Nat} (hx : x < ze_n E) {row : Nat → Nat} : ∀ (s f : Nat) (g : zs_G), hi ≤ f + s → f ≤ hi → hi < ze_n E → zr_ok E row g → zs_L (ze_md E) (ze_ka E) g x (row hi) →
    ∃ (f' : Nat) (g' : zs_G), f ≤ f' ∧ f' ≤ hi ∧ zr_ok E row g' ∧ zx_le E g g' ∧ zs_L (ze_md E) (ze_ka E) g' x (row f') ∧ (∀ k, f ≤ k → k < f' → zs_K (ze_md E) (ze_ka E) g' (row k) x) ∧
      (∀ st : Nat, cr_H E 21 4 [some (.ref 4), some (.int (nI (st))), some (.int (nI (ze_pi E (x)))), some (.int (nI (f)))] row g (some (.int (nI f'))) row g') ∧ (∀ b e l : Nat, mr_G E 81 95 [some (.ref 0), some (.int (nI (b))), some (.int (nI (e))), some (.int (nI (x))), some (.int (nI (f))), some (.int (nI (l))), none] row g 120 [some (.ref 0), some (.int (nI (b))), some (.int (nI (e))), some (.int (nI (x))), some (.int (nI (f'))), some (.int (nI (l))), none] row g') ∧ (∀ b e l : Nat, mr_G E 81 162 [some (.ref 0), some (.int (nI (b))), some (.int (nI (e))), some (.int (nI (x))), some (.int (nI (f))), some (.int (nI (l))), none] row g 120 [some (.ref 0), some (.int (nI (b))), some (.int (nI (e))), some (.int (nI (x))), some (.int (nI (f'))), some (.int (nI (l))), none] row g') := by
  have hn := hE.1
  intro s
  induction s using Nat.strongRecOn with
  | _ s ih =>
    intro f g h1 h2 h3 hw hb0
    have hw1 := hw.go hx (hw.1 f (by omega))
    have hg1 : zx_le E g _ := zx_le.go hw (x) (row f)
    cases hb : zs_b (ze_md E) (ze_ka E) x (row f) g with
    | false =>
      have hne : f ≠ hi := fun z => by
        rw [z] at hb
        rw [hb0.b] at hb
        cases hb
      obtain ⟨f', g', a1, a2, a3, a4, a5, a6, a7, a8, a9⟩ := ih (s - 1) (by omega) (f + 1) _ (by omega) (by omega) (by omega) hw1 (hg1.2 _ _ hx hb0)
      refine ⟨f', g', by omega, a2, a3, hg1.tr a4, a5, fun k k1 k2 => ?_, fun st => ?_, fun b e l => ?_, fun b e l => ?_⟩
      · by_cases c : k = f
        · rw [c]; exact a4.1 _ _ (hw.1 f (by omega)) (zs_b_f hw.2 hx (hw.1 f (by omega)) hb)
        · exact a6 k (by omega) (by omega)
      · intro r q u bb post hr kk
        refine ez_go ez_h21 3 (pc' := 9) (L' := [some (.ref 4), some (.int (nI (st))), some (.int (nI (ze_pi E (x)))), some (.int (nI (f)))]) (st' := [.ref 1, .int (nI (f))]) (w' := cz_w r q u bb) rfl ?_
        refine ez_cl ez_h21 rfl rfl ?_
        refine cr_size hr q u bb ?_
        refine ez_go ez_h21 1 (pc' := bif decide ((nI (ze_n E)) ≤ (nI (f))) then 40 else 15) (L' := [some (.ref 4), some (.int (nI (st))), some (.int (nI (ze_pi E (x)))), some (.int (nI (f)))]) (st' := []) (w' := cz_w r q u bb) rfl ?_
        refine ez_ifF (zt_nle (a := ze_n E) (b := f) (by omega) (by omega)) ?_
        refine ez_go ez_h21 6 (pc' := 25) (L' := [some (.ref 4), some (.int (nI (st))), some (.int (nI (ze_pi E (x)))), some (.int (nI (f)))]) (st' := [.int (nI (f)), .ref 1, .int (nI (ze_pi E (x))), .ref 1]) (w' := cz_w r q u bb) rfl ?_
        refine ez_cl ez_h21 rfl rfl ?_
        refine cr_at hE hr (k := f) (by omega) q u bb ?_
        refine ez_cl ez_h21 rfl rfl ?_
        refine cr_less hE hr hw.2 (x := x) (y := row f) hx (hw.1 f (by omega)) q u bb (fun r16 hr16 => ?_)
        refine ez_go ez_h21 1 (pc' := bif decide (¬ (zs_z (zs_b (ze_md E) (ze_ka E) x (row f) g)) = 0) then 40 else 34) (L' := [some (.ref 4), some (.int (nI (st))), some (.int (nI (ze_pi E (x)))), some (.int (nI (f)))]) (st' := []) (w' := cz_w r16 q u bb) rfl ?_
        refine ez_ifF (fun z => z (zz_f hb)) ?_
        refine ez_inc ez_h21 rfl rfl (v := nI (f + 1)) (zi_1 _) rfl ?_
        refine ez_go ez_h21 1 (pc' := 4) (L' := [some (.ref 4), some (.int (nI (st))), some (.int (nI (ze_pi E (x)))), some (.int (nI (f + 1)))]) (st' := []) (w' := cz_w r16 q u bb) rfl ?_
        exact a7 st _ q u bb post hr16 kk
      · intro A Q U T post hA kk
        refine ez_go ez_h81 5 (pc' := 103) (L' := [some (.ref 0), some (.int (nI (b))), some (.int (nI (e))), some (.int (nI (x))), some (.int (nI (f))), some (.int (nI (l))), none]) (st' := [.int (nI (f)), .ref 4, .int (nI (x)), .ref 0]) (w' := mz_w A Q U T) rfl ?_
        refine mr_ld ez_h81 rfl hE hA (k := f) (by omega) ?_
        refine ez_cl ez_h81 rfl rfl ?_
        refine mr_less hE hA hw.2 (x := x) (y := row f) hx (hw.1 f (by omega)) Q U T (fun A17 hA17 => ?_)
        refine ez_go ez_h81 1 (pc' := bif decide (¬ (zs_z (zs_b (ze_md E) (ze_ka E) x (row f) g)) = 0) then 114 else 110) (L' := [some (.ref 0), some (.int (nI (b))), some (.int (nI (e))), some (.int (nI (x))), some (.int (nI (f))), some (.int (nI (l))), none]) (st' := []) (w' := mz_w A17 Q U T) rfl ?_
        refine ez_ifF (fun z => z (zz_f hb)) ?_
        refine ez_go ez_h81 6 (pc' := bif decide ((nI (1)) = (nI 0)) then 120 else 92) (L' := [some (.ref 0), some (.int (nI (b))), some (.int (nI (e))), some (.int (nI (x))), some (.int (nI (f))), some (.int (nI (l))), some (.int (nI (1)))]) (st' := []) (w' := mz_w A17 Q U T) rfl ?_
        refine ez_ifF (zt_ne (by omega) (by omega) (by omega)) ?_
        refine ez_inc ez_h81 rfl rfl (v := nI (f + 1)) (zi_1 _) rfl ?_
        exact ez_E.le (ez_lc (ez_lc (ez_lc (ez_lc (ez_lc (ez_lc (ez_ln ez_l0))))))) (a8 b e l _ Q U T post hA17 kk)
      · intro A Q U T post hA kk
        refine ez_go ez_h81 5 (pc' := 170) (L' := [some (.ref 0), some (.int (nI (b))), some (.int (nI (e))), some (.int (nI (x))), some (.int (nI (f))), some (.int (nI (l))), none]) (st' := [.int (nI (f)), .ref 4, .int (nI (x)), .ref 0]) (w' := mz_w A Q U T) rfl ?_
        refine mr_ld ez_h81 rfl hE hA (k := f) (by omega) ?_
        refine ez_cl ez_h81 rfl rfl ?_
        refine mr_less hE hA hw.2 (x := x) (y := row f) hx (hw.1 f (by omega)) Q U T (fun A18 hA18 => ?_)
        refine ez_go ez_h81 1 (pc' := bif decide (¬ (zs_z (zs_b (ze_md E) (ze_ka E) x (row f) g)) = 0) then 120 else 177) (L' := [some (.ref 0), some (.int (nI (b))), some (.int (nI (e))), some (.int (nI (x))), some (.int (nI (f))), some (.int (nI (l))), none]) (st' := []) (w' := mz_w A18 Q U T) rfl ?_
        refine ez_ifF (fun z => z (zz_f hb)) ?_
        refine ez_inc ez_h81 rfl rfl (v := nI (f + 1)) (zi_1 _) rfl ?_
        refine ez_go ez_h81 1 (pc' := 162) (L' := [some (.ref 0), some (.int (nI (b))), some (.int (nI (e))), some (.int (nI (x))), some (.int (nI (f + 1))), some (.int (nI (l))), none]) (st' := []) (w' := mz_w A18 Q U T) rfl ?_
        exact ez_E.le (ez_lc (ez_lc (ez_lc (ez_lc (ez_lc (ez_lc (ez_lc ez_l0))))))) (a9 b e l _ Q U T post hA18 kk)
    | true =>
      refine ⟨f, _, Nat.le_refl _, h2, hw1, hg1, zs_b_L hb, fun k k1 k2 => by omega, fun st => ?_, fun b e l => ?_, fun b e l => ?_⟩
      · intro r q u bb post hr kk
        refine ez_go ez_h21 3 (pc' := 9) (L' := [some (.ref 4), some (.int (nI (st))), some (.int (nI (ze_pi E (x)))), some (.int (nI (f)))]) (st' := [.ref 1, .int (nI (f))]) (w' := cz_w r q u bb) rfl ?_
        refine ez_cl ez_h21 rfl rfl ?_
        refine cr_size hr q u bb ?_
        refine ez_go ez_h21 1 (pc' := bif decide ((nI (ze_n E)) ≤ (nI (f))) then 40 else 15) (L' := [some (.ref 4), some (.int (nI (st))), some (.int (nI (ze_pi E (x)))), some (.int (nI (f)))]) (st' := []) (w' := cz_w r q u bb) rfl ?_
        refine ez_ifF (zt_nle (a := ze_n E) (b := f) (by omega) (by omega)) ?_
        refine ez_go ez_h21 6 (pc' := 25) (L' := [some (.ref 4), some (.int (nI (st))), some (.int (nI (ze_pi E (x)))), some (.int (nI (f)))]) (st' := [.int (nI (f)), .ref 1, .int (nI (ze_pi E (x))), .ref 1]) (w' := cz_w r q u bb) rfl ?_
        refine ez_cl ez_h21 rfl rfl ?_
        refine cr_at hE hr (k := f) (by omega) q u bb ?_
        refine ez_cl ez_h21 rfl rfl ?_
        refine cr_less hE hr hw.2 (x := x) (y := row f) hx (hw.1 f (by omega)) q u bb (fun r19 hr19 => ?_)
        refine ez_go ez_h21 1 (pc' := bif decide (¬ (zs_z (zs_b (ze_md E) (ze_ka E) x (row f) g)) = 0) then 40 else 34) (L' := [some (.ref 4), some (.int (nI (st))), some (.int (nI (ze_pi E (x)))), some (.int (nI (f)))]) (st' := []) (w' := cz_w r19 q u bb) rfl ?_
        refine ez_ifT (zz_t hb) ?_
        refine ez_go ez_h21 1 (pc' := 41) (L' := [some (.ref 4), some (.int (nI (st))), some (.int (nI (ze_pi E (x)))), some (.int (nI (f)))]) (st' := [.int (nI (f))]) (w' := cz_w r19 q u bb) rfl ?_
        exact ez_iret rfl ez_h21 rfl rfl (kk _ hr19)
      · intro A Q U T post hA kk
        refine ez_go ez_h81 5 (pc' := 103) (L' := [some (.ref 0), some (.int (nI (b))), some (.int (nI (e))), some (.int (nI (x))), some (.int (nI (f))), some (.int (nI (l))), none]) (st' := [.int (nI (f)), .ref 4, .int (nI (x)), .ref 0]) (w' := mz_w A Q U T) rfl ?_
        refine mr_ld ez_h81 rfl hE hA (k := f) (by omega) ?_
        refine ez_cl ez_h81 rfl rfl ?_
        refine mr_less hE hA hw.2 (x := x) (y := row f) hx (hw.1 f (by omega)) Q U T (fun A20 hA20 => ?_)
        refine ez_go ez_h81 1 (pc' := bif decide (¬ (zs_z (zs_b (ze_md E) (ze_ka E) x (row f) g)) = 0) then 114 else 110) (L' := [some (.ref 0), some (.int (nI (b))), some (.int (nI (e))), some (.int (nI (x))), some (.int (nI (f))), some (.int (nI (l))), none]) (st' := []) (w' := mz_w A20 Q U T) rfl ?_
        refine ez_ifT (zz_t hb) ?_
        refine ez_go ez_h81 5 (pc' := bif decide ((nI (0)) = (nI 0)) then 120 else 92) (L' := [some (.ref 0), some (.int (nI (b))), some (.int (nI (e))), some (.int (nI (x))), some (.int (nI (f))), some (.int (nI (l))), some (.int (nI (0)))]) (st' := []) (w' := mz_w A20 Q U T) rfl ?_
        refine ez_ifT (zt_eq (by omega)) ?_
        exact ez_E.le (ez_lc (ez_lc (ez_lc (ez_lc (ez_lc (ez_lc (ez_ln ez_l0))))))) (kk _ hA20)
      · intro A Q U T post hA kk
        refine ez_go ez_h81 5 (pc' := 170) (L' := [some (.ref 0), some (.int (nI (b))), some (.int (nI (e))), some (.int (nI (x))), some (.int (nI (f))), some (.int (nI (l))), none]) (st' := [.int (nI (f)), .ref 4, .int (nI (x)), .ref 0]) (w' := mz_w A Q U T) rfl ?_
        refine mr_ld ez_h81 rfl hE hA (k := f) (by omega) ?_
        refine ez_cl ez_h81 rfl rfl ?_
        refine mr_less hE hA hw.2 (x := x) (y := row f) hx (hw.1 f (by omega)) Q U T (fun A21 hA21 => ?_)
        refine ez_go ez_h81 1 (pc' := bif decide (¬ (zs_z (zs_b (ze_md E) (ze_ka E) x (row f) g)) = 0) then 120 else 177) (L' := [some (.ref 0), some (.int (nI (b))), some (.int (nI (e))), some (.int (nI (x))), some (.int (nI (f))), some (.int (nI (l))), none]) (st' := []) (w' := mz_w A21 Q U T) rfl ?_
        refine ez_ifT (zz_t hb) ?_
        exact ez_E.le (ez_lc (ez_lc (ez_lc (ez_lc (ez_lc (ez_lc (ez_lc ez_l0))))))) (kk _ hA21)
theorem zk_uL {E : ze_T} (hE : ze_ok E) {x hi : Nat} (hx : x < ze_n E) {row : Nat → Nat} : ∀ (s f : Nat) (g : zs_G), hi ≤ f + s → f ≤ hi → hi < ze_n E → zr_ok E row g → zs_K (ze_md E) (ze_ka E) g x (row hi) →
    ∃ (f' : Nat) (g' : zs_G), f ≤ f' ∧ f' ≤ hi ∧ zr_ok E row g' ∧ zx_le E g g' ∧ zs_K (ze_md E) (ze_ka E) g' x (row f') ∧ (∀ k, f ≤ k → k < f' → zs_L (ze_md E) (ze_ka E) g' (row k) x) ∧
      (∀ st : Nat, cr_H E 20 4 [some (.ref 4), some (.int (nI (st))), some (.int (nI (ze_pi E (x)))), some (.int (nI (f)))] row g (some (.int (nI f'))) row g') ∧ (∀ b e l : Nat, mr_G E 82 15 [some (.ref 0), some (.int (nI (b))), some (.int (nI (e))), some (.int (nI (x))), some (.int (nI (f))), some (.int (nI (l))), none] row g 36 [some (.ref 0), some (.int (nI (b))), some (.int (nI (e))), some (.int (nI (x))), some (.int (nI (f'))), some (.int (nI (l))), none] row g') ∧ (∀ b e l : Nat, mr_G E 82 154 [some (.ref 0), some (.int (nI (b))), some (.int (nI (e))), some (.int (nI (x))), some (.int (nI (f))), some (.int (nI (l))), none] row g 175 [some (.ref 0), some (.int (nI (b))), some (.int (nI (e))), some (.int (nI (x))), some (.int (nI (f'))), some (.int (nI (l))), none] row g') := by
  have hn := hE.1
  intro s
  induction s using Nat.strongRecOn with
  | _ s ih =>
    intro f g h1 h2 h3 hw hb0
    have hw1 := hw.go (hw.1 f (by omega)) hx
    have hg1 : zx_le E g _ := zx_le.go hw (row f) (x)
    cases hb : zs_b (ze_md E) (ze_ka E) (row f) x g with
    | false =>
      refine ⟨f, _, Nat.le_refl _, h2, hw1, hg1, zs_b_f hw.2 (hw.1 f (by omega)) hx hb, fun k k1 k2 => by omega, fun st => ?_, fun b e l => ?_, fun b e l => ?_⟩
      · intro r q u bb post hr kk
        refine ez_go ez_h20 3 (pc' := 9) (L' := [some (.ref 4), some (.int (nI (st))), some (.int (nI (ze_pi E (x)))), some (.int (nI (f)))]) (st' := [.ref 1, .int (nI (f))]) (w' := cz_w r q u bb) rfl ?_
        refine ez_cl ez_h20 rfl rfl ?_
        refine cr_size hr q u bb ?_
        refine ez_go ez_h20 1 (pc' := bif decide ((nI (ze_n E)) ≤ (nI (f))) then 40 else 15) (L' := [some (.ref 4), some (.int (nI (st))), some (.int (nI (ze_pi E (x)))), some (.int (nI (f)))]) (st' := []) (w' := cz_w r q u bb) rfl ?_
        refine ez_ifF (zt_nle (a := ze_n E) (b := f) (by omega) (by omega)) ?_
        refine ez_go ez_h20 5 (pc' := 24) (L' := [some (.ref 4), some (.int (nI (st))), some (.int (nI (ze_pi E (x)))), some (.int (nI (f)))]) (st' := [.int (nI (f)), .ref 1, .ref 1]) (w' := cz_w r q u bb) rfl ?_
        refine ez_cl ez_h20 rfl rfl ?_
        refine cr_at hE hr (k := f) (by omega) q u bb ?_
        refine ez_go ez_h20 1 (pc' := 28) (L' := [some (.ref 4), some (.int (nI (st))), some (.int (nI (ze_pi E (x)))), some (.int (nI (f)))]) (st' := [.int (nI (ze_pi E (x))), .int (nI (ze_pi E (row f))), .ref 1]) (w' := cz_w r q u bb) rfl ?_
        refine ez_cl ez_h20 rfl rfl ?_
        refine cr_less hE hr hw.2 (x := row f) (y := x) (hw.1 f (by omega)) hx q u bb (fun r22 hr22 => ?_)
        refine ez_go ez_h20 1 (pc' := bif decide ((zs_z (zs_b (ze_md E) (ze_ka E) (row f) x g)) = 0) then 40 else 34) (L' := [some (.ref 4), some (.int (nI (st))), some (.int (nI (ze_pi E (x)))), some (.int (nI (f)))]) (st' := []) (w' := cz_w r22 q u bb) rfl ?_
        refine ez_ifT (zz_f hb) ?_
        refine ez_go ez_h20 1 (pc' := 41) (L' := [some (.ref 4), some (.int (nI (st))), some (.int (nI (ze_pi E (x)))), some (.int (nI (f)))]) (st' := [.int (nI (f))]) (w' := cz_w r22 q u bb) rfl ?_
        exact ez_iret rfl ez_h20 rfl rfl (kk _ hr22)
      · intro A Q U T post hA kk
        refine ez_go ez_h82 4 (pc' := 22) (L' := [some (.ref 0), some (.int (nI (b))), some (.int (nI (e))), some (.int (nI (x))), some (.int (nI (f))), some (.int (nI (l))), none]) (st' := [.int (nI (f)), .ref 4, .ref 0]) (w' := mz_w A Q U T) rfl ?_
        refine mr_ld ez_h82 rfl hE hA (k := f) (by omega) ?_
        refine ez_go ez_h82 1 (pc' := 24) (L' := [some (.ref 0), some (.int (nI (b))), some (.int (nI (e))), some (.int (nI (x))), some (.int (nI (f))), some (.int (nI (l))), none]) (st' := [.int (nI (x)), .int (nI (row f)), .ref 0]) (w' := mz_w A Q U T) rfl ?_
        refine ez_cl ez_h82 rfl rfl ?_
        refine mr_less hE hA hw.2 (x := row f) (y := x) (hw.1 f (by omega)) hx Q U T (fun A23 hA23 => ?_)
        refine ez_go ez_h82 1 (pc' := bif decide ((zs_z (zs_b (ze_md E) (ze_ka E) (row f) x g)) = 0) then 36 else 30) (L' := [some (.ref 0), some (.int (nI (b))), some (.int (nI (e))), some (.int (nI (x))), some (.int (nI (f))), some (.int (nI (l))), none]) (st' := []) (w' := mz_w A23 Q U T) rfl ?_
        refine ez_ifT (zz_f hb) ?_
        exact ez_E.le (ez_lc (ez_lc (ez_lc (ez_lc (ez_lc (ez_lc (ez_lc ez_l0))))))) (kk _ hA23)
      · intro A Q U T post hA kk
        refine ez_go ez_h82 4 (pc' := 161) (L' := [some (.ref 0), some (.int (nI (b))), some (.int (nI (e))), some (.int (nI (x))), some (.int (nI (f))), some (.int (nI (l))), none]) (st' := [.int (nI (f)), .ref 4, .ref 0]) (w' := mz_w A Q U T) rfl ?_
        refine mr_ld ez_h82 rfl hE hA (k := f) (by omega) ?_
        refine ez_go ez_h82 1 (pc' := 163) (L' := [some (.ref 0), some (.int (nI (b))), some (.int (nI (e))), some (.int (nI (x))), some (.int (nI (f))), some (.int (nI (l))), none]) (st' := [.int (nI (x)), .int (nI (row f)), .ref 0]) (w' := mz_w A Q U T) rfl ?_
        refine ez_cl ez_h82 rfl rfl ?_
        refine mr_less hE hA hw.2 (x := row f) (y := x) (hw.1 f (by omega)) hx Q U T (fun A24 hA24 => ?_)
        refine ez_go ez_h82 1 (pc' := bif decide ((zs_z (zs_b (ze_md E) (ze_ka E) (row f) x g)) = 0) then 175 else 169) (L' := [some (.ref 0), some (.int (nI (b))), some (.int (nI (e))), some (.int (nI (x))), some (.int (nI (f))), some (.int (nI (l))), none]) (st' := []) (w' := mz_w A24 Q U T) rfl ?_
        refine ez_ifT (zz_f hb) ?_
        exact ez_E.le (ez_lc (ez_lc (ez_lc (ez_lc (ez_lc (ez_lc (ez_lc ez_l0))))))) (kk _ hA24)
    | true =>
      have hne : f ≠ hi := fun z => by
        rw [z] at hb
        rw [zs_b_K hw.2 (hw.1 hi (by omega)) hx hb0] at hb
        cases hb
      obtain ⟨f', g', a1, a2, a3, a4, a5, a6, a7, a8, a9⟩ := ih (s - 1) (by omega) (f + 1) _ (by omega) (by omega) (by omega) hw1 (hg1.1 _ _ hx hb0)
      refine ⟨f', g', by omega, a2, a3, hg1.tr a4, a5, fun k k1 k2 => ?_, fun st => ?_, fun b e l => ?_, fun b e l => ?_⟩
      · by_cases c : k = f
        · rw [c]; exact a4.2 _ _ (hw.1 f (by omega)) (zs_b_L hb)
        · exact a6 k (by omega) (by omega)
      · intro r q u bb post hr kk
        refine ez_go ez_h20 3 (pc' := 9) (L' := [some (.ref 4), some (.int (nI (st))), some (.int (nI (ze_pi E (x)))), some (.int (nI (f)))]) (st' := [.ref 1, .int (nI (f))]) (w' := cz_w r q u bb) rfl ?_
        refine ez_cl ez_h20 rfl rfl ?_
        refine cr_size hr q u bb ?_
        refine ez_go ez_h20 1 (pc' := bif decide ((nI (ze_n E)) ≤ (nI (f))) then 40 else 15) (L' := [some (.ref 4), some (.int (nI (st))), some (.int (nI (ze_pi E (x)))), some (.int (nI (f)))]) (st' := []) (w' := cz_w r q u bb) rfl ?_
        refine ez_ifF (zt_nle (a := ze_n E) (b := f) (by omega) (by omega)) ?_
        refine ez_go ez_h20 5 (pc' := 24) (L' := [some (.ref 4), some (.int (nI (st))), some (.int (nI (ze_pi E (x)))), some (.int (nI (f)))]) (st' := [.int (nI (f)), .ref 1, .ref 1]) (w' := cz_w r q u bb) rfl ?_
        refine ez_cl ez_h20 rfl rfl ?_
        refine cr_at hE hr (k := f) (by omega) q u bb ?_
        refine ez_go ez_h20 1 (pc' := 28) (L' := [some (.ref 4), some (.int (nI (st))), some (.int (nI (ze_pi E (x)))), some (.int (nI (f)))]) (st' := [.int (nI (ze_pi E (x))), .int (nI (ze_pi E (row f))), .ref 1]) (w' := cz_w r q u bb) rfl ?_
        refine ez_cl ez_h20 rfl rfl ?_
        refine cr_less hE hr hw.2 (x := row f) (y := x) (hw.1 f (by omega)) hx q u bb (fun r25 hr25 => ?_)
        refine ez_go ez_h20 1 (pc' := bif decide ((zs_z (zs_b (ze_md E) (ze_ka E) (row f) x g)) = 0) then 40 else 34) (L' := [some (.ref 4), some (.int (nI (st))), some (.int (nI (ze_pi E (x)))), some (.int (nI (f)))]) (st' := []) (w' := cz_w r25 q u bb) rfl ?_
        refine ez_ifF (zz_t hb) ?_
        refine ez_inc ez_h20 rfl rfl (v := nI (f + 1)) (zi_1 _) rfl ?_
        refine ez_go ez_h20 1 (pc' := 4) (L' := [some (.ref 4), some (.int (nI (st))), some (.int (nI (ze_pi E (x)))), some (.int (nI (f + 1)))]) (st' := []) (w' := cz_w r25 q u bb) rfl ?_
        exact a7 st _ q u bb post hr25 kk
      · intro A Q U T post hA kk
        refine ez_go ez_h82 4 (pc' := 22) (L' := [some (.ref 0), some (.int (nI (b))), some (.int (nI (e))), some (.int (nI (x))), some (.int (nI (f))), some (.int (nI (l))), none]) (st' := [.int (nI (f)), .ref 4, .ref 0]) (w' := mz_w A Q U T) rfl ?_
        refine mr_ld ez_h82 rfl hE hA (k := f) (by omega) ?_
        refine ez_go ez_h82 1 (pc' := 24) (L' := [some (.ref 0), some (.int (nI (b))), some (.int (nI (e))), some (.int (nI (x))), some (.int (nI (f))), some (.int (nI (l))), none]) (st' := [.int (nI (x)), .int (nI (row f)), .ref 0]) (w' := mz_w A Q U T) rfl ?_
        refine ez_cl ez_h82 rfl rfl ?_
        refine mr_less hE hA hw.2 (x := row f) (y := x) (hw.1 f (by omega)) hx Q U T (fun A26 hA26 => ?_)
        refine ez_go ez_h82 1 (pc' := bif decide ((zs_z (zs_b (ze_md E) (ze_ka E) (row f) x g)) = 0) then 36 else 30) (L' := [some (.ref 0), some (.int (nI (b))), some (.int (nI (e))), some (.int (nI (x))), some (.int (nI (f))), some (.int (nI (l))), none]) (st' := []) (w' := mz_w A26 Q U T) rfl ?_
        refine ez_ifF (zz_t hb) ?_
        refine ez_inc ez_h82 rfl rfl (v := nI (f + 1)) (zi_1 _) rfl ?_
        refine ez_go ez_h82 1 (pc' := 15) (L' := [some (.ref 0), some (.int (nI (b))), some (.int (nI (e))), some (.int (nI (x))), some (.int (nI (f + 1))), some (.int (nI (l))), none]) (st' := []) (w' := mz_w A26 Q U T) rfl ?_
        exact ez_E.le (ez_lc (ez_lc (ez_lc (ez_lc (ez_lc (ez_lc (ez_lc ez_l0))))))) (a8 b e l _ Q U T post hA26 kk)
      · intro A Q U T post hA kk
        refine ez_go ez_h82 4 (pc' := 161) (L' := [some (.ref 0), some (.int (nI (b))), some (.int (nI (e))), some (.int (nI (x))), some (.int (nI (f))), some (.int (nI (l))), none]) (st' := [.int (nI (f)), .ref 4, .ref 0]) (w' := mz_w A Q U T) rfl ?_
        refine mr_ld ez_h82 rfl hE hA (k := f) (by omega) ?_
        refine ez_go ez_h82 1 (pc' := 163) (L' := [some (.ref 0), some (.int (nI (b))), some (.int (nI (e))), some (.int (nI (x))), some (.int (nI (f))), some (.int (nI (l))), none]) (st' := [.int (nI (x)), .int (nI (row f)), .ref 0]) (w' := mz_w A Q U T) rfl ?_
        refine ez_cl ez_h82 rfl rfl ?_
        refine mr_less hE hA hw.2 (x := row f) (y := x) (hw.1 f (by omega)) hx Q U T (fun A27 hA27 => ?_)
        refine ez_go ez_h82 1 (pc' := bif decide ((zs_z (zs_b (ze_md E) (ze_ka E) (row f) x g)) = 0) then 175 else 169) (L' := [some (.ref 0), some (.int (nI (b))), some (.int (nI (e))), some (.int (nI (x))), some (.int (nI (f))), some (.int (nI (l))), none]) (st' := []) (w' := mz_w A27 Q U T) rfl ?_
        refine ez_ifF (zz_t hb) ?_
        refine ez_inc ez_h82 rfl rfl (v := nI (f + 1)) (zi_1 _) rfl ?_
        refine ez_go ez_h82 1 (pc' := 154) (L' := [some (.ref 0), some (.int (nI (b))), some (.int (nI (e))), some (.int (nI (x))), some (.int (nI (f + 1))), some (.int (nI (l))), none]) (st' := []) (w' := mz_w A27 Q U T) rfl ?_
        exact ez_E.le (ez_lc (ez_lc (ez_lc (ez_lc (ez_lc (ez_lc (ez_lc ez_l0))))))) (a9 b e l _ Q U T post hA27 kk)
theorem zk_dL {E : ze_T} (hE : ze_ok E) {x lo : Nat} (hx : x < ze_n E) {row : Nat → Nat} : ∀ (s l : Nat) (g : zs_G), l ≤ lo + s → lo ≤ l → l < ze_n E → zr_ok E row g → zs_L (ze_md E) (ze_ka E) g (row lo) x →
    ∃ (l' : Nat) (g' : zs_G), lo ≤ l' ∧ l' ≤ l ∧ zr_ok E row g' ∧ zx_le E g g' ∧ zs_L (ze_md E) (ze_ka E) g' (row l') x ∧ (∀ k, l' < k → k ≤ l → zs_K (ze_md E) (ze_ka E) g' x (row k)) ∧
      (∀ st : Nat, cr_H E 23 4 [some (.ref 4), some (.int (nI (st))), some (.int (nI (ze_pi E (x)))), some (.int (nI (l)))] row g (some (.int (nI l'))) row g') ∧ (∀ b e f : Nat, mr_G E 82 95 [some (.ref 0), some (.int (nI (b))), some (.int (nI (e))), some (.int (nI (x))), some (.int (nI (f))), some (.int (nI (l))), none] row g 120 [some (.ref 0), some (.int (nI (b))), some (.int (nI (e))), some (.int (nI (x))), some (.int (nI (f))), some (.int (nI (l'))), none] row g') ∧ (∀ b e f : Nat, mr_G E 82 178 [some (.ref 0), some (.int (nI (b))), some (.int (nI (e))), some (.int (nI (x))), some (.int (nI (f))), some (.int (nI (l))), none] row g 136 [some (.ref 0), some (.int (nI (b))), some (.int (nI (e))), some (.int (nI (x))), some (.int (nI (f))), some (.int (nI (l'))), none] row g') := by
  have hn := hE.1
  intro s
  induction s using Nat.strongRecOn with
  | _ s ih =>
    intro l g h1 h2 h3 hw hb0
    have hw1 := hw.go (hw.1 l (by omega)) hx
    have hg1 : zx_le E g _ := zx_le.go hw (row l) (x)
    cases hb : zs_b (ze_md E) (ze_ka E) (row l) x g with
    | false =>
      have hne : l ≠ lo := fun z => by
        rw [z] at hb
        rw [hb0.b] at hb
        cases hb
      obtain ⟨l', g', a1, a2, a3, a4, a5, a6, a7, a8, a9⟩ := ih (s - 1) (by omega) (l - 1) _ (by omega) (by omega) (by omega) hw1 (hg1.2 _ _ (hw.1 lo (by omega)) hb0)
      refine ⟨l', g', a1, by omega, a3, hg1.tr a4, a5, fun k k1 k2 => ?_, fun st => ?_, fun b e f => ?_, fun b e f => ?_⟩
      · by_cases c : k = l
        · rw [c]; exact a4.1 _ _ hx (zs_b_f hw.2 (hw.1 l (by omega)) hx hb)
        · exact a6 k (by omega) (by omega)
      · intro r q u bb post hr kk
        refine ez_go ez_h23 2 (pc' := bif decide ((nI (l)) < (nI 0)) then 33 else 8) (L' := [some (.ref 4), some (.int (nI (st))), some (.int (nI (ze_pi E (x)))), some (.int (nI (l)))]) (st' := []) (w' := cz_w r q u bb) rfl ?_
        refine ez_ifF (zt_nlt (a := l) (b := 0) (by omega) (by omega)) ?_
        refine ez_go ez_h23 5 (pc' := 17) (L' := [some (.ref 4), some (.int (nI (st))), some (.int (nI (ze_pi E (x)))), some (.int (nI (l)))]) (st' := [.int (nI (l)), .ref 1, .ref 1]) (w' := cz_w r q u bb) rfl ?_
        refine ez_cl ez_h23 rfl rfl ?_
        refine cr_at hE hr (k := l) (by omega) q u bb ?_
        refine ez_go ez_h23 1 (pc' := 21) (L' := [some (.ref 4), some (.int (nI (st))), some (.int (nI (ze_pi E (x)))), some (.int (nI (l)))]) (st' := [.int (nI (ze_pi E (x))), .int (nI (ze_pi E (row l))), .ref 1]) (w' := cz_w r q u bb) rfl ?_
        refine ez_cl ez_h23 rfl rfl ?_
        refine cr_less hE hr hw.2 (x := row l) (y := x) (hw.1 l (by omega)) hx q u bb (fun r28 hr28 => ?_)
        refine ez_go ez_h23 1 (pc' := bif decide (¬ (zs_z (zs_b (ze_md E) (ze_ka E) (row l) x g)) = 0) then 33 else 27) (L' := [some (.ref 4), some (.int (nI (st))), some (.int (nI (ze_pi E (x)))), some (.int (nI (l)))]) (st' := []) (w' := cz_w r28 q u bb) rfl ?_
        refine ez_ifF (fun z => z (zz_f hb)) ?_
        refine ez_inc ez_h23 rfl rfl (v := nI (l - 1)) (zi_m (by omega)) rfl ?_
        refine ez_go ez_h23 1 (pc' := 4) (L' := [some (.ref 4), some (.int (nI (st))), some (.int (nI (ze_pi E (x)))), some (.int (nI (l - 1)))]) (st' := []) (w' := cz_w r28 q u bb) rfl ?_
        exact a7 st _ q u bb post hr28 kk
      · intro A Q U T post hA kk
        refine ez_go ez_h82 4 (pc' := 102) (L' := [some (.ref 0), some (.int (nI (b))), some (.int (nI (e))), some (.int (nI (x))), some (.int (nI (f))), some (.int (nI (l))), none]) (st' := [.int (nI (l)), .ref 4, .ref 0]) (w' := mz_w A Q U T) rfl ?_
        refine mr_ld ez_h82 rfl hE hA (k := l) (by omega) ?_
        refine ez_go ez_h82 1 (pc' := 104) (L' := [some (.ref 0), some (.int (nI (b))), some (.int (nI (e))), some (.int (nI (x))), some (.int (nI (f))), some (.int (nI (l))), none]) (st' := [.int (nI (x)), .int (nI (row l)), .ref 0]) (w' := mz_w A Q U T) rfl ?_
        refine ez_cl ez_h82 rfl rfl ?_
        refine mr_less hE hA hw.2 (x := row l) (y := x) (hw.1 l (by omega)) hx Q U T (fun A29 hA29 => ?_)
        refine ez_go ez_h82 1 (pc' := bif decide (¬ (zs_z (zs_b (ze_md E) (ze_ka E) (row l) x g)) = 0) then 114 else 110) (L' := [some (.ref 0), some (.int (nI (b))), some (.int (nI (e))), some (.int (nI (x))), some (.int (nI (f))), some (.int (nI (l))), none]) (st' := []) (w' := mz_w A29 Q U T) rfl ?_
        refine ez_ifF (fun z => z (zz_f hb)) ?_
        refine ez_go ez_h82 6 (pc' := bif decide ((nI (1)) = (nI 0)) then 120 else 92) (L' := [some (.ref 0), some (.int (nI (b))), some (.int (nI (e))), some (.int (nI (x))), some (.int (nI (f))), some (.int (nI (l))), some (.int (nI (1)))]) (st' := []) (w' := mz_w A29 Q U T) rfl ?_
        refine ez_ifF (zt_ne (by omega) (by omega) (by omega)) ?_
        refine ez_inc ez_h82 rfl rfl (v := nI (l - 1)) (zi_m (by omega)) rfl ?_
        exact ez_E.le (ez_lc (ez_lc (ez_lc (ez_lc (ez_lc (ez_lc (ez_ln ez_l0))))))) (a8 b e f _ Q U T post hA29 kk)
      · intro A Q U T post hA kk
        refine ez_go ez_h82 4 (pc' := 185) (L' := [some (.ref 0), some (.int (nI (b))), some (.int (nI (e))), some (.int (nI (x))), some (.int (nI (f))), some (.int (nI (l))), none]) (st' := [.int (nI (l)), .ref 4, .ref 0]) (w' := mz_w A Q U T) rfl ?_
        refine mr_ld ez_h82 rfl hE hA (k := l) (by omega) ?_
        refine ez_go ez_h82 1 (pc' := 187) (L' := [some (.ref 0), some (.int (nI (b))), some (.int (nI (e))), some (.int (nI (x))), some (.int (nI (f))), some (.int (nI (l))), none]) (st' := [.int (nI (x)), .int (nI (row l)), .ref 0]) (w' := mz_w A Q U T) rfl ?_
        refine ez_cl ez_h82 rfl rfl ?_
        refine mr_less hE hA hw.2 (x := row l) (y := x) (hw.1 l (by omega)) hx Q U T (fun A30 hA30 => ?_)
        refine ez_go ez_h82 1 (pc' := bif decide (¬ (zs_z (zs_b (ze_md E) (ze_ka E) (row l) x g)) = 0) then 136 else 193) (L' := [some (.ref 0), some (.int (nI (b))), some (.int (nI (e))), some (.int (nI (x))), some (.int (nI (f))), some (.int (nI (l))), none]) (st' := []) (w' := mz_w A30 Q U T) rfl ?_
        refine ez_ifF (fun z => z (zz_f hb)) ?_
        refine ez_inc ez_h82 rfl rfl (v := nI (l - 1)) (zi_m (by omega)) rfl ?_
        refine ez_go ez_h82 1 (pc' := 178) (L' := [some (.ref 0), some (.int (nI (b))), some (.int (nI (e))), some (.int (nI (x))), some (.int (nI (f))), some (.int (nI (l - 1))), none]) (st' := []) (w' := mz_w A30 Q U T) rfl ?_
        exact ez_E.le (ez_lc (ez_lc (ez_lc (ez_lc (ez_lc (ez_lc (ez_lc ez_l0))))))) (a9 b e f _ Q U T post hA30 kk)
    | true =>
      refine ⟨l, _, h2, Nat.le_refl _, hw1, hg1, zs_b_L hb, fun k k1 k2 => by omega, fun st => ?_, fun b e f => ?_, fun b e f => ?_⟩
      · intro r q u bb post hr kk
        refine ez_go ez_h23 2 (pc' := bif decide ((nI (l)) < (nI 0)) then 33 else 8) (L' := [some (.ref 4), some (.int (nI (st))), some (.int (nI (ze_pi E (x)))), some (.int (nI (l)))]) (st' := []) (w' := cz_w r q u bb) rfl ?_
        refine ez_ifF (zt_nlt (a := l) (b := 0) (by omega) (by omega)) ?_
        refine ez_go ez_h23 5 (pc' := 17) (L' := [some (.ref 4), some (.int (nI (st))), some (.int (nI (ze_pi E (x)))), some (.int (nI (l)))]) (st' := [.int (nI (l)), .ref 1, .ref 1]) (w' := cz_w r q u bb) rfl ?_
        refine ez_cl ez_h23 rfl rfl ?_
        refine cr_at hE hr (k := l) (by omega) q u bb ?_
        refine ez_go ez_h23 1 (pc' := 21) (L' := [some (.ref 4), some (.int (nI (st))), some (.int (nI (ze_pi E (x)))), some (.int (nI (l)))]) (st' := [.int (nI (ze_pi E (x))), .int (nI (ze_pi E (row l))), .ref 1]) (w' := cz_w r q u bb) rfl ?_
        refine ez_cl ez_h23 rfl rfl ?_
        refine cr_less hE hr hw.2 (x := row l) (y := x) (hw.1 l (by omega)) hx q u bb (fun r31 hr31 => ?_)
        refine ez_go ez_h23 1 (pc' := bif decide (¬ (zs_z (zs_b (ze_md E) (ze_ka E) (row l) x g)) = 0) then 33 else 27) (L' := [some (.ref 4), some (.int (nI (st))), some (.int (nI (ze_pi E (x)))), some (.int (nI (l)))]) (st' := []) (w' := cz_w r31 q u bb) rfl ?_
        refine ez_ifT (zz_t hb) ?_
        refine ez_go ez_h23 1 (pc' := 34) (L' := [some (.ref 4), some (.int (nI (st))), some (.int (nI (ze_pi E (x)))), some (.int (nI (l)))]) (st' := [.int (nI (l))]) (w' := cz_w r31 q u bb) rfl ?_
        exact ez_iret rfl ez_h23 rfl rfl (kk _ hr31)
      · intro A Q U T post hA kk
        refine ez_go ez_h82 4 (pc' := 102) (L' := [some (.ref 0), some (.int (nI (b))), some (.int (nI (e))), some (.int (nI (x))), some (.int (nI (f))), some (.int (nI (l))), none]) (st' := [.int (nI (l)), .ref 4, .ref 0]) (w' := mz_w A Q U T) rfl ?_
        refine mr_ld ez_h82 rfl hE hA (k := l) (by omega) ?_
        refine ez_go ez_h82 1 (pc' := 104) (L' := [some (.ref 0), some (.int (nI (b))), some (.int (nI (e))), some (.int (nI (x))), some (.int (nI (f))), some (.int (nI (l))), none]) (st' := [.int (nI (x)), .int (nI (row l)), .ref 0]) (w' := mz_w A Q U T) rfl ?_
        refine ez_cl ez_h82 rfl rfl ?_
        refine mr_less hE hA hw.2 (x := row l) (y := x) (hw.1 l (by omega)) hx Q U T (fun A32 hA32 => ?_)
        refine ez_go ez_h82 1 (pc' := bif decide (¬ (zs_z (zs_b (ze_md E) (ze_ka E) (row l) x g)) = 0) then 114 else 110) (L' := [some (.ref 0), some (.int (nI (b))), some (.int (nI (e))), some (.int (nI (x))), some (.int (nI (f))), some (.int (nI (l))), none]) (st' := []) (w' := mz_w A32 Q U T) rfl ?_
        refine ez_ifT (zz_t hb) ?_
        refine ez_go ez_h82 5 (pc' := bif decide ((nI (0)) = (nI 0)) then 120 else 92) (L' := [some (.ref 0), some (.int (nI (b))), some (.int (nI (e))), some (.int (nI (x))), some (.int (nI (f))), some (.int (nI (l))), some (.int (nI (0)))]) (st' := []) (w' := mz_w A32 Q U T) rfl ?_
        refine ez_ifT (zt_eq (by omega)) ?_
        exact ez_E.le (ez_lc (ez_lc (ez_lc (ez_lc (ez_lc (ez_lc (ez_ln ez_l0))))))) (kk _ hA32)
      · intro A Q U T post hA kk
        refine ez_go ez_h82 4 (pc' := 185) (L' := [some (.ref 0), some (.int (nI (b))), some (.int (nI (e))), some (.int (nI (x))), some (.int (nI (f))), some (.int (nI (l))), none]) (st' := [.int (nI (l)), .ref 4, .ref 0]) (w' := mz_w A Q U T) rfl ?_
        refine mr_ld ez_h82 rfl hE hA (k := l) (by omega) ?_
        refine ez_go ez_h82 1 (pc' := 187) (L' := [some (.ref 0), some (.int (nI (b))), some (.int (nI (e))), some (.int (nI (x))), some (.int (nI (f))), some (.int (nI (l))), none]) (st' := [.int (nI (x)), .int (nI (row l)), .ref 0]) (w' := mz_w A Q U T) rfl ?_
        refine ez_cl ez_h82 rfl rfl ?_
        refine mr_less hE hA hw.2 (x := row l) (y := x) (hw.1 l (by omega)) hx Q U T (fun A33 hA33 => ?_)
        refine ez_go ez_h82 1 (pc' := bif decide (¬ (zs_z (zs_b (ze_md E) (ze_ka E) (row l) x g)) = 0) then 136 else 193) (L' := [some (.ref 0), some (.int (nI (b))), some (.int (nI (e))), some (.int (nI (x))), some (.int (nI (f))), some (.int (nI (l))), none]) (st' := []) (w' := mz_w A33 Q U T) rfl ?_
        refine ez_ifT (zz_t hb) ?_
        exact ez_E.le (ez_lc (ez_lc (ez_lc (ez_lc (ez_lc (ez_lc (ez_lc ez_l0))))))) (kk _ hA33)
