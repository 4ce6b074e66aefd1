theorem zs_c_ge {c : Option Nat} (h : ∀ v, c = some v → v < 2 ^ 31) : 0 ≤ zs_c c ↔ ¬ c = none := by
  cases c with
  | none =>
    constructor
    · intro q; exact absurd q (by decide)
    · intro q; exact absurd rfl q
  | some v =>
    constructor
    · intro _ q; cases q
    · intro _; exact nI_pos' (h v rfl)
theorem zs_c_lt {c : Option Nat} (h : ∀ v, c = some v → v < 2 ^ 31) : zs_c c < 0 ↔ c = none := by
  cases c with
  | none =>
    constructor
    · intro _; rfl
    · intro _; decide
  | some v =>
    constructor
    · intro q; exact absurd q (nI_pos (h v rfl))
    · intro q; cases q
theorem zs_c_up {s : Nat → Option Nat} {f : Nat → Int32} {n k v : Nat} (h : ∀ j, j < n → f j = zs_c (s j)) : ∀ j, j < n → upd f k (nI v) j = zs_c (va_up s k (some v) j) := fun j hj => by
  by_cases e : j = k
  · subst e; rw [pk_us, va_up_self]; rfl
  · rw [pk_un e, va_up_ne _ _ e]; exact h j hj
set_option maxHeartbeats 1000000 in
theorem mr_lessA {n : Nat} {g : zs_G} (hI : zs_I n g) (hn : n ≤ 600) {x y : Nat} (hx : x < n) (hy : y < n) {ord : Int32} {cm la : Int64} {num st row : Nat → Int32} (hst : ∀ k, k < n → st k = zs_c (g.2.1 k)) :
    ∃ st' : Nat → Int32, pf_mlessA x y (nI n) ord (zs_c g.2.2.1) (nI g.2.2.2) cm la num st row = (some (.int (zs_z (zs_lt (zs_st x y g) x y))), (nI n, ord, 1, zs_c (zs_cd x y g), nI (zs_nx x y g), cm + 1, la + 1, num, st', row)) ∧ ∀ k, k < n → st' k = zs_c (zs_st x y g k) := by
  have hnx := hI.nx
  have hb : ∀ k, k < n → ∀ v, g.2.1 k = some v → v < 2 ^ 31 := fun k hk v hv => by have := hI.2.1 k v hk hv; omega
  have hge : ∀ k, k < n → (0 ≤ st k ↔ ¬ g.2.1 k = none) := fun k hk => by rw [hst k hk]; exact zs_c_ge (hb k hk)
  have hlt : ∀ k, k < n → (st k < 0 ↔ g.2.1 k = none) := fun k hk => by rw [hst k hk]; exact zs_c_lt (hb k hk)
  have hcd := zs_c_eq hI.2.2.2 hx hn
  by_cases hq : g.2.1 x = none ∧ g.2.1 y = none
  · have hnl := hI.lt hx hq.1
    have p1 : ¬ 0 ≤ st x := fun z => (hge x hx).mp z hq.1
    have p2 : ¬ 0 ≤ st y := fun z => (hge y hy).mp z hq.2
    have hup : ∀ s : Nat, ¬ va_up g.2.1 s (some g.2.2.2) s = none := fun s z => by rw [va_up_self] at z; cases z
    have u1 : ∀ s : Nat, 0 ≤ upd st s (nI g.2.2.2) s := fun s => by rw [pk_us]; exact nI_pos' (by omega)
    have u2 : ∀ s : Nat, ¬ upd st s (nI g.2.2.2) s < 0 := fun s => by rw [pk_us]; exact nI_pos (by omega)
    unfold pf_mlessA zs_cd zs_nx zs_st zs_sel
    simp only [if_neg p1, if_neg p2, if_pos hq]
    by_cases hc : g.2.2.1 = some x
    · have hc' := hcd.mpr hc
      refine ⟨upd st x (nI g.2.2.2), ?_, ?_⟩
      · simp only [if_pos hc', if_pos hc, if_pos (u1 x), if_neg (u2 x), if_neg (hup x)]
        by_cases e : y = x
        · subst e
          have k3 : zs_lt (va_up g.2.1 y (some g.2.2.2)) y y = false := by unfold zs_lt; rw [va_up_self]; simp
          simp only [if_pos (u1 y), if_neg (u2 y), if_neg (hup y), if_pos (Int32.le_refl _), k3, nI_add]
          rfl
        · have k1 : ¬ 0 ≤ upd st x (nI g.2.2.2) y := by rw [pk_un e]; exact p2
          have k2 : va_up g.2.1 x (some g.2.2.2) y = none := by rw [va_up_ne _ _ e]; exact hq.2
          have k4 : upd st x (nI g.2.2.2) y < 0 := by rw [pk_un e]; exact (hlt y hy).mpr hq.2
          have k3 : zs_lt (va_up g.2.1 x (some g.2.2.2)) x y = true := by unfold zs_lt; rw [va_up_self, k2]
          simp only [if_neg k1, if_pos k2, if_pos k4, k3, nI_add]
          rfl
      · simp only [if_pos hc]
        exact zs_c_up hst
    · have hc' : ¬ zs_c g.2.2.1 = nI x := fun z => hc (hcd.mp z)
      refine ⟨upd st y (nI g.2.2.2), ?_, ?_⟩
      · simp only [if_neg hc', if_neg hc]
        by_cases e : x = y
        · subst e
          have k3 : zs_lt (va_up g.2.1 x (some g.2.2.2)) x x = false := by unfold zs_lt; rw [va_up_self]; simp
          simp only [if_pos (u1 x), if_neg (u2 x), if_neg (hup x), if_pos (Int32.le_refl _), k3, nI_add]
          rfl
        · have k1 : ¬ 0 ≤ upd st y (nI g.2.2.2) x := by rw [pk_un e]; exact p1
          have k2 : va_up g.2.1 y (some g.2.2.2) x = none := by rw [va_up_ne _ _ e]; exact hq.1
          have k4 : upd st y (nI g.2.2.2) x < 0 := by rw [pk_un e]; exact (hlt x hx).mpr hq.1
          have k3 : zs_lt (va_up g.2.1 y (some g.2.2.2)) x y = false := by unfold zs_lt; rw [k2]
          simp only [if_neg k1, if_pos k2, if_pos k4, k3, nI_add]
          rfl
      · simp only [if_neg hc]
        exact zs_c_up hst
  · unfold pf_mlessA zs_cd zs_nx zs_st
    simp only [if_neg hq]
    refine ⟨st, ?_, hst⟩
    by_cases h1 : g.2.1 x = none
    · have h2 : ¬ g.2.1 y = none := fun z => hq ⟨h1, z⟩
      have p1 : ¬ 0 ≤ st x := fun z => (hge x hx).mp z h1
      have p2 : 0 ≤ st y := (hge y hy).mpr h2
      have p3 : st x < 0 := (hlt x hx).mpr h1
      have k3 : zs_lt g.2.1 x y = false := by unfold zs_lt; rw [h1]
      simp only [if_neg p1, if_pos p2, if_pos p3, if_pos h1, k3]
      rfl
    · have p1 : 0 ≤ st x := (hge x hx).mpr h1
      have p3 : ¬ st x < 0 := fun z => h1 ((hlt x hx).mp z)
      by_cases h2 : g.2.1 y = none
      · have p2 : ¬ 0 ≤ st y := fun z => (hge y hy).mp z h2
        have p4 : st y < 0 := (hlt y hy).mpr h2
        obtain ⟨a, ha⟩ := Option.ne_none_iff_exists'.mp h1
        have k3 : zs_lt g.2.1 x y = true := by unfold zs_lt; rw [ha, h2]
        simp only [if_pos p1, if_neg p2, if_neg p3, if_pos p4, if_neg h1, if_pos h2, k3]
        rfl
      · have p2 : 0 ≤ st y := (hge y hy).mpr h2
        have p4 : ¬ st y < 0 := fun z => h2 ((hlt y hy).mp z)
        obtain ⟨a, ha⟩ := Option.ne_none_iff_exists'.mp h1
        obtain ⟨b, hb2⟩ := Option.ne_none_iff_exists'.mp h2
        have e1 : st x = nI a := by rw [hst x hx, ha]; rfl
        have e2 : st y = nI b := by rw [hst y hy, hb2]; rfl
        have ba := hb x hx a ha
        have bb := hb y hy b hb2
        simp only [if_pos p1, if_pos p2, if_neg p3, if_neg p4, if_neg h1, if_neg h2]
        by_cases hab : b ≤ a
        · have p5 : st y ≤ st x := by rw [e1, e2]; exact nI_le hab ba
          have k3 : zs_lt g.2.1 x y = false := by unfold zs_lt; rw [ha, hb2]; simp; omega
          simp only [if_pos p5, k3]
          rfl
        · have p5 : ¬ st y ≤ st x := by rw [e1, e2]; exact nI_ge (by omega) bb
          have k3 : zs_lt g.2.1 x y = true := by unfold zs_lt; rw [ha, hb2]; simp; omega
          simp only [if_neg p5, k3]
          rfl
theorem cr_lessA {n : Nat} {g : zs_G} (hI : zs_I n g) (hn : n ≤ 600) {x y : Nat} (hx : x < n) (hy : y < n) {ord : Int32} {asked : Int64} {num thg : Nat → Int32} (hnum : ∀ k, k < n → num k = nI ((g.2.1 k).getD n)) :
    ∃ num' : Nat → Int32, pf_lessA x y (nI n) ord asked (zs_c g.2.2.1) (nI g.2.2.2) num thg = (some (.int (zs_z (zs_lt (zs_st x y g) x y))), (nI n, ord, asked + 1, 1, zs_c (zs_cd x y g), nI (zs_nx x y g), num', thg)) ∧ ∀ k, k < n → num' k = nI ((zs_st x y g k).getD n) := by
  obtain ⟨num', e, h⟩ := cr_settle hI hn hx hy (ord := ord) (adv := 1) (asked := asked + 1) (thg := thg) hnum
  refine ⟨num', ?_, h⟩
  unfold pf_lessA
  rw [e]
  dsimp only
  have hI' := hI.go hx hy
  have hnx := hI'.nx
  have hval : ∀ k, k < n → ∀ v, zs_st x y g k = some v → v < n := fun k hk v hv => by
    have := hI'.2.1 k v hk hv
    omega
  have ex := h x hx
  have ey := h y hy
  unfold zs_lt
  cases h1 : zs_st x y g x with
  | none =>
    rw [h1] at ex
    replace ex : num' x = nI n := ex
    have p : num' y ≤ num' x := by
      rw [ex, ey]
      cases h2 : zs_st x y g y with
      | none => exact Int32.le_refl _
      | some b => exact nI_le (Nat.le_of_lt (hval y hy b h2)) (by omega)
    rw [if_pos p]
    rfl
  | some a =>
    have ha := hval x hx a h1
    rw [h1] at ex
    replace ex : num' x = nI a := ex
    cases h2 : zs_st x y g y with
    | none =>
      rw [h2] at ey
      replace ey : num' y = nI n := ey
      have p : ¬ num' y ≤ num' x := by rw [ex, ey]; exact nI_ge ha (by omega)
      rw [if_neg p]
      rfl
    | some b =>
      have hb := hval y hy b h2
      rw [h2] at ey
      replace ey : num' y = nI b := ey
      by_cases hab : b ≤ a
      · have p : num' y ≤ num' x := by rw [ex, ey]; exact nI_le hab (by omega)
        have hd : decide (a < b) = false := by simp; omega
        rw [if_pos p]
        show _ = (some (Value.int (zs_z (decide (a < b)))), _)
        rw [hd]
        rfl
      · have p : ¬ num' y ≤ num' x := by rw [ex, ey]; exact nI_ge (a := a) (b := b) (by omega) (by omega)
        have hd : decide (a < b) = true := by simp; omega
        rw [if_neg p]
        show _ = (some (Value.int (zs_z (decide (a < b)))), _)
        rw [hd]
        rfl
theorem zs_cnt (c : Int64) (k : Nat) : c + lN k + 1 = c + lN (k + 1) := by rw [Int64.add_assoc, lN_1]
set_option maxHeartbeats 1000000 in
/-- a COMPARISON in the class -/
theorem cr_less {E : ze_T} {row : Nat → Nat} {g : zs_G} {r : cz_Row} (hE : ze_ok E) (hr : cr_R E row g r) (hI : ze_md E = true → zs_I (ze_n E) g) {x y : Nat} (hx : x < ze_n E) (hy : y < ze_n E) (q : cz_Qk) (u : cz_Rn) (b : cz_Bn) {post : Option Value → ez_W → Prop}
    (k : ∀ r' : cz_Row, cr_R E row (zs_g (ze_md E) x y g) r' → post (some (.int (zs_z (zs_b (ze_md E) (ze_ka E) x y g)))) (cz_w r' q u b)) : ez_m 38 [.ref 1, .int (nI (ze_pi E x)), .int (nI (ze_pi E y))] (cz_w r q u b) post := by
  obtain ⟨md, n, pi, ka, od, nu, mu, c0, d0⟩ := E
  obtain ⟨sz, ord, asked, adv, cand, stl, num, thg⟩ := r
  obtain ⟨e1, e2, e3, e4⟩ := hE
  obtain ⟨h1, h2, h3, h4, h5⟩ := hr
  replace hx : x < n := hx
  replace hy : y < n := hy
  replace e1 : n ≤ 600 := e1
  have px : pi x < n := e2 x hx
  have py : pi y < n := e2 y hy
  replace h1 : sz = nI n := h1
  replace h2 : ord = od := h2
  replace h3 : asked = c0 + lN g.1 := h3
  replace h4 : ∀ k, k < n → thg k = nI (pi (row k)) := h4
  cases md with
  | false =>
    obtain ⟨o1, o2, -⟩ := e4 rfl
    obtain ⟨h5, h6⟩ : adv = 0 ∧ num = nu := h5
    subst h1 h2 h3 h5 h6
    refine lf_lessN (pi x) (pi y) (by omega) (by omega) _ _ _ _ _ _ _ q u b o1 ?_
    unfold pf_lessN
    have o3 : zk_key ord (num (pi x)).toInt64 = ka x := o2 x hx
    have o4 : zk_key ord (num (pi y)).toInt64 = ka y := o2 y hy
    rw [o3, o4]
    have k : ∀ r' : cz_Row, cr_R (false, n, pi, ka, ord, num, mu, c0, d0) row (g.1 + 1, g.2.1, g.2.2.1, g.2.2.2) r' → post (some (.int (zs_z (decide (ka x < ka y))))) (cz_w r' q u b) := k
    by_cases hc : ka y ≤ ka x
    · rw [if_pos ((lg_cmp_ge _ _).mpr hc)]
      have hd : decide (ka x < ka y) = false := decide_eq_false (Int64.not_lt.mpr hc)
      rw [hd] at k
      exact k _ ⟨rfl, rfl, zs_cnt _ _, h4, rfl, rfl⟩
    · rw [if_neg (fun z => hc ((lg_cmp_ge _ _).mp z))]
      have hd : decide (ka x < ka y) = true := decide_eq_true (Int64.not_le.mp hc)
      rw [hd] at k
      exact k _ ⟨rfl, rfl, zs_cnt _ _, h4, rfl, rfl⟩
  | true =>
    obtain ⟨h5, h6, h7, h8⟩ : adv = 1 ∧ cand = zs_c g.2.2.1 ∧ stl = nI g.2.2.2 ∧ ∀ k, k < n → num k = nI ((g.2.1 k).getD n) := h5
    subst h1 h2 h3 h5 h6 h7
    have hI := hI rfl
    obtain ⟨num', p1, p2⟩ := cr_lessA hI e1 hx hy (ord := ord) (asked := c0 + lN g.1) (thg := thg) h8
    have q1 : pi x = x := e3 rfl x hx
    have q2 : pi y = y := e3 rfl y hy
    show ez_m 38 [.ref 1, .int (nI (pi x)), .int (nI (pi y))] _ _
    rw [q1, q2]
    refine lf_lessA x y (by omega) (by omega) _ _ _ _ _ _ _ q u b ?_
    rw [p1]
    exact k _ ⟨rfl, rfl, zs_cnt _ _, h4, rfl, rfl, rfl, p2⟩
set_option maxHeartbeats 1000000 in
/-- a COMPARISON in the reference -/
theorem mr_less {E : ze_T} {row : Nat → Nat} {g : zs_G} {A : mz_A} (hE : ze_ok E) (hr : mr_R E row g A) (hI : ze_md E = true → zs_I (ze_n E) g) {x y : Nat} (hx : x < ze_n E) (hy : y < ze_n E) (Q : mz_Q) (U : mz_U) (T : mz_T) {post : Option Value → ez_W → Prop}
    (k : ∀ A' : mz_A, mr_R E row (zs_g (ze_md E) x y g) A' → post (some (.int (zs_z (zs_b (ze_md E) (ze_ka E) x y g)))) (mz_w A' Q U T)) : ez_m 73 [.ref 0, .int (nI x), .int (nI y)] (mz_w A Q U T) post := by
  obtain ⟨md, n, pi, ka, od, nu, mu, c0, d0⟩ := E
  obtain ⟨msz, mord, madv, mcand, mnx, mcmp, mlat, mnum, mset, mrow⟩ := A
  obtain ⟨e1, e2, e3, e4⟩ := hE
  obtain ⟨h1, h2, h3, h3b, h4, h5⟩ := hr
  replace hx : x < n := hx
  replace hy : y < n := hy
  replace e1 : n ≤ 600 := e1
  replace h1 : msz = nI n := h1
  replace h2 : mord = od := h2
  replace h3 : mcmp = d0 + lN g.1 := h3
  replace h3b : mlat = lN g.1 := h3b
  replace h4 : ∀ k, k < n → mrow k = nI (row k) := h4
  cases md with
  | false =>
    obtain ⟨o1, -, o2⟩ := e4 rfl
    obtain ⟨h5, h6⟩ : madv = 0 ∧ mnum = mu := h5
    subst h1 h2 h3 h3b h5 h6
    refine lf_mlessN x y (by omega) (by omega) _ _ _ _ _ _ _ _ _ Q U T o1 ?_
    unfold pf_mlessN
    have o3 : zk_key mord (mnum x).toInt64 = ka x := o2 x hx
    have o4 : zk_key mord (mnum y).toInt64 = ka y := o2 y hy
    rw [o3, o4]
    have k : ∀ A' : mz_A, mr_R (false, n, pi, ka, mord, nu, mnum, c0, d0) row (g.1 + 1, g.2.1, g.2.2.1, g.2.2.2) A' → post (some (.int (zs_z (decide (ka x < ka y))))) (mz_w A' Q U T) := k
    by_cases hc : ka y ≤ ka x
    · rw [if_pos ((lg_cmp_ge _ _).mpr hc)]
      have hd : decide (ka x < ka y) = false := decide_eq_false (Int64.not_lt.mpr hc)
      rw [hd] at k
      exact k _ ⟨rfl, rfl, zs_cnt _ _, lN_1 _, h4, rfl, rfl⟩
    · rw [if_neg (fun z => hc ((lg_cmp_ge _ _).mp z))]
      have hd : decide (ka x < ka y) = true := decide_eq_true (Int64.not_le.mp hc)
      rw [hd] at k
      exact k _ ⟨rfl, rfl, zs_cnt _ _, lN_1 _, h4, rfl, rfl⟩
  | true =>
    obtain ⟨h5, h6, h7, h8⟩ : madv = 1 ∧ mcand = zs_c g.2.2.1 ∧ mnx = nI g.2.2.2 ∧ ∀ k, k < n → mset k = zs_c (g.2.1 k) := h5
    subst h1 h2 h3 h3b h5 h6 h7
    have hI := hI rfl
    obtain ⟨st', p1, p2⟩ := mr_lessA hI e1 hx hy (ord := mord) (cm := d0 + lN g.1) (la := lN g.1) (num := mnum) (row := mrow) h8
    refine lf_mlessA x y (by omega) (by omega) _ _ _ _ _ _ _ _ _ Q U T ?_
    rw [p1]
    exact k _ ⟨rfl, rfl, zs_cnt _ _, lN_1 _, h4, rfl, rfl, rfl, p2⟩
