abbrev xM63 : ez_M := (7, yX8_put, cX8_put, 2, (some .int), 1, 1, 21)
theorem xM63_ok : ez_ms[63]? = some xM63 := rfl
abbrev xM65 : ez_M := (7, yX8_more, cX8_more, 8, (some .int), 3, 1, 21)
theorem xM65_ok : ez_ms[65]? = some xM65 := rfl
abbrev xM66 : ez_M := (7, yX8_line, cX8_line, 6, (some .int), 4, 1, 21)
theorem xM66_ok : ez_ms[66]? = some xM66 := rfl
abbrev xM69 : ez_M := (7, yX8_exchange, cX8_exchange, 3, none, 2, 1, 24)
theorem xM69_ok : ez_ms[69]? = some xM69 := rfl
abbrev xM70 : ez_M := (7, yX8_turn, cX8_turn, 4, none, 2, 1, 24)
theorem xM70_ok : ez_ms[70]? = some xM70 := rfl
abbrev xM71 : ez_M := (7, yX8_order, cX8_order, 3, (some .int), 1, 0, 0)
theorem xM71_ok : ez_ms[71]? = some xM71 := rfl
abbrev xM98 : ez_M := (7, yX8_sort, cX8_sort, 4, (some .int), 1, 9, 207)
theorem xM98_ok : ez_ms[98]? = some xM98 := rfl
abbrev xM99 : ez_M := (7, yX8_kill, cX8_kill, 5, (some .int), 2, 9, 207)
theorem xM99_ok : ez_ms[99]? = some xM99 := rfl
abbrev xM100 : ez_M := (7, yX8_get, cX8_get, 2, (some .int), 1, 1, 21)
theorem xM100_ok : ez_ms[100]? = some xM100 := rfl
abbrev xM101 : ez_M := (7, yX8_tag, cX8_tag, 2, (some .int), 1, 1, 21)
theorem xM101_ok : ez_ms[101]? = some xM101 := rfl
abbrev xM102 : ez_M := (7, yX8_is, cX8_is, 9, (some .boolean), 1, 1, 23)
theorem xM102_ok : ez_ms[102]? = some xM102 := rfl
abbrev xM103 : ez_M := (7, yX8_count, cX8_count, 2, (some .long), 1, 0, 0)
theorem xM103_ok : ez_ms[103]? = some xM103 := rfl
abbrev xM104 : ez_M := (7, yX8_clear, cX8_clear, 2, (some .int), 0, 0, 0)
theorem xM104_ok : ez_ms[104]? = some xM104 := rfl
abbrev xM62 : ez_M := (7, yX8_thrown, cX8_thrown, 1, (some .int), 0, 0, 0)
theorem xM62_ok : ez_ms[62]? = some xM62 := rfl
abbrev xM58 : ez_M := (6, yX7_clear, cX7_clear, 2, (some .int), 0, 1, 20)
theorem xM58_ok : ez_ms[58]? = some xM58 := rfl
/-! ===== what kind of answer a run gives ===== -/
def ez_rt (r : Option FieldType) (a : Option Value) : Prop := match r with
  | some .int => ∃ y : Int32, a = some (.int y)
  | some .boolean => ∃ y : Int32, a = some (.int y)
  | some .long => ∃ y : Int64, a = some (.long y)
  | none => a = none
  | _ => True
set_option maxHeartbeats 4000000 in
theorem ez_ty : ∀ (n mi pc : Nat) (L : ez_L) (st : List Value) (w : ez_W) (r : Option Value) (w' : ez_W) (M : ez_M), ez_ms[mi]? = some M → ez_ev n mi pc L st w = some (r, w') → ez_rt M.2.2.2.2.1 r := by
  intro n
  induction n with
  | zero =>
    intro mi pc L st w r w' M hM h
    cases h
  | succ n ih =>
    intro mi pc L st w r w' M hM h
    unfold ez_ev at h
    rw [hM] at h
    dsimp only at h
    cases hi : ez_i mi pc with
    | none => rw [hi] at h; cases h
    | some il =>
      obtain ⟨i, len⟩ := il
      rw [hi] at h
      dsimp only at h
      cases hok : ez_ok i len with
      | false => rw [hok] at h; cases h
      | true =>
        rw [hok] at h
        simp only [cond_true] at h
        cases i
        case ireturn =>
          dsimp only at h
          split at h
          · rename_i v
            cases hk : ez_rk M.2.2.2.2.1 v with
            | false => rw [hk] at h; cases h
            | true =>
              rw [hk] at h
              cases h
              unfold ez_rk at hk
              split at hk
              · rename_i hrt
                rw [hrt]
                exact ⟨v, rfl⟩
              · rename_i hrt
                rw [hrt]
                exact ⟨v, rfl⟩
              · cases hk
          · cases h
        case lreturn =>
          dsimp only at h
          split at h
          · rename_i v hrt
            cases h
            rw [hrt]
            exact ⟨v, rfl⟩
          · cases h
        case return_ =>
          dsimp only at h
          split at h
          · rename_i hrt
            cases h
            rw [hrt]
            rfl
          · cases h
        case invokevirtual k =>
          dsimp only at h
          split at h
          · cases h
          · split at h
            · cases h
            · rename_i N hN
              split at h
              · rename_i a rest hdrop
                split at h
                · rename_i cc fs hw
                  cases hc : (Nat.beq cc N.1 && (ez_fit M N rest && (Nat.beq (st.take N.2.2.2.2.2.1).length N.2.2.2.2.2.1 && Nat.beq (ez_en (.ref a :: (st.take N.2.2.2.2.2.1).reverse) N.2.2.2.1).length N.2.2.2.1))) with
                  | false => rw [hc] at h; cases h
                  | true =>
                    rw [hc] at h
                    simp only [cond_true] at h
                    split at h
                    · exact ih _ _ _ _ _ _ _ M hM h
                    · cases h
                · cases h
              · cases h
        case invokestatic k =>
          dsimp only at h
          split at h
          · split at h
            · rename_i y x rest
              cases hc : (Nat.ble 1 M.2.2.2.2.2.2.1 && (Nat.ble ((rest.map fun v => v.category).sum + 13) M.2.2.2.2.2.2.2)) with
              | false => rw [hc] at h; cases h
              | true =>
                rw [hc] at h
                simp only [cond_true] at h
                exact ih _ _ _ _ _ _ _ M hM h
            · cases h
          · split at h
            · cases h
            · split at h
              · cases h
              · rename_i N hN
                cases hc : (Nat.beq M.1 N.1 && (ez_fit M N (st.drop N.2.2.2.2.2.1) && (Nat.beq (st.take N.2.2.2.2.2.1).length N.2.2.2.2.2.1 && Nat.beq (ez_en ((st.take N.2.2.2.2.2.1).reverse) N.2.2.2.1).length N.2.2.2.1))) with
                | false => rw [hc] at h; cases h
                | true =>
                  rw [hc] at h
                  simp only [cond_true] at h
                  split at h
                  · exact ih _ _ _ _ _ _ _ M hM h
                  · cases h
        all_goals (
          dsimp only at h
          split at h
          · exact ih _ _ _ _ _ _ _ M hM h
          · cases h)
theorem ez_is.rt {j : Nat} {N : ez_M} {As : List Value} {w w' : ez_W} {r : Option Value} (hN : ez_ms[j]? = some N) (h : ez_is j As w r w') : ez_rt N.2.2.2.2.1 r := by
  obtain ⟨N', h1, h2, n, r1, w1, h3, rfl, rfl⟩ := h
  exact ez_ty n j 0 _ _ _ _ _ N hN h3
/-! ===== the calls of the script ===== -/
theorem xe_nat {x : Int32} {c : Nat} (hc : c < 2 ^ 31) (h0 : ¬ x < nI 0) (h1 : ¬ nI c < x) : ∃ k, k ≤ c ∧ x = nI k := by
  have a0 : 0 ≤ x.toInt := by
    have := mt (Int32.lt_iff_toInt_lt (x := x) (y := nI 0)).mpr h0
    have e : (nI 0).toInt = 0 := by decide
    rw [e] at this
    omega
  have a1 : x.toInt ≤ c := by
    have := mt (Int32.lt_iff_toInt_lt (x := nI c) (y := x)).mpr h1
    have e : (nI c).toInt = c := Int32.toInt_ofNat_of_lt hc
    rw [e] at this
    omega
  refine ⟨x.toInt.toNat, by omega, ?_⟩
  apply Int32.toInt_inj.mp
  have e : (nI x.toInt.toNat).toInt = (x.toInt.toNat : Int) := Int32.toInt_ofNat_of_lt (by omega)
  rw [e]
  omega
theorem xt_pass {l : Launch} {j jm : Nat} {N Nm : ez_M} {As : List Value} {wc wm : ez_W} (hN : ez_ms[j]? = some N) (hNm : ez_ms[jm]? = some Nm) (h : zo_P wc wm j (.ref 0 :: As) jm (.ref 0 :: As)) : ∃ (x : Option Value) (wc' wm' : ez_W), zl_W 0 wc' wm' ∧ ez_rt N.2.2.2.2.1 x ∧ (∀ (D : va_G) (cI : ClassId) (ad : Nat → Nat) (sz : Nat), xz_MetP l N D cI ad sz (.ref 0 :: As) wc x wc') ∧ (∀ (D : va_G) (cI : ClassId) (ad : Nat → Nat) (sz : Nat), xz_MetP l Nm D cI ad sz (.ref 0 :: As) wm x wm') := by
  obtain ⟨x, wc', wm', h1, h2, h3⟩ := h
  exact ⟨x, wc', wm', h1, ez_is.rt hN h2, fun D cI ad sz => xz_MetP.of (ez_is.met hN h2 l D cI ad sz), fun D cI ad sz => xz_MetP.of (ez_is.met hNm h3 l D cI ad sz)⟩
theorem xt_fail {l : Launch} {jm : Nat} {Nm : ez_M} {As : List Value} {wc wm : ez_W} {k : Int32} (hNm : ez_ms[jm]? = some Nm) (h : zo_X wc wm jm (.ref 0 :: As) k) : ∃ (x : Option Value) (wm' : ez_W), zl_W k wc wm' ∧ ez_rt Nm.2.2.2.2.1 x ∧ (∀ (D : va_G) (cI : ClassId) (ad : Nat → Nat) (sz : Nat), xz_MetP l Nm D cI ad sz (.ref 0 :: As) wm x wm') := by
  obtain ⟨x, wm', h1, h3⟩ := h
  exact ⟨x, wm', h1, ez_is.rt hNm h3, fun D cI ad sz => xz_MetP.of (ez_is.met hNm h3 l D cI ad sz)⟩
theorem xt_thrown {l : Launch} {k : Int32} {wc wm : ez_W} (h : zl_W k wc wm) (D : va_G) (cI : ClassId) (ad : Nat → Nat) (sz : Nat) : xz_MetP l xM62 D cI ad sz [.ref 0] wm (some (.int k)) wm := by
  obtain ⟨n, tg, r, q, u, b, A, Q, U, T, rfl, rfl, hR, rfl⟩ := h
  exact xz_MetP.of (ez_is.met xM62_ok (zo_thrown A Q U T ⟨rfl, rfl⟩) l D cI ad sz)
theorem xt_cell {k : Int32} {wc wm : ez_W} (h : zl_W k wc wm) : (∃ fs, wc[0]? = some (.inr (6, fs))) ∧ ∃ fs, wm[0]? = some (.inr (7, fs)) := by
  obtain ⟨n, tg, r, q, u, b, A, Q, U, T, rfl, rfl, hR, rfl⟩ := h
  exact ⟨⟨_, rfl⟩, _, rfl⟩
theorem xt_put {l : Launch} (hlt : l.stackTraces = false) {z : Int32} {wc wm : ez_W} (h : zl_W z wc wm) (v0 : Int32) (o : Nat → Int64) : ∃ (k : Int32) (wc' wm' : ez_W) (o' : Nat → Int64) (y : Int32), zl_W k wc' wm' ∧ (∀ (D : va_G) (cI cL : ClassId) (ad : Nat → Nat) (qo : Nat) (sz : Nat), xh_Met l yL_put wsH_put D cI cL [.ref (ad 0), .int v0, .ref qo] (xX cI cL ad wc qo o) sz k (xX cI cL ad wc' qo o')) ∧ (∀ (D : va_G) (cI : ClassId) (ad : Nat → Nat) (sz : Nat), xz_MetP l xM63 D cI ad sz [.ref 0, .int v0] wm (some (.int y)) wm') ∧ (k = 0 → o' (0 : Int32).toNatClampNeg = y.toInt64) := by
  obtain ⟨n, tg, r, q, u, b, A, Q, U, T, rfl, rfl, hR, hz⟩ := h
  have hn := hR.1
  have e1 := hR.2.2.1
  by_cases hc : n < 600
  · skip
    obtain ⟨x, wc', wm', g1, ⟨y, rfl⟩, g2, g3⟩ := xt_pass (l := l) xM110_ok xM63_ok (zo_put hR hc v0)
    exact ⟨0, wc', wm', _, y, g1, fun D cI cL ad qo sz => xg_put rfl g2 D cI cL ad qo o sz, g3, fun _ => if_pos rfl⟩
  · skip
    obtain ⟨x, wm', g1, ⟨y, rfl⟩, g3⟩ := xt_fail (l := l) xM63_ok (zo_putX hR (by omega) v0)
    exact ⟨1, _, wm', o, y, g1, fun D cI cL ad qo sz => xg_put_1 rfl (fun D cI ad sz => xf_put hlt hn e1 (by omega) D cI ad sz) D cI cL ad qo o sz, g3, fun z => absurd z (by decide)⟩
theorem xt_more {l : Launch} (hlt : l.stackTraces = false) {z : Int32} {wc wm : ez_W} (h : zl_W z wc wm) (v0 : Int64) (v1 : Int32) (v2 : Int32) (o : Nat → Int64) : ∃ (k : Int32) (wc' wm' : ez_W) (o' : Nat → Int64) (y : Int32), zl_W k wc' wm' ∧ (∀ (D : va_G) (cI cL : ClassId) (ad : Nat → Nat) (qo : Nat) (sz : Nat), xh_Met l yL_more wsH_more D cI cL [.ref (ad 0), .long v0, .int v1, .int v2, .ref qo] (xX cI cL ad wc qo o) sz k (xX cI cL ad wc' qo o')) ∧ (∀ (D : va_G) (cI : ClassId) (ad : Nat → Nat) (sz : Nat), xz_MetP l xM65 D cI ad sz [.ref 0, .long v0, .int v1, .int v2] wm (some (.int y)) wm') ∧ (k = 0 → o' (0 : Int32).toNatClampNeg = y.toInt64) := by
  obtain ⟨n, tg, r, q, u, b, A, Q, U, T, rfl, rfl, hR, hz⟩ := h
  have hn := hR.1
  have e1 := hR.2.2.1
  by_cases h1 : v1 < nI 1
  · skip
    obtain ⟨x, wm', g1, ⟨y, rfl⟩, g3⟩ := xt_fail (l := l) xM65_ok (zo_moreX1 hR (Or.inl h1))
    exact ⟨1, _, wm', o, y, g1, fun D cI cL ad qo sz => xg_more_1 rfl (fun D cI ad sz => xf_moreS hlt hn e1 h1 D cI ad sz) D cI cL ad qo o sz, g3, fun z => absurd z (by decide)⟩
  · by_cases h2 : v2 < nI 0 ∨ nI 600 < v2
    · skip
      obtain ⟨x, wm', g1, ⟨y, rfl⟩, g3⟩ := xt_fail (l := l) xM65_ok (zo_moreX1 hR (Or.inr h2))
      exact ⟨1, _, wm', o, y, g1, fun D cI cL ad qo sz => xg_more_1 rfl (fun D cI ad sz => xf_moreN hlt hn e1 (Int32.not_lt.mp h1) h2 D cI ad sz) D cI cL ad qo o sz, g3, fun z => absurd z (by decide)⟩
    · obtain ⟨m, hm, rfl⟩ := xe_nat (by decide) (fun z => h2 (Or.inl z)) (fun z => h2 (Or.inr z))
      by_cases h4 : n + m ≤ 600
      · skip
        obtain ⟨x, wc', wm', g1, ⟨y, rfl⟩, g2, g3⟩ := xt_pass (l := l) xM111_ok xM65_ok (zo_more hR (Int32.not_lt.mp h1) h4)
        exact ⟨0, wc', wm', _, y, g1, fun D cI cL ad qo sz => xg_more rfl g2 D cI cL ad qo o sz, g3, fun _ => if_pos rfl⟩
      · skip
        obtain ⟨x, wm', g1, ⟨y, rfl⟩, g3⟩ := xt_fail (l := l) xM65_ok (zo_moreX2 hR (Int32.not_lt.mp h1) hm (by omega))
        exact ⟨2, _, wm', o, y, g1, fun D cI cL ad qo sz => xg_more_2 rfl (fun D cI ad sz => xf_moreR hlt hn e1 (Int32.not_lt.mp h1) hm (by omega) D cI ad sz) D cI cL ad qo o sz, g3, fun z => absurd z (by decide)⟩
theorem xt_line {l : Launch} (hlt : l.stackTraces = false) {z : Int32} {wc wm : ez_W} (h : zl_W z wc wm) (v0 : Int32) (v1 : Int32) (v2 : Int32) (v3 : Int32) (o : Nat → Int64) : ∃ (k : Int32) (wc' wm' : ez_W) (o' : Nat → Int64) (y : Int32), zl_W k wc' wm' ∧ (∀ (D : va_G) (cI cL : ClassId) (ad : Nat → Nat) (qo : Nat) (sz : Nat), xh_Met l yL_line wsH_line D cI cL [.ref (ad 0), .int v0, .int v1, .int v2, .int v3, .ref qo] (xX cI cL ad wc qo o) sz k (xX cI cL ad wc' qo o')) ∧ (∀ (D : va_G) (cI : ClassId) (ad : Nat → Nat) (sz : Nat), xz_MetP l xM66 D cI ad sz [.ref 0, .int v0, .int v1, .int v2, .int v3] wm (some (.int y)) wm') ∧ (k = 0 → o' (0 : Int32).toNatClampNeg = y.toInt64) := by
  obtain ⟨n, tg, r, q, u, b, A, Q, U, T, rfl, rfl, hR, hz⟩ := h
  have hn := hR.1
  have e1 := hR.2.2.1
  by_cases h1 : v3 < nI 1 ∨ nI 600 < v3
  · skip
    obtain ⟨x, wm', g1, ⟨y, rfl⟩, g3⟩ := xt_fail (l := l) xM66_ok (zo_lineX1 hR (Or.inr (Or.inr h1)))
    exact ⟨1, _, wm', o, y, g1, fun D cI cL ad qo sz => xg_line_1 rfl (fun D cI ad sz => xf_lineT hlt hn e1 h1 D cI ad sz) D cI cL ad qo o sz, g3, fun z => absurd z (by decide)⟩
  · obtain ⟨ti, hti, rfl⟩ := xe_nat (x := v3) (c := 600) (by decide) (fun z => h1 (Or.inl (Int32.lt_trans z (by decide)))) (fun z => h1 (Or.inr z))
    have ht1 : 1 ≤ ti := by
      by_cases z : 1 ≤ ti
      · exact z
      · exact absurd (Or.inl (nI_lt (by omega) (by decide))) h1
    by_cases h2 : v2 < nI 0 ∨ nI 600 < v2
    · skip
      obtain ⟨x, wm', g1, ⟨y, rfl⟩, g3⟩ := xt_fail (l := l) xM66_ok (zo_lineX1 hR (h2.elim Or.inl (fun z => Or.inr (Or.inl z))))
      exact ⟨1, _, wm', o, y, g1, fun D cI cL ad qo sz => xg_line_1 rfl (fun D cI ad sz => xf_lineN hlt hn e1 ht1 hti h2 D cI ad sz) D cI cL ad qo o sz, g3, fun z => absurd z (by decide)⟩
    · obtain ⟨m, hm, rfl⟩ := xe_nat (by decide) (fun z => h2 (Or.inl z)) (fun z => h2 (Or.inr z))
      by_cases h4 : n + m ≤ 600
      · skip
        obtain ⟨x, wc', wm', g1, ⟨y, rfl⟩, g2, g3⟩ := xt_pass (l := l) xM112_ok xM66_ok (zo_line hR ht1 hti h4)
        exact ⟨0, wc', wm', _, y, g1, fun D cI cL ad qo sz => xg_line rfl g2 D cI cL ad qo o sz, g3, fun _ => if_pos rfl⟩
      · skip
        obtain ⟨x, wm', g1, ⟨y, rfl⟩, g3⟩ := xt_fail (l := l) xM66_ok (zo_lineX2 hR ht1 hti hm (by omega))
        exact ⟨2, _, wm', o, y, g1, fun D cI cL ad qo sz => xg_line_2 rfl (fun D cI ad sz => xf_lineR hlt hn e1 ht1 hti hm (by omega) D cI ad sz) D cI cL ad qo o sz, g3, fun z => absurd z (by decide)⟩
theorem xt_exchange {l : Launch} (hlt : l.stackTraces = false) {z : Int32} {wc wm : ez_W} (h : zl_W z wc wm) (v0 : Int32) (v1 : Int32) (o : Nat → Int64) : ∃ (k : Int32) (wc' wm' : ez_W), zl_W k wc' wm' ∧ (∀ (D : va_G) (cI cL : ClassId) (ad : Nat → Nat) (qo : Nat) (sz : Nat), xh_Met l yL_exchange wsH_exchange D cI cL [.ref (ad 0), .int v0, .int v1] (xX cI cL ad wc qo o) sz k (xX cI cL ad wc' qo o)) ∧ (∀ (D : va_G) (cI : ClassId) (ad : Nat → Nat) (sz : Nat), xz_MetP l xM69 D cI ad sz [.ref 0, .int v0, .int v1] wm none wm') := by
  obtain ⟨n, tg, r, q, u, b, A, Q, U, T, rfl, rfl, hR, hz⟩ := h
  have hn := hR.1
  have e1 := hR.2.2.1
  by_cases h1 : v0 < nI 0 ∨ nI n ≤ v0
  · skip
    obtain ⟨x, wm', g1, g5, g3⟩ := xt_fail (l := l) xM69_ok (zo_exchX1 hR h1)
    obtain rfl : x = none := g5
    exact ⟨1, _, wm', g1, fun D cI cL ad qo sz => xg_exchange_1 rfl (fun D cI ad sz => xf_exch1 hlt hn e1 h1 D cI ad sz) D cI cL ad qo o sz, g3⟩
  · obtain ⟨i, hi, rfl⟩ : ∃ k, k < n ∧ v0 = nI k := by
        obtain ⟨k, hk, rfl⟩ := xe_nat (x := v0) (c := 600) (by decide) (fun z => h1 (Or.inl z)) (fun z => h1 (Or.inr (Int32.le_of_lt (Int32.lt_of_le_of_lt (nI_le hn (by decide)) z))))
        exact ⟨k, Nat.not_le.mp (fun z => h1 (Or.inr (nI_le z (by omega)))), rfl⟩
    by_cases h2 : v1 < nI 0 ∨ nI n ≤ v1
    · skip
      obtain ⟨x, wm', g1, g5, g3⟩ := xt_fail (l := l) xM69_ok (zo_exchX2 hR hi h2)
      obtain rfl : x = none := g5
      exact ⟨1, _, wm', g1, fun D cI cL ad qo sz => xg_exchange_1 rfl (fun D cI ad sz => xf_exch2 hlt hn e1 hi h2 D cI ad sz) D cI cL ad qo o sz, g3⟩
    · obtain ⟨j, hj, rfl⟩ : ∃ k, k < n ∧ v1 = nI k := by
          obtain ⟨k, hk, rfl⟩ := xe_nat (x := v1) (c := 600) (by decide) (fun z => h2 (Or.inl z)) (fun z => h2 (Or.inr (Int32.le_of_lt (Int32.lt_of_le_of_lt (nI_le hn (by decide)) z))))
          exact ⟨k, Nat.not_le.mp (fun z => h2 (Or.inr (nI_le z (by omega)))), rfl⟩
      obtain ⟨x, wc', wm', g1, g5, g2, g3⟩ := xt_pass (l := l) xM113_ok xM69_ok (zo_exch hR hi hj)
      obtain rfl : x = none := g5
      exact ⟨0, wc', wm', g1, fun D cI cL ad qo sz => xg_exchange rfl g2 D cI cL ad qo o sz, g3⟩
theorem xt_turn {l : Launch} (hlt : l.stackTraces = false) {z : Int32} {wc wm : ez_W} (h : zl_W z wc wm) (v0 : Int32) (v1 : Int32) (o : Nat → Int64) : ∃ (k : Int32) (wc' wm' : ez_W), zl_W k wc' wm' ∧ (∀ (D : va_G) (cI cL : ClassId) (ad : Nat → Nat) (qo : Nat) (sz : Nat), xh_Met l yL_turn wsH_turn D cI cL [.ref (ad 0), .int v0, .int v1] (xX cI cL ad wc qo o) sz k (xX cI cL ad wc' qo o)) ∧ (∀ (D : va_G) (cI : ClassId) (ad : Nat → Nat) (sz : Nat), xz_MetP l xM70 D cI ad sz [.ref 0, .int v0, .int v1] wm none wm') := by
  obtain ⟨n, tg, r, q, u, b, A, Q, U, T, rfl, rfl, hR, hz⟩ := h
  have hn := hR.1
  have e1 := hR.2.2.1
  by_cases h1 : v0 < nI 0 ∨ v1 < v0 ∨ nI n < v1
  · skip
    obtain ⟨x, wm', g1, g5, g3⟩ := xt_fail (l := l) xM70_ok (zo_turnX hR h1)
    obtain rfl : x = none := g5
    exact ⟨1, _, wm', g1, fun D cI cL ad qo sz => xg_turn_1 rfl (fun D cI ad sz => xf_turn hlt hn e1 h1 D cI ad sz) D cI cL ad qo o sz, g3⟩
  · have a0 : ¬ v0 < nI 0 := fun z => h1 (Or.inl z)
    have a1 : ¬ v1 < v0 := fun z => h1 (Or.inr (Or.inl z))
    have a2 : ¬ nI n < v1 := fun z => h1 (Or.inr (Or.inr z))
    obtain ⟨j, hj, rfl⟩ := xe_nat (x := v1) (c := n) (by omega) (fun z => a0 (Int32.lt_of_le_of_lt (Int32.not_lt.mp a1) z)) a2
    obtain ⟨i, hi, rfl⟩ := xe_nat (x := v0) (c := j) (by omega) a0 a1
    obtain ⟨x, wc', wm', g1, g5, g2, g3⟩ := xt_pass (l := l) xM114_ok xM70_ok (zo_turn hR hi hj)
    obtain rfl : x = none := g5
    exact ⟨0, wc', wm', g1, fun D cI cL ad qo sz => xg_turn rfl g2 D cI cL ad qo o sz, g3⟩
theorem xt_order {l : Launch} (hlt : l.stackTraces = false) {z : Int32} {wc wm : ez_W} (h : zl_W z wc wm) (v0 : Int32) (o : Nat → Int64) : ∃ (k : Int32) (wc' wm' : ez_W) (o' : Nat → Int64) (y : Int32), zl_W k wc' wm' ∧ (∀ (D : va_G) (cI cL : ClassId) (ad : Nat → Nat) (qo : Nat) (sz : Nat), xh_Met l yL_order wsH_order D cI cL [.ref (ad 0), .int v0, .ref qo] (xX cI cL ad wc qo o) sz k (xX cI cL ad wc' qo o')) ∧ (∀ (D : va_G) (cI : ClassId) (ad : Nat → Nat) (sz : Nat), xz_MetP l xM71 D cI ad sz [.ref 0, .int v0] wm (some (.int y)) wm') ∧ (k = 0 → o' (0 : Int32).toNatClampNeg = y.toInt64) := by
  obtain ⟨n, tg, r, q, u, b, A, Q, U, T, rfl, rfl, hR, hz⟩ := h
  have hn := hR.1
  have e1 := hR.2.2.1
  by_cases h1 : v0 < nI 0 ∨ nI 3 < v0
  · skip
    obtain ⟨x, wm', g1, ⟨y, rfl⟩, g3⟩ := xt_fail (l := l) xM71_ok (zo_orderX hR h1)
    exact ⟨1, _, wm', o, y, g1, fun D cI cL ad qo sz => xg_order_1 rfl (fun D cI ad sz => xf_order hlt hn e1 h1 D cI ad sz) D cI cL ad qo o sz, g3, fun z => absurd z (by decide)⟩
  · obtain ⟨c, hc, rfl⟩ := xe_nat (x := v0) (c := 3) (by decide) (fun z => h1 (Or.inl z)) (fun z => h1 (Or.inr z))
    have ho : ze_or (nI c) := by
      rcases (show c = 0 ∨ c = 1 ∨ c = 2 ∨ c = 3 by omega) with rfl | rfl | rfl | rfl <;> simp [ze_or] <;> decide
    obtain ⟨x, wc', wm', g1, ⟨y, rfl⟩, g2, g3⟩ := xt_pass (l := l) xM115_ok xM71_ok (zo_order hR ho)
    exact ⟨0, wc', wm', _, y, g1, fun D cI cL ad qo sz => xg_order rfl g2 D cI cL ad qo o sz, g3, fun _ => if_pos rfl⟩
theorem xt_sort {l : Launch} (hlt : l.stackTraces = false) {z : Int32} {wc wm : ez_W} (h : zl_W z wc wm) (v0 : Int32) (o : Nat → Int64) : ∃ (k : Int32) (wc' wm' : ez_W) (o' : Nat → Int64) (y : Int32), zl_W k wc' wm' ∧ (∀ (D : va_G) (cI cL : ClassId) (ad : Nat → Nat) (qo : Nat) (sz : Nat), xh_Met l yL_sort wsH_sort D cI cL [.ref (ad 0), .int v0, .ref qo] (xX cI cL ad wc qo o) sz k (xX cI cL ad wc' qo o')) ∧ (∀ (D : va_G) (cI : ClassId) (ad : Nat → Nat) (sz : Nat), xz_MetP l xM98 D cI ad sz [.ref 0, .int v0] wm (some (.int y)) wm') ∧ (k = 0 → o' (0 : Int32).toNatClampNeg = y.toInt64) := by
  obtain ⟨n, tg, r, q, u, b, A, Q, U, T, rfl, rfl, hR, hz⟩ := h
  have hn := hR.1
  have e1 := hR.2.2.1
  by_cases h1 : v0 < nI 0 ∨ nI 4 < v0
  · skip
    obtain ⟨x, wm', g1, ⟨y, rfl⟩, g3⟩ := xt_fail (l := l) xM98_ok (zo_sortX hR h1)
    exact ⟨1, _, wm', o, y, g1, fun D cI cL ad qo sz => xg_sort_1 rfl (fun D cI ad sz => xf_sort hlt hn e1 h1 D cI ad sz) D cI cL ad qo o sz, g3, fun z => absurd z (by decide)⟩
  · obtain ⟨c, hc, rfl⟩ := xe_nat (x := v0) (c := 4) (by decide) (fun z => h1 (Or.inl z)) (fun z => h1 (Or.inr z))
    obtain ⟨x, r', q', u', b1, b', wm', g1, g2, g3, g4, g5⟩ := zo_sort hR hc
    exact ⟨0, _, wm', _, x, g1, fun D cI cL ad qo sz => xg_sort rfl (fun D cI ad sz => xs_sort l hc g2 g3 g4 D cI ad sz) D cI cL ad qo o sz, fun D cI ad sz => xz_MetP.of (ez_is.met xM98_ok g5 l D cI ad sz), fun _ => if_pos rfl⟩
theorem xt_kill {l : Launch} (hlt : l.stackTraces = false) {z : Int32} {wc wm : ez_W} (h : zl_W z wc wm) (v0 : Int32) (v1 : Int32) (o : Nat → Int64) : ∃ (k : Int32) (wc' wm' : ez_W) (o' : Nat → Int64) (y : Int32), zl_W k wc' wm' ∧ (∀ (D : va_G) (cI cL : ClassId) (ad : Nat → Nat) (qo : Nat) (sz : Nat), xh_Met l yL_kill wsH_kill D cI cL [.ref (ad 0), .int v0, .int v1, .ref qo] (xX cI cL ad wc qo o) sz k (xX cI cL ad wc' qo o')) ∧ (∀ (D : va_G) (cI : ClassId) (ad : Nat → Nat) (sz : Nat), xz_MetP l xM99 D cI ad sz [.ref 0, .int v0, .int v1] wm (some (.int y)) wm') ∧ (k = 0 → o' (0 : Int32).toNatClampNeg = y.toInt64) := by
  obtain ⟨n, tg, r, q, u, b, A, Q, U, T, rfl, rfl, hR, hz⟩ := h
  have hn := hR.1
  have e1 := hR.2.2.1
  by_cases h1 : v0 < nI 0 ∨ nI 4 < v0
  · skip
    obtain ⟨x, wm', g1, ⟨y, rfl⟩, g3⟩ := xt_fail (l := l) xM99_ok (zo_killX hR (h1.elim Or.inl (fun z => Or.inr (Or.inl z))))
    exact ⟨1, _, wm', o, y, g1, fun D cI cL ad qo sz => xg_kill_1 rfl (fun D cI ad sz => xf_kill1 hlt hn e1 h1 D cI ad sz) D cI cL ad qo o sz, g3, fun z => absurd z (by decide)⟩
  · obtain ⟨c, hc, rfl⟩ := xe_nat (x := v0) (c := 4) (by decide) (fun z => h1 (Or.inl z)) (fun z => h1 (Or.inr z))
    by_cases h2 : v1 < nI 0 ∨ nI 600 < v1
    · skip
      obtain ⟨x, wm', g1, ⟨y, rfl⟩, g3⟩ := xt_fail (l := l) xM99_ok (zo_killX hR (Or.inr (Or.inr h2)))
      exact ⟨1, _, wm', o, y, g1, fun D cI cL ad qo sz => xg_kill_1 rfl (fun D cI ad sz => xf_kill2 hlt hn e1 hc h2 D cI ad sz) D cI cL ad qo o sz, g3, fun z => absurd z (by decide)⟩
    · obtain ⟨m, hm, rfl⟩ := xe_nat (x := v1) (c := 600) (by decide) (fun z => h2 (Or.inl z)) (fun z => h2 (Or.inr z))
      obtain ⟨x, r0, r', r2, q', u', b1, b', wm', g1, g0, g2, g3, g4, g5, g6⟩ := zo_kill hR hc hm
      exact ⟨0, _, wm', _, x, g1, fun D cI cL ad qo sz => xg_kill rfl (fun D cI ad sz => xs_kill l hc hm g0 g2 g3 g4 g5 D cI ad sz) D cI cL ad qo o sz, fun D cI ad sz => xz_MetP.of (ez_is.met xM99_ok g6 l D cI ad sz), fun _ => if_pos rfl⟩
theorem xt_get {l : Launch} (hlt : l.stackTraces = false) {z : Int32} {wc wm : ez_W} (h : zl_W z wc wm) (v0 : Int32) (o : Nat → Int64) : ∃ (k : Int32) (wc' wm' : ez_W) (o' : Nat → Int64) (y : Int32), zl_W k wc' wm' ∧ (∀ (D : va_G) (cI cL : ClassId) (ad : Nat → Nat) (qo : Nat) (sz : Nat), xh_Met l yL_get wsH_get D cI cL [.ref (ad 0), .int v0, .ref qo] (xX cI cL ad wc qo o) sz k (xX cI cL ad wc' qo o')) ∧ (∀ (D : va_G) (cI : ClassId) (ad : Nat → Nat) (sz : Nat), xz_MetP l xM100 D cI ad sz [.ref 0, .int v0] wm (some (.int y)) wm') ∧ (k = 0 → o' (0 : Int32).toNatClampNeg = y.toInt64) := by
  obtain ⟨n, tg, r, q, u, b, A, Q, U, T, rfl, rfl, hR, hz⟩ := h
  have hn := hR.1
  have e1 := hR.2.2.1
  by_cases h1 : v0 < nI 0 ∨ nI n ≤ v0
  · skip
    obtain ⟨x, wm', g1, ⟨y, rfl⟩, g3⟩ := xt_fail (l := l) xM100_ok (zo_getX hR h1)
    exact ⟨1, _, wm', o, y, g1, fun D cI cL ad qo sz => xg_get_1 rfl (fun D cI ad sz => xf_get hlt hn e1 h1 D cI ad sz) D cI cL ad qo o sz, g3, fun z => absurd z (by decide)⟩
  · obtain ⟨i, hi, rfl⟩ : ∃ k, k < n ∧ v0 = nI k := by
        obtain ⟨k, hk, rfl⟩ := xe_nat (x := v0) (c := 600) (by decide) (fun z => h1 (Or.inl z)) (fun z => h1 (Or.inr (Int32.le_of_lt (Int32.lt_of_le_of_lt (nI_le hn (by decide)) z))))
        exact ⟨k, Nat.not_le.mp (fun z => h1 (Or.inr (nI_le z (by omega)))), rfl⟩
    obtain ⟨x, wc', wm', g1, ⟨y, rfl⟩, g2, g3⟩ := xt_pass (l := l) xM116_ok xM100_ok (zo_get hR hi)
    exact ⟨0, wc', wm', _, y, g1, fun D cI cL ad qo sz => xg_get rfl g2 D cI cL ad qo o sz, g3, fun _ => if_pos rfl⟩
theorem xt_tag {l : Launch} (hlt : l.stackTraces = false) {z : Int32} {wc wm : ez_W} (h : zl_W z wc wm) (v0 : Int32) (o : Nat → Int64) : ∃ (k : Int32) (wc' wm' : ez_W) (o' : Nat → Int64) (y : Int32), zl_W k wc' wm' ∧ (∀ (D : va_G) (cI cL : ClassId) (ad : Nat → Nat) (qo : Nat) (sz : Nat), xh_Met l yL_tag wsH_tag D cI cL [.ref (ad 0), .int v0, .ref qo] (xX cI cL ad wc qo o) sz k (xX cI cL ad wc' qo o')) ∧ (∀ (D : va_G) (cI : ClassId) (ad : Nat → Nat) (sz : Nat), xz_MetP l xM101 D cI ad sz [.ref 0, .int v0] wm (some (.int y)) wm') ∧ (k = 0 → o' (0 : Int32).toNatClampNeg = y.toInt64) := by
  obtain ⟨n, tg, r, q, u, b, A, Q, U, T, rfl, rfl, hR, hz⟩ := h
  have hn := hR.1
  have e1 := hR.2.2.1
  by_cases h1 : v0 < nI 0 ∨ nI n ≤ v0
  · skip
    obtain ⟨x, wm', g1, ⟨y, rfl⟩, g3⟩ := xt_fail (l := l) xM101_ok (zo_tagX hR h1)
    exact ⟨1, _, wm', o, y, g1, fun D cI cL ad qo sz => xg_tag_1 rfl (fun D cI ad sz => xf_tag hlt hn e1 h1 D cI ad sz) D cI cL ad qo o sz, g3, fun z => absurd z (by decide)⟩
  · obtain ⟨i, hi, rfl⟩ : ∃ k, k < n ∧ v0 = nI k := by
        obtain ⟨k, hk, rfl⟩ := xe_nat (x := v0) (c := 600) (by decide) (fun z => h1 (Or.inl z)) (fun z => h1 (Or.inr (Int32.le_of_lt (Int32.lt_of_le_of_lt (nI_le hn (by decide)) z))))
        exact ⟨k, Nat.not_le.mp (fun z => h1 (Or.inr (nI_le z (by omega)))), rfl⟩
    obtain ⟨x, wc', wm', g1, ⟨y, rfl⟩, g2, g3⟩ := xt_pass (l := l) xM117_ok xM101_ok (zo_tag hR hi)
    exact ⟨0, wc', wm', _, y, g1, fun D cI cL ad qo sz => xg_tag rfl g2 D cI cL ad qo o sz, g3, fun _ => if_pos rfl⟩
theorem xt_is {l : Launch} (hlt : l.stackTraces = false) {z : Int32} {wc wm : ez_W} (h : zl_W z wc wm) (v0 : Int32) (o : Nat → Int64) : ∃ (k : Int32) (wc' wm' : ez_W) (o' : Nat → Int64) (y : Int32), zl_W k wc' wm' ∧ (∀ (D : va_G) (cI cL : ClassId) (ad : Nat → Nat) (qo : Nat) (sz : Nat), xh_Met l yL_is wsH_is D cI cL [.ref (ad 0), .int v0, .ref qo] (xX cI cL ad wc qo o) sz k (xX cI cL ad wc' qo o')) ∧ (∀ (D : va_G) (cI : ClassId) (ad : Nat → Nat) (sz : Nat), xz_MetP l xM102 D cI ad sz [.ref 0, .int v0] wm (some (.int y)) wm') ∧ (k = 0 → o' (0 : Int32).toNatClampNeg = (if y = 0 then 0 else 1)) := by
  obtain ⟨n, tg, r, q, u, b, A, Q, U, T, rfl, rfl, hR, hz⟩ := h
  have hn := hR.1
  have e1 := hR.2.2.1
  by_cases h1 : v0 < nI 0 ∨ nI 2 < v0
  · skip
    obtain ⟨x, wm', g1, ⟨y, rfl⟩, g3⟩ := xt_fail (l := l) xM102_ok (zo_isX hR h1)
    exact ⟨1, _, wm', o, y, g1, fun D cI cL ad qo sz => xg_is_1 rfl (fun D cI ad sz => xf_is hlt hn e1 h1 D cI ad sz) D cI cL ad qo o sz, g3, fun z => absurd z (by decide)⟩
  · obtain ⟨c, hc, rfl⟩ := xe_nat (x := v0) (c := 2) (by decide) (fun z => h1 (Or.inl z)) (fun z => h1 (Or.inr z))
    obtain ⟨x, wc', wm', g1, ⟨y, rfl⟩, g2, g3⟩ := xt_pass (l := l) xM118_ok xM102_ok (zo_is hR hc)
    exact ⟨0, wc', wm', _, y, g1, fun D cI cL ad qo sz => xg_is rfl g2 D cI cL ad qo o sz, g3, fun _ => if_pos rfl⟩
theorem xt_count {l : Launch} (hlt : l.stackTraces = false) {z : Int32} {wc wm : ez_W} (h : zl_W z wc wm) (v0 : Int32) (o : Nat → Int64) : ∃ (k : Int32) (wc' wm' : ez_W) (o' : Nat → Int64) (y : Int64), zl_W k wc' wm' ∧ (∀ (D : va_G) (cI cL : ClassId) (ad : Nat → Nat) (qo : Nat) (sz : Nat), xh_Met l yL_count wsH_count D cI cL [.ref (ad 0), .int v0, .ref qo] (xX cI cL ad wc qo o) sz k (xX cI cL ad wc' qo o')) ∧ (∀ (D : va_G) (cI : ClassId) (ad : Nat → Nat) (sz : Nat), xz_MetP l xM103 D cI ad sz [.ref 0, .int v0] wm (some (.long y)) wm') ∧ (k = 0 → o' (0 : Int32).toNatClampNeg = y) := by
  obtain ⟨n, tg, r, q, u, b, A, Q, U, T, rfl, rfl, hR, hz⟩ := h
  have hn := hR.1
  have e1 := hR.2.2.1
  by_cases h1 : v0 < nI 0 ∨ nI 8 < v0
  · skip
    obtain ⟨x, wm', g1, ⟨y, rfl⟩, g3⟩ := xt_fail (l := l) xM103_ok (zo_countX hR h1)
    exact ⟨1, _, wm', o, y, g1, fun D cI cL ad qo sz => xg_count_1 rfl (fun D cI ad sz => xf_count hlt hn e1 h1 D cI ad sz) D cI cL ad qo o sz, g3, fun z => absurd z (by decide)⟩
  · obtain ⟨c, hc, rfl⟩ := xe_nat (x := v0) (c := 8) (by decide) (fun z => h1 (Or.inl z)) (fun z => h1 (Or.inr z))
    obtain ⟨x, wc', wm', g1, ⟨y, rfl⟩, g2, g3⟩ := xt_pass (l := l) xM119_ok xM103_ok (zo_count hR hc)
    exact ⟨0, wc', wm', _, y, g1, fun D cI cL ad qo sz => xg_count rfl g2 D cI cL ad qo o sz, g3, fun _ => if_pos rfl⟩
theorem xt_clear {l : Launch} {z : Int32} {wc wm : ez_W} (h : zl_W z wc wm) : ∃ (y : Int32) (wc' wm' : ez_W), zl_W 0 wc' wm' ∧ (∀ (D : va_G) (cI : ClassId) (ad : Nat → Nat) (sz : Nat), xz_MetP l xM58 D cI ad sz [.ref 0] wc (some (.int y)) wc') ∧ (∀ (D : va_G) (cI : ClassId) (ad : Nat → Nat) (sz : Nat), xz_MetP l xM104 D cI ad sz [.ref 0] wm (some (.int y)) wm') := by
  obtain ⟨n, tg, r, q, u, b, A, Q, U, T, rfl, rfl, hR, hz⟩ := h
  obtain ⟨x, wc', wm', h1, ⟨y, rfl⟩, h2, h3⟩ := xt_pass (l := l) xM58_ok xM104_ok (zo_clear hR)
  exact ⟨y, wc', wm', h1, h2, h3⟩
