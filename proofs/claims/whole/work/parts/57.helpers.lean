/-! ===== the law's helpers: each passes, or catches ===== -/
theorem xo_at {a : va_W} {cL : ClassId} {qo : Nat} {o : Nat → Int64} : ([] ++ (a ++ [xo cL qo o]))[a.length + 0]? = some (qo, .inl (cL, 1, .inr (.inl o))) := xj_r (a := a) (k := 0) rfl
theorem xo_in : vp_in 0 1 := by
  unfold vp_in
  decide
theorem xo_set {a : va_W} {x y : Nat × va_E} : ([] ++ (a ++ [x])).set (a.length + 0) y = a ++ [y] := by simp
theorem dL_put_0 : decode cL_put 0 = .ok (.aload_n 2, 1) := by decide +kernel
theorem dL_put_1 : decode cL_put 1 = .ok (.iconst 0, 1) := by decide +kernel
theorem dL_put_2 : decode cL_put 2 = .ok (.aload_n 0, 1) := by decide +kernel
theorem dL_put_3 : decode cL_put 3 = .ok (.iload_n 1, 1) := by decide +kernel
theorem dL_put_4 : decode cL_put 4 = .ok (.invokevirtual 7, 3) := by decide +kernel
theorem dL_put_7 : decode cL_put 7 = .ok (.i2l, 1) := by decide +kernel
theorem dL_put_8 : decode cL_put 8 = .ok (.lastore, 1) := by decide +kernel
theorem dL_put_9 : decode cL_put 9 = .ok (.goto 6, 3) := by decide +kernel
theorem dL_put_12 : decode cL_put 12 = .ok (.astore_n 3, 1) := by decide +kernel
theorem dL_put_13 : decode cL_put 13 = .ok (.iconst 1, 1) := by decide +kernel
theorem dL_put_14 : decode cL_put 14 = .ok (.ireturn, 1) := by decide +kernel
theorem dL_put_15 : decode cL_put 15 = .ok (.iconst 0, 1) := by decide +kernel
theorem dL_put_16 : decode cL_put 16 = .ok (.ireturn, 1) := by decide +kernel
abbrev wsH_put : List Jvm.Cond := .codeWith yL_put cL_put 4 (some .int) [(0, 9, 12, 13)] :: ez_G
theorem xi_put : xh_in 7 xM110 := ⟨by decide +kernel, by decide +kernel, by decide +kernel⟩
theorem xk_put_13 : ez_in (.classLink RL 13 "java/lang/UnsupportedOperationException") = true := by decide +kernel
theorem xg_put {l : Launch} {w w1 : ez_W} {fs : List Value} {v0 : Int32} {x : Int32} (hw : w[0]? = some (.inr (6, fs))) (hM : ∀ (D : va_G) (cI : ClassId) (ad : Nat → Nat) (sz : Nat), xz_MetP l xM110 D cI ad sz [.ref 0, .int v0] w (some (.int x)) w1) (D : va_G) (cI cL : ClassId) (ad : Nat → Nat) (qo : Nat) (o : Nat → Int64) (sz : Nat) : xh_Met l yL_put wsH_put D cI cL [.ref (ad 0), .int v0, .ref qo] (xX cI cL ad w qo o) sz 0 (xX cI cL ad w1 qo (vp_updL o (0 : Int32).toNatClampNeg x.toInt64)) := by
  refine xh_of rfl (Nat.le_of_ble_eq_true rfl) ?_
  intro p e s m below meth c ls F hP hD hZ hl
  obtain ⟨hx, hb, hml, hown, hG, hr, hlk, htab, hK⟩ := F
  have hK0 : va_K D vwCl [(cI, .int)] s := hK.sub [0] rfl
  have hA0 : ∀ q, s.heap.size ≤ q → va_A (xX cI cL ad w qo o) s.heap.size q := fun q h => Or.inr h
  refine lv_aload_n hx hb dL_put_0 rfl (lv_at hl 2 rfl) ?_
  refine lv_iconst hx hb dL_put_1 (v := 0) rfl ?_
  refine lv_aload_n hx hb dL_put_2 rfl (lv_at hl 0 rfl) ?_
  refine lv_iload_n hx hb dL_put_3 rfl (lv_at hl 1 rfl) ?_
  refine xh_callP (Z1 := []) (Z2 := [xo cL qo o]) (ad := ad) (w := w) (Bs := [.int v0]) (rest := [.int 0, .ref qo]) hx hb hml hown hG hK0 xM110_ok xi_put (fun sz => hM D cI ad sz) hw rfl ⟨by decide, by decide⟩ hl.1 (Nat.le_of_ble_eq_true rfl) dL_put_4 (Nat.zero_le _) (Nat.zero_le _) hZ va_S.rf hA0 hP hD rfl (fun H1 locs1 hP1 hD1 hS1 => ?_)
  refine lv_i2l hx hb dL_put_7 (v := x.toInt64) rfl ?_
  refine va_last hx hb hK hP1 hD1 hS1 ((ez_z cI ad w1).length + 0) 1 xo_at rfl (i := 0) xo_in dL_put_8 (fun H2 locs2 hP2 hD2 hS2 => ?_)
  rw [xo_set] at hP2 hD2
  refine lv_goto hx hb dL_put_9 (tgt := 15) rfl ?_
  refine lv_iconst hx hb dL_put_15 (v := 0) rfl ?_
  refine W.widen (k := 1) (n := 6) (by decide) (by decide) ?_
  exact W.iret (v := 0) hx hb hr (fun t ht hW => ⟨⟨rfl, by rw [ht]; exact hP2, va_K.moved hW.alike hK, hD2⟩, hS2.F ht⟩) (fun q hq => hS2.2.2 q hq) dL_put_16 hlk
theorem xg_put_1 {l : Launch} {w : ez_W} {fs : List Value} {v0 : Int32} (hw : w[0]? = some (.inr (6, fs))) (hM : ∀ (D : va_G) (cI : ClassId) (ad : Nat → Nat) (sz : Nat), xz_Met l xM110 D cI ad sz [.ref 0, .int v0] w "java/lang/UnsupportedOperationException") (D : va_G) (cI cL : ClassId) (ad : Nat → Nat) (qo : Nat) (o : Nat → Int64) (sz : Nat) : xh_Met l yL_put wsH_put D cI cL [.ref (ad 0), .int v0, .ref qo] (xX cI cL ad w qo o) sz 1 (xX cI cL ad w qo o) := by
  refine xh_of rfl (Nat.le_of_ble_eq_true rfl) ?_
  intro p e s m below meth c ls F hP hD hZ hl
  obtain ⟨hx, hb, hml, hown, hG, hr, hlk, htab, hK⟩ := F
  have hK0 : va_K D vwCl [(cI, .int)] s := hK.sub [0] rfl
  have hA0 : ∀ q, s.heap.size ≤ q → va_A (xX cI cL ad w qo o) s.heap.size q := fun q h => Or.inr h
  refine lv_aload_n hx hb dL_put_0 rfl (lv_at hl 2 rfl) ?_
  refine lv_iconst hx hb dL_put_1 (v := 0) rfl ?_
  refine lv_aload_n hx hb dL_put_2 rfl (lv_at hl 0 rfl) ?_
  refine lv_iload_n hx hb dL_put_3 rfl (lv_at hl 1 rfl) ?_
  refine xh_callX (Z1 := []) (Z2 := [xo cL qo o]) (ad := ad) (w := w) (Bs := [.int v0]) (rest := [.int 0, .ref qo]) hx hb hml hown hG hK0 xM110_ok xi_put (fun sz => hM D cI ad sz) hw rfl ⟨by decide, by decide⟩ hl.1 (Nat.le_of_ble_eq_true rfl) dL_put_4 (by decide) (by decide) hZ va_S.rf hA0 hP hD rfl (fun q ce H1 locs1 z1 z2 z3 hP1 hD1 hS1 => ?_)
  refine vx_catch (name := "java/lang/UnsupportedOperationException") hown [] ⟨0, 9, 12, 13⟩ [] htab (fun z hz => nomatch hz) (by decide) (by decide) (hG _ (ez_in_G xk_put_13)) (hZ.2.2.2.1 "java/lang/UnsupportedOperationException" (by simp [xz_exc])) z1 z2 z3 ?_
  refine lv_astore_n hx hb dL_put_12 rfl hl (by decide) rfl (fun ls1 hl1 => ?_)
  refine lv_iconst hx hb dL_put_13 (v := 1) rfl ?_
  exact W.iret (v := 1) hx hb hr (fun t ht hW => ⟨⟨rfl, by rw [ht]; exact hP1, va_K.moved hW.alike hK, hD1⟩, hS1.F ht⟩) (fun q hq => hS1.2.2 q hq) dL_put_14 hlk
theorem dL_more_0 : decode cL_more 0 = .ok (.aload 5, 2) := by decide +kernel
theorem dL_more_2 : decode cL_more 2 = .ok (.iconst 0, 1) := by decide +kernel
theorem dL_more_3 : decode cL_more 3 = .ok (.aload_n 0, 1) := by decide +kernel
theorem dL_more_4 : decode cL_more 4 = .ok (.lload_n 1, 1) := by decide +kernel
theorem dL_more_5 : decode cL_more 5 = .ok (.iload_n 3, 1) := by decide +kernel
theorem dL_more_6 : decode cL_more 6 = .ok (.iload 4, 2) := by decide +kernel
theorem dL_more_8 : decode cL_more 8 = .ok (.invokevirtual 15, 3) := by decide +kernel
theorem dL_more_11 : decode cL_more 11 = .ok (.i2l, 1) := by decide +kernel
theorem dL_more_12 : decode cL_more 12 = .ok (.lastore, 1) := by decide +kernel
theorem dL_more_13 : decode cL_more 13 = .ok (.goto 11, 3) := by decide +kernel
theorem dL_more_16 : decode cL_more 16 = .ok (.astore 6, 2) := by decide +kernel
theorem dL_more_18 : decode cL_more 18 = .ok (.iconst 1, 1) := by decide +kernel
theorem dL_more_19 : decode cL_more 19 = .ok (.ireturn, 1) := by decide +kernel
theorem dL_more_20 : decode cL_more 20 = .ok (.astore 6, 2) := by decide +kernel
theorem dL_more_22 : decode cL_more 22 = .ok (.iconst 2, 1) := by decide +kernel
theorem dL_more_23 : decode cL_more 23 = .ok (.ireturn, 1) := by decide +kernel
theorem dL_more_24 : decode cL_more 24 = .ok (.iconst 0, 1) := by decide +kernel
theorem dL_more_25 : decode cL_more 25 = .ok (.ireturn, 1) := by decide +kernel
abbrev wsH_more : List Jvm.Cond := .codeWith yL_more cL_more 7 (some .int) [(0, 13, 16, 19), (0, 13, 20, 13)] :: ez_G
theorem xi_more : xh_in 15 xM111 := ⟨by decide +kernel, by decide +kernel, by decide +kernel⟩
theorem xk_more_19 : ez_in (.classLink RL 19 "java/lang/IllegalArgumentException") = true := by decide +kernel
theorem xk_more_13 : ez_in (.classLink RL 13 "java/lang/UnsupportedOperationException") = true := by decide +kernel
theorem xg_more {l : Launch} {w w1 : ez_W} {fs : List Value} {v0 : Int64} {v1 : Int32} {v2 : Int32} {x : Int32} (hw : w[0]? = some (.inr (6, fs))) (hM : ∀ (D : va_G) (cI : ClassId) (ad : Nat → Nat) (sz : Nat), xz_MetP l xM111 D cI ad sz [.ref 0, .long v0, .int v1, .int v2] w (some (.int x)) w1) (D : va_G) (cI cL : ClassId) (ad : Nat → Nat) (qo : Nat) (o : Nat → Int64) (sz : Nat) : xh_Met l yL_more wsH_more D cI cL [.ref (ad 0), .long v0, .int v1, .int v2, .ref qo] (xX cI cL ad w qo o) sz 0 (xX cI cL ad w1 qo (vp_updL o (0 : Int32).toNatClampNeg x.toInt64)) := by
  refine xh_of rfl (Nat.le_of_ble_eq_true rfl) ?_
  intro p e s m below meth c ls F hP hD hZ hl
  obtain ⟨hx, hb, hml, hown, hG, hr, hlk, htab, hK⟩ := F
  have hK0 : va_K D vwCl [(cI, .int)] s := hK.sub [0] rfl
  have hA0 : ∀ q, s.heap.size ≤ q → va_A (xX cI cL ad w qo o) s.heap.size q := fun q h => Or.inr h
  refine lv_aload hx hb dL_more_0 (lv_at hl 4 rfl) ?_
  refine lv_iconst hx hb dL_more_2 (v := 0) rfl ?_
  refine lv_aload_n hx hb dL_more_3 rfl (lv_at hl 0 rfl) ?_
  refine lv_lload_n hx hb dL_more_4 rfl (lv_at hl 1 rfl) ?_
  refine lv_iload_n hx hb dL_more_5 rfl (lv_at hl 2 rfl) ?_
  refine lv_iload hx hb dL_more_6 (lv_at hl 3 rfl) ?_
  refine xh_callP (Z1 := []) (Z2 := [xo cL qo o]) (ad := ad) (w := w) (Bs := [.long v0, .int v1, .int v2]) (rest := [.int 0, .ref qo]) hx hb hml hown hG hK0 xM111_ok xi_more (fun sz => hM D cI ad sz) hw rfl ⟨by decide, by decide⟩ hl.1 (Nat.le_of_ble_eq_true rfl) dL_more_8 (Nat.zero_le _) (Nat.zero_le _) hZ va_S.rf hA0 hP hD rfl (fun H1 locs1 hP1 hD1 hS1 => ?_)
  refine lv_i2l hx hb dL_more_11 (v := x.toInt64) rfl ?_
  refine va_last hx hb hK hP1 hD1 hS1 ((ez_z cI ad w1).length + 0) 1 xo_at rfl (i := 0) xo_in dL_more_12 (fun H2 locs2 hP2 hD2 hS2 => ?_)
  rw [xo_set] at hP2 hD2
  refine lv_goto hx hb dL_more_13 (tgt := 24) rfl ?_
  refine lv_iconst hx hb dL_more_24 (v := 0) rfl ?_
  refine W.widen (k := 1) (n := 6) (by decide) (by decide) ?_
  exact W.iret (v := 0) hx hb hr (fun t ht hW => ⟨⟨rfl, by rw [ht]; exact hP2, va_K.moved hW.alike hK, hD2⟩, hS2.F ht⟩) (fun q hq => hS2.2.2 q hq) dL_more_25 hlk
theorem xg_more_1 {l : Launch} {w : ez_W} {fs : List Value} {v0 : Int64} {v1 : Int32} {v2 : Int32} (hw : w[0]? = some (.inr (6, fs))) (hM : ∀ (D : va_G) (cI : ClassId) (ad : Nat → Nat) (sz : Nat), xz_Met l xM111 D cI ad sz [.ref 0, .long v0, .int v1, .int v2] w "java/lang/IllegalArgumentException") (D : va_G) (cI cL : ClassId) (ad : Nat → Nat) (qo : Nat) (o : Nat → Int64) (sz : Nat) : xh_Met l yL_more wsH_more D cI cL [.ref (ad 0), .long v0, .int v1, .int v2, .ref qo] (xX cI cL ad w qo o) sz 1 (xX cI cL ad w qo o) := by
  refine xh_of rfl (Nat.le_of_ble_eq_true rfl) ?_
  intro p e s m below meth c ls F hP hD hZ hl
  obtain ⟨hx, hb, hml, hown, hG, hr, hlk, htab, hK⟩ := F
  have hK0 : va_K D vwCl [(cI, .int)] s := hK.sub [0] rfl
  have hA0 : ∀ q, s.heap.size ≤ q → va_A (xX cI cL ad w qo o) s.heap.size q := fun q h => Or.inr h
  refine lv_aload hx hb dL_more_0 (lv_at hl 4 rfl) ?_
  refine lv_iconst hx hb dL_more_2 (v := 0) rfl ?_
  refine lv_aload_n hx hb dL_more_3 rfl (lv_at hl 0 rfl) ?_
  refine lv_lload_n hx hb dL_more_4 rfl (lv_at hl 1 rfl) ?_
  refine lv_iload_n hx hb dL_more_5 rfl (lv_at hl 2 rfl) ?_
  refine lv_iload hx hb dL_more_6 (lv_at hl 3 rfl) ?_
  refine xh_callX (Z1 := []) (Z2 := [xo cL qo o]) (ad := ad) (w := w) (Bs := [.long v0, .int v1, .int v2]) (rest := [.int 0, .ref qo]) hx hb hml hown hG hK0 xM111_ok xi_more (fun sz => hM D cI ad sz) hw rfl ⟨by decide, by decide⟩ hl.1 (Nat.le_of_ble_eq_true rfl) dL_more_8 (by decide) (by decide) hZ va_S.rf hA0 hP hD rfl (fun q ce H1 locs1 z1 z2 z3 hP1 hD1 hS1 => ?_)
  refine vx_catch (name := "java/lang/IllegalArgumentException") hown [] ⟨0, 13, 16, 19⟩ [⟨0, 13, 20, 13⟩] htab (fun z hz => nomatch hz) (by decide) (by decide) (hG _ (ez_in_G xk_more_19)) (hZ.2.2.2.1 "java/lang/IllegalArgumentException" (by simp [xz_exc])) z1 z2 z3 ?_
  refine lv_astore hx hb dL_more_16 hl (by decide) rfl (fun ls1 hl1 => ?_)
  refine lv_iconst hx hb dL_more_18 (v := 1) rfl ?_
  exact W.iret (v := 1) hx hb hr (fun t ht hW => ⟨⟨rfl, by rw [ht]; exact hP1, va_K.moved hW.alike hK, hD1⟩, hS1.F ht⟩) (fun q hq => hS1.2.2 q hq) dL_more_19 hlk
theorem xg_more_2 {l : Launch} {w : ez_W} {fs : List Value} {v0 : Int64} {v1 : Int32} {v2 : Int32} (hw : w[0]? = some (.inr (6, fs))) (hM : ∀ (D : va_G) (cI : ClassId) (ad : Nat → Nat) (sz : Nat), xz_Met l xM111 D cI ad sz [.ref 0, .long v0, .int v1, .int v2] w "java/lang/UnsupportedOperationException") (D : va_G) (cI cL : ClassId) (ad : Nat → Nat) (qo : Nat) (o : Nat → Int64) (sz : Nat) : xh_Met l yL_more wsH_more D cI cL [.ref (ad 0), .long v0, .int v1, .int v2, .ref qo] (xX cI cL ad w qo o) sz 2 (xX cI cL ad w qo o) := by
  refine xh_of rfl (Nat.le_of_ble_eq_true rfl) ?_
  intro p e s m below meth c ls F hP hD hZ hl
  obtain ⟨hx, hb, hml, hown, hG, hr, hlk, htab, hK⟩ := F
  have hK0 : va_K D vwCl [(cI, .int)] s := hK.sub [0] rfl
  have hA0 : ∀ q, s.heap.size ≤ q → va_A (xX cI cL ad w qo o) s.heap.size q := fun q h => Or.inr h
  refine lv_aload hx hb dL_more_0 (lv_at hl 4 rfl) ?_
  refine lv_iconst hx hb dL_more_2 (v := 0) rfl ?_
  refine lv_aload_n hx hb dL_more_3 rfl (lv_at hl 0 rfl) ?_
  refine lv_lload_n hx hb dL_more_4 rfl (lv_at hl 1 rfl) ?_
  refine lv_iload_n hx hb dL_more_5 rfl (lv_at hl 2 rfl) ?_
  refine lv_iload hx hb dL_more_6 (lv_at hl 3 rfl) ?_
  refine xh_callX (Z1 := []) (Z2 := [xo cL qo o]) (ad := ad) (w := w) (Bs := [.long v0, .int v1, .int v2]) (rest := [.int 0, .ref qo]) hx hb hml hown hG hK0 xM111_ok xi_more (fun sz => hM D cI ad sz) hw rfl ⟨by decide, by decide⟩ hl.1 (Nat.le_of_ble_eq_true rfl) dL_more_8 (by decide) (by decide) hZ va_S.rf hA0 hP hD rfl (fun q ce H1 locs1 z1 z2 z3 hP1 hD1 hS1 => ?_)
  refine vx_catch (name := "java/lang/UnsupportedOperationException") hown [⟨0, 13, 16, 19⟩] ⟨0, 13, 20, 13⟩ [] htab (fun z hz => by rw [List.mem_singleton.mp hz]; exact Or.inr ⟨by decide, "java/lang/IllegalArgumentException", hG _ (ez_in_G xk_more_19), hZ.2.2.2.2.2.1⟩) (by decide) (by decide) (hG _ (ez_in_G xk_more_13)) (hZ.2.2.2.1 "java/lang/UnsupportedOperationException" (by simp [xz_exc])) z1 z2 z3 ?_
  refine lv_astore hx hb dL_more_20 hl (by decide) rfl (fun ls1 hl1 => ?_)
  refine lv_iconst hx hb dL_more_22 (v := 2) rfl ?_
  exact W.iret (v := 2) hx hb hr (fun t ht hW => ⟨⟨rfl, by rw [ht]; exact hP1, va_K.moved hW.alike hK, hD1⟩, hS1.F ht⟩) (fun q hq => hS1.2.2 q hq) dL_more_23 hlk
theorem dL_line_0 : decode cL_line 0 = .ok (.aload 5, 2) := by decide +kernel
theorem dL_line_2 : decode cL_line 2 = .ok (.iconst 0, 1) := by decide +kernel
theorem dL_line_3 : decode cL_line 3 = .ok (.aload_n 0, 1) := by decide +kernel
theorem dL_line_4 : decode cL_line 4 = .ok (.iload_n 1, 1) := by decide +kernel
theorem dL_line_5 : decode cL_line 5 = .ok (.iload_n 2, 1) := by decide +kernel
theorem dL_line_6 : decode cL_line 6 = .ok (.iload_n 3, 1) := by decide +kernel
theorem dL_line_7 : decode cL_line 7 = .ok (.iload 4, 2) := by decide +kernel
theorem dL_line_9 : decode cL_line 9 = .ok (.invokevirtual 21, 3) := by decide +kernel
theorem dL_line_12 : decode cL_line 12 = .ok (.i2l, 1) := by decide +kernel
theorem dL_line_13 : decode cL_line 13 = .ok (.lastore, 1) := by decide +kernel
theorem dL_line_14 : decode cL_line 14 = .ok (.goto 11, 3) := by decide +kernel
theorem dL_line_17 : decode cL_line 17 = .ok (.astore 6, 2) := by decide +kernel
theorem dL_line_19 : decode cL_line 19 = .ok (.iconst 1, 1) := by decide +kernel
theorem dL_line_20 : decode cL_line 20 = .ok (.ireturn, 1) := by decide +kernel
theorem dL_line_21 : decode cL_line 21 = .ok (.astore 6, 2) := by decide +kernel
theorem dL_line_23 : decode cL_line 23 = .ok (.iconst 2, 1) := by decide +kernel
theorem dL_line_24 : decode cL_line 24 = .ok (.ireturn, 1) := by decide +kernel
theorem dL_line_25 : decode cL_line 25 = .ok (.iconst 0, 1) := by decide +kernel
theorem dL_line_26 : decode cL_line 26 = .ok (.ireturn, 1) := by decide +kernel
abbrev wsH_line : List Jvm.Cond := .codeWith yL_line cL_line 7 (some .int) [(0, 14, 17, 19), (0, 14, 21, 13)] :: ez_G
theorem xi_line : xh_in 21 xM112 := ⟨by decide +kernel, by decide +kernel, by decide +kernel⟩
theorem xk_line_19 : ez_in (.classLink RL 19 "java/lang/IllegalArgumentException") = true := by decide +kernel
theorem xk_line_13 : ez_in (.classLink RL 13 "java/lang/UnsupportedOperationException") = true := by decide +kernel
theorem xg_line {l : Launch} {w w1 : ez_W} {fs : List Value} {v0 : Int32} {v1 : Int32} {v2 : Int32} {v3 : Int32} {x : Int32} (hw : w[0]? = some (.inr (6, fs))) (hM : ∀ (D : va_G) (cI : ClassId) (ad : Nat → Nat) (sz : Nat), xz_MetP l xM112 D cI ad sz [.ref 0, .int v0, .int v1, .int v2, .int v3] w (some (.int x)) w1) (D : va_G) (cI cL : ClassId) (ad : Nat → Nat) (qo : Nat) (o : Nat → Int64) (sz : Nat) : xh_Met l yL_line wsH_line D cI cL [.ref (ad 0), .int v0, .int v1, .int v2, .int v3, .ref qo] (xX cI cL ad w qo o) sz 0 (xX cI cL ad w1 qo (vp_updL o (0 : Int32).toNatClampNeg x.toInt64)) := by
  refine xh_of rfl (Nat.le_of_ble_eq_true rfl) ?_
  intro p e s m below meth c ls F hP hD hZ hl
  obtain ⟨hx, hb, hml, hown, hG, hr, hlk, htab, hK⟩ := F
  have hK0 : va_K D vwCl [(cI, .int)] s := hK.sub [0] rfl
  have hA0 : ∀ q, s.heap.size ≤ q → va_A (xX cI cL ad w qo o) s.heap.size q := fun q h => Or.inr h
  refine lv_aload hx hb dL_line_0 (lv_at hl 5 rfl) ?_
  refine lv_iconst hx hb dL_line_2 (v := 0) rfl ?_
  refine lv_aload_n hx hb dL_line_3 rfl (lv_at hl 0 rfl) ?_
  refine lv_iload_n hx hb dL_line_4 rfl (lv_at hl 1 rfl) ?_
  refine lv_iload_n hx hb dL_line_5 rfl (lv_at hl 2 rfl) ?_
  refine lv_iload_n hx hb dL_line_6 rfl (lv_at hl 3 rfl) ?_
  refine lv_iload hx hb dL_line_7 (lv_at hl 4 rfl) ?_
  refine xh_callP (Z1 := []) (Z2 := [xo cL qo o]) (ad := ad) (w := w) (Bs := [.int v0, .int v1, .int v2, .int v3]) (rest := [.int 0, .ref qo]) hx hb hml hown hG hK0 xM112_ok xi_line (fun sz => hM D cI ad sz) hw rfl ⟨by decide, by decide⟩ hl.1 (Nat.le_of_ble_eq_true rfl) dL_line_9 (Nat.zero_le _) (Nat.zero_le _) hZ va_S.rf hA0 hP hD rfl (fun H1 locs1 hP1 hD1 hS1 => ?_)
  refine lv_i2l hx hb dL_line_12 (v := x.toInt64) rfl ?_
  refine va_last hx hb hK hP1 hD1 hS1 ((ez_z cI ad w1).length + 0) 1 xo_at rfl (i := 0) xo_in dL_line_13 (fun H2 locs2 hP2 hD2 hS2 => ?_)
  rw [xo_set] at hP2 hD2
  refine lv_goto hx hb dL_line_14 (tgt := 25) rfl ?_
  refine lv_iconst hx hb dL_line_25 (v := 0) rfl ?_
  refine W.widen (k := 1) (n := 6) (by decide) (by decide) ?_
  exact W.iret (v := 0) hx hb hr (fun t ht hW => ⟨⟨rfl, by rw [ht]; exact hP2, va_K.moved hW.alike hK, hD2⟩, hS2.F ht⟩) (fun q hq => hS2.2.2 q hq) dL_line_26 hlk
theorem xg_line_1 {l : Launch} {w : ez_W} {fs : List Value} {v0 : Int32} {v1 : Int32} {v2 : Int32} {v3 : Int32} (hw : w[0]? = some (.inr (6, fs))) (hM : ∀ (D : va_G) (cI : ClassId) (ad : Nat → Nat) (sz : Nat), xz_Met l xM112 D cI ad sz [.ref 0, .int v0, .int v1, .int v2, .int v3] w "java/lang/IllegalArgumentException") (D : va_G) (cI cL : ClassId) (ad : Nat → Nat) (qo : Nat) (o : Nat → Int64) (sz : Nat) : xh_Met l yL_line wsH_line D cI cL [.ref (ad 0), .int v0, .int v1, .int v2, .int v3, .ref qo] (xX cI cL ad w qo o) sz 1 (xX cI cL ad w qo o) := by
  refine xh_of rfl (Nat.le_of_ble_eq_true rfl) ?_
  intro p e s m below meth c ls F hP hD hZ hl
  obtain ⟨hx, hb, hml, hown, hG, hr, hlk, htab, hK⟩ := F
  have hK0 : va_K D vwCl [(cI, .int)] s := hK.sub [0] rfl
  have hA0 : ∀ q, s.heap.size ≤ q → va_A (xX cI cL ad w qo o) s.heap.size q := fun q h => Or.inr h
  refine lv_aload hx hb dL_line_0 (lv_at hl 5 rfl) ?_
  refine lv_iconst hx hb dL_line_2 (v := 0) rfl ?_
  refine lv_aload_n hx hb dL_line_3 rfl (lv_at hl 0 rfl) ?_
  refine lv_iload_n hx hb dL_line_4 rfl (lv_at hl 1 rfl) ?_
  refine lv_iload_n hx hb dL_line_5 rfl (lv_at hl 2 rfl) ?_
  refine lv_iload_n hx hb dL_line_6 rfl (lv_at hl 3 rfl) ?_
  refine lv_iload hx hb dL_line_7 (lv_at hl 4 rfl) ?_
  refine xh_callX (Z1 := []) (Z2 := [xo cL qo o]) (ad := ad) (w := w) (Bs := [.int v0, .int v1, .int v2, .int v3]) (rest := [.int 0, .ref qo]) hx hb hml hown hG hK0 xM112_ok xi_line (fun sz => hM D cI ad sz) hw rfl ⟨by decide, by decide⟩ hl.1 (Nat.le_of_ble_eq_true rfl) dL_line_9 (by decide) (by decide) hZ va_S.rf hA0 hP hD rfl (fun q ce H1 locs1 z1 z2 z3 hP1 hD1 hS1 => ?_)
  refine vx_catch (name := "java/lang/IllegalArgumentException") hown [] ⟨0, 14, 17, 19⟩ [⟨0, 14, 21, 13⟩] htab (fun z hz => nomatch hz) (by decide) (by decide) (hG _ (ez_in_G xk_line_19)) (hZ.2.2.2.1 "java/lang/IllegalArgumentException" (by simp [xz_exc])) z1 z2 z3 ?_
  refine lv_astore hx hb dL_line_17 hl (by decide) rfl (fun ls1 hl1 => ?_)
  refine lv_iconst hx hb dL_line_19 (v := 1) rfl ?_
  exact W.iret (v := 1) hx hb hr (fun t ht hW => ⟨⟨rfl, by rw [ht]; exact hP1, va_K.moved hW.alike hK, hD1⟩, hS1.F ht⟩) (fun q hq => hS1.2.2 q hq) dL_line_20 hlk
theorem xg_line_2 {l : Launch} {w : ez_W} {fs : List Value} {v0 : Int32} {v1 : Int32} {v2 : Int32} {v3 : Int32} (hw : w[0]? = some (.inr (6, fs))) (hM : ∀ (D : va_G) (cI : ClassId) (ad : Nat → Nat) (sz : Nat), xz_Met l xM112 D cI ad sz [.ref 0, .int v0, .int v1, .int v2, .int v3] w "java/lang/UnsupportedOperationException") (D : va_G) (cI cL : ClassId) (ad : Nat → Nat) (qo : Nat) (o : Nat → Int64) (sz : Nat) : xh_Met l yL_line wsH_line D cI cL [.ref (ad 0), .int v0, .int v1, .int v2, .int v3, .ref qo] (xX cI cL ad w qo o) sz 2 (xX cI cL ad w qo o) := by
  refine xh_of rfl (Nat.le_of_ble_eq_true rfl) ?_
  intro p e s m below meth c ls F hP hD hZ hl
  obtain ⟨hx, hb, hml, hown, hG, hr, hlk, htab, hK⟩ := F
  have hK0 : va_K D vwCl [(cI, .int)] s := hK.sub [0] rfl
  have hA0 : ∀ q, s.heap.size ≤ q → va_A (xX cI cL ad w qo o) s.heap.size q := fun q h => Or.inr h
  refine lv_aload hx hb dL_line_0 (lv_at hl 5 rfl) ?_
  refine lv_iconst hx hb dL_line_2 (v := 0) rfl ?_
  refine lv_aload_n hx hb dL_line_3 rfl (lv_at hl 0 rfl) ?_
  refine lv_iload_n hx hb dL_line_4 rfl (lv_at hl 1 rfl) ?_
  refine lv_iload_n hx hb dL_line_5 rfl (lv_at hl 2 rfl) ?_
  refine lv_iload_n hx hb dL_line_6 rfl (lv_at hl 3 rfl) ?_
  refine lv_iload hx hb dL_line_7 (lv_at hl 4 rfl) ?_
  refine xh_callX (Z1 := []) (Z2 := [xo cL qo o]) (ad := ad) (w := w) (Bs := [.int v0, .int v1, .int v2, .int v3]) (rest := [.int 0, .ref qo]) hx hb hml hown hG hK0 xM112_ok xi_line (fun sz => hM D cI ad sz) hw rfl ⟨by decide, by decide⟩ hl.1 (Nat.le_of_ble_eq_true rfl) dL_line_9 (by decide) (by decide) hZ va_S.rf hA0 hP hD rfl (fun q ce H1 locs1 z1 z2 z3 hP1 hD1 hS1 => ?_)
  refine vx_catch (name := "java/lang/UnsupportedOperationException") hown [⟨0, 14, 17, 19⟩] ⟨0, 14, 21, 13⟩ [] htab (fun z hz => by rw [List.mem_singleton.mp hz]; exact Or.inr ⟨by decide, "java/lang/IllegalArgumentException", hG _ (ez_in_G xk_line_19), hZ.2.2.2.2.2.1⟩) (by decide) (by decide) (hG _ (ez_in_G xk_line_13)) (hZ.2.2.2.1 "java/lang/UnsupportedOperationException" (by simp [xz_exc])) z1 z2 z3 ?_
  refine lv_astore hx hb dL_line_21 hl (by decide) rfl (fun ls1 hl1 => ?_)
  refine lv_iconst hx hb dL_line_23 (v := 2) rfl ?_
  exact W.iret (v := 2) hx hb hr (fun t ht hW => ⟨⟨rfl, by rw [ht]; exact hP1, va_K.moved hW.alike hK, hD1⟩, hS1.F ht⟩) (fun q hq => hS1.2.2 q hq) dL_line_24 hlk
theorem dL_exchange_0 : decode cL_exchange 0 = .ok (.aload_n 0, 1) := by decide +kernel
theorem dL_exchange_1 : decode cL_exchange 1 = .ok (.iload_n 1, 1) := by decide +kernel
theorem dL_exchange_2 : decode cL_exchange 2 = .ok (.iload_n 2, 1) := by decide +kernel
theorem dL_exchange_3 : decode cL_exchange 3 = .ok (.invokevirtual 25, 3) := by decide +kernel
theorem dL_exchange_6 : decode cL_exchange 6 = .ok (.goto 6, 3) := by decide +kernel
theorem dL_exchange_9 : decode cL_exchange 9 = .ok (.astore_n 3, 1) := by decide +kernel
theorem dL_exchange_10 : decode cL_exchange 10 = .ok (.iconst 1, 1) := by decide +kernel
theorem dL_exchange_11 : decode cL_exchange 11 = .ok (.ireturn, 1) := by decide +kernel
theorem dL_exchange_12 : decode cL_exchange 12 = .ok (.iconst 0, 1) := by decide +kernel
theorem dL_exchange_13 : decode cL_exchange 13 = .ok (.ireturn, 1) := by decide +kernel
abbrev wsH_exchange : List Jvm.Cond := .codeWith yL_exchange cL_exchange 4 (some .int) [(0, 6, 9, 29)] :: ez_G
theorem xi_exchange : xh_in 25 xM113 := ⟨by decide +kernel, by decide +kernel, by decide +kernel⟩
theorem xk_exchange_29 : ez_in (.classLink RL 29 "java/lang/IndexOutOfBoundsException") = true := by decide +kernel
theorem xg_exchange {l : Launch} {w w1 : ez_W} {fs : List Value} {v0 : Int32} {v1 : Int32}  (hw : w[0]? = some (.inr (6, fs))) (hM : ∀ (D : va_G) (cI : ClassId) (ad : Nat → Nat) (sz : Nat), xz_MetP l xM113 D cI ad sz [.ref 0, .int v0, .int v1] w none w1) (D : va_G) (cI cL : ClassId) (ad : Nat → Nat) (qo : Nat) (o : Nat → Int64) (sz : Nat) : xh_Met l yL_exchange wsH_exchange D cI cL [.ref (ad 0), .int v0, .int v1] (xX cI cL ad w qo o) sz 0 (xX cI cL ad w1 qo o) := by
  refine xh_of rfl (Nat.le_of_ble_eq_true rfl) ?_
  intro p e s m below meth c ls F hP hD hZ hl
  obtain ⟨hx, hb, hml, hown, hG, hr, hlk, htab, hK⟩ := F
  have hK0 : va_K D vwCl [(cI, .int)] s := hK.sub [0] rfl
  have hA0 : ∀ q, s.heap.size ≤ q → va_A (xX cI cL ad w qo o) s.heap.size q := fun q h => Or.inr h
  refine lv_aload_n hx hb dL_exchange_0 rfl (lv_at hl 0 rfl) ?_
  refine lv_iload_n hx hb dL_exchange_1 rfl (lv_at hl 1 rfl) ?_
  refine lv_iload_n hx hb dL_exchange_2 rfl (lv_at hl 2 rfl) ?_
  refine xh_callP (Z1 := []) (Z2 := [xo cL qo o]) (ad := ad) (w := w) (Bs := [.int v0, .int v1]) (rest := []) hx hb hml hown hG hK0 xM113_ok xi_exchange (fun sz => hM D cI ad sz) hw rfl ⟨by decide, by decide⟩ hl.1 (Nat.le_of_ble_eq_true rfl) dL_exchange_3 (Nat.zero_le _) (Nat.zero_le _) hZ va_S.rf hA0 hP hD rfl (fun H1 locs1 hP1 hD1 hS1 => ?_)
  refine lv_goto hx hb dL_exchange_6 (tgt := 12) rfl ?_
  refine lv_iconst hx hb dL_exchange_12 (v := 0) rfl ?_
  refine W.widen (k := 1) (n := 6) (by decide) (by decide) ?_
  exact W.iret (v := 0) hx hb hr (fun t ht hW => ⟨⟨rfl, by rw [ht]; exact hP1, va_K.moved hW.alike hK, hD1⟩, hS1.F ht⟩) (fun q hq => hS1.2.2 q hq) dL_exchange_13 hlk
theorem xg_exchange_1 {l : Launch} {w : ez_W} {fs : List Value} {v0 : Int32} {v1 : Int32} (hw : w[0]? = some (.inr (6, fs))) (hM : ∀ (D : va_G) (cI : ClassId) (ad : Nat → Nat) (sz : Nat), xz_Met l xM113 D cI ad sz [.ref 0, .int v0, .int v1] w "java/lang/IndexOutOfBoundsException") (D : va_G) (cI cL : ClassId) (ad : Nat → Nat) (qo : Nat) (o : Nat → Int64) (sz : Nat) : xh_Met l yL_exchange wsH_exchange D cI cL [.ref (ad 0), .int v0, .int v1] (xX cI cL ad w qo o) sz 1 (xX cI cL ad w qo o) := by
  refine xh_of rfl (Nat.le_of_ble_eq_true rfl) ?_
  intro p e s m below meth c ls F hP hD hZ hl
  obtain ⟨hx, hb, hml, hown, hG, hr, hlk, htab, hK⟩ := F
  have hK0 : va_K D vwCl [(cI, .int)] s := hK.sub [0] rfl
  have hA0 : ∀ q, s.heap.size ≤ q → va_A (xX cI cL ad w qo o) s.heap.size q := fun q h => Or.inr h
  refine lv_aload_n hx hb dL_exchange_0 rfl (lv_at hl 0 rfl) ?_
  refine lv_iload_n hx hb dL_exchange_1 rfl (lv_at hl 1 rfl) ?_
  refine lv_iload_n hx hb dL_exchange_2 rfl (lv_at hl 2 rfl) ?_
  refine xh_callX (Z1 := []) (Z2 := [xo cL qo o]) (ad := ad) (w := w) (Bs := [.int v0, .int v1]) (rest := []) hx hb hml hown hG hK0 xM113_ok xi_exchange (fun sz => hM D cI ad sz) hw rfl ⟨by decide, by decide⟩ hl.1 (Nat.le_of_ble_eq_true rfl) dL_exchange_3 (by decide) (by decide) hZ va_S.rf hA0 hP hD rfl (fun q ce H1 locs1 z1 z2 z3 hP1 hD1 hS1 => ?_)
  refine vx_catch (name := "java/lang/IndexOutOfBoundsException") hown [] ⟨0, 6, 9, 29⟩ [] htab (fun z hz => nomatch hz) (by decide) (by decide) (hG _ (ez_in_G xk_exchange_29)) (hZ.2.2.2.1 "java/lang/IndexOutOfBoundsException" (by simp [xz_exc])) z1 z2 z3 ?_
  refine lv_astore_n hx hb dL_exchange_9 rfl hl (by decide) rfl (fun ls1 hl1 => ?_)
  refine lv_iconst hx hb dL_exchange_10 (v := 1) rfl ?_
  exact W.iret (v := 1) hx hb hr (fun t ht hW => ⟨⟨rfl, by rw [ht]; exact hP1, va_K.moved hW.alike hK, hD1⟩, hS1.F ht⟩) (fun q hq => hS1.2.2 q hq) dL_exchange_11 hlk
theorem dL_turn_0 : decode cL_turn 0 = .ok (.aload_n 0, 1) := by decide +kernel
theorem dL_turn_1 : decode cL_turn 1 = .ok (.iload_n 1, 1) := by decide +kernel
theorem dL_turn_2 : decode cL_turn 2 = .ok (.iload_n 2, 1) := by decide +kernel
theorem dL_turn_3 : decode cL_turn 3 = .ok (.invokevirtual 31, 3) := by decide +kernel
theorem dL_turn_6 : decode cL_turn 6 = .ok (.goto 6, 3) := by decide +kernel
theorem dL_turn_9 : decode cL_turn 9 = .ok (.astore_n 3, 1) := by decide +kernel
theorem dL_turn_10 : decode cL_turn 10 = .ok (.iconst 1, 1) := by decide +kernel
theorem dL_turn_11 : decode cL_turn 11 = .ok (.ireturn, 1) := by decide +kernel
theorem dL_turn_12 : decode cL_turn 12 = .ok (.iconst 0, 1) := by decide +kernel
theorem dL_turn_13 : decode cL_turn 13 = .ok (.ireturn, 1) := by decide +kernel
abbrev wsH_turn : List Jvm.Cond := .codeWith yL_turn cL_turn 4 (some .int) [(0, 6, 9, 29)] :: ez_G
theorem xi_turn : xh_in 31 xM114 := ⟨by decide +kernel, by decide +kernel, by decide +kernel⟩
theorem xk_turn_29 : ez_in (.classLink RL 29 "java/lang/IndexOutOfBoundsException") = true := by decide +kernel
theorem xg_turn {l : Launch} {w w1 : ez_W} {fs : List Value} {v0 : Int32} {v1 : Int32}  (hw : w[0]? = some (.inr (6, fs))) (hM : ∀ (D : va_G) (cI : ClassId) (ad : Nat → Nat) (sz : Nat), xz_MetP l xM114 D cI ad sz [.ref 0, .int v0, .int v1] w none w1) (D : va_G) (cI cL : ClassId) (ad : Nat → Nat) (qo : Nat) (o : Nat → Int64) (sz : Nat) : xh_Met l yL_turn wsH_turn D cI cL [.ref (ad 0), .int v0, .int v1] (xX cI cL ad w qo o) sz 0 (xX cI cL ad w1 qo o) := by
  refine xh_of rfl (Nat.le_of_ble_eq_true rfl) ?_
  intro p e s m below meth c ls F hP hD hZ hl
  obtain ⟨hx, hb, hml, hown, hG, hr, hlk, htab, hK⟩ := F
  have hK0 : va_K D vwCl [(cI, .int)] s := hK.sub [0] rfl
  have hA0 : ∀ q, s.heap.size ≤ q → va_A (xX cI cL ad w qo o) s.heap.size q := fun q h => Or.inr h
  refine lv_aload_n hx hb dL_turn_0 rfl (lv_at hl 0 rfl) ?_
  refine lv_iload_n hx hb dL_turn_1 rfl (lv_at hl 1 rfl) ?_
  refine lv_iload_n hx hb dL_turn_2 rfl (lv_at hl 2 rfl) ?_
  refine xh_callP (Z1 := []) (Z2 := [xo cL qo o]) (ad := ad) (w := w) (Bs := [.int v0, .int v1]) (rest := []) hx hb hml hown hG hK0 xM114_ok xi_turn (fun sz => hM D cI ad sz) hw rfl ⟨by decide, by decide⟩ hl.1 (Nat.le_of_ble_eq_true rfl) dL_turn_3 (Nat.zero_le _) (Nat.zero_le _) hZ va_S.rf hA0 hP hD rfl (fun H1 locs1 hP1 hD1 hS1 => ?_)
  refine lv_goto hx hb dL_turn_6 (tgt := 12) rfl ?_
  refine lv_iconst hx hb dL_turn_12 (v := 0) rfl ?_
  refine W.widen (k := 1) (n := 6) (by decide) (by decide) ?_
  exact W.iret (v := 0) hx hb hr (fun t ht hW => ⟨⟨rfl, by rw [ht]; exact hP1, va_K.moved hW.alike hK, hD1⟩, hS1.F ht⟩) (fun q hq => hS1.2.2 q hq) dL_turn_13 hlk
theorem xg_turn_1 {l : Launch} {w : ez_W} {fs : List Value} {v0 : Int32} {v1 : Int32} (hw : w[0]? = some (.inr (6, fs))) (hM : ∀ (D : va_G) (cI : ClassId) (ad : Nat → Nat) (sz : Nat), xz_Met l xM114 D cI ad sz [.ref 0, .int v0, .int v1] w "java/lang/IndexOutOfBoundsException") (D : va_G) (cI cL : ClassId) (ad : Nat → Nat) (qo : Nat) (o : Nat → Int64) (sz : Nat) : xh_Met l yL_turn wsH_turn D cI cL [.ref (ad 0), .int v0, .int v1] (xX cI cL ad w qo o) sz 1 (xX cI cL ad w qo o) := by
  refine xh_of rfl (Nat.le_of_ble_eq_true rfl) ?_
  intro p e s m below meth c ls F hP hD hZ hl
  obtain ⟨hx, hb, hml, hown, hG, hr, hlk, htab, hK⟩ := F
  have hK0 : va_K D vwCl [(cI, .int)] s := hK.sub [0] rfl
  have hA0 : ∀ q, s.heap.size ≤ q → va_A (xX cI cL ad w qo o) s.heap.size q := fun q h => Or.inr h
  refine lv_aload_n hx hb dL_turn_0 rfl (lv_at hl 0 rfl) ?_
  refine lv_iload_n hx hb dL_turn_1 rfl (lv_at hl 1 rfl) ?_
  refine lv_iload_n hx hb dL_turn_2 rfl (lv_at hl 2 rfl) ?_
  refine xh_callX (Z1 := []) (Z2 := [xo cL qo o]) (ad := ad) (w := w) (Bs := [.int v0, .int v1]) (rest := []) hx hb hml hown hG hK0 xM114_ok xi_turn (fun sz => hM D cI ad sz) hw rfl ⟨by decide, by decide⟩ hl.1 (Nat.le_of_ble_eq_true rfl) dL_turn_3 (by decide) (by decide) hZ va_S.rf hA0 hP hD rfl (fun q ce H1 locs1 z1 z2 z3 hP1 hD1 hS1 => ?_)
  refine vx_catch (name := "java/lang/IndexOutOfBoundsException") hown [] ⟨0, 6, 9, 29⟩ [] htab (fun z hz => nomatch hz) (by decide) (by decide) (hG _ (ez_in_G xk_turn_29)) (hZ.2.2.2.1 "java/lang/IndexOutOfBoundsException" (by simp [xz_exc])) z1 z2 z3 ?_
  refine lv_astore_n hx hb dL_turn_9 rfl hl (by decide) rfl (fun ls1 hl1 => ?_)
  refine lv_iconst hx hb dL_turn_10 (v := 1) rfl ?_
  exact W.iret (v := 1) hx hb hr (fun t ht hW => ⟨⟨rfl, by rw [ht]; exact hP1, va_K.moved hW.alike hK, hD1⟩, hS1.F ht⟩) (fun q hq => hS1.2.2 q hq) dL_turn_11 hlk
theorem dL_order_0 : decode cL_order 0 = .ok (.aload_n 2, 1) := by decide +kernel
theorem dL_order_1 : decode cL_order 1 = .ok (.iconst 0, 1) := by decide +kernel
theorem dL_order_2 : decode cL_order 2 = .ok (.aload_n 0, 1) := by decide +kernel
theorem dL_order_3 : decode cL_order 3 = .ok (.iload_n 1, 1) := by decide +kernel
theorem dL_order_4 : decode cL_order 4 = .ok (.invokevirtual 34, 3) := by decide +kernel
theorem dL_order_7 : decode cL_order 7 = .ok (.i2l, 1) := by decide +kernel
theorem dL_order_8 : decode cL_order 8 = .ok (.lastore, 1) := by decide +kernel
theorem dL_order_9 : decode cL_order 9 = .ok (.goto 6, 3) := by decide +kernel
theorem dL_order_12 : decode cL_order 12 = .ok (.astore_n 3, 1) := by decide +kernel
theorem dL_order_13 : decode cL_order 13 = .ok (.iconst 1, 1) := by decide +kernel
theorem dL_order_14 : decode cL_order 14 = .ok (.ireturn, 1) := by decide +kernel
theorem dL_order_15 : decode cL_order 15 = .ok (.iconst 0, 1) := by decide +kernel
theorem dL_order_16 : decode cL_order 16 = .ok (.ireturn, 1) := by decide +kernel
abbrev wsH_order : List Jvm.Cond := .codeWith yL_order cL_order 4 (some .int) [(0, 9, 12, 19)] :: ez_G
theorem xi_order : xh_in 34 xM115 := ⟨by decide +kernel, by decide +kernel, by decide +kernel⟩
theorem xk_order_19 : ez_in (.classLink RL 19 "java/lang/IllegalArgumentException") = true := by decide +kernel
theorem xg_order {l : Launch} {w w1 : ez_W} {fs : List Value} {v0 : Int32} {x : Int32} (hw : w[0]? = some (.inr (6, fs))) (hM : ∀ (D : va_G) (cI : ClassId) (ad : Nat → Nat) (sz : Nat), xz_MetP l xM115 D cI ad sz [.ref 0, .int v0] w (some (.int x)) w1) (D : va_G) (cI cL : ClassId) (ad : Nat → Nat) (qo : Nat) (o : Nat → Int64) (sz : Nat) : xh_Met l yL_order wsH_order D cI cL [.ref (ad 0), .int v0, .ref qo] (xX cI cL ad w qo o) sz 0 (xX cI cL ad w1 qo (vp_updL o (0 : Int32).toNatClampNeg x.toInt64)) := by
  refine xh_of rfl (Nat.le_of_ble_eq_true rfl) ?_
  intro p e s m below meth c ls F hP hD hZ hl
  obtain ⟨hx, hb, hml, hown, hG, hr, hlk, htab, hK⟩ := F
  have hK0 : va_K D vwCl [(cI, .int)] s := hK.sub [0] rfl
  have hA0 : ∀ q, s.heap.size ≤ q → va_A (xX cI cL ad w qo o) s.heap.size q := fun q h => Or.inr h
  refine lv_aload_n hx hb dL_order_0 rfl (lv_at hl 2 rfl) ?_
  refine lv_iconst hx hb dL_order_1 (v := 0) rfl ?_
  refine lv_aload_n hx hb dL_order_2 rfl (lv_at hl 0 rfl) ?_
  refine lv_iload_n hx hb dL_order_3 rfl (lv_at hl 1 rfl) ?_
  refine xh_callP (Z1 := []) (Z2 := [xo cL qo o]) (ad := ad) (w := w) (Bs := [.int v0]) (rest := [.int 0, .ref qo]) hx hb hml hown hG hK0 xM115_ok xi_order (fun sz => hM D cI ad sz) hw rfl ⟨by decide, by decide⟩ hl.1 (Nat.le_of_ble_eq_true rfl) dL_order_4 (Nat.zero_le _) (Nat.zero_le _) hZ va_S.rf hA0 hP hD rfl (fun H1 locs1 hP1 hD1 hS1 => ?_)
  refine lv_i2l hx hb dL_order_7 (v := x.toInt64) rfl ?_
  refine va_last hx hb hK hP1 hD1 hS1 ((ez_z cI ad w1).length + 0) 1 xo_at rfl (i := 0) xo_in dL_order_8 (fun H2 locs2 hP2 hD2 hS2 => ?_)
  rw [xo_set] at hP2 hD2
  refine lv_goto hx hb dL_order_9 (tgt := 15) rfl ?_
  refine lv_iconst hx hb dL_order_15 (v := 0) rfl ?_
  refine W.widen (k := 1) (n := 6) (by decide) (by decide) ?_
  exact W.iret (v := 0) hx hb hr (fun t ht hW => ⟨⟨rfl, by rw [ht]; exact hP2, va_K.moved hW.alike hK, hD2⟩, hS2.F ht⟩) (fun q hq => hS2.2.2 q hq) dL_order_16 hlk
theorem xg_order_1 {l : Launch} {w : ez_W} {fs : List Value} {v0 : Int32} (hw : w[0]? = some (.inr (6, fs))) (hM : ∀ (D : va_G) (cI : ClassId) (ad : Nat → Nat) (sz : Nat), xz_Met l xM115 D cI ad sz [.ref 0, .int v0] w "java/lang/IllegalArgumentException") (D : va_G) (cI cL : ClassId) (ad : Nat → Nat) (qo : Nat) (o : Nat → Int64) (sz : Nat) : xh_Met l yL_order wsH_order D cI cL [.ref (ad 0), .int v0, .ref qo] (xX cI cL ad w qo o) sz 1 (xX cI cL ad w qo o) := by
  refine xh_of rfl (Nat.le_of_ble_eq_true rfl) ?_
  intro p e s m below meth c ls F hP hD hZ hl
  obtain ⟨hx, hb, hml, hown, hG, hr, hlk, htab, hK⟩ := F
  have hK0 : va_K D vwCl [(cI, .int)] s := hK.sub [0] rfl
  have hA0 : ∀ q, s.heap.size ≤ q → va_A (xX cI cL ad w qo o) s.heap.size q := fun q h => Or.inr h
  refine lv_aload_n hx hb dL_order_0 rfl (lv_at hl 2 rfl) ?_
  refine lv_iconst hx hb dL_order_1 (v := 0) rfl ?_
  refine lv_aload_n hx hb dL_order_2 rfl (lv_at hl 0 rfl) ?_
  refine lv_iload_n hx hb dL_order_3 rfl (lv_at hl 1 rfl) ?_
  refine xh_callX (Z1 := []) (Z2 := [xo cL qo o]) (ad := ad) (w := w) (Bs := [.int v0]) (rest := [.int 0, .ref qo]) hx hb hml hown hG hK0 xM115_ok xi_order (fun sz => hM D cI ad sz) hw rfl ⟨by decide, by decide⟩ hl.1 (Nat.le_of_ble_eq_true rfl) dL_order_4 (by decide) (by decide) hZ va_S.rf hA0 hP hD rfl (fun q ce H1 locs1 z1 z2 z3 hP1 hD1 hS1 => ?_)
  refine vx_catch (name := "java/lang/IllegalArgumentException") hown [] ⟨0, 9, 12, 19⟩ [] htab (fun z hz => nomatch hz) (by decide) (by decide) (hG _ (ez_in_G xk_order_19)) (hZ.2.2.2.1 "java/lang/IllegalArgumentException" (by simp [xz_exc])) z1 z2 z3 ?_
  refine lv_astore_n hx hb dL_order_12 rfl hl (by decide) rfl (fun ls1 hl1 => ?_)
  refine lv_iconst hx hb dL_order_13 (v := 1) rfl ?_
  exact W.iret (v := 1) hx hb hr (fun t ht hW => ⟨⟨rfl, by rw [ht]; exact hP1, va_K.moved hW.alike hK, hD1⟩, hS1.F ht⟩) (fun q hq => hS1.2.2 q hq) dL_order_14 hlk
theorem dL_sort_0 : decode cL_sort 0 = .ok (.aload_n 2, 1) := by decide +kernel
theorem dL_sort_1 : decode cL_sort 1 = .ok (.iconst 0, 1) := by decide +kernel
theorem dL_sort_2 : decode cL_sort 2 = .ok (.aload_n 0, 1) := by decide +kernel
theorem dL_sort_3 : decode cL_sort 3 = .ok (.iload_n 1, 1) := by decide +kernel
theorem dL_sort_4 : decode cL_sort 4 = .ok (.invokevirtual 37, 3) := by decide +kernel
theorem dL_sort_7 : decode cL_sort 7 = .ok (.i2l, 1) := by decide +kernel
theorem dL_sort_8 : decode cL_sort 8 = .ok (.lastore, 1) := by decide +kernel
theorem dL_sort_9 : decode cL_sort 9 = .ok (.goto 6, 3) := by decide +kernel
theorem dL_sort_12 : decode cL_sort 12 = .ok (.astore_n 3, 1) := by decide +kernel
theorem dL_sort_13 : decode cL_sort 13 = .ok (.iconst 1, 1) := by decide +kernel
theorem dL_sort_14 : decode cL_sort 14 = .ok (.ireturn, 1) := by decide +kernel
theorem dL_sort_15 : decode cL_sort 15 = .ok (.iconst 0, 1) := by decide +kernel
theorem dL_sort_16 : decode cL_sort 16 = .ok (.ireturn, 1) := by decide +kernel
abbrev wsH_sort : List Jvm.Cond := .codeWith yL_sort cL_sort 4 (some .int) [(0, 9, 12, 19)] :: ez_G
theorem xi_sort : xh_in 37 xM120 := ⟨by decide +kernel, by decide +kernel, by decide +kernel⟩
theorem xk_sort_19 : ez_in (.classLink RL 19 "java/lang/IllegalArgumentException") = true := by decide +kernel
theorem xg_sort {l : Launch} {w w1 : ez_W} {fs : List Value} {v0 : Int32} {x : Int32} (hw : w[0]? = some (.inr (6, fs))) (hM : ∀ (D : va_G) (cI : ClassId) (ad : Nat → Nat) (sz : Nat), xz_MetP l xM120 D cI ad sz [.ref 0, .int v0] w (some (.int x)) w1) (D : va_G) (cI cL : ClassId) (ad : Nat → Nat) (qo : Nat) (o : Nat → Int64) (sz : Nat) : xh_Met l yL_sort wsH_sort D cI cL [.ref (ad 0), .int v0, .ref qo] (xX cI cL ad w qo o) sz 0 (xX cI cL ad w1 qo (vp_updL o (0 : Int32).toNatClampNeg x.toInt64)) := by
  refine xh_of rfl (Nat.le_of_ble_eq_true rfl) ?_
  intro p e s m below meth c ls F hP hD hZ hl
  obtain ⟨hx, hb, hml, hown, hG, hr, hlk, htab, hK⟩ := F
  have hK0 : va_K D vwCl [(cI, .int)] s := hK.sub [0] rfl
  have hA0 : ∀ q, s.heap.size ≤ q → va_A (xX cI cL ad w qo o) s.heap.size q := fun q h => Or.inr h
  refine lv_aload_n hx hb dL_sort_0 rfl (lv_at hl 2 rfl) ?_
  refine lv_iconst hx hb dL_sort_1 (v := 0) rfl ?_
  refine lv_aload_n hx hb dL_sort_2 rfl (lv_at hl 0 rfl) ?_
  refine lv_iload_n hx hb dL_sort_3 rfl (lv_at hl 1 rfl) ?_
  refine xh_callP (Z1 := []) (Z2 := [xo cL qo o]) (ad := ad) (w := w) (Bs := [.int v0]) (rest := [.int 0, .ref qo]) hx hb hml hown hG hK0 xM120_ok xi_sort (fun sz => hM D cI ad sz) hw rfl ⟨by decide, by decide⟩ hl.1 (Nat.le_of_ble_eq_true rfl) dL_sort_4 (Nat.zero_le _) (Nat.zero_le _) hZ va_S.rf hA0 hP hD rfl (fun H1 locs1 hP1 hD1 hS1 => ?_)
  refine lv_i2l hx hb dL_sort_7 (v := x.toInt64) rfl ?_
  refine va_last hx hb hK hP1 hD1 hS1 ((ez_z cI ad w1).length + 0) 1 xo_at rfl (i := 0) xo_in dL_sort_8 (fun H2 locs2 hP2 hD2 hS2 => ?_)
  rw [xo_set] at hP2 hD2
  refine lv_goto hx hb dL_sort_9 (tgt := 15) rfl ?_
  refine lv_iconst hx hb dL_sort_15 (v := 0) rfl ?_
  refine W.widen (k := 1) (n := 6) (by decide) (by decide) ?_
  exact W.iret (v := 0) hx hb hr (fun t ht hW => ⟨⟨rfl, by rw [ht]; exact hP2, va_K.moved hW.alike hK, hD2⟩, hS2.F ht⟩) (fun q hq => hS2.2.2 q hq) dL_sort_16 hlk
theorem xg_sort_1 {l : Launch} {w : ez_W} {fs : List Value} {v0 : Int32} (hw : w[0]? = some (.inr (6, fs))) (hM : ∀ (D : va_G) (cI : ClassId) (ad : Nat → Nat) (sz : Nat), xz_Met l xM120 D cI ad sz [.ref 0, .int v0] w "java/lang/IllegalArgumentException") (D : va_G) (cI cL : ClassId) (ad : Nat → Nat) (qo : Nat) (o : Nat → Int64) (sz : Nat) : xh_Met l yL_sort wsH_sort D cI cL [.ref (ad 0), .int v0, .ref qo] (xX cI cL ad w qo o) sz 1 (xX cI cL ad w qo o) := by
  refine xh_of rfl (Nat.le_of_ble_eq_true rfl) ?_
  intro p e s m below meth c ls F hP hD hZ hl
  obtain ⟨hx, hb, hml, hown, hG, hr, hlk, htab, hK⟩ := F
  have hK0 : va_K D vwCl [(cI, .int)] s := hK.sub [0] rfl
  have hA0 : ∀ q, s.heap.size ≤ q → va_A (xX cI cL ad w qo o) s.heap.size q := fun q h => Or.inr h
  refine lv_aload_n hx hb dL_sort_0 rfl (lv_at hl 2 rfl) ?_
  refine lv_iconst hx hb dL_sort_1 (v := 0) rfl ?_
  refine lv_aload_n hx hb dL_sort_2 rfl (lv_at hl 0 rfl) ?_
  refine lv_iload_n hx hb dL_sort_3 rfl (lv_at hl 1 rfl) ?_
  refine xh_callX (Z1 := []) (Z2 := [xo cL qo o]) (ad := ad) (w := w) (Bs := [.int v0]) (rest := [.int 0, .ref qo]) hx hb hml hown hG hK0 xM120_ok xi_sort (fun sz => hM D cI ad sz) hw rfl ⟨by decide, by decide⟩ hl.1 (Nat.le_of_ble_eq_true rfl) dL_sort_4 (by decide) (by decide) hZ va_S.rf hA0 hP hD rfl (fun q ce H1 locs1 z1 z2 z3 hP1 hD1 hS1 => ?_)
  refine vx_catch (name := "java/lang/IllegalArgumentException") hown [] ⟨0, 9, 12, 19⟩ [] htab (fun z hz => nomatch hz) (by decide) (by decide) (hG _ (ez_in_G xk_sort_19)) (hZ.2.2.2.1 "java/lang/IllegalArgumentException" (by simp [xz_exc])) z1 z2 z3 ?_
  refine lv_astore_n hx hb dL_sort_12 rfl hl (by decide) rfl (fun ls1 hl1 => ?_)
  refine lv_iconst hx hb dL_sort_13 (v := 1) rfl ?_
  exact W.iret (v := 1) hx hb hr (fun t ht hW => ⟨⟨rfl, by rw [ht]; exact hP1, va_K.moved hW.alike hK, hD1⟩, hS1.F ht⟩) (fun q hq => hS1.2.2 q hq) dL_sort_14 hlk
theorem dL_kill_0 : decode cL_kill 0 = .ok (.aload_n 3, 1) := by decide +kernel
theorem dL_kill_1 : decode cL_kill 1 = .ok (.iconst 0, 1) := by decide +kernel
theorem dL_kill_2 : decode cL_kill 2 = .ok (.aload_n 0, 1) := by decide +kernel
theorem dL_kill_3 : decode cL_kill 3 = .ok (.iload_n 1, 1) := by decide +kernel
theorem dL_kill_4 : decode cL_kill 4 = .ok (.iload_n 2, 1) := by decide +kernel
theorem dL_kill_5 : decode cL_kill 5 = .ok (.invokevirtual 40, 3) := by decide +kernel
theorem dL_kill_8 : decode cL_kill 8 = .ok (.i2l, 1) := by decide +kernel
theorem dL_kill_9 : decode cL_kill 9 = .ok (.lastore, 1) := by decide +kernel
theorem dL_kill_10 : decode cL_kill 10 = .ok (.goto 7, 3) := by decide +kernel
theorem dL_kill_13 : decode cL_kill 13 = .ok (.astore 4, 2) := by decide +kernel
theorem dL_kill_15 : decode cL_kill 15 = .ok (.iconst 1, 1) := by decide +kernel
theorem dL_kill_16 : decode cL_kill 16 = .ok (.ireturn, 1) := by decide +kernel
theorem dL_kill_17 : decode cL_kill 17 = .ok (.iconst 0, 1) := by decide +kernel
theorem dL_kill_18 : decode cL_kill 18 = .ok (.ireturn, 1) := by decide +kernel
abbrev wsH_kill : List Jvm.Cond := .codeWith yL_kill cL_kill 5 (some .int) [(0, 10, 13, 19)] :: ez_G
theorem xi_kill : xh_in 40 xM121 := ⟨by decide +kernel, by decide +kernel, by decide +kernel⟩
theorem xk_kill_19 : ez_in (.classLink RL 19 "java/lang/IllegalArgumentException") = true := by decide +kernel
theorem xg_kill {l : Launch} {w w1 : ez_W} {fs : List Value} {v0 : Int32} {v1 : Int32} {x : Int32} (hw : w[0]? = some (.inr (6, fs))) (hM : ∀ (D : va_G) (cI : ClassId) (ad : Nat → Nat) (sz : Nat), xz_MetP l xM121 D cI ad sz [.ref 0, .int v0, .int v1] w (some (.int x)) w1) (D : va_G) (cI cL : ClassId) (ad : Nat → Nat) (qo : Nat) (o : Nat → Int64) (sz : Nat) : xh_Met l yL_kill wsH_kill D cI cL [.ref (ad 0), .int v0, .int v1, .ref qo] (xX cI cL ad w qo o) sz 0 (xX cI cL ad w1 qo (vp_updL o (0 : Int32).toNatClampNeg x.toInt64)) := by
  refine xh_of rfl (Nat.le_of_ble_eq_true rfl) ?_
  intro p e s m below meth c ls F hP hD hZ hl
  obtain ⟨hx, hb, hml, hown, hG, hr, hlk, htab, hK⟩ := F
  have hK0 : va_K D vwCl [(cI, .int)] s := hK.sub [0] rfl
  have hA0 : ∀ q, s.heap.size ≤ q → va_A (xX cI cL ad w qo o) s.heap.size q := fun q h => Or.inr h
  refine lv_aload_n hx hb dL_kill_0 rfl (lv_at hl 3 rfl) ?_
  refine lv_iconst hx hb dL_kill_1 (v := 0) rfl ?_
  refine lv_aload_n hx hb dL_kill_2 rfl (lv_at hl 0 rfl) ?_
  refine lv_iload_n hx hb dL_kill_3 rfl (lv_at hl 1 rfl) ?_
  refine lv_iload_n hx hb dL_kill_4 rfl (lv_at hl 2 rfl) ?_
  refine xh_callP (Z1 := []) (Z2 := [xo cL qo o]) (ad := ad) (w := w) (Bs := [.int v0, .int v1]) (rest := [.int 0, .ref qo]) hx hb hml hown hG hK0 xM121_ok xi_kill (fun sz => hM D cI ad sz) hw rfl ⟨by decide, by decide⟩ hl.1 (Nat.le_of_ble_eq_true rfl) dL_kill_5 (Nat.zero_le _) (Nat.zero_le _) hZ va_S.rf hA0 hP hD rfl (fun H1 locs1 hP1 hD1 hS1 => ?_)
  refine lv_i2l hx hb dL_kill_8 (v := x.toInt64) rfl ?_
  refine va_last hx hb hK hP1 hD1 hS1 ((ez_z cI ad w1).length + 0) 1 xo_at rfl (i := 0) xo_in dL_kill_9 (fun H2 locs2 hP2 hD2 hS2 => ?_)
  rw [xo_set] at hP2 hD2
  refine lv_goto hx hb dL_kill_10 (tgt := 17) rfl ?_
  refine lv_iconst hx hb dL_kill_17 (v := 0) rfl ?_
  refine W.widen (k := 1) (n := 6) (by decide) (by decide) ?_
  exact W.iret (v := 0) hx hb hr (fun t ht hW => ⟨⟨rfl, by rw [ht]; exact hP2, va_K.moved hW.alike hK, hD2⟩, hS2.F ht⟩) (fun q hq => hS2.2.2 q hq) dL_kill_18 hlk
theorem xg_kill_1 {l : Launch} {w : ez_W} {fs : List Value} {v0 : Int32} {v1 : Int32} (hw : w[0]? = some (.inr (6, fs))) (hM : ∀ (D : va_G) (cI : ClassId) (ad : Nat → Nat) (sz : Nat), xz_Met l xM121 D cI ad sz [.ref 0, .int v0, .int v1] w "java/lang/IllegalArgumentException") (D : va_G) (cI cL : ClassId) (ad : Nat → Nat) (qo : Nat) (o : Nat → Int64) (sz : Nat) : xh_Met l yL_kill wsH_kill D cI cL [.ref (ad 0), .int v0, .int v1, .ref qo] (xX cI cL ad w qo o) sz 1 (xX cI cL ad w qo o) := by
  refine xh_of rfl (Nat.le_of_ble_eq_true rfl) ?_
  intro p e s m below meth c ls F hP hD hZ hl
  obtain ⟨hx, hb, hml, hown, hG, hr, hlk, htab, hK⟩ := F
  have hK0 : va_K D vwCl [(cI, .int)] s := hK.sub [0] rfl
  have hA0 : ∀ q, s.heap.size ≤ q → va_A (xX cI cL ad w qo o) s.heap.size q := fun q h => Or.inr h
  refine lv_aload_n hx hb dL_kill_0 rfl (lv_at hl 3 rfl) ?_
  refine lv_iconst hx hb dL_kill_1 (v := 0) rfl ?_
  refine lv_aload_n hx hb dL_kill_2 rfl (lv_at hl 0 rfl) ?_
  refine lv_iload_n hx hb dL_kill_3 rfl (lv_at hl 1 rfl) ?_
  refine lv_iload_n hx hb dL_kill_4 rfl (lv_at hl 2 rfl) ?_
  refine xh_callX (Z1 := []) (Z2 := [xo cL qo o]) (ad := ad) (w := w) (Bs := [.int v0, .int v1]) (rest := [.int 0, .ref qo]) hx hb hml hown hG hK0 xM121_ok xi_kill (fun sz => hM D cI ad sz) hw rfl ⟨by decide, by decide⟩ hl.1 (Nat.le_of_ble_eq_true rfl) dL_kill_5 (by decide) (by decide) hZ va_S.rf hA0 hP hD rfl (fun q ce H1 locs1 z1 z2 z3 hP1 hD1 hS1 => ?_)
  refine vx_catch (name := "java/lang/IllegalArgumentException") hown [] ⟨0, 10, 13, 19⟩ [] htab (fun z hz => nomatch hz) (by decide) (by decide) (hG _ (ez_in_G xk_kill_19)) (hZ.2.2.2.1 "java/lang/IllegalArgumentException" (by simp [xz_exc])) z1 z2 z3 ?_
  refine lv_astore hx hb dL_kill_13 hl (by decide) rfl (fun ls1 hl1 => ?_)
  refine lv_iconst hx hb dL_kill_15 (v := 1) rfl ?_
  exact W.iret (v := 1) hx hb hr (fun t ht hW => ⟨⟨rfl, by rw [ht]; exact hP1, va_K.moved hW.alike hK, hD1⟩, hS1.F ht⟩) (fun q hq => hS1.2.2 q hq) dL_kill_16 hlk
theorem dL_get_0 : decode cL_get 0 = .ok (.aload_n 2, 1) := by decide +kernel
theorem dL_get_1 : decode cL_get 1 = .ok (.iconst 0, 1) := by decide +kernel
theorem dL_get_2 : decode cL_get 2 = .ok (.aload_n 0, 1) := by decide +kernel
theorem dL_get_3 : decode cL_get 3 = .ok (.iload_n 1, 1) := by decide +kernel
theorem dL_get_4 : decode cL_get 4 = .ok (.invokevirtual 44, 3) := by decide +kernel
theorem dL_get_7 : decode cL_get 7 = .ok (.i2l, 1) := by decide +kernel
theorem dL_get_8 : decode cL_get 8 = .ok (.lastore, 1) := by decide +kernel
theorem dL_get_9 : decode cL_get 9 = .ok (.goto 6, 3) := by decide +kernel
theorem dL_get_12 : decode cL_get 12 = .ok (.astore_n 3, 1) := by decide +kernel
theorem dL_get_13 : decode cL_get 13 = .ok (.iconst 1, 1) := by decide +kernel
theorem dL_get_14 : decode cL_get 14 = .ok (.ireturn, 1) := by decide +kernel
theorem dL_get_15 : decode cL_get 15 = .ok (.iconst 0, 1) := by decide +kernel
theorem dL_get_16 : decode cL_get 16 = .ok (.ireturn, 1) := by decide +kernel
abbrev wsH_get : List Jvm.Cond := .codeWith yL_get cL_get 4 (some .int) [(0, 9, 12, 29)] :: ez_G
theorem xi_get : xh_in 44 xM116 := ⟨by decide +kernel, by decide +kernel, by decide +kernel⟩
theorem xk_get_29 : ez_in (.classLink RL 29 "java/lang/IndexOutOfBoundsException") = true := by decide +kernel
theorem xg_get {l : Launch} {w w1 : ez_W} {fs : List Value} {v0 : Int32} {x : Int32} (hw : w[0]? = some (.inr (6, fs))) (hM : ∀ (D : va_G) (cI : ClassId) (ad : Nat → Nat) (sz : Nat), xz_MetP l xM116 D cI ad sz [.ref 0, .int v0] w (some (.int x)) w1) (D : va_G) (cI cL : ClassId) (ad : Nat → Nat) (qo : Nat) (o : Nat → Int64) (sz : Nat) : xh_Met l yL_get wsH_get D cI cL [.ref (ad 0), .int v0, .ref qo] (xX cI cL ad w qo o) sz 0 (xX cI cL ad w1 qo (vp_updL o (0 : Int32).toNatClampNeg x.toInt64)) := by
  refine xh_of rfl (Nat.le_of_ble_eq_true rfl) ?_
  intro p e s m below meth c ls F hP hD hZ hl
  obtain ⟨hx, hb, hml, hown, hG, hr, hlk, htab, hK⟩ := F
  have hK0 : va_K D vwCl [(cI, .int)] s := hK.sub [0] rfl
  have hA0 : ∀ q, s.heap.size ≤ q → va_A (xX cI cL ad w qo o) s.heap.size q := fun q h => Or.inr h
  refine lv_aload_n hx hb dL_get_0 rfl (lv_at hl 2 rfl) ?_
  refine lv_iconst hx hb dL_get_1 (v := 0) rfl ?_
  refine lv_aload_n hx hb dL_get_2 rfl (lv_at hl 0 rfl) ?_
  refine lv_iload_n hx hb dL_get_3 rfl (lv_at hl 1 rfl) ?_
  refine xh_callP (Z1 := []) (Z2 := [xo cL qo o]) (ad := ad) (w := w) (Bs := [.int v0]) (rest := [.int 0, .ref qo]) hx hb hml hown hG hK0 xM116_ok xi_get (fun sz => hM D cI ad sz) hw rfl ⟨by decide, by decide⟩ hl.1 (Nat.le_of_ble_eq_true rfl) dL_get_4 (Nat.zero_le _) (Nat.zero_le _) hZ va_S.rf hA0 hP hD rfl (fun H1 locs1 hP1 hD1 hS1 => ?_)
  refine lv_i2l hx hb dL_get_7 (v := x.toInt64) rfl ?_
  refine va_last hx hb hK hP1 hD1 hS1 ((ez_z cI ad w1).length + 0) 1 xo_at rfl (i := 0) xo_in dL_get_8 (fun H2 locs2 hP2 hD2 hS2 => ?_)
  rw [xo_set] at hP2 hD2
  refine lv_goto hx hb dL_get_9 (tgt := 15) rfl ?_
  refine lv_iconst hx hb dL_get_15 (v := 0) rfl ?_
  refine W.widen (k := 1) (n := 6) (by decide) (by decide) ?_
  exact W.iret (v := 0) hx hb hr (fun t ht hW => ⟨⟨rfl, by rw [ht]; exact hP2, va_K.moved hW.alike hK, hD2⟩, hS2.F ht⟩) (fun q hq => hS2.2.2 q hq) dL_get_16 hlk
theorem xg_get_1 {l : Launch} {w : ez_W} {fs : List Value} {v0 : Int32} (hw : w[0]? = some (.inr (6, fs))) (hM : ∀ (D : va_G) (cI : ClassId) (ad : Nat → Nat) (sz : Nat), xz_Met l xM116 D cI ad sz [.ref 0, .int v0] w "java/lang/IndexOutOfBoundsException") (D : va_G) (cI cL : ClassId) (ad : Nat → Nat) (qo : Nat) (o : Nat → Int64) (sz : Nat) : xh_Met l yL_get wsH_get D cI cL [.ref (ad 0), .int v0, .ref qo] (xX cI cL ad w qo o) sz 1 (xX cI cL ad w qo o) := by
  refine xh_of rfl (Nat.le_of_ble_eq_true rfl) ?_
  intro p e s m below meth c ls F hP hD hZ hl
  obtain ⟨hx, hb, hml, hown, hG, hr, hlk, htab, hK⟩ := F
  have hK0 : va_K D vwCl [(cI, .int)] s := hK.sub [0] rfl
  have hA0 : ∀ q, s.heap.size ≤ q → va_A (xX cI cL ad w qo o) s.heap.size q := fun q h => Or.inr h
  refine lv_aload_n hx hb dL_get_0 rfl (lv_at hl 2 rfl) ?_
  refine lv_iconst hx hb dL_get_1 (v := 0) rfl ?_
  refine lv_aload_n hx hb dL_get_2 rfl (lv_at hl 0 rfl) ?_
  refine lv_iload_n hx hb dL_get_3 rfl (lv_at hl 1 rfl) ?_
  refine xh_callX (Z1 := []) (Z2 := [xo cL qo o]) (ad := ad) (w := w) (Bs := [.int v0]) (rest := [.int 0, .ref qo]) hx hb hml hown hG hK0 xM116_ok xi_get (fun sz => hM D cI ad sz) hw rfl ⟨by decide, by decide⟩ hl.1 (Nat.le_of_ble_eq_true rfl) dL_get_4 (by decide) (by decide) hZ va_S.rf hA0 hP hD rfl (fun q ce H1 locs1 z1 z2 z3 hP1 hD1 hS1 => ?_)
  refine vx_catch (name := "java/lang/IndexOutOfBoundsException") hown [] ⟨0, 9, 12, 29⟩ [] htab (fun z hz => nomatch hz) (by decide) (by decide) (hG _ (ez_in_G xk_get_29)) (hZ.2.2.2.1 "java/lang/IndexOutOfBoundsException" (by simp [xz_exc])) z1 z2 z3 ?_
  refine lv_astore_n hx hb dL_get_12 rfl hl (by decide) rfl (fun ls1 hl1 => ?_)
  refine lv_iconst hx hb dL_get_13 (v := 1) rfl ?_
  exact W.iret (v := 1) hx hb hr (fun t ht hW => ⟨⟨rfl, by rw [ht]; exact hP1, va_K.moved hW.alike hK, hD1⟩, hS1.F ht⟩) (fun q hq => hS1.2.2 q hq) dL_get_14 hlk
theorem dL_tag_0 : decode cL_tag 0 = .ok (.aload_n 2, 1) := by decide +kernel
theorem dL_tag_1 : decode cL_tag 1 = .ok (.iconst 0, 1) := by decide +kernel
theorem dL_tag_2 : decode cL_tag 2 = .ok (.aload_n 0, 1) := by decide +kernel
theorem dL_tag_3 : decode cL_tag 3 = .ok (.iload_n 1, 1) := by decide +kernel
theorem dL_tag_4 : decode cL_tag 4 = .ok (.invokevirtual 47, 3) := by decide +kernel
theorem dL_tag_7 : decode cL_tag 7 = .ok (.i2l, 1) := by decide +kernel
theorem dL_tag_8 : decode cL_tag 8 = .ok (.lastore, 1) := by decide +kernel
theorem dL_tag_9 : decode cL_tag 9 = .ok (.goto 6, 3) := by decide +kernel
theorem dL_tag_12 : decode cL_tag 12 = .ok (.astore_n 3, 1) := by decide +kernel
theorem dL_tag_13 : decode cL_tag 13 = .ok (.iconst 1, 1) := by decide +kernel
theorem dL_tag_14 : decode cL_tag 14 = .ok (.ireturn, 1) := by decide +kernel
theorem dL_tag_15 : decode cL_tag 15 = .ok (.iconst 0, 1) := by decide +kernel
theorem dL_tag_16 : decode cL_tag 16 = .ok (.ireturn, 1) := by decide +kernel
abbrev wsH_tag : List Jvm.Cond := .codeWith yL_tag cL_tag 4 (some .int) [(0, 9, 12, 29)] :: ez_G
theorem xi_tag : xh_in 47 xM117 := ⟨by decide +kernel, by decide +kernel, by decide +kernel⟩
theorem xk_tag_29 : ez_in (.classLink RL 29 "java/lang/IndexOutOfBoundsException") = true := by decide +kernel
theorem xg_tag {l : Launch} {w w1 : ez_W} {fs : List Value} {v0 : Int32} {x : Int32} (hw : w[0]? = some (.inr (6, fs))) (hM : ∀ (D : va_G) (cI : ClassId) (ad : Nat → Nat) (sz : Nat), xz_MetP l xM117 D cI ad sz [.ref 0, .int v0] w (some (.int x)) w1) (D : va_G) (cI cL : ClassId) (ad : Nat → Nat) (qo : Nat) (o : Nat → Int64) (sz : Nat) : xh_Met l yL_tag wsH_tag D cI cL [.ref (ad 0), .int v0, .ref qo] (xX cI cL ad w qo o) sz 0 (xX cI cL ad w1 qo (vp_updL o (0 : Int32).toNatClampNeg x.toInt64)) := by
  refine xh_of rfl (Nat.le_of_ble_eq_true rfl) ?_
  intro p e s m below meth c ls F hP hD hZ hl
  obtain ⟨hx, hb, hml, hown, hG, hr, hlk, htab, hK⟩ := F
  have hK0 : va_K D vwCl [(cI, .int)] s := hK.sub [0] rfl
  have hA0 : ∀ q, s.heap.size ≤ q → va_A (xX cI cL ad w qo o) s.heap.size q := fun q h => Or.inr h
  refine lv_aload_n hx hb dL_tag_0 rfl (lv_at hl 2 rfl) ?_
  refine lv_iconst hx hb dL_tag_1 (v := 0) rfl ?_
  refine lv_aload_n hx hb dL_tag_2 rfl (lv_at hl 0 rfl) ?_
  refine lv_iload_n hx hb dL_tag_3 rfl (lv_at hl 1 rfl) ?_
  refine xh_callP (Z1 := []) (Z2 := [xo cL qo o]) (ad := ad) (w := w) (Bs := [.int v0]) (rest := [.int 0, .ref qo]) hx hb hml hown hG hK0 xM117_ok xi_tag (fun sz => hM D cI ad sz) hw rfl ⟨by decide, by decide⟩ hl.1 (Nat.le_of_ble_eq_true rfl) dL_tag_4 (Nat.zero_le _) (Nat.zero_le _) hZ va_S.rf hA0 hP hD rfl (fun H1 locs1 hP1 hD1 hS1 => ?_)
  refine lv_i2l hx hb dL_tag_7 (v := x.toInt64) rfl ?_
  refine va_last hx hb hK hP1 hD1 hS1 ((ez_z cI ad w1).length + 0) 1 xo_at rfl (i := 0) xo_in dL_tag_8 (fun H2 locs2 hP2 hD2 hS2 => ?_)
  rw [xo_set] at hP2 hD2
  refine lv_goto hx hb dL_tag_9 (tgt := 15) rfl ?_
  refine lv_iconst hx hb dL_tag_15 (v := 0) rfl ?_
  refine W.widen (k := 1) (n := 6) (by decide) (by decide) ?_
  exact W.iret (v := 0) hx hb hr (fun t ht hW => ⟨⟨rfl, by rw [ht]; exact hP2, va_K.moved hW.alike hK, hD2⟩, hS2.F ht⟩) (fun q hq => hS2.2.2 q hq) dL_tag_16 hlk
theorem xg_tag_1 {l : Launch} {w : ez_W} {fs : List Value} {v0 : Int32} (hw : w[0]? = some (.inr (6, fs))) (hM : ∀ (D : va_G) (cI : ClassId) (ad : Nat → Nat) (sz : Nat), xz_Met l xM117 D cI ad sz [.ref 0, .int v0] w "java/lang/IndexOutOfBoundsException") (D : va_G) (cI cL : ClassId) (ad : Nat → Nat) (qo : Nat) (o : Nat → Int64) (sz : Nat) : xh_Met l yL_tag wsH_tag D cI cL [.ref (ad 0), .int v0, .ref qo] (xX cI cL ad w qo o) sz 1 (xX cI cL ad w qo o) := by
  refine xh_of rfl (Nat.le_of_ble_eq_true rfl) ?_
  intro p e s m below meth c ls F hP hD hZ hl
  obtain ⟨hx, hb, hml, hown, hG, hr, hlk, htab, hK⟩ := F
  have hK0 : va_K D vwCl [(cI, .int)] s := hK.sub [0] rfl
  have hA0 : ∀ q, s.heap.size ≤ q → va_A (xX cI cL ad w qo o) s.heap.size q := fun q h => Or.inr h
  refine lv_aload_n hx hb dL_tag_0 rfl (lv_at hl 2 rfl) ?_
  refine lv_iconst hx hb dL_tag_1 (v := 0) rfl ?_
  refine lv_aload_n hx hb dL_tag_2 rfl (lv_at hl 0 rfl) ?_
  refine lv_iload_n hx hb dL_tag_3 rfl (lv_at hl 1 rfl) ?_
  refine xh_callX (Z1 := []) (Z2 := [xo cL qo o]) (ad := ad) (w := w) (Bs := [.int v0]) (rest := [.int 0, .ref qo]) hx hb hml hown hG hK0 xM117_ok xi_tag (fun sz => hM D cI ad sz) hw rfl ⟨by decide, by decide⟩ hl.1 (Nat.le_of_ble_eq_true rfl) dL_tag_4 (by decide) (by decide) hZ va_S.rf hA0 hP hD rfl (fun q ce H1 locs1 z1 z2 z3 hP1 hD1 hS1 => ?_)
  refine vx_catch (name := "java/lang/IndexOutOfBoundsException") hown [] ⟨0, 9, 12, 29⟩ [] htab (fun z hz => nomatch hz) (by decide) (by decide) (hG _ (ez_in_G xk_tag_29)) (hZ.2.2.2.1 "java/lang/IndexOutOfBoundsException" (by simp [xz_exc])) z1 z2 z3 ?_
  refine lv_astore_n hx hb dL_tag_12 rfl hl (by decide) rfl (fun ls1 hl1 => ?_)
  refine lv_iconst hx hb dL_tag_13 (v := 1) rfl ?_
  exact W.iret (v := 1) hx hb hr (fun t ht hW => ⟨⟨rfl, by rw [ht]; exact hP1, va_K.moved hW.alike hK, hD1⟩, hS1.F ht⟩) (fun q hq => hS1.2.2 q hq) dL_tag_14 hlk
theorem dL_is_0 : decode cL_is 0 = .ok (.aload_n 2, 1) := by decide +kernel
theorem dL_is_1 : decode cL_is 1 = .ok (.iconst 0, 1) := by decide +kernel
theorem dL_is_2 : decode cL_is 2 = .ok (.aload_n 0, 1) := by decide +kernel
theorem dL_is_3 : decode cL_is 3 = .ok (.iload_n 1, 1) := by decide +kernel
theorem dL_is_4 : decode cL_is 4 = .ok (.invokevirtual 50, 3) := by decide +kernel
theorem dL_is_7 : decode cL_is 7 = .ok (.ifCond .eq 7, 3) := by decide +kernel
theorem dL_is_10 : decode cL_is 10 = .ok (.lconst 1, 1) := by decide +kernel
theorem dL_is_11 : decode cL_is 11 = .ok (.goto 4, 3) := by decide +kernel
theorem dL_is_14 : decode cL_is 14 = .ok (.lconst 0, 1) := by decide +kernel
theorem dL_is_15 : decode cL_is 15 = .ok (.lastore, 1) := by decide +kernel
theorem dL_is_16 : decode cL_is 16 = .ok (.goto 6, 3) := by decide +kernel
theorem dL_is_19 : decode cL_is 19 = .ok (.astore_n 3, 1) := by decide +kernel
theorem dL_is_20 : decode cL_is 20 = .ok (.iconst 1, 1) := by decide +kernel
theorem dL_is_21 : decode cL_is 21 = .ok (.ireturn, 1) := by decide +kernel
theorem dL_is_22 : decode cL_is 22 = .ok (.iconst 0, 1) := by decide +kernel
theorem dL_is_23 : decode cL_is 23 = .ok (.ireturn, 1) := by decide +kernel
abbrev wsH_is : List Jvm.Cond := .codeWith yL_is cL_is 4 (some .int) [(0, 16, 19, 19)] :: ez_G
theorem xi_is : xh_in 50 xM118 := ⟨by decide +kernel, by decide +kernel, by decide +kernel⟩
theorem xk_is_19 : ez_in (.classLink RL 19 "java/lang/IllegalArgumentException") = true := by decide +kernel
theorem xg_is {l : Launch} {w w1 : ez_W} {fs : List Value} {v0 : Int32} {x : Int32} (hw : w[0]? = some (.inr (6, fs))) (hM : ∀ (D : va_G) (cI : ClassId) (ad : Nat → Nat) (sz : Nat), xz_MetP l xM118 D cI ad sz [.ref 0, .int v0] w (some (.int x)) w1) (D : va_G) (cI cL : ClassId) (ad : Nat → Nat) (qo : Nat) (o : Nat → Int64) (sz : Nat) : xh_Met l yL_is wsH_is D cI cL [.ref (ad 0), .int v0, .ref qo] (xX cI cL ad w qo o) sz 0 (xX cI cL ad w1 qo (vp_updL o (0 : Int32).toNatClampNeg (if x = 0 then 0 else 1))) := by
  refine xh_of rfl (Nat.le_of_ble_eq_true rfl) ?_
  intro p e s m below meth c ls F hP hD hZ hl
  obtain ⟨hx, hb, hml, hown, hG, hr, hlk, htab, hK⟩ := F
  have hK0 : va_K D vwCl [(cI, .int)] s := hK.sub [0] rfl
  have hA0 : ∀ q, s.heap.size ≤ q → va_A (xX cI cL ad w qo o) s.heap.size q := fun q h => Or.inr h
  refine lv_aload_n hx hb dL_is_0 rfl (lv_at hl 2 rfl) ?_
  refine lv_iconst hx hb dL_is_1 (v := 0) rfl ?_
  refine lv_aload_n hx hb dL_is_2 rfl (lv_at hl 0 rfl) ?_
  refine lv_iload_n hx hb dL_is_3 rfl (lv_at hl 1 rfl) ?_
  refine xh_callP (Z1 := []) (Z2 := [xo cL qo o]) (ad := ad) (w := w) (Bs := [.int v0]) (rest := [.int 0, .ref qo]) hx hb hml hown hG hK0 xM118_ok xi_is (fun sz => hM D cI ad sz) hw rfl ⟨by decide, by decide⟩ hl.1 (Nat.le_of_ble_eq_true rfl) dL_is_4 (Nat.zero_le _) (Nat.zero_le _) hZ va_S.rf hA0 hP hD rfl (fun H1 locs1 hP1 hD1 hS1 => ?_)
  refine lv_if_eq hx hb dL_is_7 (tgt := 14) rfl (fun hz => ?_) (fun hz => ?_)
  · rw [if_pos hz]
    refine lv_lconst hx hb dL_is_14 (v := 0) rfl ?_
    refine va_last hx hb hK hP1 hD1 hS1 ((ez_z cI ad w1).length + 0) 1 xo_at rfl (i := 0) xo_in dL_is_15 (fun H2 locs2 hP2 hD2 hS2 => ?_)
    rw [xo_set] at hP2 hD2
    refine lv_goto hx hb dL_is_16 (tgt := 22) rfl ?_
    refine lv_iconst hx hb dL_is_22 (v := 0) rfl ?_
    refine W.widen (k := 1) (n := 6) (by decide) (by decide) ?_
    exact W.iret (v := 0) hx hb hr (fun t ht hW => ⟨⟨rfl, by rw [ht]; exact hP2, va_K.moved hW.alike hK, hD2⟩, hS2.F ht⟩) (fun q hq => hS2.2.2 q hq) dL_is_23 hlk
  · rw [if_neg hz]
    refine lv_lconst hx hb dL_is_10 (v := 1) rfl ?_
    refine lv_goto hx hb dL_is_11 (tgt := 15) rfl ?_
    refine va_last hx hb hK hP1 hD1 hS1 ((ez_z cI ad w1).length + 0) 1 xo_at rfl (i := 0) xo_in dL_is_15 (fun H2 locs2 hP2 hD2 hS2 => ?_)
    rw [xo_set] at hP2 hD2
    refine lv_goto hx hb dL_is_16 (tgt := 22) rfl ?_
    refine lv_iconst hx hb dL_is_22 (v := 0) rfl ?_
    refine W.widen (k := 1) (n := 6) (by decide) (by decide) ?_
    exact W.iret (v := 0) hx hb hr (fun t ht hW => ⟨⟨rfl, by rw [ht]; exact hP2, va_K.moved hW.alike hK, hD2⟩, hS2.F ht⟩) (fun q hq => hS2.2.2 q hq) dL_is_23 hlk
theorem xg_is_1 {l : Launch} {w : ez_W} {fs : List Value} {v0 : Int32} (hw : w[0]? = some (.inr (6, fs))) (hM : ∀ (D : va_G) (cI : ClassId) (ad : Nat → Nat) (sz : Nat), xz_Met l xM118 D cI ad sz [.ref 0, .int v0] w "java/lang/IllegalArgumentException") (D : va_G) (cI cL : ClassId) (ad : Nat → Nat) (qo : Nat) (o : Nat → Int64) (sz : Nat) : xh_Met l yL_is wsH_is D cI cL [.ref (ad 0), .int v0, .ref qo] (xX cI cL ad w qo o) sz 1 (xX cI cL ad w qo o) := by
  refine xh_of rfl (Nat.le_of_ble_eq_true rfl) ?_
  intro p e s m below meth c ls F hP hD hZ hl
  obtain ⟨hx, hb, hml, hown, hG, hr, hlk, htab, hK⟩ := F
  have hK0 : va_K D vwCl [(cI, .int)] s := hK.sub [0] rfl
  have hA0 : ∀ q, s.heap.size ≤ q → va_A (xX cI cL ad w qo o) s.heap.size q := fun q h => Or.inr h
  refine lv_aload_n hx hb dL_is_0 rfl (lv_at hl 2 rfl) ?_
  refine lv_iconst hx hb dL_is_1 (v := 0) rfl ?_
  refine lv_aload_n hx hb dL_is_2 rfl (lv_at hl 0 rfl) ?_
  refine lv_iload_n hx hb dL_is_3 rfl (lv_at hl 1 rfl) ?_
  refine xh_callX (Z1 := []) (Z2 := [xo cL qo o]) (ad := ad) (w := w) (Bs := [.int v0]) (rest := [.int 0, .ref qo]) hx hb hml hown hG hK0 xM118_ok xi_is (fun sz => hM D cI ad sz) hw rfl ⟨by decide, by decide⟩ hl.1 (Nat.le_of_ble_eq_true rfl) dL_is_4 (by decide) (by decide) hZ va_S.rf hA0 hP hD rfl (fun q ce H1 locs1 z1 z2 z3 hP1 hD1 hS1 => ?_)
  refine vx_catch (name := "java/lang/IllegalArgumentException") hown [] ⟨0, 16, 19, 19⟩ [] htab (fun z hz => nomatch hz) (by decide) (by decide) (hG _ (ez_in_G xk_is_19)) (hZ.2.2.2.1 "java/lang/IllegalArgumentException" (by simp [xz_exc])) z1 z2 z3 ?_
  refine lv_astore_n hx hb dL_is_19 rfl hl (by decide) rfl (fun ls1 hl1 => ?_)
  refine lv_iconst hx hb dL_is_20 (v := 1) rfl ?_
  exact W.iret (v := 1) hx hb hr (fun t ht hW => ⟨⟨rfl, by rw [ht]; exact hP1, va_K.moved hW.alike hK, hD1⟩, hS1.F ht⟩) (fun q hq => hS1.2.2 q hq) dL_is_21 hlk
theorem dL_count_0 : decode cL_count 0 = .ok (.aload_n 2, 1) := by decide +kernel
theorem dL_count_1 : decode cL_count 1 = .ok (.iconst 0, 1) := by decide +kernel
theorem dL_count_2 : decode cL_count 2 = .ok (.aload_n 0, 1) := by decide +kernel
theorem dL_count_3 : decode cL_count 3 = .ok (.iload_n 1, 1) := by decide +kernel
theorem dL_count_4 : decode cL_count 4 = .ok (.invokevirtual 54, 3) := by decide +kernel
theorem dL_count_7 : decode cL_count 7 = .ok (.lastore, 1) := by decide +kernel
theorem dL_count_8 : decode cL_count 8 = .ok (.goto 6, 3) := by decide +kernel
theorem dL_count_11 : decode cL_count 11 = .ok (.astore_n 3, 1) := by decide +kernel
theorem dL_count_12 : decode cL_count 12 = .ok (.iconst 1, 1) := by decide +kernel
theorem dL_count_13 : decode cL_count 13 = .ok (.ireturn, 1) := by decide +kernel
theorem dL_count_14 : decode cL_count 14 = .ok (.iconst 0, 1) := by decide +kernel
theorem dL_count_15 : decode cL_count 15 = .ok (.ireturn, 1) := by decide +kernel
abbrev wsH_count : List Jvm.Cond := .codeWith yL_count cL_count 4 (some .int) [(0, 8, 11, 19)] :: ez_G
theorem xi_count : xh_in 54 xM119 := ⟨by decide +kernel, by decide +kernel, by decide +kernel⟩
theorem xk_count_19 : ez_in (.classLink RL 19 "java/lang/IllegalArgumentException") = true := by decide +kernel
theorem xg_count {l : Launch} {w w1 : ez_W} {fs : List Value} {v0 : Int32} {x : Int64} (hw : w[0]? = some (.inr (6, fs))) (hM : ∀ (D : va_G) (cI : ClassId) (ad : Nat → Nat) (sz : Nat), xz_MetP l xM119 D cI ad sz [.ref 0, .int v0] w (some (.long x)) w1) (D : va_G) (cI cL : ClassId) (ad : Nat → Nat) (qo : Nat) (o : Nat → Int64) (sz : Nat) : xh_Met l yL_count wsH_count D cI cL [.ref (ad 0), .int v0, .ref qo] (xX cI cL ad w qo o) sz 0 (xX cI cL ad w1 qo (vp_updL o (0 : Int32).toNatClampNeg x)) := by
  refine xh_of rfl (Nat.le_of_ble_eq_true rfl) ?_
  intro p e s m below meth c ls F hP hD hZ hl
  obtain ⟨hx, hb, hml, hown, hG, hr, hlk, htab, hK⟩ := F
  have hK0 : va_K D vwCl [(cI, .int)] s := hK.sub [0] rfl
  have hA0 : ∀ q, s.heap.size ≤ q → va_A (xX cI cL ad w qo o) s.heap.size q := fun q h => Or.inr h
  refine lv_aload_n hx hb dL_count_0 rfl (lv_at hl 2 rfl) ?_
  refine lv_iconst hx hb dL_count_1 (v := 0) rfl ?_
  refine lv_aload_n hx hb dL_count_2 rfl (lv_at hl 0 rfl) ?_
  refine lv_iload_n hx hb dL_count_3 rfl (lv_at hl 1 rfl) ?_
  refine xh_callP (Z1 := []) (Z2 := [xo cL qo o]) (ad := ad) (w := w) (Bs := [.int v0]) (rest := [.int 0, .ref qo]) hx hb hml hown hG hK0 xM119_ok xi_count (fun sz => hM D cI ad sz) hw rfl ⟨by decide, by decide⟩ hl.1 (Nat.le_of_ble_eq_true rfl) dL_count_4 (Nat.zero_le _) (Nat.zero_le _) hZ va_S.rf hA0 hP hD rfl (fun H1 locs1 hP1 hD1 hS1 => ?_)
  refine va_last hx hb hK hP1 hD1 hS1 ((ez_z cI ad w1).length + 0) 1 xo_at rfl (i := 0) xo_in dL_count_7 (fun H2 locs2 hP2 hD2 hS2 => ?_)
  rw [xo_set] at hP2 hD2
  refine lv_goto hx hb dL_count_8 (tgt := 14) rfl ?_
  refine lv_iconst hx hb dL_count_14 (v := 0) rfl ?_
  refine W.widen (k := 1) (n := 6) (by decide) (by decide) ?_
  exact W.iret (v := 0) hx hb hr (fun t ht hW => ⟨⟨rfl, by rw [ht]; exact hP2, va_K.moved hW.alike hK, hD2⟩, hS2.F ht⟩) (fun q hq => hS2.2.2 q hq) dL_count_15 hlk
theorem xg_count_1 {l : Launch} {w : ez_W} {fs : List Value} {v0 : Int32} (hw : w[0]? = some (.inr (6, fs))) (hM : ∀ (D : va_G) (cI : ClassId) (ad : Nat → Nat) (sz : Nat), xz_Met l xM119 D cI ad sz [.ref 0, .int v0] w "java/lang/IllegalArgumentException") (D : va_G) (cI cL : ClassId) (ad : Nat → Nat) (qo : Nat) (o : Nat → Int64) (sz : Nat) : xh_Met l yL_count wsH_count D cI cL [.ref (ad 0), .int v0, .ref qo] (xX cI cL ad w qo o) sz 1 (xX cI cL ad w qo o) := by
  refine xh_of rfl (Nat.le_of_ble_eq_true rfl) ?_
  intro p e s m below meth c ls F hP hD hZ hl
  obtain ⟨hx, hb, hml, hown, hG, hr, hlk, htab, hK⟩ := F
  have hK0 : va_K D vwCl [(cI, .int)] s := hK.sub [0] rfl
  have hA0 : ∀ q, s.heap.size ≤ q → va_A (xX cI cL ad w qo o) s.heap.size q := fun q h => Or.inr h
  refine lv_aload_n hx hb dL_count_0 rfl (lv_at hl 2 rfl) ?_
  refine lv_iconst hx hb dL_count_1 (v := 0) rfl ?_
  refine lv_aload_n hx hb dL_count_2 rfl (lv_at hl 0 rfl) ?_
  refine lv_iload_n hx hb dL_count_3 rfl (lv_at hl 1 rfl) ?_
  refine xh_callX (Z1 := []) (Z2 := [xo cL qo o]) (ad := ad) (w := w) (Bs := [.int v0]) (rest := [.int 0, .ref qo]) hx hb hml hown hG hK0 xM119_ok xi_count (fun sz => hM D cI ad sz) hw rfl ⟨by decide, by decide⟩ hl.1 (Nat.le_of_ble_eq_true rfl) dL_count_4 (by decide) (by decide) hZ va_S.rf hA0 hP hD rfl (fun q ce H1 locs1 z1 z2 z3 hP1 hD1 hS1 => ?_)
  refine vx_catch (name := "java/lang/IllegalArgumentException") hown [] ⟨0, 8, 11, 19⟩ [] htab (fun z hz => nomatch hz) (by decide) (by decide) (hG _ (ez_in_G xk_count_19)) (hZ.2.2.2.1 "java/lang/IllegalArgumentException" (by simp [xz_exc])) z1 z2 z3 ?_
  refine lv_astore_n hx hb dL_count_11 rfl hl (by decide) rfl (fun ls1 hl1 => ?_)
  refine lv_iconst hx hb dL_count_12 (v := 1) rfl ?_
  exact W.iret (v := 1) hx hb hr (fun t ht hW => ⟨⟨rfl, by rw [ht]; exact hP1, va_K.moved hW.alike hK, hD1⟩, hS1.F ht⟩) (fun q hq => hS1.2.2 q hq) dL_count_13 hlk
