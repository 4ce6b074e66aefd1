/-! ===== the law: its turns ===== -/
def xl_A (s : State) : Nat → Prop := fun q => s.heap.size ≤ q
def xl_F (p : Program) (s : State) (m : MethodId) (args : Array Value) (c : Code) (D : va_G) (cI cL : ClassId) (b L : Nat) (xs : Nat → Int32) : Prop :=
  p.tables.exec = Jvm.exec ∧ c.code = code ∧ c.maxLocals = 8 ∧ s.vm.findClass RL = some m.cls ∧ (∀ w ∈ ez_G, w.before args s = true) ∧ va_K D vwCl [(cI, .int), (cL, .long)] s ∧ va_X b L xs s s.heap ∧ b < s.heap.size ∧ xz_Z (xl_A s) s
def xl_T (cI cL : ClassId) (adc adm : Nat → Nat) (qo : Nat) (wc wm : ez_W) (o : Nat → Int64) : va_W := xX cI cL adc wc qo o ++ (ez_z cI adm wm ++ [])
def xl_lv (b : Nat) (adc adm : Nat → Nat) (qo i : Nat) : List (Nat × Value) := [(0, .ref b), (1, .ref (adc 0)), (2, .ref (adm 0)), (3, .ref qo), (4, .int (nI i))]
theorem xl_o {cI cL : ClassId} {adc adm : Nat → Nat} {qo : Nat} {wc wm : ez_W} {o : Nat → Int64} : (xl_T cI cL adc adm qo wc wm o)[(ez_z cI adc wc).length + 0]? = some (qo, .inl (cL, 1, .inr (.inl o))) := xj_l (xj_r (a := ez_z cI adc wc) (k := 0) rfl)
section XL
variable {p : Program} {l : Launch} {e : Env} {s : State} {m : MethodId} {args : Array Value} {below : List Frame} {meth : Method} {c : Code} {H : Heap} {locs : List Loc} {cells slots : Nat} {Q : State → Prop}
variable {D : va_G} {cI cL : ClassId} {adc adm : Nat → Nat} {qo b L pc : Nat} {xs : Nat → Int32} {ls : Array Slot} {rest st0 : List Value} {wc wc' wm wm' : ez_W} {o o' : Nat → Int64}
/-- an int of the script -/
theorem xl_ld {R : Room} (F : xl_F p s m args c D cI cL b L xs) (hL : L ≤ 2560) (hS : va_S (xl_A s) s.heap H locs) {i j : Nat} {jz : Int} (d0 : decode code pc = .ok (.aload_n 0, 1)) (d1 : decode code (pc + 1) = .ok (.iload 4, 2)) (d3 : decode code (pc + 3) = .ok (.iconst jz, 1)) (d4 : decode code (pc + 4) = .ok (.iadd, 1)) (d5 : decode code (pc + 5) = .ok (.iaload, 1))
    (hl0 : ls[0]? = some (.val (.ref b))) (hl4 : ls[4]? = some (.val (.int (nI i)))) (hj : Int32.ofInt jz = nI j) (hi : i + j < L) (kk : W p l e R s m args below meth c H locs cells slots Q (F0 m (pc + 6) ls (.int (xs (i + j)) :: rest))) : W p l e R s m args below meth c H locs cells slots Q (F0 m pc ls rest) := by
  obtain ⟨hx, hb, hml, hown, hG, hK, hX, hbl, hZ⟩ := F
  refine lv_aload_n hx hb d0 rfl hl0 ?_
  refine lv_iload hx hb d1 hl4 ?_
  refine lv_iconst hx hb d3 hj ?_
  refine lv_iadd hx hb d4 ?_
  rw [nI_add]
  refine va_sld (A := xl_A s) hx hb hX hbl (Nat.not_le.mpr hbl) hS (nI_in hi (by omega)) d5 ?_
  rw [nI_clamp (by omega)]
  exact kk
theorem xl_call {index maxL n : Nat} {y : MethodName} {bytes : ByteArray} {hh : List (Nat × Nat × Nat × Nat)} {As : List Value} {k : Int32} (F : xl_F p s m args c D cI cL b L xs) (hM : ∀ sz, xh_Met l y (.codeWith y bytes maxL (some .int) hh :: ez_G) D cI cL As (xX cI cL adc wc qo o) sz k (xX cI cL adc wc' qo o'))
    (hw : ez_in (.codeWith y bytes maxL (some .int) hh) = true ∧ ez_in (.methodLink RL index y) = true ∧ ez_in (.static y) = true ∧ ez_in (.initialized y.cls) = true) (hd : y.cls ≠ "java/lang/invoke/MethodHandle" ∧ y.cls ≠ "java/lang/invoke/VarHandle" ∧ (parseMethodDescriptor y.desc).map (fun d => d.parameters.length) = some n) (hmx : maxL ≤ 8) (hn : As.length = n) (hsz : ls.size = 8) (hst : st0 = As.reverse ++ rest) (hcat : (rest.map fun v => v.category).sum ≤ 8) (hdg : decode code pc = .ok (.invokestatic index, 3)) (hc : cells + 1 ≤ room_1.cells) (hs : slots + 6 ≤ room_1.slots)
    (hP : va_P D vwCl (xl_T cI cL adc adm qo wc wm o) H) (hD : va_D (xl_A s) (xl_T cI cL adc adm qo wc wm o)) (hS : va_S (xl_A s) s.heap H locs)
    (kk : ∀ (H1 : Heap) (locs1 : List Loc), va_P D vwCl (xl_T cI cL adc adm qo wc' wm o') H1 → va_D (xl_A s) (xl_T cI cL adc adm qo wc' wm o') → va_S (xl_A s) s.heap H1 locs1 → W p l e room_1 s m args below meth c H1 locs1 (cells + 1) (slots + 6) Q (F0 m (pc + 3) ls (.int k :: rest))) : W p l e room_1 s m args below meth c H locs cells slots Q (F0 m pc ls st0) := by
  obtain ⟨hx, hb, hml, hown, hG, hK, hX, hbl, hZ⟩ := F
  obtain ⟨w1, w2, w3, w4⟩ := hw
  have hgood : GoodIn ez_G (va_wsS RL index y (.codeWith y bytes maxL (some .int) hh :: ez_G)) := by
    refine ez_G_good (fun w hw => ?_)
    unfold va_wsS at hw
    simp only [List.mem_append, List.mem_cons, List.not_mem_nil, or_false] at hw
    rcases hw with (rfl | rfl | rfl) | rfl | hw
    · exact ez_in_G w2
    · exact ez_in_G w3
    · exact ez_in_G w4
    · exact ez_in_G w1
    · exact hw
  have hA0 : ∀ q : Nat, s.heap.size ≤ q → xl_A s q := fun q h => h
  have hPX : va_P D vwCl (xX cI cL adc wc qo o) H := xj_Pl hP
  have hDX : va_D (xl_A s) (xX cI cL adc wc qo o) := xj_Dl hD
  exact xc_M (Z1 := []) (X := xX cI cL adc wc qo o) (X' := xX cI cL adc wc' qo o') (Z2 := ez_z cI adm wm ++ []) (tys := [(cI, .int), (cL, .long)]) (r := some (.int k)) (a := As.toArray) (mc := 1) (ms := 6) (vx_runSW (nL := 8) (Ts := ez_G) (own := RL) (index := index) ⟨hx, hb, hml, hown, hG⟩ (hM H.size)
    (vx_cwSW n hG hgood rfl rfl rfl hd ⟨by decide, Nat.le_trans (Nat.add_le_add_right (Nat.add_le_add_left (Nat.add_le_add_right hmx 11) 8) 200) (by decide)⟩)
    ⟨xh_blind, fun U hU hW => ⟨rfl, by rw [hU], by rw [hU]; exact hPX, va_K.moved hW.alike hK, hDX.weaken (fun _ _ _ _ => trivial), hZ.at hS hU hW (fun q h => by
      rcases h with ⟨k, e, h⟩ | h
      · exact hDX.2 k (q, e) h
      · exact Nat.le_trans hS.1 h)⟩⟩
    rfl hn hsz hst (lv_room hcat) hdg ⟨hc, hs⟩) hS hA0 hP hD kk
/-- a call of the reference -/
theorem xl_mod {j k : Nat} {N : ez_M} {Bs : List Value} {r : Option Value} {z : Int32} {wx : ez_W} (F : xl_F p s m args c D cI cL b L xs) (hz : zl_W z wx wm) (hN : ez_ms[j]? = some N) (h7 : N.1 = 7) (hin : xh_in k N) (hM : ∀ (D : va_G) (cI : ClassId) (ad : Nat → Nat) (sz : Nat), xz_MetP l N D cI ad sz (.ref 0 :: Bs) wm r wm') (hn : Bs.length = N.2.2.2.2.2.1) (hrm : N.2.2.2.2.2.2.1 + 1 ≤ 12 ∧ 8 + (N.2.2.2.1 + 11) + N.2.2.2.2.2.2.2 ≤ 462) (hsz : ls.size = 8)
    (hcat : (rest.map fun v => v.category).sum ≤ 8) (hdg : decode code pc = .ok (.invokevirtual k, 3)) (hc : cells ≤ room_1.cells) (hs : slots ≤ room_1.slots) (hP : va_P D vwCl (xl_T cI cL adc adm qo wc wm o) H) (hD : va_D (xl_A s) (xl_T cI cL adc adm qo wc wm o)) (hS : va_S (xl_A s) s.heap H locs) (hst : st0 = (Bs.map (ez_v adm)).reverse ++ .ref (adm 0) :: rest)
    (kk : ∀ (H1 : Heap) (locs1 : List Loc), va_P D vwCl (xl_T cI cL adc adm qo wc wm' o) H1 → va_D (xl_A s) (xl_T cI cL adc adm qo wc wm' o) → va_S (xl_A s) s.heap H1 locs1 → W p l e room_1 s m args below meth c H1 locs1 cells slots Q (F0 m (pc + 3) ls ((r.map (ez_v adm)).toList ++ rest))) : W p l e room_1 s m args below meth c H locs cells slots Q (F0 m pc ls st0) := by
  obtain ⟨hx, hb, hml, hown, hG, hK, hX, hbl, hZ⟩ := F
  obtain ⟨-, fs, hw⟩ := xt_cell hz
  rw [← h7] at hw
  exact xh_callP (Z1 := xX cI cL adc wc qo o) (Z2 := []) (ad := adm) (w := wm) (w1 := wm') (r := r) (Bs := Bs) (rest := rest) hx hb hml hown hG (hK.sub [0] rfl) hN hin (fun sz => hM D cI adm sz) hw hn hrm hsz hcat hdg hc hs hZ hS (fun q h => h) hP hD hst kk
/-- the reference says what it threw -/
theorem xl_thr {z : Int32} {wx : ez_W} (F : xl_F p s m args c D cI cL b L xs) (hz : zl_W z wx wm) (hi : xh_in 68 xM62) (hsz : ls.size = 8) (hcat : (rest.map fun v => v.category).sum ≤ 8) (hdg : decode code pc = .ok (.invokevirtual 68, 3)) (hc : cells ≤ room_1.cells) (hs : slots ≤ room_1.slots) (hP : va_P D vwCl (xl_T cI cL adc adm qo wc wm o) H) (hD : va_D (xl_A s) (xl_T cI cL adc adm qo wc wm o)) (hS : va_S (xl_A s) s.heap H locs)
    (kk : ∀ (H1 : Heap) (locs1 : List Loc), va_P D vwCl (xl_T cI cL adc adm qo wc wm o) H1 → va_D (xl_A s) (xl_T cI cL adc adm qo wc wm o) → va_S (xl_A s) s.heap H1 locs1 → W p l e room_1 s m args below meth c H1 locs1 cells slots Q (F0 m (pc + 3) ls (.int z :: rest))) : W p l e room_1 s m args below meth c H locs cells slots Q (F0 m pc ls (.ref (adm 0) :: rest)) :=
  xl_mod F hz xM62_ok rfl hi (Bs := []) (r := some (.int z)) (fun D cI ad sz => xt_thrown hz D cI ad sz) rfl ⟨by decide, by decide⟩ hsz hcat hdg hc hs hP hD hS rfl kk
theorem xl_same (x : Int64) : lg_cmp x x = 0 := by simp [lg_cmp, Int64.lt_irrefl]
theorem xi_thr : xh_in 68 xM62 := ⟨by decide +kernel, by decide +kernel, by decide +kernel⟩
theorem xw_k72 : ez_in (.constantLong RL 72 4294967295) = true := by decide +kernel
theorem xw_put : ez_in (.codeWith yL_put cL_put 4 (some .int) [(0, 9, 12, 13)]) = true ∧ ez_in (.methodLink RL 62 yL_put) = true ∧ ez_in (.static yL_put) = true ∧ ez_in (.initialized yL_put.cls) = true := ⟨by decide +kernel, by decide +kernel, by decide +kernel, by decide +kernel⟩
theorem xim_put : xh_in 67 xM63 := ⟨by decide +kernel, by decide +kernel, by decide +kernel⟩
theorem xl_put (hlt : l.stackTraces = false) (F : xl_F p s m args c D cI cL b L xs) (hL : L ≤ 2560) {t : Nat} (ht : 5 * t + 5 ≤ L) {z : Int32} (hz : zl_W z wc wm) (hP : va_P D vwCl (xl_T cI cL adc adm qo wc wm o) H) (hD : va_D (xl_A s) (xl_T cI cL adc adm qo wc wm o)) (hS : va_S (xl_A s) s.heap H locs) (hl : lv_has ls 8 (xl_lv b adc adm qo (5 * t))) (hc : cells + 1 ≤ room_1.cells) (hs : slots + 6 ≤ room_1.slots)
    (kk : ∀ (z' : Int32) (wc' wm' : ez_W) (o' : Nat → Int64) (H1 : Heap) (locs1 : List Loc) (ls1 : Array Slot), zl_W z' wc' wm' → va_P D vwCl (xl_T cI cL adc adm qo wc' wm' o') H1 → va_D (xl_A s) (xl_T cI cL adc adm qo wc' wm' o') → va_S (xl_A s) s.heap H1 locs1 → lv_has ls1 8 (xl_lv b adc adm qo (5 * t)) → W p l e room_1 s m args below meth c H1 locs1 (cells + 1) (slots + 6) Q (F0 m 883 ls1 [])) : W p l e room_1 s m args below meth c H locs cells slots Q (F0 m 104 ls []) := by
  obtain ⟨k, wc', wm', o', y, hz', hh, hm, ho⟩ := xt_put hlt hz (xs (5 * t + 1)) o
  have hF := F
  obtain ⟨hx, hb, hml, hown, hG, hK, hX, hbl, hZ⟩ := hF
  refine lv_aload_n hx hb dW_104 rfl (lv_at hl 1 rfl) ?_
  refine xl_ld F hL hS dW_105 dW_106 dW_108 dW_109 dW_110 (lv_at hl 0 rfl) (lv_at hl 4 rfl) (j := 1) rfl (by omega) ?_
  refine lv_aload_n hx hb dW_111 rfl (lv_at hl 3 rfl) ?_
  refine xl_call (As := [.ref (adc 0), .int (xs (5 * t + 1)), .ref qo]) (n := 3) (rest := []) F (fun sz => hh D cI cL adc qo sz) xw_put ⟨by decide +kernel, by decide +kernel, by decide +kernel⟩ (by decide) rfl hl.1 rfl (Nat.le_of_ble_eq_true rfl) dW_112 hc hs hP hD hS (fun H1 locs1 hP hD hS => ?_)
  refine lv_istore hx hb dW_115 hl (by decide) rfl (fun ls1 hl1 => ?_)
  have hl : lv_has ls1 8 [(0, .ref b), (1, .ref (adc 0)), (2, .ref (adm 0)), (3, .ref qo), (4, .int (nI (5 * t))), (5, .int k)] := lv_sub hl1 [1, 2, 3, 4, 5, 0] rfl
  refine lv_aload_n hx hb dW_117 rfl (lv_at hl 2 rfl) ?_
  refine xl_ld F hL hS dW_118 dW_119 dW_121 dW_122 dW_123 (lv_at hl 0 rfl) (lv_at hl 4 rfl) (j := 1) rfl (by omega) ?_
  refine xl_mod (Bs := [.int (xs (5 * t + 1))]) (rest := []) F hz xM63_ok rfl xim_put hm rfl ⟨by decide, by decide⟩ hl.1 (Nat.le_of_ble_eq_true rfl) dW_124 hc hs hP hD hS rfl (fun H2 locs2 hP hD hS => ?_)
  refine lv_istore hx hb dW_127 hl (by decide) rfl (fun ls2 hl2 => ?_)
  have hl : lv_has ls2 8 [(0, .ref b), (1, .ref (adc 0)), (2, .ref (adm 0)), (3, .ref qo), (4, .int (nI (5 * t))), (5, .int k), (6, .int y)] := lv_sub hl2 [1, 2, 3, 4, 5, 6, 0] rfl
  refine lv_aload_n hx hb dW_129 rfl (lv_at hl 2 rfl) ?_
  refine xl_thr F hz' xi_thr hl.1 (Nat.le_of_ble_eq_true rfl) dW_130 hc hs hP hD hS (fun H3 locs3 hP hD hS => ?_)
  refine lv_iload hx hb dW_133 (lv_at hl 5 rfl) ?_
  refine lv_icmp_eq hx hb dW_135 (tgt := 140) rfl (fun _ => ?_) (fun z => absurd rfl z)
  refine lv_iload hx hb dW_140 (lv_at hl 5 rfl) ?_
  refine lv_if_ne hx hb dW_142 (tgt := 157) rfl (fun _ => ?_) (fun z => ?_)
  · refine lv_goto hx hb dW_157 (tgt := 883) rfl ?_
    exact kk k wc' wm' o' _ _ _ hz' hP hD hS (lv_sub hl [0, 1, 2, 3, 4] rfl)
  · skip
    refine lv_aload_n hx hb dW_145 rfl (lv_at hl 3 rfl) ?_
    refine lv_iconst hx hb dW_146 (v := 0) rfl ?_
    refine va_lald hx hb hK hP ((ez_z cI adc wc').length + 0) 1 xl_o rfl (i := 0) xo_in dW_147 ?_
    rw [ho z]
    refine lv_iload hx hb dW_148 (lv_at hl 6 rfl) ?_
    refine lv_i2l hx hb dW_150 rfl ?_
    refine W.lcmp hx hb dW_151 ?_
    rw [xl_same]
    refine lv_if_eq hx hb dW_152 (tgt := 157) rfl (fun _ => ?_) (fun z => absurd rfl z)
    refine lv_goto hx hb dW_157 (tgt := 883) rfl ?_
    exact kk k wc' wm' o' _ _ _ hz' hP hD hS (lv_sub hl [0, 1, 2, 3, 4] rfl)
theorem xw_more : ez_in (.codeWith yL_more cL_more 7 (some .int) [(0, 13, 16, 19), (0, 13, 20, 13)]) = true ∧ ez_in (.methodLink RL 74 yL_more) = true ∧ ez_in (.static yL_more) = true ∧ ez_in (.initialized yL_more.cls) = true := ⟨by decide +kernel, by decide +kernel, by decide +kernel, by decide +kernel⟩
theorem xim_more : xh_in 77 xM65 := ⟨by decide +kernel, by decide +kernel, by decide +kernel⟩
theorem xl_more (hlt : l.stackTraces = false) (F : xl_F p s m args c D cI cL b L xs) (hL : L ≤ 2560) {t : Nat} (ht : 5 * t + 5 ≤ L) {z : Int32} (hz : zl_W z wc wm) (hP : va_P D vwCl (xl_T cI cL adc adm qo wc wm o) H) (hD : va_D (xl_A s) (xl_T cI cL adc adm qo wc wm o)) (hS : va_S (xl_A s) s.heap H locs) (hl : lv_has ls 8 (xl_lv b adc adm qo (5 * t))) (hc : cells + 1 ≤ room_1.cells) (hs : slots + 6 ≤ room_1.slots)
    (kk : ∀ (z' : Int32) (wc' wm' : ez_W) (o' : Nat → Int64) (H1 : Heap) (locs1 : List Loc) (ls1 : Array Slot), zl_W z' wc' wm' → va_P D vwCl (xl_T cI cL adc adm qo wc' wm' o') H1 → va_D (xl_A s) (xl_T cI cL adc adm qo wc' wm' o') → va_S (xl_A s) s.heap H1 locs1 → lv_has ls1 8 (xl_lv b adc adm qo (5 * t)) → W p l e room_1 s m args below meth c H1 locs1 (cells + 1) (slots + 6) Q (F0 m 883 ls1 [])) : W p l e room_1 s m args below meth c H locs cells slots Q (F0 m 160 ls []) := by
  obtain ⟨k, wc', wm', o', y, hz', hh, hm, ho⟩ := xt_more hlt hz ((xs (5 * t + 1)).toInt64 <<< ((32 : Int32).toInt64 &&& 63) ||| ((xs (5 * t + 2)).toInt64 &&& 4294967295)) (xs (5 * t + 3)) (xs (5 * t + 4)) o
  have hF := F
  obtain ⟨hx, hb, hml, hown, hG, hK, hX, hbl, hZ⟩ := hF
  refine lv_aload_n hx hb dW_160 rfl (lv_at hl 1 rfl) ?_
  refine xl_ld F hL hS dW_161 dW_162 dW_164 dW_165 dW_166 (lv_at hl 0 rfl) (lv_at hl 4 rfl) (j := 1) rfl (by omega) ?_
  refine lv_i2l hx hb dW_167 rfl ?_
  refine lv_bipush hx hb dW_168 (v := 32) rfl ?_
  refine lv_lshl hx hb dW_170 rfl ?_
  refine xl_ld F hL hS dW_171 dW_172 dW_174 dW_175 dW_176 (lv_at hl 0 rfl) (lv_at hl 4 rfl) (j := 2) rfl (by omega) ?_
  refine lv_i2l hx hb dW_177 rfl ?_
  refine lv_ldc2 hx hb hown (hG _ (ez_in_G xw_k72)) dW_178 ?_
  refine lv_land hx hb dW_181 ?_
  refine lv_lor hx hb dW_182 ?_
  refine xl_ld F hL hS dW_183 dW_184 dW_186 dW_187 dW_188 (lv_at hl 0 rfl) (lv_at hl 4 rfl) (j := 3) rfl (by omega) ?_
  refine xl_ld F hL hS dW_189 dW_190 dW_192 dW_193 dW_194 (lv_at hl 0 rfl) (lv_at hl 4 rfl) (j := 4) rfl (by omega) ?_
  refine lv_aload_n hx hb dW_195 rfl (lv_at hl 3 rfl) ?_
  refine xl_call (As := [.ref (adc 0), .long ((xs (5 * t + 1)).toInt64 <<< ((32 : Int32).toInt64 &&& 63) ||| ((xs (5 * t + 2)).toInt64 &&& 4294967295)), .int (xs (5 * t + 3)), .int (xs (5 * t + 4)), .ref qo]) (n := 5) (rest := []) F (fun sz => hh D cI cL adc qo sz) xw_more ⟨by decide +kernel, by decide +kernel, by decide +kernel⟩ (by decide) rfl hl.1 rfl (Nat.le_of_ble_eq_true rfl) dW_196 hc hs hP hD hS (fun H1 locs1 hP hD hS => ?_)
  refine lv_istore hx hb dW_199 hl (by decide) rfl (fun ls1 hl1 => ?_)
  have hl : lv_has ls1 8 [(0, .ref b), (1, .ref (adc 0)), (2, .ref (adm 0)), (3, .ref qo), (4, .int (nI (5 * t))), (5, .int k)] := lv_sub hl1 [1, 2, 3, 4, 5, 0] rfl
  refine lv_aload_n hx hb dW_201 rfl (lv_at hl 2 rfl) ?_
  refine xl_ld F hL hS dW_202 dW_203 dW_205 dW_206 dW_207 (lv_at hl 0 rfl) (lv_at hl 4 rfl) (j := 1) rfl (by omega) ?_
  refine lv_i2l hx hb dW_208 rfl ?_
  refine lv_bipush hx hb dW_209 (v := 32) rfl ?_
  refine lv_lshl hx hb dW_211 rfl ?_
  refine xl_ld F hL hS dW_212 dW_213 dW_215 dW_216 dW_217 (lv_at hl 0 rfl) (lv_at hl 4 rfl) (j := 2) rfl (by omega) ?_
  refine lv_i2l hx hb dW_218 rfl ?_
  refine lv_ldc2 hx hb hown (hG _ (ez_in_G xw_k72)) dW_219 ?_
  refine lv_land hx hb dW_222 ?_
  refine lv_lor hx hb dW_223 ?_
  refine xl_ld F hL hS dW_224 dW_225 dW_227 dW_228 dW_229 (lv_at hl 0 rfl) (lv_at hl 4 rfl) (j := 3) rfl (by omega) ?_
  refine xl_ld F hL hS dW_230 dW_231 dW_233 dW_234 dW_235 (lv_at hl 0 rfl) (lv_at hl 4 rfl) (j := 4) rfl (by omega) ?_
  refine xl_mod (Bs := [.long ((xs (5 * t + 1)).toInt64 <<< ((32 : Int32).toInt64 &&& 63) ||| ((xs (5 * t + 2)).toInt64 &&& 4294967295)), .int (xs (5 * t + 3)), .int (xs (5 * t + 4))]) (rest := []) F hz xM65_ok rfl xim_more hm rfl ⟨by decide, by decide⟩ hl.1 (Nat.le_of_ble_eq_true rfl) dW_236 hc hs hP hD hS rfl (fun H2 locs2 hP hD hS => ?_)
  refine lv_istore hx hb dW_239 hl (by decide) rfl (fun ls2 hl2 => ?_)
  have hl : lv_has ls2 8 [(0, .ref b), (1, .ref (adc 0)), (2, .ref (adm 0)), (3, .ref qo), (4, .int (nI (5 * t))), (5, .int k), (6, .int y)] := lv_sub hl2 [1, 2, 3, 4, 5, 6, 0] rfl
  refine lv_aload_n hx hb dW_241 rfl (lv_at hl 2 rfl) ?_
  refine xl_thr F hz' xi_thr hl.1 (Nat.le_of_ble_eq_true rfl) dW_242 hc hs hP hD hS (fun H3 locs3 hP hD hS => ?_)
  refine lv_iload hx hb dW_245 (lv_at hl 5 rfl) ?_
  refine lv_icmp_eq hx hb dW_247 (tgt := 252) rfl (fun _ => ?_) (fun z => absurd rfl z)
  refine lv_iload hx hb dW_252 (lv_at hl 5 rfl) ?_
  refine lv_if_ne hx hb dW_254 (tgt := 269) rfl (fun _ => ?_) (fun z => ?_)
  · refine lv_goto hx hb dW_269 (tgt := 883) rfl ?_
    exact kk k wc' wm' o' _ _ _ hz' hP hD hS (lv_sub hl [0, 1, 2, 3, 4] rfl)
  · skip
    refine lv_aload_n hx hb dW_257 rfl (lv_at hl 3 rfl) ?_
    refine lv_iconst hx hb dW_258 (v := 0) rfl ?_
    refine va_lald hx hb hK hP ((ez_z cI adc wc').length + 0) 1 xl_o rfl (i := 0) xo_in dW_259 ?_
    rw [ho z]
    refine lv_iload hx hb dW_260 (lv_at hl 6 rfl) ?_
    refine lv_i2l hx hb dW_262 rfl ?_
    refine W.lcmp hx hb dW_263 ?_
    rw [xl_same]
    refine lv_if_eq hx hb dW_264 (tgt := 269) rfl (fun _ => ?_) (fun z => absurd rfl z)
    refine lv_goto hx hb dW_269 (tgt := 883) rfl ?_
    exact kk k wc' wm' o' _ _ _ hz' hP hD hS (lv_sub hl [0, 1, 2, 3, 4] rfl)
theorem xw_line : ez_in (.codeWith yL_line cL_line 7 (some .int) [(0, 14, 17, 19), (0, 14, 21, 13)]) = true ∧ ez_in (.methodLink RL 78 yL_line) = true ∧ ez_in (.static yL_line) = true ∧ ez_in (.initialized yL_line.cls) = true := ⟨by decide +kernel, by decide +kernel, by decide +kernel, by decide +kernel⟩
theorem xim_line : xh_in 81 xM66 := ⟨by decide +kernel, by decide +kernel, by decide +kernel⟩
theorem xl_line (hlt : l.stackTraces = false) (F : xl_F p s m args c D cI cL b L xs) (hL : L ≤ 2560) {t : Nat} (ht : 5 * t + 5 ≤ L) {z : Int32} (hz : zl_W z wc wm) (hP : va_P D vwCl (xl_T cI cL adc adm qo wc wm o) H) (hD : va_D (xl_A s) (xl_T cI cL adc adm qo wc wm o)) (hS : va_S (xl_A s) s.heap H locs) (hl : lv_has ls 8 (xl_lv b adc adm qo (5 * t))) (hc : cells + 1 ≤ room_1.cells) (hs : slots + 6 ≤ room_1.slots)
    (kk : ∀ (z' : Int32) (wc' wm' : ez_W) (o' : Nat → Int64) (H1 : Heap) (locs1 : List Loc) (ls1 : Array Slot), zl_W z' wc' wm' → va_P D vwCl (xl_T cI cL adc adm qo wc' wm' o') H1 → va_D (xl_A s) (xl_T cI cL adc adm qo wc' wm' o') → va_S (xl_A s) s.heap H1 locs1 → lv_has ls1 8 (xl_lv b adc adm qo (5 * t)) → W p l e room_1 s m args below meth c H1 locs1 (cells + 1) (slots + 6) Q (F0 m 883 ls1 [])) : W p l e room_1 s m args below meth c H locs cells slots Q (F0 m 272 ls []) := by
  obtain ⟨k, wc', wm', o', y, hz', hh, hm, ho⟩ := xt_line hlt hz (xs (5 * t + 1)) (xs (5 * t + 2)) (xs (5 * t + 3)) (xs (5 * t + 4)) o
  have hF := F
  obtain ⟨hx, hb, hml, hown, hG, hK, hX, hbl, hZ⟩ := hF
  refine lv_aload_n hx hb dW_272 rfl (lv_at hl 1 rfl) ?_
  refine xl_ld F hL hS dW_273 dW_274 dW_276 dW_277 dW_278 (lv_at hl 0 rfl) (lv_at hl 4 rfl) (j := 1) rfl (by omega) ?_
  refine xl_ld F hL hS dW_279 dW_280 dW_282 dW_283 dW_284 (lv_at hl 0 rfl) (lv_at hl 4 rfl) (j := 2) rfl (by omega) ?_
  refine xl_ld F hL hS dW_285 dW_286 dW_288 dW_289 dW_290 (lv_at hl 0 rfl) (lv_at hl 4 rfl) (j := 3) rfl (by omega) ?_
  refine xl_ld F hL hS dW_291 dW_292 dW_294 dW_295 dW_296 (lv_at hl 0 rfl) (lv_at hl 4 rfl) (j := 4) rfl (by omega) ?_
  refine lv_aload_n hx hb dW_297 rfl (lv_at hl 3 rfl) ?_
  refine xl_call (As := [.ref (adc 0), .int (xs (5 * t + 1)), .int (xs (5 * t + 2)), .int (xs (5 * t + 3)), .int (xs (5 * t + 4)), .ref qo]) (n := 6) (rest := []) F (fun sz => hh D cI cL adc qo sz) xw_line ⟨by decide +kernel, by decide +kernel, by decide +kernel⟩ (by decide) rfl hl.1 rfl (Nat.le_of_ble_eq_true rfl) dW_298 hc hs hP hD hS (fun H1 locs1 hP hD hS => ?_)
  refine lv_istore hx hb dW_301 hl (by decide) rfl (fun ls1 hl1 => ?_)
  have hl : lv_has ls1 8 [(0, .ref b), (1, .ref (adc 0)), (2, .ref (adm 0)), (3, .ref qo), (4, .int (nI (5 * t))), (5, .int k)] := lv_sub hl1 [1, 2, 3, 4, 5, 0] rfl
  refine lv_aload_n hx hb dW_303 rfl (lv_at hl 2 rfl) ?_
  refine xl_ld F hL hS dW_304 dW_305 dW_307 dW_308 dW_309 (lv_at hl 0 rfl) (lv_at hl 4 rfl) (j := 1) rfl (by omega) ?_
  refine xl_ld F hL hS dW_310 dW_311 dW_313 dW_314 dW_315 (lv_at hl 0 rfl) (lv_at hl 4 rfl) (j := 2) rfl (by omega) ?_
  refine xl_ld F hL hS dW_316 dW_317 dW_319 dW_320 dW_321 (lv_at hl 0 rfl) (lv_at hl 4 rfl) (j := 3) rfl (by omega) ?_
  refine xl_ld F hL hS dW_322 dW_323 dW_325 dW_326 dW_327 (lv_at hl 0 rfl) (lv_at hl 4 rfl) (j := 4) rfl (by omega) ?_
  refine xl_mod (Bs := [.int (xs (5 * t + 1)), .int (xs (5 * t + 2)), .int (xs (5 * t + 3)), .int (xs (5 * t + 4))]) (rest := []) F hz xM66_ok rfl xim_line hm rfl ⟨by decide, by decide⟩ hl.1 (Nat.le_of_ble_eq_true rfl) dW_328 hc hs hP hD hS rfl (fun H2 locs2 hP hD hS => ?_)
  refine lv_istore hx hb dW_331 hl (by decide) rfl (fun ls2 hl2 => ?_)
  have hl : lv_has ls2 8 [(0, .ref b), (1, .ref (adc 0)), (2, .ref (adm 0)), (3, .ref qo), (4, .int (nI (5 * t))), (5, .int k), (6, .int y)] := lv_sub hl2 [1, 2, 3, 4, 5, 6, 0] rfl
  refine lv_aload_n hx hb dW_333 rfl (lv_at hl 2 rfl) ?_
  refine xl_thr F hz' xi_thr hl.1 (Nat.le_of_ble_eq_true rfl) dW_334 hc hs hP hD hS (fun H3 locs3 hP hD hS => ?_)
  refine lv_iload hx hb dW_337 (lv_at hl 5 rfl) ?_
  refine lv_icmp_eq hx hb dW_339 (tgt := 344) rfl (fun _ => ?_) (fun z => absurd rfl z)
  refine lv_iload hx hb dW_344 (lv_at hl 5 rfl) ?_
  refine lv_if_ne hx hb dW_346 (tgt := 361) rfl (fun _ => ?_) (fun z => ?_)
  · refine lv_goto hx hb dW_361 (tgt := 883) rfl ?_
    exact kk k wc' wm' o' _ _ _ hz' hP hD hS (lv_sub hl [0, 1, 2, 3, 4] rfl)
  · skip
    refine lv_aload_n hx hb dW_349 rfl (lv_at hl 3 rfl) ?_
    refine lv_iconst hx hb dW_350 (v := 0) rfl ?_
    refine va_lald hx hb hK hP ((ez_z cI adc wc').length + 0) 1 xl_o rfl (i := 0) xo_in dW_351 ?_
    rw [ho z]
    refine lv_iload hx hb dW_352 (lv_at hl 6 rfl) ?_
    refine lv_i2l hx hb dW_354 rfl ?_
    refine W.lcmp hx hb dW_355 ?_
    rw [xl_same]
    refine lv_if_eq hx hb dW_356 (tgt := 361) rfl (fun _ => ?_) (fun z => absurd rfl z)
    refine lv_goto hx hb dW_361 (tgt := 883) rfl ?_
    exact kk k wc' wm' o' _ _ _ hz' hP hD hS (lv_sub hl [0, 1, 2, 3, 4] rfl)
theorem xw_exchange : ez_in (.codeWith yL_exchange cL_exchange 4 (some .int) [(0, 6, 9, 29)]) = true ∧ ez_in (.methodLink RL 82 yL_exchange) = true ∧ ez_in (.static yL_exchange) = true ∧ ez_in (.initialized yL_exchange.cls) = true := ⟨by decide +kernel, by decide +kernel, by decide +kernel, by decide +kernel⟩
theorem xim_exchange : xh_in 85 xM69 := ⟨by decide +kernel, by decide +kernel, by decide +kernel⟩
theorem xl_exchange (hlt : l.stackTraces = false) (F : xl_F p s m args c D cI cL b L xs) (hL : L ≤ 2560) {t : Nat} (ht : 5 * t + 5 ≤ L) {z : Int32} (hz : zl_W z wc wm) (hP : va_P D vwCl (xl_T cI cL adc adm qo wc wm o) H) (hD : va_D (xl_A s) (xl_T cI cL adc adm qo wc wm o)) (hS : va_S (xl_A s) s.heap H locs) (hl : lv_has ls 8 (xl_lv b adc adm qo (5 * t))) (hc : cells + 1 ≤ room_1.cells) (hs : slots + 6 ≤ room_1.slots)
    (kk : ∀ (z' : Int32) (wc' wm' : ez_W) (o' : Nat → Int64) (H1 : Heap) (locs1 : List Loc) (ls1 : Array Slot), zl_W z' wc' wm' → va_P D vwCl (xl_T cI cL adc adm qo wc' wm' o') H1 → va_D (xl_A s) (xl_T cI cL adc adm qo wc' wm' o') → va_S (xl_A s) s.heap H1 locs1 → lv_has ls1 8 (xl_lv b adc adm qo (5 * t)) → W p l e room_1 s m args below meth c H1 locs1 (cells + 1) (slots + 6) Q (F0 m 883 ls1 [])) : W p l e room_1 s m args below meth c H locs cells slots Q (F0 m 364 ls []) := by
  obtain ⟨k, wc', wm', hz', hh, hm⟩ := xt_exchange hlt hz (xs (5 * t + 1)) (xs (5 * t + 2)) o
  have hF := F
  obtain ⟨hx, hb, hml, hown, hG, hK, hX, hbl, hZ⟩ := hF
  refine lv_aload_n hx hb dW_364 rfl (lv_at hl 1 rfl) ?_
  refine xl_ld F hL hS dW_365 dW_366 dW_368 dW_369 dW_370 (lv_at hl 0 rfl) (lv_at hl 4 rfl) (j := 1) rfl (by omega) ?_
  refine xl_ld F hL hS dW_371 dW_372 dW_374 dW_375 dW_376 (lv_at hl 0 rfl) (lv_at hl 4 rfl) (j := 2) rfl (by omega) ?_
  refine xl_call (As := [.ref (adc 0), .int (xs (5 * t + 1)), .int (xs (5 * t + 2))]) (n := 3) (rest := []) F (fun sz => hh D cI cL adc qo sz) xw_exchange ⟨by decide +kernel, by decide +kernel, by decide +kernel⟩ (by decide) rfl hl.1 rfl (Nat.le_of_ble_eq_true rfl) dW_377 hc hs hP hD hS (fun H1 locs1 hP hD hS => ?_)
  refine lv_istore hx hb dW_380 hl (by decide) rfl (fun ls1 hl1 => ?_)
  have hl : lv_has ls1 8 [(0, .ref b), (1, .ref (adc 0)), (2, .ref (adm 0)), (3, .ref qo), (4, .int (nI (5 * t))), (5, .int k)] := lv_sub hl1 [1, 2, 3, 4, 5, 0] rfl
  refine lv_aload_n hx hb dW_382 rfl (lv_at hl 2 rfl) ?_
  refine xl_ld F hL hS dW_383 dW_384 dW_386 dW_387 dW_388 (lv_at hl 0 rfl) (lv_at hl 4 rfl) (j := 1) rfl (by omega) ?_
  refine xl_ld F hL hS dW_389 dW_390 dW_392 dW_393 dW_394 (lv_at hl 0 rfl) (lv_at hl 4 rfl) (j := 2) rfl (by omega) ?_
  refine xl_mod (Bs := [.int (xs (5 * t + 1)), .int (xs (5 * t + 2))]) (rest := []) F hz xM69_ok rfl xim_exchange hm rfl ⟨by decide, by decide⟩ hl.1 (Nat.le_of_ble_eq_true rfl) dW_395 hc hs hP hD hS rfl (fun H2 locs2 hP hD hS => ?_)
  refine lv_aload_n hx hb dW_398 rfl (lv_at hl 2 rfl) ?_
  refine xl_thr F hz' xi_thr hl.1 (Nat.le_of_ble_eq_true rfl) dW_399 hc hs hP hD hS (fun H3 locs3 hP hD hS => ?_)
  refine lv_iload hx hb dW_402 (lv_at hl 5 rfl) ?_
  refine lv_icmp_eq hx hb dW_404 (tgt := 409) rfl (fun _ => ?_) (fun z => absurd rfl z)
  refine lv_goto hx hb dW_409 (tgt := 883) rfl ?_
  exact kk k wc' wm' o _ _ _ hz' hP hD hS (lv_sub hl [0, 1, 2, 3, 4] rfl)
theorem xw_turn : ez_in (.codeWith yL_turn cL_turn 4 (some .int) [(0, 6, 9, 29)]) = true ∧ ez_in (.methodLink RL 86 yL_turn) = true ∧ ez_in (.static yL_turn) = true ∧ ez_in (.initialized yL_turn.cls) = true := ⟨by decide +kernel, by decide +kernel, by decide +kernel, by decide +kernel⟩
theorem xim_turn : xh_in 88 xM70 := ⟨by decide +kernel, by decide +kernel, by decide +kernel⟩
theorem xl_turn (hlt : l.stackTraces = false) (F : xl_F p s m args c D cI cL b L xs) (hL : L ≤ 2560) {t : Nat} (ht : 5 * t + 5 ≤ L) {z : Int32} (hz : zl_W z wc wm) (hP : va_P D vwCl (xl_T cI cL adc adm qo wc wm o) H) (hD : va_D (xl_A s) (xl_T cI cL adc adm qo wc wm o)) (hS : va_S (xl_A s) s.heap H locs) (hl : lv_has ls 8 (xl_lv b adc adm qo (5 * t))) (hc : cells + 1 ≤ room_1.cells) (hs : slots + 6 ≤ room_1.slots)
    (kk : ∀ (z' : Int32) (wc' wm' : ez_W) (o' : Nat → Int64) (H1 : Heap) (locs1 : List Loc) (ls1 : Array Slot), zl_W z' wc' wm' → va_P D vwCl (xl_T cI cL adc adm qo wc' wm' o') H1 → va_D (xl_A s) (xl_T cI cL adc adm qo wc' wm' o') → va_S (xl_A s) s.heap H1 locs1 → lv_has ls1 8 (xl_lv b adc adm qo (5 * t)) → W p l e room_1 s m args below meth c H1 locs1 (cells + 1) (slots + 6) Q (F0 m 883 ls1 [])) : W p l e room_1 s m args below meth c H locs cells slots Q (F0 m 412 ls []) := by
  obtain ⟨k, wc', wm', hz', hh, hm⟩ := xt_turn hlt hz (xs (5 * t + 1)) (xs (5 * t + 2)) o
  have hF := F
  obtain ⟨hx, hb, hml, hown, hG, hK, hX, hbl, hZ⟩ := hF
  refine lv_aload_n hx hb dW_412 rfl (lv_at hl 1 rfl) ?_
  refine xl_ld F hL hS dW_413 dW_414 dW_416 dW_417 dW_418 (lv_at hl 0 rfl) (lv_at hl 4 rfl) (j := 1) rfl (by omega) ?_
  refine xl_ld F hL hS dW_419 dW_420 dW_422 dW_423 dW_424 (lv_at hl 0 rfl) (lv_at hl 4 rfl) (j := 2) rfl (by omega) ?_
  refine xl_call (As := [.ref (adc 0), .int (xs (5 * t + 1)), .int (xs (5 * t + 2))]) (n := 3) (rest := []) F (fun sz => hh D cI cL adc qo sz) xw_turn ⟨by decide +kernel, by decide +kernel, by decide +kernel⟩ (by decide) rfl hl.1 rfl (Nat.le_of_ble_eq_true rfl) dW_425 hc hs hP hD hS (fun H1 locs1 hP hD hS => ?_)
  refine lv_istore hx hb dW_428 hl (by decide) rfl (fun ls1 hl1 => ?_)
  have hl : lv_has ls1 8 [(0, .ref b), (1, .ref (adc 0)), (2, .ref (adm 0)), (3, .ref qo), (4, .int (nI (5 * t))), (5, .int k)] := lv_sub hl1 [1, 2, 3, 4, 5, 0] rfl
  refine lv_aload_n hx hb dW_430 rfl (lv_at hl 2 rfl) ?_
  refine xl_ld F hL hS dW_431 dW_432 dW_434 dW_435 dW_436 (lv_at hl 0 rfl) (lv_at hl 4 rfl) (j := 1) rfl (by omega) ?_
  refine xl_ld F hL hS dW_437 dW_438 dW_440 dW_441 dW_442 (lv_at hl 0 rfl) (lv_at hl 4 rfl) (j := 2) rfl (by omega) ?_
  refine xl_mod (Bs := [.int (xs (5 * t + 1)), .int (xs (5 * t + 2))]) (rest := []) F hz xM70_ok rfl xim_turn hm rfl ⟨by decide, by decide⟩ hl.1 (Nat.le_of_ble_eq_true rfl) dW_443 hc hs hP hD hS rfl (fun H2 locs2 hP hD hS => ?_)
  refine lv_aload_n hx hb dW_446 rfl (lv_at hl 2 rfl) ?_
  refine xl_thr F hz' xi_thr hl.1 (Nat.le_of_ble_eq_true rfl) dW_447 hc hs hP hD hS (fun H3 locs3 hP hD hS => ?_)
  refine lv_iload hx hb dW_450 (lv_at hl 5 rfl) ?_
  refine lv_icmp_eq hx hb dW_452 (tgt := 457) rfl (fun _ => ?_) (fun z => absurd rfl z)
  refine lv_goto hx hb dW_457 (tgt := 883) rfl ?_
  exact kk k wc' wm' o _ _ _ hz' hP hD hS (lv_sub hl [0, 1, 2, 3, 4] rfl)
theorem xw_order : ez_in (.codeWith yL_order cL_order 4 (some .int) [(0, 9, 12, 19)]) = true ∧ ez_in (.methodLink RL 89 yL_order) = true ∧ ez_in (.static yL_order) = true ∧ ez_in (.initialized yL_order.cls) = true := ⟨by decide +kernel, by decide +kernel, by decide +kernel, by decide +kernel⟩
theorem xim_order : xh_in 91 xM71 := ⟨by decide +kernel, by decide +kernel, by decide +kernel⟩
theorem xl_order (hlt : l.stackTraces = false) (F : xl_F p s m args c D cI cL b L xs) (hL : L ≤ 2560) {t : Nat} (ht : 5 * t + 5 ≤ L) {z : Int32} (hz : zl_W z wc wm) (hP : va_P D vwCl (xl_T cI cL adc adm qo wc wm o) H) (hD : va_D (xl_A s) (xl_T cI cL adc adm qo wc wm o)) (hS : va_S (xl_A s) s.heap H locs) (hl : lv_has ls 8 (xl_lv b adc adm qo (5 * t))) (hc : cells + 1 ≤ room_1.cells) (hs : slots + 6 ≤ room_1.slots)
    (kk : ∀ (z' : Int32) (wc' wm' : ez_W) (o' : Nat → Int64) (H1 : Heap) (locs1 : List Loc) (ls1 : Array Slot), zl_W z' wc' wm' → va_P D vwCl (xl_T cI cL adc adm qo wc' wm' o') H1 → va_D (xl_A s) (xl_T cI cL adc adm qo wc' wm' o') → va_S (xl_A s) s.heap H1 locs1 → lv_has ls1 8 (xl_lv b adc adm qo (5 * t)) → W p l e room_1 s m args below meth c H1 locs1 (cells + 1) (slots + 6) Q (F0 m 883 ls1 [])) : W p l e room_1 s m args below meth c H locs cells slots Q (F0 m 460 ls []) := by
  obtain ⟨k, wc', wm', o', y, hz', hh, hm, ho⟩ := xt_order hlt hz (xs (5 * t + 1)) o
  have hF := F
  obtain ⟨hx, hb, hml, hown, hG, hK, hX, hbl, hZ⟩ := hF
  refine lv_aload_n hx hb dW_460 rfl (lv_at hl 1 rfl) ?_
  refine xl_ld F hL hS dW_461 dW_462 dW_464 dW_465 dW_466 (lv_at hl 0 rfl) (lv_at hl 4 rfl) (j := 1) rfl (by omega) ?_
  refine lv_aload_n hx hb dW_467 rfl (lv_at hl 3 rfl) ?_
  refine xl_call (As := [.ref (adc 0), .int (xs (5 * t + 1)), .ref qo]) (n := 3) (rest := []) F (fun sz => hh D cI cL adc qo sz) xw_order ⟨by decide +kernel, by decide +kernel, by decide +kernel⟩ (by decide) rfl hl.1 rfl (Nat.le_of_ble_eq_true rfl) dW_468 hc hs hP hD hS (fun H1 locs1 hP hD hS => ?_)
  refine lv_istore hx hb dW_471 hl (by decide) rfl (fun ls1 hl1 => ?_)
  have hl : lv_has ls1 8 [(0, .ref b), (1, .ref (adc 0)), (2, .ref (adm 0)), (3, .ref qo), (4, .int (nI (5 * t))), (5, .int k)] := lv_sub hl1 [1, 2, 3, 4, 5, 0] rfl
  refine lv_aload_n hx hb dW_473 rfl (lv_at hl 2 rfl) ?_
  refine xl_ld F hL hS dW_474 dW_475 dW_477 dW_478 dW_479 (lv_at hl 0 rfl) (lv_at hl 4 rfl) (j := 1) rfl (by omega) ?_
  refine xl_mod (Bs := [.int (xs (5 * t + 1))]) (rest := []) F hz xM71_ok rfl xim_order hm rfl ⟨by decide, by decide⟩ hl.1 (Nat.le_of_ble_eq_true rfl) dW_480 hc hs hP hD hS rfl (fun H2 locs2 hP hD hS => ?_)
  refine lv_istore hx hb dW_483 hl (by decide) rfl (fun ls2 hl2 => ?_)
  have hl : lv_has ls2 8 [(0, .ref b), (1, .ref (adc 0)), (2, .ref (adm 0)), (3, .ref qo), (4, .int (nI (5 * t))), (5, .int k), (6, .int y)] := lv_sub hl2 [1, 2, 3, 4, 5, 6, 0] rfl
  refine lv_aload_n hx hb dW_485 rfl (lv_at hl 2 rfl) ?_
  refine xl_thr F hz' xi_thr hl.1 (Nat.le_of_ble_eq_true rfl) dW_486 hc hs hP hD hS (fun H3 locs3 hP hD hS => ?_)
  refine lv_iload hx hb dW_489 (lv_at hl 5 rfl) ?_
  refine lv_icmp_eq hx hb dW_491 (tgt := 496) rfl (fun _ => ?_) (fun z => absurd rfl z)
  refine lv_iload hx hb dW_496 (lv_at hl 5 rfl) ?_
  refine lv_if_ne hx hb dW_498 (tgt := 513) rfl (fun _ => ?_) (fun z => ?_)
  · refine lv_goto hx hb dW_513 (tgt := 883) rfl ?_
    exact kk k wc' wm' o' _ _ _ hz' hP hD hS (lv_sub hl [0, 1, 2, 3, 4] rfl)
  · skip
    refine lv_aload_n hx hb dW_501 rfl (lv_at hl 3 rfl) ?_
    refine lv_iconst hx hb dW_502 (v := 0) rfl ?_
    refine va_lald hx hb hK hP ((ez_z cI adc wc').length + 0) 1 xl_o rfl (i := 0) xo_in dW_503 ?_
    rw [ho z]
    refine lv_iload hx hb dW_504 (lv_at hl 6 rfl) ?_
    refine lv_i2l hx hb dW_506 rfl ?_
    refine W.lcmp hx hb dW_507 ?_
    rw [xl_same]
    refine lv_if_eq hx hb dW_508 (tgt := 513) rfl (fun _ => ?_) (fun z => absurd rfl z)
    refine lv_goto hx hb dW_513 (tgt := 883) rfl ?_
    exact kk k wc' wm' o' _ _ _ hz' hP hD hS (lv_sub hl [0, 1, 2, 3, 4] rfl)
theorem xw_sort : ez_in (.codeWith yL_sort cL_sort 4 (some .int) [(0, 9, 12, 19)]) = true ∧ ez_in (.methodLink RL 92 yL_sort) = true ∧ ez_in (.static yL_sort) = true ∧ ez_in (.initialized yL_sort.cls) = true := ⟨by decide +kernel, by decide +kernel, by decide +kernel, by decide +kernel⟩
theorem xim_sort : xh_in 94 xM98 := ⟨by decide +kernel, by decide +kernel, by decide +kernel⟩
theorem xl_sort (hlt : l.stackTraces = false) (F : xl_F p s m args c D cI cL b L xs) (hL : L ≤ 2560) {t : Nat} (ht : 5 * t + 5 ≤ L) {z : Int32} (hz : zl_W z wc wm) (hP : va_P D vwCl (xl_T cI cL adc adm qo wc wm o) H) (hD : va_D (xl_A s) (xl_T cI cL adc adm qo wc wm o)) (hS : va_S (xl_A s) s.heap H locs) (hl : lv_has ls 8 (xl_lv b adc adm qo (5 * t))) (hc : cells + 1 ≤ room_1.cells) (hs : slots + 6 ≤ room_1.slots)
    (kk : ∀ (z' : Int32) (wc' wm' : ez_W) (o' : Nat → Int64) (H1 : Heap) (locs1 : List Loc) (ls1 : Array Slot), zl_W z' wc' wm' → va_P D vwCl (xl_T cI cL adc adm qo wc' wm' o') H1 → va_D (xl_A s) (xl_T cI cL adc adm qo wc' wm' o') → va_S (xl_A s) s.heap H1 locs1 → lv_has ls1 8 (xl_lv b adc adm qo (5 * t)) → W p l e room_1 s m args below meth c H1 locs1 (cells + 1) (slots + 6) Q (F0 m 883 ls1 [])) : W p l e room_1 s m args below meth c H locs cells slots Q (F0 m 516 ls []) := by
  obtain ⟨k, wc', wm', o', y, hz', hh, hm, ho⟩ := xt_sort hlt hz (xs (5 * t + 1)) o
  have hF := F
  obtain ⟨hx, hb, hml, hown, hG, hK, hX, hbl, hZ⟩ := hF
  refine lv_aload_n hx hb dW_516 rfl (lv_at hl 1 rfl) ?_
  refine xl_ld F hL hS dW_517 dW_518 dW_520 dW_521 dW_522 (lv_at hl 0 rfl) (lv_at hl 4 rfl) (j := 1) rfl (by omega) ?_
  refine lv_aload_n hx hb dW_523 rfl (lv_at hl 3 rfl) ?_
  refine xl_call (As := [.ref (adc 0), .int (xs (5 * t + 1)), .ref qo]) (n := 3) (rest := []) F (fun sz => hh D cI cL adc qo sz) xw_sort ⟨by decide +kernel, by decide +kernel, by decide +kernel⟩ (by decide) rfl hl.1 rfl (Nat.le_of_ble_eq_true rfl) dW_524 hc hs hP hD hS (fun H1 locs1 hP hD hS => ?_)
  refine lv_istore hx hb dW_527 hl (by decide) rfl (fun ls1 hl1 => ?_)
  have hl : lv_has ls1 8 [(0, .ref b), (1, .ref (adc 0)), (2, .ref (adm 0)), (3, .ref qo), (4, .int (nI (5 * t))), (5, .int k)] := lv_sub hl1 [1, 2, 3, 4, 5, 0] rfl
  refine lv_aload_n hx hb dW_529 rfl (lv_at hl 2 rfl) ?_
  refine xl_ld F hL hS dW_530 dW_531 dW_533 dW_534 dW_535 (lv_at hl 0 rfl) (lv_at hl 4 rfl) (j := 1) rfl (by omega) ?_
  refine xl_mod (Bs := [.int (xs (5 * t + 1))]) (rest := []) F hz xM98_ok rfl xim_sort hm rfl ⟨by decide, by decide⟩ hl.1 (Nat.le_of_ble_eq_true rfl) dW_536 hc hs hP hD hS rfl (fun H2 locs2 hP hD hS => ?_)
  refine lv_istore hx hb dW_539 hl (by decide) rfl (fun ls2 hl2 => ?_)
  have hl : lv_has ls2 8 [(0, .ref b), (1, .ref (adc 0)), (2, .ref (adm 0)), (3, .ref qo), (4, .int (nI (5 * t))), (5, .int k), (6, .int y)] := lv_sub hl2 [1, 2, 3, 4, 5, 6, 0] rfl
  refine lv_aload_n hx hb dW_541 rfl (lv_at hl 2 rfl) ?_
  refine xl_thr F hz' xi_thr hl.1 (Nat.le_of_ble_eq_true rfl) dW_542 hc hs hP hD hS (fun H3 locs3 hP hD hS => ?_)
  refine lv_iload hx hb dW_545 (lv_at hl 5 rfl) ?_
  refine lv_icmp_eq hx hb dW_547 (tgt := 552) rfl (fun _ => ?_) (fun z => absurd rfl z)
  refine lv_iload hx hb dW_552 (lv_at hl 5 rfl) ?_
  refine lv_if_ne hx hb dW_554 (tgt := 569) rfl (fun _ => ?_) (fun z => ?_)
  · refine lv_goto hx hb dW_569 (tgt := 883) rfl ?_
    exact kk k wc' wm' o' _ _ _ hz' hP hD hS (lv_sub hl [0, 1, 2, 3, 4] rfl)
  · skip
    refine lv_aload_n hx hb dW_557 rfl (lv_at hl 3 rfl) ?_
    refine lv_iconst hx hb dW_558 (v := 0) rfl ?_
    refine va_lald hx hb hK hP ((ez_z cI adc wc').length + 0) 1 xl_o rfl (i := 0) xo_in dW_559 ?_
    rw [ho z]
    refine lv_iload hx hb dW_560 (lv_at hl 6 rfl) ?_
    refine lv_i2l hx hb dW_562 rfl ?_
    refine W.lcmp hx hb dW_563 ?_
    rw [xl_same]
    refine lv_if_eq hx hb dW_564 (tgt := 569) rfl (fun _ => ?_) (fun z => absurd rfl z)
    refine lv_goto hx hb dW_569 (tgt := 883) rfl ?_
    exact kk k wc' wm' o' _ _ _ hz' hP hD hS (lv_sub hl [0, 1, 2, 3, 4] rfl)
theorem xw_kill : ez_in (.codeWith yL_kill cL_kill 5 (some .int) [(0, 10, 13, 19)]) = true ∧ ez_in (.methodLink RL 95 yL_kill) = true ∧ ez_in (.static yL_kill) = true ∧ ez_in (.initialized yL_kill.cls) = true := ⟨by decide +kernel, by decide +kernel, by decide +kernel, by decide +kernel⟩
theorem xim_kill : xh_in 98 xM99 := ⟨by decide +kernel, by decide +kernel, by decide +kernel⟩
theorem xl_kill (hlt : l.stackTraces = false) (F : xl_F p s m args c D cI cL b L xs) (hL : L ≤ 2560) {t : Nat} (ht : 5 * t + 5 ≤ L) {z : Int32} (hz : zl_W z wc wm) (hP : va_P D vwCl (xl_T cI cL adc adm qo wc wm o) H) (hD : va_D (xl_A s) (xl_T cI cL adc adm qo wc wm o)) (hS : va_S (xl_A s) s.heap H locs) (hl : lv_has ls 8 (xl_lv b adc adm qo (5 * t))) (hc : cells + 1 ≤ room_1.cells) (hs : slots + 6 ≤ room_1.slots)
    (kk : ∀ (z' : Int32) (wc' wm' : ez_W) (o' : Nat → Int64) (H1 : Heap) (locs1 : List Loc) (ls1 : Array Slot), zl_W z' wc' wm' → va_P D vwCl (xl_T cI cL adc adm qo wc' wm' o') H1 → va_D (xl_A s) (xl_T cI cL adc adm qo wc' wm' o') → va_S (xl_A s) s.heap H1 locs1 → lv_has ls1 8 (xl_lv b adc adm qo (5 * t)) → W p l e room_1 s m args below meth c H1 locs1 (cells + 1) (slots + 6) Q (F0 m 883 ls1 [])) : W p l e room_1 s m args below meth c H locs cells slots Q (F0 m 572 ls []) := by
  obtain ⟨k, wc', wm', o', y, hz', hh, hm, ho⟩ := xt_kill hlt hz (xs (5 * t + 1)) (xs (5 * t + 2)) o
  have hF := F
  obtain ⟨hx, hb, hml, hown, hG, hK, hX, hbl, hZ⟩ := hF
  refine lv_aload_n hx hb dW_572 rfl (lv_at hl 1 rfl) ?_
  refine xl_ld F hL hS dW_573 dW_574 dW_576 dW_577 dW_578 (lv_at hl 0 rfl) (lv_at hl 4 rfl) (j := 1) rfl (by omega) ?_
  refine xl_ld F hL hS dW_579 dW_580 dW_582 dW_583 dW_584 (lv_at hl 0 rfl) (lv_at hl 4 rfl) (j := 2) rfl (by omega) ?_
  refine lv_aload_n hx hb dW_585 rfl (lv_at hl 3 rfl) ?_
  refine xl_call (As := [.ref (adc 0), .int (xs (5 * t + 1)), .int (xs (5 * t + 2)), .ref qo]) (n := 4) (rest := []) F (fun sz => hh D cI cL adc qo sz) xw_kill ⟨by decide +kernel, by decide +kernel, by decide +kernel⟩ (by decide) rfl hl.1 rfl (Nat.le_of_ble_eq_true rfl) dW_586 hc hs hP hD hS (fun H1 locs1 hP hD hS => ?_)
  refine lv_istore hx hb dW_589 hl (by decide) rfl (fun ls1 hl1 => ?_)
  have hl : lv_has ls1 8 [(0, .ref b), (1, .ref (adc 0)), (2, .ref (adm 0)), (3, .ref qo), (4, .int (nI (5 * t))), (5, .int k)] := lv_sub hl1 [1, 2, 3, 4, 5, 0] rfl
  refine lv_aload_n hx hb dW_591 rfl (lv_at hl 2 rfl) ?_
  refine xl_ld F hL hS dW_592 dW_593 dW_595 dW_596 dW_597 (lv_at hl 0 rfl) (lv_at hl 4 rfl) (j := 1) rfl (by omega) ?_
  refine xl_ld F hL hS dW_598 dW_599 dW_601 dW_602 dW_603 (lv_at hl 0 rfl) (lv_at hl 4 rfl) (j := 2) rfl (by omega) ?_
  refine xl_mod (Bs := [.int (xs (5 * t + 1)), .int (xs (5 * t + 2))]) (rest := []) F hz xM99_ok rfl xim_kill hm rfl ⟨by decide, by decide⟩ hl.1 (Nat.le_of_ble_eq_true rfl) dW_604 hc hs hP hD hS rfl (fun H2 locs2 hP hD hS => ?_)
  refine lv_istore hx hb dW_607 hl (by decide) rfl (fun ls2 hl2 => ?_)
  have hl : lv_has ls2 8 [(0, .ref b), (1, .ref (adc 0)), (2, .ref (adm 0)), (3, .ref qo), (4, .int (nI (5 * t))), (5, .int k), (6, .int y)] := lv_sub hl2 [1, 2, 3, 4, 5, 6, 0] rfl
  refine lv_aload_n hx hb dW_609 rfl (lv_at hl 2 rfl) ?_
  refine xl_thr F hz' xi_thr hl.1 (Nat.le_of_ble_eq_true rfl) dW_610 hc hs hP hD hS (fun H3 locs3 hP hD hS => ?_)
  refine lv_iload hx hb dW_613 (lv_at hl 5 rfl) ?_
  refine lv_icmp_eq hx hb dW_615 (tgt := 620) rfl (fun _ => ?_) (fun z => absurd rfl z)
  refine lv_iload hx hb dW_620 (lv_at hl 5 rfl) ?_
  refine lv_if_ne hx hb dW_622 (tgt := 637) rfl (fun _ => ?_) (fun z => ?_)
  · refine lv_goto hx hb dW_637 (tgt := 883) rfl ?_
    exact kk k wc' wm' o' _ _ _ hz' hP hD hS (lv_sub hl [0, 1, 2, 3, 4] rfl)
  · skip
    refine lv_aload_n hx hb dW_625 rfl (lv_at hl 3 rfl) ?_
    refine lv_iconst hx hb dW_626 (v := 0) rfl ?_
    refine va_lald hx hb hK hP ((ez_z cI adc wc').length + 0) 1 xl_o rfl (i := 0) xo_in dW_627 ?_
    rw [ho z]
    refine lv_iload hx hb dW_628 (lv_at hl 6 rfl) ?_
    refine lv_i2l hx hb dW_630 rfl ?_
    refine W.lcmp hx hb dW_631 ?_
    rw [xl_same]
    refine lv_if_eq hx hb dW_632 (tgt := 637) rfl (fun _ => ?_) (fun z => absurd rfl z)
    refine lv_goto hx hb dW_637 (tgt := 883) rfl ?_
    exact kk k wc' wm' o' _ _ _ hz' hP hD hS (lv_sub hl [0, 1, 2, 3, 4] rfl)
theorem xw_get : ez_in (.codeWith yL_get cL_get 4 (some .int) [(0, 9, 12, 29)]) = true ∧ ez_in (.methodLink RL 99 yL_get) = true ∧ ez_in (.static yL_get) = true ∧ ez_in (.initialized yL_get.cls) = true := ⟨by decide +kernel, by decide +kernel, by decide +kernel, by decide +kernel⟩
theorem xim_get : xh_in 101 xM100 := ⟨by decide +kernel, by decide +kernel, by decide +kernel⟩
theorem xl_get (hlt : l.stackTraces = false) (F : xl_F p s m args c D cI cL b L xs) (hL : L ≤ 2560) {t : Nat} (ht : 5 * t + 5 ≤ L) {z : Int32} (hz : zl_W z wc wm) (hP : va_P D vwCl (xl_T cI cL adc adm qo wc wm o) H) (hD : va_D (xl_A s) (xl_T cI cL adc adm qo wc wm o)) (hS : va_S (xl_A s) s.heap H locs) (hl : lv_has ls 8 (xl_lv b adc adm qo (5 * t))) (hc : cells + 1 ≤ room_1.cells) (hs : slots + 6 ≤ room_1.slots)
    (kk : ∀ (z' : Int32) (wc' wm' : ez_W) (o' : Nat → Int64) (H1 : Heap) (locs1 : List Loc) (ls1 : Array Slot), zl_W z' wc' wm' → va_P D vwCl (xl_T cI cL adc adm qo wc' wm' o') H1 → va_D (xl_A s) (xl_T cI cL adc adm qo wc' wm' o') → va_S (xl_A s) s.heap H1 locs1 → lv_has ls1 8 (xl_lv b adc adm qo (5 * t)) → W p l e room_1 s m args below meth c H1 locs1 (cells + 1) (slots + 6) Q (F0 m 883 ls1 [])) : W p l e room_1 s m args below meth c H locs cells slots Q (F0 m 640 ls []) := by
  obtain ⟨k, wc', wm', o', y, hz', hh, hm, ho⟩ := xt_get hlt hz (xs (5 * t + 1)) o
  have hF := F
  obtain ⟨hx, hb, hml, hown, hG, hK, hX, hbl, hZ⟩ := hF
  refine lv_aload_n hx hb dW_640 rfl (lv_at hl 1 rfl) ?_
  refine xl_ld F hL hS dW_641 dW_642 dW_644 dW_645 dW_646 (lv_at hl 0 rfl) (lv_at hl 4 rfl) (j := 1) rfl (by omega) ?_
  refine lv_aload_n hx hb dW_647 rfl (lv_at hl 3 rfl) ?_
  refine xl_call (As := [.ref (adc 0), .int (xs (5 * t + 1)), .ref qo]) (n := 3) (rest := []) F (fun sz => hh D cI cL adc qo sz) xw_get ⟨by decide +kernel, by decide +kernel, by decide +kernel⟩ (by decide) rfl hl.1 rfl (Nat.le_of_ble_eq_true rfl) dW_648 hc hs hP hD hS (fun H1 locs1 hP hD hS => ?_)
  refine lv_istore hx hb dW_651 hl (by decide) rfl (fun ls1 hl1 => ?_)
  have hl : lv_has ls1 8 [(0, .ref b), (1, .ref (adc 0)), (2, .ref (adm 0)), (3, .ref qo), (4, .int (nI (5 * t))), (5, .int k)] := lv_sub hl1 [1, 2, 3, 4, 5, 0] rfl
  refine lv_aload_n hx hb dW_653 rfl (lv_at hl 2 rfl) ?_
  refine xl_ld F hL hS dW_654 dW_655 dW_657 dW_658 dW_659 (lv_at hl 0 rfl) (lv_at hl 4 rfl) (j := 1) rfl (by omega) ?_
  refine xl_mod (Bs := [.int (xs (5 * t + 1))]) (rest := []) F hz xM100_ok rfl xim_get hm rfl ⟨by decide, by decide⟩ hl.1 (Nat.le_of_ble_eq_true rfl) dW_660 hc hs hP hD hS rfl (fun H2 locs2 hP hD hS => ?_)
  refine lv_istore hx hb dW_663 hl (by decide) rfl (fun ls2 hl2 => ?_)
  have hl : lv_has ls2 8 [(0, .ref b), (1, .ref (adc 0)), (2, .ref (adm 0)), (3, .ref qo), (4, .int (nI (5 * t))), (5, .int k), (6, .int y)] := lv_sub hl2 [1, 2, 3, 4, 5, 6, 0] rfl
  refine lv_aload_n hx hb dW_665 rfl (lv_at hl 2 rfl) ?_
  refine xl_thr F hz' xi_thr hl.1 (Nat.le_of_ble_eq_true rfl) dW_666 hc hs hP hD hS (fun H3 locs3 hP hD hS => ?_)
  refine lv_iload hx hb dW_669 (lv_at hl 5 rfl) ?_
  refine lv_icmp_eq hx hb dW_671 (tgt := 676) rfl (fun _ => ?_) (fun z => absurd rfl z)
  refine lv_iload hx hb dW_676 (lv_at hl 5 rfl) ?_
  refine lv_if_ne hx hb dW_678 (tgt := 693) rfl (fun _ => ?_) (fun z => ?_)
  · refine lv_goto hx hb dW_693 (tgt := 883) rfl ?_
    exact kk k wc' wm' o' _ _ _ hz' hP hD hS (lv_sub hl [0, 1, 2, 3, 4] rfl)
  · skip
    refine lv_aload_n hx hb dW_681 rfl (lv_at hl 3 rfl) ?_
    refine lv_iconst hx hb dW_682 (v := 0) rfl ?_
    refine va_lald hx hb hK hP ((ez_z cI adc wc').length + 0) 1 xl_o rfl (i := 0) xo_in dW_683 ?_
    rw [ho z]
    refine lv_iload hx hb dW_684 (lv_at hl 6 rfl) ?_
    refine lv_i2l hx hb dW_686 rfl ?_
    refine W.lcmp hx hb dW_687 ?_
    rw [xl_same]
    refine lv_if_eq hx hb dW_688 (tgt := 693) rfl (fun _ => ?_) (fun z => absurd rfl z)
    refine lv_goto hx hb dW_693 (tgt := 883) rfl ?_
    exact kk k wc' wm' o' _ _ _ hz' hP hD hS (lv_sub hl [0, 1, 2, 3, 4] rfl)
theorem xw_tag : ez_in (.codeWith yL_tag cL_tag 4 (some .int) [(0, 9, 12, 29)]) = true ∧ ez_in (.methodLink RL 102 yL_tag) = true ∧ ez_in (.static yL_tag) = true ∧ ez_in (.initialized yL_tag.cls) = true := ⟨by decide +kernel, by decide +kernel, by decide +kernel, by decide +kernel⟩
theorem xim_tag : xh_in 104 xM101 := ⟨by decide +kernel, by decide +kernel, by decide +kernel⟩
theorem xl_tag (hlt : l.stackTraces = false) (F : xl_F p s m args c D cI cL b L xs) (hL : L ≤ 2560) {t : Nat} (ht : 5 * t + 5 ≤ L) {z : Int32} (hz : zl_W z wc wm) (hP : va_P D vwCl (xl_T cI cL adc adm qo wc wm o) H) (hD : va_D (xl_A s) (xl_T cI cL adc adm qo wc wm o)) (hS : va_S (xl_A s) s.heap H locs) (hl : lv_has ls 8 (xl_lv b adc adm qo (5 * t))) (hc : cells + 1 ≤ room_1.cells) (hs : slots + 6 ≤ room_1.slots)
    (kk : ∀ (z' : Int32) (wc' wm' : ez_W) (o' : Nat → Int64) (H1 : Heap) (locs1 : List Loc) (ls1 : Array Slot), zl_W z' wc' wm' → va_P D vwCl (xl_T cI cL adc adm qo wc' wm' o') H1 → va_D (xl_A s) (xl_T cI cL adc adm qo wc' wm' o') → va_S (xl_A s) s.heap H1 locs1 → lv_has ls1 8 (xl_lv b adc adm qo (5 * t)) → W p l e room_1 s m args below meth c H1 locs1 (cells + 1) (slots + 6) Q (F0 m 883 ls1 [])) : W p l e room_1 s m args below meth c H locs cells slots Q (F0 m 696 ls []) := by
  obtain ⟨k, wc', wm', o', y, hz', hh, hm, ho⟩ := xt_tag hlt hz (xs (5 * t + 1)) o
  have hF := F
  obtain ⟨hx, hb, hml, hown, hG, hK, hX, hbl, hZ⟩ := hF
  refine lv_aload_n hx hb dW_696 rfl (lv_at hl 1 rfl) ?_
  refine xl_ld F hL hS dW_697 dW_698 dW_700 dW_701 dW_702 (lv_at hl 0 rfl) (lv_at hl 4 rfl) (j := 1) rfl (by omega) ?_
  refine lv_aload_n hx hb dW_703 rfl (lv_at hl 3 rfl) ?_
  refine xl_call (As := [.ref (adc 0), .int (xs (5 * t + 1)), .ref qo]) (n := 3) (rest := []) F (fun sz => hh D cI cL adc qo sz) xw_tag ⟨by decide +kernel, by decide +kernel, by decide +kernel⟩ (by decide) rfl hl.1 rfl (Nat.le_of_ble_eq_true rfl) dW_704 hc hs hP hD hS (fun H1 locs1 hP hD hS => ?_)
  refine lv_istore hx hb dW_707 hl (by decide) rfl (fun ls1 hl1 => ?_)
  have hl : lv_has ls1 8 [(0, .ref b), (1, .ref (adc 0)), (2, .ref (adm 0)), (3, .ref qo), (4, .int (nI (5 * t))), (5, .int k)] := lv_sub hl1 [1, 2, 3, 4, 5, 0] rfl
  refine lv_aload_n hx hb dW_709 rfl (lv_at hl 2 rfl) ?_
  refine xl_ld F hL hS dW_710 dW_711 dW_713 dW_714 dW_715 (lv_at hl 0 rfl) (lv_at hl 4 rfl) (j := 1) rfl (by omega) ?_
  refine xl_mod (Bs := [.int (xs (5 * t + 1))]) (rest := []) F hz xM101_ok rfl xim_tag hm rfl ⟨by decide, by decide⟩ hl.1 (Nat.le_of_ble_eq_true rfl) dW_716 hc hs hP hD hS rfl (fun H2 locs2 hP hD hS => ?_)
  refine lv_istore hx hb dW_719 hl (by decide) rfl (fun ls2 hl2 => ?_)
  have hl : lv_has ls2 8 [(0, .ref b), (1, .ref (adc 0)), (2, .ref (adm 0)), (3, .ref qo), (4, .int (nI (5 * t))), (5, .int k), (6, .int y)] := lv_sub hl2 [1, 2, 3, 4, 5, 6, 0] rfl
  refine lv_aload_n hx hb dW_721 rfl (lv_at hl 2 rfl) ?_
  refine xl_thr F hz' xi_thr hl.1 (Nat.le_of_ble_eq_true rfl) dW_722 hc hs hP hD hS (fun H3 locs3 hP hD hS => ?_)
  refine lv_iload hx hb dW_725 (lv_at hl 5 rfl) ?_
  refine lv_icmp_eq hx hb dW_727 (tgt := 732) rfl (fun _ => ?_) (fun z => absurd rfl z)
  refine lv_iload hx hb dW_732 (lv_at hl 5 rfl) ?_
  refine lv_if_ne hx hb dW_734 (tgt := 749) rfl (fun _ => ?_) (fun z => ?_)
  · refine lv_goto hx hb dW_749 (tgt := 883) rfl ?_
    exact kk k wc' wm' o' _ _ _ hz' hP hD hS (lv_sub hl [0, 1, 2, 3, 4] rfl)
  · skip
    refine lv_aload_n hx hb dW_737 rfl (lv_at hl 3 rfl) ?_
    refine lv_iconst hx hb dW_738 (v := 0) rfl ?_
    refine va_lald hx hb hK hP ((ez_z cI adc wc').length + 0) 1 xl_o rfl (i := 0) xo_in dW_739 ?_
    rw [ho z]
    refine lv_iload hx hb dW_740 (lv_at hl 6 rfl) ?_
    refine lv_i2l hx hb dW_742 rfl ?_
    refine W.lcmp hx hb dW_743 ?_
    rw [xl_same]
    refine lv_if_eq hx hb dW_744 (tgt := 749) rfl (fun _ => ?_) (fun z => absurd rfl z)
    refine lv_goto hx hb dW_749 (tgt := 883) rfl ?_
    exact kk k wc' wm' o' _ _ _ hz' hP hD hS (lv_sub hl [0, 1, 2, 3, 4] rfl)
theorem xw_is : ez_in (.codeWith yL_is cL_is 4 (some .int) [(0, 16, 19, 19)]) = true ∧ ez_in (.methodLink RL 105 yL_is) = true ∧ ez_in (.static yL_is) = true ∧ ez_in (.initialized yL_is.cls) = true := ⟨by decide +kernel, by decide +kernel, by decide +kernel, by decide +kernel⟩
theorem xim_is : xh_in 107 xM102 := ⟨by decide +kernel, by decide +kernel, by decide +kernel⟩
theorem xl_is (hlt : l.stackTraces = false) (F : xl_F p s m args c D cI cL b L xs) (hL : L ≤ 2560) {t : Nat} (ht : 5 * t + 5 ≤ L) {z : Int32} (hz : zl_W z wc wm) (hP : va_P D vwCl (xl_T cI cL adc adm qo wc wm o) H) (hD : va_D (xl_A s) (xl_T cI cL adc adm qo wc wm o)) (hS : va_S (xl_A s) s.heap H locs) (hl : lv_has ls 8 (xl_lv b adc adm qo (5 * t))) (hc : cells + 1 ≤ room_1.cells) (hs : slots + 6 ≤ room_1.slots)
    (kk : ∀ (z' : Int32) (wc' wm' : ez_W) (o' : Nat → Int64) (H1 : Heap) (locs1 : List Loc) (ls1 : Array Slot), zl_W z' wc' wm' → va_P D vwCl (xl_T cI cL adc adm qo wc' wm' o') H1 → va_D (xl_A s) (xl_T cI cL adc adm qo wc' wm' o') → va_S (xl_A s) s.heap H1 locs1 → lv_has ls1 8 (xl_lv b adc adm qo (5 * t)) → W p l e room_1 s m args below meth c H1 locs1 (cells + 1) (slots + 6) Q (F0 m 883 ls1 [])) : W p l e room_1 s m args below meth c H locs cells slots Q (F0 m 752 ls []) := by
  obtain ⟨k, wc', wm', o', y, hz', hh, hm, ho⟩ := xt_is hlt hz (xs (5 * t + 1)) o
  have hF := F
  obtain ⟨hx, hb, hml, hown, hG, hK, hX, hbl, hZ⟩ := hF
  refine lv_aload_n hx hb dW_752 rfl (lv_at hl 1 rfl) ?_
  refine xl_ld F hL hS dW_753 dW_754 dW_756 dW_757 dW_758 (lv_at hl 0 rfl) (lv_at hl 4 rfl) (j := 1) rfl (by omega) ?_
  refine lv_aload_n hx hb dW_759 rfl (lv_at hl 3 rfl) ?_
  refine xl_call (As := [.ref (adc 0), .int (xs (5 * t + 1)), .ref qo]) (n := 3) (rest := []) F (fun sz => hh D cI cL adc qo sz) xw_is ⟨by decide +kernel, by decide +kernel, by decide +kernel⟩ (by decide) rfl hl.1 rfl (Nat.le_of_ble_eq_true rfl) dW_760 hc hs hP hD hS (fun H1 locs1 hP hD hS => ?_)
  refine lv_istore hx hb dW_763 hl (by decide) rfl (fun ls1 hl1 => ?_)
  have hl : lv_has ls1 8 [(0, .ref b), (1, .ref (adc 0)), (2, .ref (adm 0)), (3, .ref qo), (4, .int (nI (5 * t))), (5, .int k)] := lv_sub hl1 [1, 2, 3, 4, 5, 0] rfl
  refine lv_aload_n hx hb dW_765 rfl (lv_at hl 2 rfl) ?_
  refine xl_ld F hL hS dW_766 dW_767 dW_769 dW_770 dW_771 (lv_at hl 0 rfl) (lv_at hl 4 rfl) (j := 1) rfl (by omega) ?_
  refine xl_mod (Bs := [.int (xs (5 * t + 1))]) (rest := []) F hz xM102_ok rfl xim_is hm rfl ⟨by decide, by decide⟩ hl.1 (Nat.le_of_ble_eq_true rfl) dW_772 hc hs hP hD hS rfl (fun H2 locs2 hP hD hS => ?_)
  refine lv_istore hx hb dW_775 hl (by decide) rfl (fun ls2 hl2 => ?_)
  have hl : lv_has ls2 8 [(0, .ref b), (1, .ref (adc 0)), (2, .ref (adm 0)), (3, .ref qo), (4, .int (nI (5 * t))), (5, .int k), (6, .int y)] := lv_sub hl2 [1, 2, 3, 4, 5, 6, 0] rfl
  refine lv_aload_n hx hb dW_777 rfl (lv_at hl 2 rfl) ?_
  refine xl_thr F hz' xi_thr hl.1 (Nat.le_of_ble_eq_true rfl) dW_778 hc hs hP hD hS (fun H3 locs3 hP hD hS => ?_)
  refine lv_iload hx hb dW_781 (lv_at hl 5 rfl) ?_
  refine lv_icmp_eq hx hb dW_783 (tgt := 788) rfl (fun _ => ?_) (fun z => absurd rfl z)
  refine lv_iload hx hb dW_788 (lv_at hl 5 rfl) ?_
  refine lv_if_ne hx hb dW_790 (tgt := 812) rfl (fun _ => ?_) (fun z => ?_)
  · refine lv_goto hx hb dW_812 (tgt := 883) rfl ?_
    exact kk k wc' wm' o' _ _ _ hz' hP hD hS (lv_sub hl [0, 1, 2, 3, 4] rfl)
  · skip
    refine lv_aload_n hx hb dW_793 rfl (lv_at hl 3 rfl) ?_
    refine lv_iconst hx hb dW_794 (v := 0) rfl ?_
    refine va_lald hx hb hK hP ((ez_z cI adc wc').length + 0) 1 xl_o rfl (i := 0) xo_in dW_795 ?_
    rw [ho z]
    refine lv_iload hx hb dW_796 (lv_at hl 6 rfl) ?_
    refine lv_if_eq hx hb dW_798 (tgt := 805) rfl (fun w0 => ?_) (fun w0 => ?_)
    · rw [if_pos w0]
      refine lv_lconst hx hb dW_805 (v := 0) rfl ?_
      refine W.lcmp hx hb dW_806 ?_
      rw [xl_same]
      refine lv_if_eq hx hb dW_807 (tgt := 812) rfl (fun _ => ?_) (fun z => absurd rfl z)
      refine lv_goto hx hb dW_812 (tgt := 883) rfl ?_
      exact kk k wc' wm' o' _ _ _ hz' hP hD hS (lv_sub hl [0, 1, 2, 3, 4] rfl)
    · rw [if_neg w0]
      refine lv_lconst hx hb dW_801 (v := 1) rfl ?_
      refine lv_goto hx hb dW_802 (tgt := 806) rfl ?_
      refine W.lcmp hx hb dW_806 ?_
      rw [xl_same]
      refine lv_if_eq hx hb dW_807 (tgt := 812) rfl (fun _ => ?_) (fun z => absurd rfl z)
      refine lv_goto hx hb dW_812 (tgt := 883) rfl ?_
      exact kk k wc' wm' o' _ _ _ hz' hP hD hS (lv_sub hl [0, 1, 2, 3, 4] rfl)
theorem xw_count : ez_in (.codeWith yL_count cL_count 4 (some .int) [(0, 8, 11, 19)]) = true ∧ ez_in (.methodLink RL 108 yL_count) = true ∧ ez_in (.static yL_count) = true ∧ ez_in (.initialized yL_count.cls) = true := ⟨by decide +kernel, by decide +kernel, by decide +kernel, by decide +kernel⟩
theorem xim_count : xh_in 110 xM103 := ⟨by decide +kernel, by decide +kernel, by decide +kernel⟩
theorem xl_count (hlt : l.stackTraces = false) (F : xl_F p s m args c D cI cL b L xs) (hL : L ≤ 2560) {t : Nat} (ht : 5 * t + 5 ≤ L) {z : Int32} (hz : zl_W z wc wm) (hP : va_P D vwCl (xl_T cI cL adc adm qo wc wm o) H) (hD : va_D (xl_A s) (xl_T cI cL adc adm qo wc wm o)) (hS : va_S (xl_A s) s.heap H locs) (hl : lv_has ls 8 (xl_lv b adc adm qo (5 * t))) (hc : cells + 1 ≤ room_1.cells) (hs : slots + 6 ≤ room_1.slots)
    (kk : ∀ (z' : Int32) (wc' wm' : ez_W) (o' : Nat → Int64) (H1 : Heap) (locs1 : List Loc) (ls1 : Array Slot), zl_W z' wc' wm' → va_P D vwCl (xl_T cI cL adc adm qo wc' wm' o') H1 → va_D (xl_A s) (xl_T cI cL adc adm qo wc' wm' o') → va_S (xl_A s) s.heap H1 locs1 → lv_has ls1 8 (xl_lv b adc adm qo (5 * t)) → W p l e room_1 s m args below meth c H1 locs1 (cells + 1) (slots + 6) Q (F0 m 883 ls1 [])) : W p l e room_1 s m args below meth c H locs cells slots Q (F0 m 815 ls []) := by
  obtain ⟨k, wc', wm', o', y, hz', hh, hm, ho⟩ := xt_count hlt hz (xs (5 * t + 1)) o
  have hF := F
  obtain ⟨hx, hb, hml, hown, hG, hK, hX, hbl, hZ⟩ := hF
  refine lv_aload_n hx hb dW_815 rfl (lv_at hl 1 rfl) ?_
  refine xl_ld F hL hS dW_816 dW_817 dW_819 dW_820 dW_821 (lv_at hl 0 rfl) (lv_at hl 4 rfl) (j := 1) rfl (by omega) ?_
  refine lv_aload_n hx hb dW_822 rfl (lv_at hl 3 rfl) ?_
  refine xl_call (As := [.ref (adc 0), .int (xs (5 * t + 1)), .ref qo]) (n := 3) (rest := []) F (fun sz => hh D cI cL adc qo sz) xw_count ⟨by decide +kernel, by decide +kernel, by decide +kernel⟩ (by decide) rfl hl.1 rfl (Nat.le_of_ble_eq_true rfl) dW_823 hc hs hP hD hS (fun H1 locs1 hP hD hS => ?_)
  refine lv_istore hx hb dW_826 hl (by decide) rfl (fun ls1 hl1 => ?_)
  have hl : lv_has ls1 8 [(0, .ref b), (1, .ref (adc 0)), (2, .ref (adm 0)), (3, .ref qo), (4, .int (nI (5 * t))), (5, .int k)] := lv_sub hl1 [1, 2, 3, 4, 5, 0] rfl
  refine lv_aload_n hx hb dW_828 rfl (lv_at hl 2 rfl) ?_
  refine xl_ld F hL hS dW_829 dW_830 dW_832 dW_833 dW_834 (lv_at hl 0 rfl) (lv_at hl 4 rfl) (j := 1) rfl (by omega) ?_
  refine xl_mod (Bs := [.int (xs (5 * t + 1))]) (rest := []) F hz xM103_ok rfl xim_count hm rfl ⟨by decide, by decide⟩ hl.1 (Nat.le_of_ble_eq_true rfl) dW_835 hc hs hP hD hS rfl (fun H2 locs2 hP hD hS => ?_)
  refine lv_lstore hx hb dW_838 hl (by decide) rfl (fun ls2 hl2 => ?_)
  have hl : lv_has ls2 8 [(0, .ref b), (1, .ref (adc 0)), (2, .ref (adm 0)), (3, .ref qo), (4, .int (nI (5 * t))), (5, .int k), (6, .long y)] := lv_sub hl2 [1, 2, 3, 4, 5, 6, 0] rfl
  refine lv_aload_n hx hb dW_840 rfl (lv_at hl 2 rfl) ?_
  refine xl_thr F hz' xi_thr hl.1 (Nat.le_of_ble_eq_true rfl) dW_841 hc hs hP hD hS (fun H3 locs3 hP hD hS => ?_)
  refine lv_iload hx hb dW_844 (lv_at hl 5 rfl) ?_
  refine lv_icmp_eq hx hb dW_846 (tgt := 851) rfl (fun _ => ?_) (fun z => absurd rfl z)
  refine lv_iload hx hb dW_851 (lv_at hl 5 rfl) ?_
  refine lv_if_ne hx hb dW_853 (tgt := 867) rfl (fun _ => ?_) (fun z => ?_)
  · refine lv_goto hx hb dW_867 (tgt := 883) rfl ?_
    exact kk k wc' wm' o' _ _ _ hz' hP hD hS (lv_sub hl [0, 1, 2, 3, 4] rfl)
  · skip
    refine lv_aload_n hx hb dW_856 rfl (lv_at hl 3 rfl) ?_
    refine lv_iconst hx hb dW_857 (v := 0) rfl ?_
    refine va_lald hx hb hK hP ((ez_z cI adc wc').length + 0) 1 xl_o rfl (i := 0) xo_in dW_858 ?_
    rw [ho z]
    refine lv_lload hx hb dW_859 (lv_at hl 6 rfl) ?_
    refine W.lcmp hx hb dW_861 ?_
    rw [xl_same]
    refine lv_if_eq hx hb dW_862 (tgt := 867) rfl (fun _ => ?_) (fun z => absurd rfl z)
    refine lv_goto hx hb dW_867 (tgt := 883) rfl ?_
    exact kk k wc' wm' o' _ _ _ hz' hP hD hS (lv_sub hl [0, 1, 2, 3, 4] rfl)
end XL
