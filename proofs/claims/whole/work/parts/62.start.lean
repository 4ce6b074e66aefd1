/-! THE CLAIM OUT OF ONE WALK OF THE LAW'S BODY. Your part is whole_start (and what it stands on); all else here is the same for every law, but numbers. -/
def R_law : String := "SortBenchLaw"
def lw_P (b : Addr) (xs : List Int32) (args : Array Value) (s : State) : Prop := args = #[.ref b] ∧ s.IntsAt b xs ∧ xs.length ≤ 2560 ∧ (Jvm.Cond.and given_1 narrow_1).before args s = true
def lw_Q (_ : Array Value) (s : State) (o : Outcome) (t : State) : Prop := o = .returned (some (.int 1)) ∧ Framed s o t [] 1058 16376
def lw_Z (below : List Frame) (a : Array Value) (s : State) : State → Prop := fun t => ∃ o, t.status = .running ∧ Ended t below o ∧ lw_Q a s o t
/-- the law's own end, with 1 on the stack, nothing written that was there before, its room as the claim has it -/
theorem lw_ret {p : Program} {l : Launch} {e : Env} {s : State} {m : MethodId} {below : List Frame} {meth : Method} {c : Code} {b : Nat} (hx : p.tables.exec = Jvm.exec) (hb : c.code = code) (hr : meth.sig.returnType = ret) (hlocks : meth.locks = false) {pc : Nat} {H : Heap} {ls : Array Slot} (hdg : decode code pc = .ok (.ireturn, 1)) : W p l e room_1 s m #[Value.ref b] below meth c H [] 1058 16376 (lw_Z below #[Value.ref b] s) (F0 m pc ls [.int 1]) := by
  intro T hT X
  obtain ⟨fs, hret, hrun, hended, hW, hframe⟩ := X.leave (v := some (.int 1)) (hlocks := hlocks) (fun h => by rw [hr] at h; cases h)
  have hmeth' : T.vm.method? m = some meth := X.method'
  refine ⟨T.setFrames fs, ?_, .returned (some (.int 1)), hrun, hended, rfl, ⟨_, rfl⟩, hW, hframe⟩
  jvm_step X.here [X.here.top, hx, hb, hdg, hmeth', hr, ret, narrow_b1]
  (try refine ⟨rfl, ?_⟩); (try refine ⟨rfl, ?_⟩)
  first | (intro acts; rw [hret _ acts rfl rfl rfl]) | rw [hret _ _ rfl rfl rfl]
  exact Steps.refl _
/-- what holds at the law's entry: the machine, the code, the tables' words (any of lw_tbl by 'hts w (by decide +kernel)'), the script of L ints xs at the cell b, what the Statement gives of the start (any of its parts by flat_of_before) -/
def lw_At (p : Program) (s : State) (m : MethodId) (meth : Method) (c : Code) (b L : Nat) (xs : Nat → Int32) : Prop :=
  p.tables.exec = Jvm.exec ∧ c.code = code ∧ meth.sig.returnType = ret ∧ c.maxLocals = 8 ∧ s.vm.findClass R_law = some m.cls ∧ (∀ w ∈ lw_tbl, w.before #[Value.ref b] s = true) ∧ va_X b L xs s s.heap ∧ b < s.heap.size ∧ meth.locks = false ∧ (Jvm.Cond.and given_1 narrow_1).before #[Value.ref b] s = true
/-! ===== the law's loop ===== -/
theorem xi_cc : xh_in 111 xM58 := ⟨by decide +kernel, by decide +kernel, by decide +kernel⟩
theorem xi_cm : xh_in 114 xM104 := ⟨by decide +kernel, by decide +kernel, by decide +kernel⟩
theorem xl_sub {L t : Nat} (hL : L ≤ 2560) (ht : t ≤ 513) (h : ¬ (Int32.ofNat L - 5) < nI (5 * t)) : 5 * t + 5 ≤ L := by
  by_cases h5 : 5 ≤ L
  · have e : Int32.ofNat L - 5 = nI (L - 5) := pk_sub (a := L) (b := 5) h5
    rw [e] at h
    have h1 := mt (nI_ltI (a := L - 5) (b := 5 * t) (by omega) (by omega)).mpr h
    omega
  · exfalso
    apply h
    rw [Int32.lt_iff_toInt_lt, nI_toInt (by omega)]
    have : (Int32.ofNat L - 5).toInt < 0 := by
      rcases (show L = 0 ∨ L = 1 ∨ L = 2 ∨ L = 3 ∨ L = 4 by omega) with rfl | rfl | rfl | rfl | rfl <;> decide
    omega
section XLP
variable {p : Program} {l : Launch} {e : Env} {s : State} {m : MethodId} {args : Array Value} {below : List Frame} {meth : Method} {c : Code} {Q : State → Prop}
variable {D : va_G} {cI cL : ClassId} {adc adm : Nat → Nat} {qo b L : Nat} {xs : Nat → Int32}
theorem xl_clear {H : Heap} {locs : List Loc} {cells slots : Nat} {ls : Array Slot} {wc wm : ez_W} {o : Nat → Int64} (F : xl_F p s m args c D cI cL b L xs) {t : Nat} {z : Int32} (hz : zl_W z wc wm) (hP : va_P D vwCl (xl_T cI cL adc adm qo wc wm o) H) (hD : va_D (xl_A s) (xl_T cI cL adc adm qo wc wm o)) (hS : va_S (xl_A s) s.heap H locs) (hl : lv_has ls 8 (xl_lv b adc adm qo (5 * t))) (hc : cells + 1 ≤ room_1.cells) (hs : slots + 6 ≤ room_1.slots)
    (kk : ∀ (z' : Int32) (wc' wm' : ez_W) (o' : Nat → Int64) (H1 : Heap) (locs1 : List Loc) (ls1 : Array Slot), zl_W z' wc' wm' → va_P D vwCl (xl_T cI cL adc adm qo wc' wm' o') H1 → va_D (xl_A s) (xl_T cI cL adc adm qo wc' wm' o') → va_S (xl_A s) s.heap H1 locs1 → lv_has ls1 8 (xl_lv b adc adm qo (5 * t)) → W p l e room_1 s m args below meth c H1 locs1 (cells + 1) (slots + 6) Q (F0 m 883 ls1 [])) : W p l e room_1 s m args below meth c H locs cells slots Q (F0 m 870 ls []) := by
  obtain ⟨y, wc', wm', hz', h1, h2⟩ := xt_clear (l := l) hz
  have hF := F
  obtain ⟨hx, hb, hml, hown, hG, hK, hX, hbl, hZ⟩ := hF
  have e1 : ∀ w : ez_W, xl_T cI cL adc adm qo w wm o = [] ++ (ez_z cI adc w ++ ([xo cL qo o] ++ (ez_z cI adm wm ++ []))) := fun w => List.append_assoc _ _ _
  obtain ⟨⟨fs, hw⟩, -⟩ := xt_cell hz
  refine lv_aload_n hx hb dW_870 rfl (lv_at hl 1 rfl) ?_
  rw [e1] at hP hD
  refine xh_callP (Z1 := []) (Z2 := [xo cL qo o] ++ (ez_z cI adm wm ++ [])) (ad := adc) (w := wc) (w1 := wc') (r := some (.int y)) (Bs := []) (rest := []) hx hb hml hown hG (hK.sub [0] rfl) xM58_ok xi_cc (fun sz => h1 D cI adc sz) hw rfl ⟨by decide, by decide⟩ hl.1 (Nat.le_of_ble_eq_true rfl) dW_871 (by omega) (by omega) hZ hS (fun q h => h) hP hD rfl (fun H1 locs1 hP hD hS => ?_)
  rw [← e1] at hP hD
  refine lv_aload_n hx hb dW_874 rfl (lv_at hl 2 rfl) ?_
  refine xl_mod (Bs := []) (rest := [.int y]) F hz xM104_ok rfl xi_cm h2 rfl ⟨by decide, by decide⟩ hl.1 (Nat.le_of_ble_eq_true rfl) dW_875 (by omega) (by omega) hP hD hS rfl (fun H2 locs2 hP hD hS => ?_)
  refine lv_icmp_eq hx hb dW_878 (tgt := 883) rfl (fun _ => ?_) (fun z => absurd rfl z)
  exact W.widen (by omega) (by omega) (kk 0 wc' wm' o H2 locs2 ls hz' hP hD hS hl)
theorem xl_loop (hlt : l.stackTraces = false) (F : xl_F p s m args c D cI cL b L xs) (hL : L ≤ 2560)
    (ex : ∀ (t : Nat) (H : Heap) (locs : List Loc) (ls : Array Slot), t ≤ 513 → va_S (xl_A s) s.heap H locs → W p l e room_1 s m args below meth c H locs (27 + t) (8142 + 6 * t) Q (F0 m 889 ls [])) :
    ∀ (d t : Nat), t + d = 513 → ∀ (z : Int32) (wc wm : ez_W) (o : Nat → Int64) (H : Heap) (locs : List Loc) (ls : Array Slot), zl_W z wc wm → va_P D vwCl (xl_T cI cL adc adm qo wc wm o) H → va_D (xl_A s) (xl_T cI cL adc adm qo wc wm o) → va_S (xl_A s) s.heap H locs → lv_has ls 8 (xl_lv b adc adm qo (5 * t)) → W p l e room_1 s m args below meth c H locs (27 + t) (8142 + 6 * t) Q (F0 m 23 ls []) := by
  intro d
  induction d with
  | zero =>
    intro t htd z wc wm o H locs ls hz hP hD hS hl
    obtain ⟨hx, hb, hml, hown, hG, hK, hX, hbl, hZ⟩ := F
    refine lv_iload hx hb dW_23 (lv_at hl 4 rfl) ?_
    refine lv_aload_n hx hb dW_25 rfl (lv_at hl 0 rfl) ?_
    refine va_slen (A := xl_A s) hx hb hX hbl (Nat.not_le.mpr hbl) hS dW_26 ?_
    refine lv_iconst hx hb dW_27 (v := 5) rfl ?_
    refine lv_isub hx hb dW_28 ?_
    refine lv_icmp_gt hx hb dW_29 (tgt := 889) rfl (fun _ => ex t H locs ls (by omega) hS) (fun h => ?_)
    have := xl_sub hL (by omega) h
    omega
  | succ d ih =>
    intro t htd z wc wm o H locs ls hz hP hD hS hl
    have hF := F
    obtain ⟨hx, hb, hml, hown, hG, hK, hX, hbl, hZ⟩ := hF
    refine lv_iload hx hb dW_23 (lv_at hl 4 rfl) ?_
    refine lv_aload_n hx hb dW_25 rfl (lv_at hl 0 rfl) ?_
    refine va_slen (A := xl_A s) hx hb hX hbl (Nat.not_le.mpr hbl) hS dW_26 ?_
    refine lv_iconst hx hb dW_27 (v := 5) rfl ?_
    refine lv_isub hx hb dW_28 ?_
    refine lv_icmp_gt hx hb dW_29 (tgt := 889) rfl (fun _ => ex t H locs ls (by omega) hS) (fun h => ?_)
    have ht := xl_sub hL (by omega) h
    have hc : 27 + t + 1 ≤ room_1.cells := by show 27 + t + 1 ≤ 1058; omega
    have hs : 8142 + 6 * t + 6 ≤ room_1.slots := by show 8142 + 6 * t + 6 ≤ 16376; omega
    have nx : ∀ (z' : Int32) (wc' wm' : ez_W) (o' : Nat → Int64) (H1 : Heap) (locs1 : List Loc) (ls1 : Array Slot), zl_W z' wc' wm' → va_P D vwCl (xl_T cI cL adc adm qo wc' wm' o') H1 → va_D (xl_A s) (xl_T cI cL adc adm qo wc' wm' o') → va_S (xl_A s) s.heap H1 locs1 → lv_has ls1 8 (xl_lv b adc adm qo (5 * t)) → W p l e room_1 s m args below meth c H1 locs1 (27 + t + 1) (8142 + 6 * t + 6) Q (F0 m 883 ls1 []) := by
      intro z' wc' wm' o' H1 locs1 ls1 hz' hP' hD' hS' hl'
      refine lv_iinc hx hb dW_883 hl' (k := 4) rfl (v := nI (5 * (t + 1))) (nI_add (5 * t) 5) (by decide) rfl (fun ls2 hl2 => ?_)
      refine lv_goto hx hb dW_886 (tgt := 23) rfl ?_
      exact W.widen (by omega) (by omega) (ih (t + 1) (by omega) z' wc' wm' o' H1 locs1 ls2 hz' hP' hD' hS' (lv_sub hl2 [1, 2, 3, 4, 0] rfl))
    refine lv_aload_n hx hb dW_32 rfl (lv_at hl 0 rfl) ?_
    refine lv_iload hx hb dW_33 (lv_at hl 4 rfl) ?_
    refine va_sld (A := xl_A s) hx hb hX hbl (Nat.not_le.mpr hbl) hS (nI_in (by omega) (by omega)) dW_35 ?_
    refine lv_bipush hx hb dW_36 (v := 15) rfl ?_
    refine lv_iand hx hb dW_38 ?_
    refine lv_topi (fun x _ => ?_)
    by_cases hr : 0 ≤ x.toInt ∧ x.toInt ≤ 12
    · obtain ⟨r0, r1⟩ := hr
      rcases (show x.toInt = 0 ∨ x.toInt = 1 ∨ x.toInt = 2 ∨ x.toInt = 3 ∨ x.toInt = 4 ∨ x.toInt = 5 ∨ x.toInt = 6 ∨ x.toInt = 7 ∨ x.toInt = 8 ∨ x.toInt = 9 ∨ x.toInt = 10 ∨ x.toInt = 11 ∨ x.toInt = 12 by omega) with h0 | h0 | h0 | h0 | h0 | h0 | h0 | h0 | h0 | h0 | h0 | h0 | h0
      · refine lv_tableIn hx hb dW_39 (off := 65) (tgt := 104) (by omega) (by omega) (by rw [h0]; rfl) rfl ?_
        exact xl_put hlt F hL ht hz hP hD hS hl hc hs nx
      · refine lv_tableIn hx hb dW_39 (off := 121) (tgt := 160) (by omega) (by omega) (by rw [h0]; rfl) rfl ?_
        exact xl_more hlt F hL ht hz hP hD hS hl hc hs nx
      · refine lv_tableIn hx hb dW_39 (off := 233) (tgt := 272) (by omega) (by omega) (by rw [h0]; rfl) rfl ?_
        exact xl_line hlt F hL ht hz hP hD hS hl hc hs nx
      · refine lv_tableIn hx hb dW_39 (off := 325) (tgt := 364) (by omega) (by omega) (by rw [h0]; rfl) rfl ?_
        exact xl_exchange hlt F hL ht hz hP hD hS hl hc hs nx
      · refine lv_tableIn hx hb dW_39 (off := 373) (tgt := 412) (by omega) (by omega) (by rw [h0]; rfl) rfl ?_
        exact xl_turn hlt F hL ht hz hP hD hS hl hc hs nx
      · refine lv_tableIn hx hb dW_39 (off := 421) (tgt := 460) (by omega) (by omega) (by rw [h0]; rfl) rfl ?_
        exact xl_order hlt F hL ht hz hP hD hS hl hc hs nx
      · refine lv_tableIn hx hb dW_39 (off := 477) (tgt := 516) (by omega) (by omega) (by rw [h0]; rfl) rfl ?_
        exact xl_sort hlt F hL ht hz hP hD hS hl hc hs nx
      · refine lv_tableIn hx hb dW_39 (off := 533) (tgt := 572) (by omega) (by omega) (by rw [h0]; rfl) rfl ?_
        exact xl_kill hlt F hL ht hz hP hD hS hl hc hs nx
      · refine lv_tableIn hx hb dW_39 (off := 601) (tgt := 640) (by omega) (by omega) (by rw [h0]; rfl) rfl ?_
        exact xl_get hlt F hL ht hz hP hD hS hl hc hs nx
      · refine lv_tableIn hx hb dW_39 (off := 657) (tgt := 696) (by omega) (by omega) (by rw [h0]; rfl) rfl ?_
        exact xl_tag hlt F hL ht hz hP hD hS hl hc hs nx
      · refine lv_tableIn hx hb dW_39 (off := 713) (tgt := 752) (by omega) (by omega) (by rw [h0]; rfl) rfl ?_
        exact xl_is hlt F hL ht hz hP hD hS hl hc hs nx
      · refine lv_tableIn hx hb dW_39 (off := 776) (tgt := 815) (by omega) (by omega) (by rw [h0]; rfl) rfl ?_
        exact xl_count hlt F hL ht hz hP hD hS hl hc hs nx
      · refine lv_tableIn hx hb dW_39 (off := 831) (tgt := 870) (by omega) (by omega) (by rw [h0]; rfl) rfl ?_
        exact xl_clear F hz hP hD hS hl hc hs nx
    · refine lv_tableOut hx hb dW_39 (tgt := 883) (by omega) rfl ?_
      exact W.widen (by omega) (by omega) (nx z wc wm o H locs ls hz hP hD hS hl)
end XLP
/-! ===== the law's start ===== -/
theorem xwl_58 : ez_in (.methodLink RL 58 yX7_init) = true := by decide +kernel
theorem xwl_61 : ez_in (.methodLink RL 61 yX8_init) = true := by decide +kernel
theorem xwc_7 : ez_in (.code yX7_init cX7_init 1 none) = true := by decide +kernel
theorem xwc_8 : ez_in (.code yX8_init cX8_init 1 none) = true := by decide +kernel
theorem xwi_7 : ez_in (.initialized RX7) = true := by decide +kernel
theorem xwi_8 : ez_in (.initialized RX8) = true := by decide +kernel
theorem xwm_7 : ez_in (.instanceMethod yX7_init) = true := by decide +kernel
theorem xwm_8 : ez_in (.instanceMethod yX8_init) = true := by decide +kernel
theorem xz_Kn {s : State} {args : Array Value} (hts : ∀ w ∈ lw_tbl, w.before args s = true) : ∃ (D : va_G) (cI : ClassId), va_K D vwCl [(cI, .int)] s := by
  have hG : ∀ w ∈ ez_G, w.before args s = true := fun w hw => hts w (ez_G_tbl hw)
  obtain ⟨c0, i0, h0⟩ := u_known (C := RX0) (T := TX0) (N := 1) (n := 1) hG (fun w hw => ez_in_G (ez_w0 w hw)) (hts (.instantiable RX0 1) (by decide +kernel))
  obtain ⟨c1, i1, h1⟩ := u_known (C := RX1) (T := TX1) (N := 1) (n := 1) hG (fun w hw => ez_in_G (ez_w1 w hw)) (hts (.instantiable RX1 1) (by decide +kernel))
  obtain ⟨c2, i2, h2⟩ := u_known (C := RX2) (T := TX2) (N := 15) (n := 15) hG (fun w hw => ez_in_G (ez_w2 w hw)) (hts (.instantiable RX2 15) (by decide +kernel))
  obtain ⟨c3, i3, h3⟩ := u_known (C := RX3) (T := TX3) (N := 8) (n := 8) hG (fun w hw => ez_in_G (ez_w3 w hw)) (hts (.instantiable RX3 8) (by decide +kernel))
  obtain ⟨c4, i4, h4⟩ := u_known (C := RX4) (T := TX4) (N := 7) (n := 7) hG (fun w hw => ez_in_G (ez_w4 w hw)) (hts (.instantiable RX4 7) (by decide +kernel))
  obtain ⟨c5, i5, h5⟩ := u_known (C := RX5) (T := TX5) (N := 1) (n := 1) hG (fun w hw => ez_in_G (ez_w5 w hw)) (hts (.instantiable RX5 1) (by decide +kernel))
  obtain ⟨c6, i6, h6⟩ := u_known (C := RX7) (T := TX7) (N := 10) (n := 10) hG (fun w hw => ez_in_G (ez_w6 w hw)) (hts (.instantiable RX7 10) (by decide +kernel))
  obtain ⟨c7, i7, h7⟩ := u_known (C := RX8) (T := TX8) (N := 26) (n := 26) hG (fun w hw => ez_in_G (ez_w7 w hw)) (hts (.instantiable RX8 26) (by decide +kernel))
  obtain ⟨cI, kI, comp, a1, a2, a3⟩ := Cond.arrayClass_spec (hts (.arrayClass .int) (by decide +kernel))
  refine ⟨(fun k => [c0, c1, c2, c3, c4, c5, c6, c7].getD k 0, fun k => [i0, i1, i2, i3, i4, i5, i6, i7].getD k (fun _ => 0)), cI, ?_, ?_⟩
  · intro k q hq
    match k, hq with
    | 0, hq => cases hq; exact h0
    | 1, hq => cases hq; exact h1
    | 2, hq => cases hq; exact h2
    | 3, hq => cases hq; exact h3
    | 4, hq => cases hq; exact h4
    | 5, hq => cases hq; exact h5
    | 6, hq => cases hq; exact h6
    | 7, hq => cases hq; exact h7
    | k + 8, hq => simp [vwCl] at hq
  · intro k q hq
    match k, hq with
    | 0, hq => cases hq; exact ⟨fun n z => ⟨fun k h => (by cases h), kI, a2, comp, a3⟩, a1⟩
    | k + 1, hq => simp at hq
theorem xz_st {s : State} {args : Array Value} {own tx : String} {k : Nat} (h1 : (Cond.stringRef own k tx).before args s = true) (h2 : (Cond.exactly (.string own k) "java/lang/String").before args s = true) : ∃ sa, vk_R own k tx sa s := by
  obtain ⟨a, c, cA, kA, q1, -⟩ := Cond.exactly_spec (args := args) (first := s) (o := none) (s := s) (idx := []) (t := .string own k) (cls := "java/lang/String") h2
  exact ⟨a, vk_R.of h1 q1⟩
theorem xz_Zs {s : State} {args : Array Value} (hts : ∀ w ∈ lw_tbl, w.before args s = true) (hgv : (Jvm.Cond.and given_1 narrow_1).before args s = true) : xz_Z (xl_A s) s := by
  have hs := flat_of_before _ hgv
  have hA : ∀ a : Nat, a < s.heap.size → ¬ xl_A s a := fun a h => Nat.not_le.mpr h
  refine ⟨vx_Zqof (hts (.laysStatic Bundle.tN "UNASSIGNED_STACK" Bundle.steD) (by decide +kernel)) (hts (.initialized Bundle.tN) (by decide +kernel)) (hs (.isRef (.static Bundle.tN "UNASSIGNED_STACK" Bundle.steD)) (by decide +kernel)) hA,
    vx_Zqof (hts (.laysStatic Bundle.tN "SUPPRESSED_SENTINEL" Bundle.listD) (by decide +kernel)) (hts (.initialized Bundle.tN) (by decide +kernel)) (hs (.isRef (.static Bundle.tN "SUPPRESSED_SENTINEL" Bundle.listD)) (by decide +kernel)) hA, ?_, ?_, ?_, va_Nc.of (hs (.not (.castable "java/lang/UnsupportedOperationException" "java/lang/IllegalArgumentException")) (by decide +kernel)), ?_⟩
  · intro q hq
    simp only [xz_str, List.mem_cons, List.not_mem_nil, or_false] at hq
    rcases hq with rfl | rfl | rfl | rfl | rfl | rfl | rfl
    · exact xz_st (hts (.stringRef RX7 172 "more than 600 numbers") (by decide +kernel)) (hs (.exactly (.string RX7 172) "java/lang/String") (by decide +kernel))
    · exact xz_st (hts (.stringRef RX7 68 "span is below 1") (by decide +kernel)) (hs (.exactly (.string RX7 68) "java/lang/String") (by decide +kernel))
    · exact xz_st (hts (.stringRef RX7 168 "n is not 0 .. 600") (by decide +kernel)) (hs (.exactly (.string RX7 168) "java/lang/String") (by decide +kernel))
    · exact xz_st (hts (.stringRef RX7 80 "times is not 1 .. 600") (by decide +kernel)) (hs (.exactly (.string RX7 80) "java/lang/String") (by decide +kernel))
    · exact xz_st (hts (.stringRef RX7 164 "no such place") (by decide +kernel)) (hs (.exactly (.string RX7 164) "java/lang/String") (by decide +kernel))
    · exact xz_st (hts (.stringRef RX7 91 "no such range") (by decide +kernel)) (hs (.exactly (.string RX7 91) "java/lang/String") (by decide +kernel))
    · exact xz_st (hts (.stringRef RX7 166 "no such choice") (by decide +kernel)) (hs (.exactly (.string RX7 166) "java/lang/String") (by decide +kernel))
  · intro X hX
    simp only [xz_exc, List.mem_cons, List.not_mem_nil, or_false] at hX
    rcases hX with rfl | rfl | rfl
    · exact hts (.castable "java/lang/IllegalArgumentException" "java/lang/IllegalArgumentException") (by decide +kernel)
    · exact hts (.castable "java/lang/IndexOutOfBoundsException" "java/lang/IndexOutOfBoundsException") (by decide +kernel)
    · exact hts (.castable "java/lang/UnsupportedOperationException" "java/lang/UnsupportedOperationException") (by decide +kernel)
  · intro x hx
    simp only [xz_dec, List.mem_cons, List.not_mem_nil, or_false] at hx
    rcases hx with rfl | rfl | rfl | rfl
    · exact hts (.declares xz_arr) (by decide +kernel)
    · exact hts (.declares (Bundle.initS "java/lang/RuntimeException")) (by decide +kernel)
    · exact hts (.declares (Bundle.initS "java/lang/Exception")) (by decide +kernel)
    · exact hts (.declares (Bundle.initS Bundle.tN)) (by decide +kernel)
  · obtain ⟨ga, g1, g2⟩ := va_Tof (tm := .static RX5 "GAPS" "[I") (ty := .int) (N := 7) (f := fun j => .int (xz_gap j)) (A := xl_A s) (by decide) (hs (.arrayOf (.static RX5 "GAPS" "[I") .int) (by decide +kernel)) (va_eqt (hs (.eq (.length (.static RX5 "GAPS" "[I")) (.int 7)) (by decide +kernel))) (fun j hj => by
      rcases (show j = 0 ∨ j = 1 ∨ j = 2 ∨ j = 3 ∨ j = 4 ∨ j = 5 ∨ j = 6 by omega) with rfl | rfl | rfl | rfl | rfl | rfl | rfl
      · exact va_eqt (hs (.eq (.elem (.static RX5 "GAPS" "[I") (.int 0)) (.int 301)) (by decide +kernel))
      · exact va_eqt (hs (.eq (.elem (.static RX5 "GAPS" "[I") (.int 1)) (.int 132)) (by decide +kernel))
      · exact va_eqt (hs (.eq (.elem (.static RX5 "GAPS" "[I") (.int 2)) (.int 57)) (by decide +kernel))
      · exact va_eqt (hs (.eq (.elem (.static RX5 "GAPS" "[I") (.int 3)) (.int 23)) (by decide +kernel))
      · exact va_eqt (hs (.eq (.elem (.static RX5 "GAPS" "[I") (.int 4)) (.int 10)) (by decide +kernel))
      · exact va_eqt (hs (.eq (.elem (.static RX5 "GAPS" "[I") (.int 5)) (.int 4)) (by decide +kernel))
      · exact va_eqt (hs (.eq (.elem (.static RX5 "GAPS" "[I") (.int 6)) (.int 1)) (by decide +kernel))) hA
    exact ⟨ga, va_Zof (hts (.laysStatic RX5 "GAPS" "[I") (by decide +kernel)) (hts (.initialized RX5) (by decide +kernel)) g1 hA, g2⟩
def xz_r0 : cz_Row := (0, 0, 0, 0, -1, 0, fun _ => 0, fun _ => 0)
def xz_q0 : cz_Qk := (0, 0, 0, 0, 0, 0, 0, 0, 0, fun _ => 0, fun _ => 0, fun _ => 0)
def xz_u0 : cz_Rn := (0, 0, 0, fun _ => 0, fun _ => 0, fun _ => 0)
def xz_b0 : cz_Bn := (0, 0, 0, 0)
def xz_A0 : mz_A := (0, 0, 0, 0, 0, 0, 0, fun _ => 0, fun _ => 0, fun _ => 0)
def xz_Q0 : mz_Q := (0, 0, 0, 0, 0, fun _ => 0, fun _ => 0, fun _ => 0)
def xz_U0 : mz_U := (0, 0, 0, fun _ => 0, fun _ => 0, fun _ => 0)
def xz_T0 : mz_T := (0, fun _ => 0)
theorem xz_W0 : zl_W 0 (cz_w xz_r0 xz_q0 xz_u0 xz_b0) (mz_w xz_A0 xz_Q0 xz_U0 xz_T0) :=
  ⟨0, fun k => k, _, _, _, _, _, _, _, _, rfl, rfl, ⟨by decide, fun k h => absurd h (Nat.not_lt_zero k), rfl, rfl, rfl, by simp [ze_or, xz_A0], rfl, rfl, fun k h => absurd h (Nat.not_lt_zero k), fun k h => absurd h (Nat.not_lt_zero k), fun k h => absurd h (Nat.not_lt_zero k), rfl, rfl, rfl, rfl, rfl, rfl⟩, rfl⟩
set_option maxRecDepth 100000 in
set_option maxHeartbeats 4000000 in
theorem whole_start {p : Program} {e : Env} {s : State} {m : MethodId} {below : List Frame} {meth : Method} {c : Code} (l : Launch) (hlt : l.stackTraces = false) {b L : Nat} {xs : Nat → Int32} (hL : L ≤ 2560) (C0 : lw_At p s m meth c b L xs) : W p l e room_1 s m #[Value.ref b] below meth c s.heap [] 0 0 (lw_Z below #[Value.ref b] s) (entryFrame m ([Value.ref b] : List Value).toArray 8) := by
  obtain ⟨hx, hb, hr, hml, hown0, hts, hX, hbl, hlocks, hgv⟩ := C0
  have hown : s.vm.findClass RL = some m.cls := hown0
  have hG : ∀ w ∈ ez_G, w.before #[Value.ref b] s = true := fun w hw => hts w (ez_G_tbl hw)
  obtain ⟨D, cI, hK⟩ := xz_Kn hts
  have hZ := xz_Zs hts hgv
  have hA : ∀ q : Nat, s.heap.size ≤ q → xl_A s q := fun _ h => h
  have hS : va_S (xl_A s) s.heap s.heap [] := va_S.rf
  have hP : va_P D vwCl [] s.heap := fun k q h => by simp at h
  have hD : va_D (xl_A s) [] := ⟨fun i j p q h => by simp at h, fun k q h => by simp at h⟩
  have hl := lv_entry ([.ref b]) (n := 8) (Nat.le_of_ble_eq_true rfl)
  rw [lg_entry_eq]
  generalize (lg_sl ([.ref b]) ++ List.replicate (8 - (lg_sl ([.ref b])).length) Slot.unset).toArray = ls at hl ⊢
  have hl : lv_has ls 8 [(0, .ref b)] := hl
  refine va_new (ci := 6) (fs := [.null, .null, .null, .null, .null, .null, .long 0, .long 0, .long 0, .long 0]) (C := RX7) (T := TX7) (N := 10) hx hb hG (fun w hw => ez_in_G (ez_w6 w hw)) tyX7 tyX7_ok hown (hts (.classLink RL 8 RX7) (by decide +kernel)) (hts (.instantiable RX7 10) (by decide +kernel)) (hts (.initialized RX7) (by decide +kernel)) hK hP hD hS hA rfl (fun j hj => by rcases (show j = 0 ∨ j = 1 ∨ j = 2 ∨ j = 3 ∨ j = 4 ∨ j = 5 ∨ j = 6 ∨ j = 7 ∨ j = 8 ∨ j = 9 by omega) with rfl | rfl | rfl | rfl | rfl | rfl | rfl | rfl | rfl | rfl <;> rfl) (Nat.le_of_ble_eq_true rfl) (Nat.le_of_ble_eq_true rfl) dW_0 (fun h0 H hP hD hS => ?_)
  refine W.widen (k := 1) (n := 10) (by decide) (by decide) ?_
  refine lv_dup hx hb dW_3 rfl ?_
  refine xn_call (D := D) (cI := cI) (Z1 := []) (X := [(h0, .inr (6, [.null, .null, .null, .null, .null, .null, .long 0, .long 0, .long 0, .long 0]))]) (Z2 := []) (b := h0) (As := []) (n := 0) (rest := [.ref h0]) hx hb hml hown hG hK (fun sz => xn_7_7 l D cI h0 sz) rfl rfl xwc_7 xwi_7 (index := 58) xwl_58 xwm_7 rfl ⟨by decide, by decide, by decide +kernel⟩ ⟨by decide, by decide⟩ rfl hl.1 rfl (Nat.le_of_ble_eq_true rfl) dW_4 ⟨by decide, by decide⟩ hS hA hP hD (fun Y H locs hY hP hD hS => ?_)
  obtain ⟨qr, qn, qt, qi, qh, qk, qf, qo, qb, qu, qs, qz, qp, qe, rfl⟩ := hY
  have hP : va_P D vwCl [(h0, .inr (6, [.ref qr, .ref qi, .ref qh, .ref qk, .ref qu, .ref qe, .long 0, .long 0, .long 0, .long 0])), (qr, .inr (3, [.ref qn, .ref qt, .int 0, .int 0, .long 0, .int 0, .int (-1), .int 0])), (qn, .inl (cI, 600, .inl (fun _ => 0))), (qt, .inl (cI, 600, .inl (fun _ => 0))), (qi, .inr (1, [.ref qr])), (qh, .inr (0, [.ref qr])), (qk, .inr (2, [.ref qr, .ref qi, .ref qh, .ref qf, .ref qo, .ref qb, .int 0, .int 0, .int 0, .int 0, .int 0, .int 0, .int 0, .long 0, .long 0])), (qf, .inl (cI, 64, .inl (fun _ => 0))), (qo, .inl (cI, 64, .inl (fun _ => 0))), (qb, .inl (cI, 64, .inl (fun _ => 0))), (qu, .inr (4, [.ref qr, .ref qs, .ref qz, .ref qp, .int 0, .long 0, .long 0])), (qs, .inl (cI, 40, .inl (fun _ => 0))), (qz, .inl (cI, 40, .inl (fun _ => 0))), (qp, .inl (cI, 600, .inl (fun _ => 0))), (qe, .inr (5, [.ref qr]))] H := hP
  have hD : va_D (xl_A s) [(h0, .inr (6, [.ref qr, .ref qi, .ref qh, .ref qk, .ref qu, .ref qe, .long 0, .long 0, .long 0, .long 0])), (qr, .inr (3, [.ref qn, .ref qt, .int 0, .int 0, .long 0, .int 0, .int (-1), .int 0])), (qn, .inl (cI, 600, .inl (fun _ => 0))), (qt, .inl (cI, 600, .inl (fun _ => 0))), (qi, .inr (1, [.ref qr])), (qh, .inr (0, [.ref qr])), (qk, .inr (2, [.ref qr, .ref qi, .ref qh, .ref qf, .ref qo, .ref qb, .int 0, .int 0, .int 0, .int 0, .int 0, .int 0, .int 0, .long 0, .long 0])), (qf, .inl (cI, 64, .inl (fun _ => 0))), (qo, .inl (cI, 64, .inl (fun _ => 0))), (qb, .inl (cI, 64, .inl (fun _ => 0))), (qu, .inr (4, [.ref qr, .ref qs, .ref qz, .ref qp, .int 0, .long 0, .long 0])), (qs, .inl (cI, 40, .inl (fun _ => 0))), (qz, .inl (cI, 40, .inl (fun _ => 0))), (qp, .inl (cI, 600, .inl (fun _ => 0))), (qe, .inr (5, [.ref qr]))] := hD
  refine W.widen (k := 15) (n := 2115) (by decide) (by decide) ?_
  refine lv_astore_n (lv' := [(1, .ref h0), (0, .ref b)]) hx hb dW_7 rfl hl (by decide) rfl (fun ls hl => ?_)
  refine va_new (ci := 7) (fs := [.int 0, .int 0, .null, .null, .null, .int 0, .int 0, .int 0, .int 0, .null, .null, .long 0, .long 0, .long 0, .long 0, .long 0, .long 0, .long 0, .null, .null, .int 0, .null, .null, .null, .int 0, .int 0]) (C := RX8) (T := TX8) (N := 26) hx hb hG (fun w hw => ez_in_G (ez_w7 w hw)) tyX8 tyX8_ok hown (hts (.classLink RL 59 RX8) (by decide +kernel)) (hts (.instantiable RX8 26) (by decide +kernel)) (hts (.initialized RX8) (by decide +kernel)) hK hP hD hS hA rfl (fun j hj => by rcases (show j = 0 ∨ j = 1 ∨ j = 2 ∨ j = 3 ∨ j = 4 ∨ j = 5 ∨ j = 6 ∨ j = 7 ∨ j = 8 ∨ j = 9 ∨ j = 10 ∨ j = 11 ∨ j = 12 ∨ j = 13 ∨ j = 14 ∨ j = 15 ∨ j = 16 ∨ j = 17 ∨ j = 18 ∨ j = 19 ∨ j = 20 ∨ j = 21 ∨ j = 22 ∨ j = 23 ∨ j = 24 ∨ j = 25 by omega) with rfl | rfl | rfl | rfl | rfl | rfl | rfl | rfl | rfl | rfl | rfl | rfl | rfl | rfl | rfl | rfl | rfl | rfl | rfl | rfl | rfl | rfl | rfl | rfl | rfl | rfl <;> rfl) (Nat.le_of_ble_eq_true rfl) (Nat.le_of_ble_eq_true rfl) dW_8 (fun m0 H hP hD hS => ?_)
  refine W.widen (k := 16) (n := 2141) (by decide) (by decide) ?_
  refine lv_dup hx hb dW_11 rfl ?_
  refine xn_call (D := D) (cI := cI) (Z1 := [(h0, .inr (6, [.ref qr, .ref qi, .ref qh, .ref qk, .ref qu, .ref qe, .long 0, .long 0, .long 0, .long 0])), (qr, .inr (3, [.ref qn, .ref qt, .int 0, .int 0, .long 0, .int 0, .int (-1), .int 0])), (qn, .inl (cI, 600, .inl (fun _ => 0))), (qt, .inl (cI, 600, .inl (fun _ => 0))), (qi, .inr (1, [.ref qr])), (qh, .inr (0, [.ref qr])), (qk, .inr (2, [.ref qr, .ref qi, .ref qh, .ref qf, .ref qo, .ref qb, .int 0, .int 0, .int 0, .int 0, .int 0, .int 0, .int 0, .long 0, .long 0])), (qf, .inl (cI, 64, .inl (fun _ => 0))), (qo, .inl (cI, 64, .inl (fun _ => 0))), (qb, .inl (cI, 64, .inl (fun _ => 0))), (qu, .inr (4, [.ref qr, .ref qs, .ref qz, .ref qp, .int 0, .long 0, .long 0])), (qs, .inl (cI, 40, .inl (fun _ => 0))), (qz, .inl (cI, 40, .inl (fun _ => 0))), (qp, .inl (cI, 600, .inl (fun _ => 0))), (qe, .inr (5, [.ref qr]))]) (X := [(m0, .inr (7, [.int 0, .int 0, .null, .null, .null, .int 0, .int 0, .int 0, .int 0, .null, .null, .long 0, .long 0, .long 0, .long 0, .long 0, .long 0, .long 0, .null, .null, .int 0, .null, .null, .null, .int 0, .int 0]))]) (Z2 := []) (b := m0) (As := []) (n := 0) (rest := [.ref m0]) hx hb hml hown hG hK (fun sz => xn_8_8 l D cI m0 sz) rfl rfl xwc_8 xwi_8 (index := 61) xwl_61 xwm_8 rfl ⟨by decide, by decide, by decide +kernel⟩ ⟨by decide, by decide⟩ rfl hl.1 rfl (Nat.le_of_ble_eq_true rfl) dW_12 ⟨by decide, by decide⟩ hS hA hP hD (fun Y H locs hY hP hD hS => ?_)
  obtain ⟨q1, q2, q3, q4, q5, q6, q7, q8, q9, q10, rfl⟩ := hY
  have hP : va_P D vwCl [(h0, .inr (6, [.ref qr, .ref qi, .ref qh, .ref qk, .ref qu, .ref qe, .long 0, .long 0, .long 0, .long 0])), (qr, .inr (3, [.ref qn, .ref qt, .int 0, .int 0, .long 0, .int 0, .int (-1), .int 0])), (qn, .inl (cI, 600, .inl (fun _ => 0))), (qt, .inl (cI, 600, .inl (fun _ => 0))), (qi, .inr (1, [.ref qr])), (qh, .inr (0, [.ref qr])), (qk, .inr (2, [.ref qr, .ref qi, .ref qh, .ref qf, .ref qo, .ref qb, .int 0, .int 0, .int 0, .int 0, .int 0, .int 0, .int 0, .long 0, .long 0])), (qf, .inl (cI, 64, .inl (fun _ => 0))), (qo, .inl (cI, 64, .inl (fun _ => 0))), (qb, .inl (cI, 64, .inl (fun _ => 0))), (qu, .inr (4, [.ref qr, .ref qs, .ref qz, .ref qp, .int 0, .long 0, .long 0])), (qs, .inl (cI, 40, .inl (fun _ => 0))), (qz, .inl (cI, 40, .inl (fun _ => 0))), (qp, .inl (cI, 600, .inl (fun _ => 0))), (qe, .inr (5, [.ref qr])), (m0, .inr (7, [.int 0, .int 0, .ref q1, .ref q2, .ref q3, .int 0, .int 0, .int 0, .int 0, .ref q4, .ref q5, .long 0, .long 0, .long 0, .long 0, .long 0, .long 0, .long 0, .ref q6, .ref q7, .int 0, .ref q8, .ref q9, .ref q10, .int 0, .int 0])), (q1, .inl (cI, 600, .inl (fun _ => 0))), (q2, .inl (cI, 600, .inl (fun _ => 0))), (q3, .inl (cI, 600, .inl (fun _ => 0))), (q4, .inl (cI, 600, .inl (fun _ => 0))), (q5, .inl (cI, 600, .inl (fun _ => 0))), (q6, .inl (cI, 600, .inl (fun _ => 0))), (q7, .inl (cI, 600, .inl (fun _ => 0))), (q8, .inl (cI, 600, .inl (fun _ => 0))), (q9, .inl (cI, 600, .inl (fun _ => 0))), (q10, .inl (cI, 600, .inl (fun _ => 0)))] H := hP
  have hD : va_D (xl_A s) [(h0, .inr (6, [.ref qr, .ref qi, .ref qh, .ref qk, .ref qu, .ref qe, .long 0, .long 0, .long 0, .long 0])), (qr, .inr (3, [.ref qn, .ref qt, .int 0, .int 0, .long 0, .int 0, .int (-1), .int 0])), (qn, .inl (cI, 600, .inl (fun _ => 0))), (qt, .inl (cI, 600, .inl (fun _ => 0))), (qi, .inr (1, [.ref qr])), (qh, .inr (0, [.ref qr])), (qk, .inr (2, [.ref qr, .ref qi, .ref qh, .ref qf, .ref qo, .ref qb, .int 0, .int 0, .int 0, .int 0, .int 0, .int 0, .int 0, .long 0, .long 0])), (qf, .inl (cI, 64, .inl (fun _ => 0))), (qo, .inl (cI, 64, .inl (fun _ => 0))), (qb, .inl (cI, 64, .inl (fun _ => 0))), (qu, .inr (4, [.ref qr, .ref qs, .ref qz, .ref qp, .int 0, .long 0, .long 0])), (qs, .inl (cI, 40, .inl (fun _ => 0))), (qz, .inl (cI, 40, .inl (fun _ => 0))), (qp, .inl (cI, 600, .inl (fun _ => 0))), (qe, .inr (5, [.ref qr])), (m0, .inr (7, [.int 0, .int 0, .ref q1, .ref q2, .ref q3, .int 0, .int 0, .int 0, .int 0, .ref q4, .ref q5, .long 0, .long 0, .long 0, .long 0, .long 0, .long 0, .long 0, .ref q6, .ref q7, .int 0, .ref q8, .ref q9, .ref q10, .int 0, .int 0])), (q1, .inl (cI, 600, .inl (fun _ => 0))), (q2, .inl (cI, 600, .inl (fun _ => 0))), (q3, .inl (cI, 600, .inl (fun _ => 0))), (q4, .inl (cI, 600, .inl (fun _ => 0))), (q5, .inl (cI, 600, .inl (fun _ => 0))), (q6, .inl (cI, 600, .inl (fun _ => 0))), (q7, .inl (cI, 600, .inl (fun _ => 0))), (q8, .inl (cI, 600, .inl (fun _ => 0))), (q9, .inl (cI, 600, .inl (fun _ => 0))), (q10, .inl (cI, 600, .inl (fun _ => 0)))] := hD
  refine W.widen (k := 26) (n := 8141) (by decide) (by decide) ?_
  refine lv_astore_n (lv' := [(2, .ref m0), (1, .ref h0), (0, .ref b)]) hx hb dW_15 rfl hl (by decide) rfl (fun ls hl => ?_)
  refine lv_iconst (v := 1) hx hb dW_16 (by decide) ?_
  refine va_newa (D := D) (atype := .long) (tys := [(cI, .int)]) (ty := .long) (a0 := (1, .inr (.inl (fun _ => 0)))) hx hb (hts (.arrayClass .long) (by decide +kernel)) rfl hK hP hD hS hA (fun _ => rfl) (by decide) rfl (by decide) (by decide) (by decide) dW_17 (fun q0 cL H hK hP hD hS => ?_)
  have hP : va_P D vwCl [(h0, .inr (6, [.ref qr, .ref qi, .ref qh, .ref qk, .ref qu, .ref qe, .long 0, .long 0, .long 0, .long 0])), (qr, .inr (3, [.ref qn, .ref qt, .int 0, .int 0, .long 0, .int 0, .int (-1), .int 0])), (qn, .inl (cI, 600, .inl (fun _ => 0))), (qt, .inl (cI, 600, .inl (fun _ => 0))), (qi, .inr (1, [.ref qr])), (qh, .inr (0, [.ref qr])), (qk, .inr (2, [.ref qr, .ref qi, .ref qh, .ref qf, .ref qo, .ref qb, .int 0, .int 0, .int 0, .int 0, .int 0, .int 0, .int 0, .long 0, .long 0])), (qf, .inl (cI, 64, .inl (fun _ => 0))), (qo, .inl (cI, 64, .inl (fun _ => 0))), (qb, .inl (cI, 64, .inl (fun _ => 0))), (qu, .inr (4, [.ref qr, .ref qs, .ref qz, .ref qp, .int 0, .long 0, .long 0])), (qs, .inl (cI, 40, .inl (fun _ => 0))), (qz, .inl (cI, 40, .inl (fun _ => 0))), (qp, .inl (cI, 600, .inl (fun _ => 0))), (qe, .inr (5, [.ref qr])), (m0, .inr (7, [.int 0, .int 0, .ref q1, .ref q2, .ref q3, .int 0, .int 0, .int 0, .int 0, .ref q4, .ref q5, .long 0, .long 0, .long 0, .long 0, .long 0, .long 0, .long 0, .ref q6, .ref q7, .int 0, .ref q8, .ref q9, .ref q10, .int 0, .int 0])), (q1, .inl (cI, 600, .inl (fun _ => 0))), (q2, .inl (cI, 600, .inl (fun _ => 0))), (q3, .inl (cI, 600, .inl (fun _ => 0))), (q4, .inl (cI, 600, .inl (fun _ => 0))), (q5, .inl (cI, 600, .inl (fun _ => 0))), (q6, .inl (cI, 600, .inl (fun _ => 0))), (q7, .inl (cI, 600, .inl (fun _ => 0))), (q8, .inl (cI, 600, .inl (fun _ => 0))), (q9, .inl (cI, 600, .inl (fun _ => 0))), (q10, .inl (cI, 600, .inl (fun _ => 0))), (q0, .inl (cL, 1, .inr (.inl (fun _ => 0))))] H := hP
  have hD : va_D (xl_A s) [(h0, .inr (6, [.ref qr, .ref qi, .ref qh, .ref qk, .ref qu, .ref qe, .long 0, .long 0, .long 0, .long 0])), (qr, .inr (3, [.ref qn, .ref qt, .int 0, .int 0, .long 0, .int 0, .int (-1), .int 0])), (qn, .inl (cI, 600, .inl (fun _ => 0))), (qt, .inl (cI, 600, .inl (fun _ => 0))), (qi, .inr (1, [.ref qr])), (qh, .inr (0, [.ref qr])), (qk, .inr (2, [.ref qr, .ref qi, .ref qh, .ref qf, .ref qo, .ref qb, .int 0, .int 0, .int 0, .int 0, .int 0, .int 0, .int 0, .long 0, .long 0])), (qf, .inl (cI, 64, .inl (fun _ => 0))), (qo, .inl (cI, 64, .inl (fun _ => 0))), (qb, .inl (cI, 64, .inl (fun _ => 0))), (qu, .inr (4, [.ref qr, .ref qs, .ref qz, .ref qp, .int 0, .long 0, .long 0])), (qs, .inl (cI, 40, .inl (fun _ => 0))), (qz, .inl (cI, 40, .inl (fun _ => 0))), (qp, .inl (cI, 600, .inl (fun _ => 0))), (qe, .inr (5, [.ref qr])), (m0, .inr (7, [.int 0, .int 0, .ref q1, .ref q2, .ref q3, .int 0, .int 0, .int 0, .int 0, .ref q4, .ref q5, .long 0, .long 0, .long 0, .long 0, .long 0, .long 0, .long 0, .ref q6, .ref q7, .int 0, .ref q8, .ref q9, .ref q10, .int 0, .int 0])), (q1, .inl (cI, 600, .inl (fun _ => 0))), (q2, .inl (cI, 600, .inl (fun _ => 0))), (q3, .inl (cI, 600, .inl (fun _ => 0))), (q4, .inl (cI, 600, .inl (fun _ => 0))), (q5, .inl (cI, 600, .inl (fun _ => 0))), (q6, .inl (cI, 600, .inl (fun _ => 0))), (q7, .inl (cI, 600, .inl (fun _ => 0))), (q8, .inl (cI, 600, .inl (fun _ => 0))), (q9, .inl (cI, 600, .inl (fun _ => 0))), (q10, .inl (cI, 600, .inl (fun _ => 0))), (q0, .inl (cL, 1, .inr (.inl (fun _ => 0))))] := hD
  refine W.widen (k := 27) (n := 8142) (by decide) (by decide) ?_
  refine lv_astore_n (lv' := [(3, .ref q0), (2, .ref m0), (1, .ref h0), (0, .ref b)]) hx hb dW_19 rfl hl (by decide) rfl (fun ls hl => ?_)
  refine lv_iconst (v := nI 0) hx hb dW_20 rfl ?_
  refine lv_istore (lv' := [(4, .int (nI 0)), (3, .ref q0), (2, .ref m0), (1, .ref h0), (0, .ref b)]) hx hb dW_21 hl (by decide) rfl (fun ls hl => ?_)
  have hF : xl_F p s m #[Value.ref b] c D cI cL b L xs := ⟨hx, hb, hml, hown, hG, hK, hX, hbl, hZ⟩
  have hP9 : va_P D vwCl (xl_T cI cL (fun k => [h0, qr, qi, qh, qk, qu, qe, qn, qt, qf, qo, qb, qs, qz, qp].getD k 0) (fun k => [m0, q1, q2, q3, q4, q5, q6, q7, q8, q9, q10].getD k 0) q0 (cz_w xz_r0 xz_q0 xz_u0 xz_b0) (mz_w xz_A0 xz_Q0 xz_U0 xz_T0) (fun _ => 0)) H := hP.sub [0, 1, 4, 5, 6, 10, 14, 2, 3, 7, 8, 9, 11, 12, 13, 26, 15, 16, 17, 18, 19, 20, 21, 22, 23, 24, 25] rfl
  have hD9 : va_D (xl_A s) (xl_T cI cL (fun k => [h0, qr, qi, qh, qk, qu, qe, qn, qt, qf, qo, qb, qs, qz, qp].getD k 0) (fun k => [m0, q1, q2, q3, q4, q5, q6, q7, q8, q9, q10].getD k 0) q0 (cz_w xz_r0 xz_q0 xz_u0 xz_b0) (mz_w xz_A0 xz_Q0 xz_U0 xz_T0) (fun _ => 0)) := hD.sub [0, 1, 4, 5, 6, 10, 14, 2, 3, 7, 8, 9, 11, 12, 13, 26, 15, 16, 17, 18, 19, 20, 21, 22, 23, 24, 25] (by decide) rfl
  refine xl_loop hlt hF hL (fun t H locs ls ht hS => ?_) 513 0 rfl 0 _ _ _ H _ ls xz_W0 hP9 hD9 hS (lv_sub hl [4, 3, 2, 1, 0] rfl)
  refine va_forget (fun q hq => hS.2.2 q hq) ?_
  refine lv_iconst (v := 1) hx hb dW_889 rfl ?_
  refine W.widen (k := 1058) (n := 16376) (by omega) (by omega) ?_
  exact lw_ret hx hb hr hlocks dW_890
