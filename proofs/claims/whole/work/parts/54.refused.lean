abbrev xM105 : ez_M := (6, yX7_checkPlace, cX7_checkPlace, 2, none, 1, 7, 120)
theorem xM105_ok : ez_ms[105]? = some xM105 := rfl
abbrev xM106 : ez_M := (6, yX7_checkChoice, cX7_checkChoice, 3, none, 2, 7, 120)
theorem xM106_ok : ez_ms[106]? = some xM106 := rfl
abbrev xM107 : ez_M := (6, yX7_checkAmount, cX7_checkAmount, 2, none, 1, 7, 120)
theorem xM107_ok : ez_ms[107]? = some xM107 := rfl
abbrev xM108 : ez_M := (6, yX7_checkRoom, cX7_checkRoom, 2, none, 1, 7, 120)
theorem xM108_ok : ez_ms[108]? = some xM108 := rfl
abbrev xM109 : ez_M := (6, yX7_wayOf, cX7_wayOf, 2, (some (.object "SortBench$Way")), 1, 0, 0)
theorem xM109_ok : ez_ms[109]? = some xM109 := rfl
abbrev xM110 : ez_M := (6, yX7_put, cX7_put, 2, (some .int), 1, 8, 141)
theorem xM110_ok : ez_ms[110]? = some xM110 := rfl
abbrev xM111 : ez_M := (6, yX7_more, cX7_more, 8, (some .int), 3, 8, 141)
theorem xM111_ok : ez_ms[111]? = some xM111 := rfl
abbrev xM112 : ez_M := (6, yX7_line, cX7_line, 6, (some .int), 4, 8, 141)
theorem xM112_ok : ez_ms[112]? = some xM112 := rfl
abbrev xM113 : ez_M := (6, yX7_exchange, cX7_exchange, 3, none, 2, 8, 141)
theorem xM113_ok : ez_ms[113]? = some xM113 := rfl
abbrev xM114 : ez_M := (6, yX7_turn, cX7_turn, 3, none, 2, 7, 120)
theorem xM114_ok : ez_ms[114]? = some xM114 := rfl
abbrev xM115 : ez_M := (6, yX7_order, cX7_order, 3, (some .int), 1, 8, 142)
theorem xM115_ok : ez_ms[115]? = some xM115 := rfl
abbrev xM116 : ez_M := (6, yX7_get, cX7_get, 2, (some .int), 1, 8, 141)
theorem xM116_ok : ez_ms[116]? = some xM116 := rfl
abbrev xM117 : ez_M := (6, yX7_tag, cX7_tag, 2, (some .int), 1, 8, 141)
theorem xM117_ok : ez_ms[117]? = some xM117 := rfl
abbrev xM118 : ez_M := (6, yX7_is, cX7_is, 3, (some .boolean), 1, 8, 142)
theorem xM118_ok : ez_ms[118]? = some xM118 := rfl
abbrev xM119 : ez_M := (6, yX7_count, cX7_count, 2, (some .long), 1, 8, 142)
theorem xM119_ok : ez_ms[119]? = some xM119 := rfl
abbrev xM120 : ez_M := (6, yX7_sort, cX7_sort, 2, (some .int), 1, 8, 142)
theorem xM120_ok : ez_ms[120]? = some xM120 := rfl
abbrev xM121 : ez_M := (6, yX7_kill, cX7_kill, 3, (some .int), 2, 8, 142)
theorem xM121_ok : ez_ms[121]? = some xM121 := rfl
abbrev xM122 : ez_M := (5, yX5_arrange, cX5_arrange, 6, none, 0, 3, 69)
theorem xM122_ok : ez_ms[122]? = some xM122 := rfl
set_option maxRecDepth 100000 in
theorem xA0_1 : ∀ w ∈ (xz_atoms 70 "java/lang/IllegalArgumentException").filter goodWord, ez_in w = true := by decide +kernel
set_option maxRecDepth 100000 in
theorem xA0_2 : ∀ w ∈ (xz_atoms 70 "java/lang/IllegalArgumentException").filter (fun w => !goodWord w), w ∈ xz_bad "java/lang/IllegalArgumentException" := by decide +kernel
set_option maxRecDepth 100000 in
theorem xA0_3 : ∀ w ∈ Jvm.Cond.classLink RX7 66 "java/lang/IllegalArgumentException" :: Jvm.Cond.initialized "java/lang/IllegalArgumentException" :: xz_atoms 70 "java/lang/IllegalArgumentException", vx_ot w = true := by decide +kernel
set_option maxRecDepth 100000 in
theorem xA0_4 : ez_in (.classLink RX7 66 "java/lang/IllegalArgumentException") = true ∧ ez_in (.initialized "java/lang/IllegalArgumentException") = true := by decide +kernel
set_option maxRecDepth 100000 in
theorem xA1_1 : ∀ w ∈ (xz_atoms 93 "java/lang/IndexOutOfBoundsException").filter goodWord, ez_in w = true := by decide +kernel
set_option maxRecDepth 100000 in
theorem xA1_2 : ∀ w ∈ (xz_atoms 93 "java/lang/IndexOutOfBoundsException").filter (fun w => !goodWord w), w ∈ xz_bad "java/lang/IndexOutOfBoundsException" := by decide +kernel
set_option maxRecDepth 100000 in
theorem xA1_3 : ∀ w ∈ Jvm.Cond.classLink RX7 89 "java/lang/IndexOutOfBoundsException" :: Jvm.Cond.initialized "java/lang/IndexOutOfBoundsException" :: xz_atoms 93 "java/lang/IndexOutOfBoundsException", vx_ot w = true := by decide +kernel
set_option maxRecDepth 100000 in
theorem xA1_4 : ez_in (.classLink RX7 89 "java/lang/IndexOutOfBoundsException") = true ∧ ez_in (.initialized "java/lang/IndexOutOfBoundsException") = true := by decide +kernel
set_option maxRecDepth 100000 in
theorem xA2_1 : ∀ w ∈ (xz_atoms 174 "java/lang/UnsupportedOperationException").filter goodWord, ez_in w = true := by decide +kernel
set_option maxRecDepth 100000 in
theorem xA2_2 : ∀ w ∈ (xz_atoms 174 "java/lang/UnsupportedOperationException").filter (fun w => !goodWord w), w ∈ xz_bad "java/lang/UnsupportedOperationException" := by decide +kernel
set_option maxRecDepth 100000 in
theorem xA2_3 : ∀ w ∈ Jvm.Cond.classLink RX7 170 "java/lang/UnsupportedOperationException" :: Jvm.Cond.initialized "java/lang/UnsupportedOperationException" :: xz_atoms 174 "java/lang/UnsupportedOperationException", vx_ot w = true := by decide +kernel
set_option maxRecDepth 100000 in
theorem xA2_4 : ez_in (.classLink RX7 170 "java/lang/UnsupportedOperationException") = true ∧ ez_in (.initialized "java/lang/UnsupportedOperationException") = true := by decide +kernel
/-! ===== the checks that refuse ===== -/
theorem xf_place {l : Launch} (hlt : l.stackTraces = false) {n : Nat} {r : cz_Row} {q : cz_Qk} {u : cz_Rn} {b : cz_Bn} (hn : n ≤ 600) (e1 : r.1 = nI n) {i : Int32} (hx : i < nI 0 ∨ nI n ≤ i) (D : va_G) (cI : ClassId) (ad : Nat → Nat) (sz : Nat) : xz_Met l xM105 D cI ad sz [.ref 0, .int i] (cz_w r q u b) "java/lang/IndexOutOfBoundsException" := by
  refine xz_thr (pcx := 15) (ik := 89) (is := 164) (ic := 93) (X := "java/lang/IndexOutOfBoundsException") (tx := "no such place") hlt xM105_ok rfl ?_ rfl ⟨by decide, by decide⟩ (ez_dec xM105_ok (ez_h105.i rfl)) (ez_dec xM105_ok (ez_h105.i rfl)) (ez_dec xM105_ok (ez_h105.i rfl)) (ez_dec xM105_ok (ez_h105.i rfl)) (ez_dec xM105_ok (ez_h105.i rfl)) (by decide +kernel) (by decide +kernel) (by decide +kernel) (ez_in_G xA1_4.1) (ez_in_G xA1_4.2) (fun w hw => ez_in_G (xA1_1 w hw)) xA1_2 xA1_3 D cI ad sz
  by_cases hi : i < nI 0
  · show wz_E 105 0 [some (.ref 0), some (.int (i))] [] (cz_w r q u b) (fun pc' _ st' w' => pc' = 15 ∧ st' = [] ∧ w' = cz_w r q u b)
    refine wz_go ez_h105 2 (pc' := bif decide (i < (nI 0)) then 15 else 4) (L' := [some (.ref 0), some (.int (i))]) (st' := []) (w' := cz_w r q u b) rfl ?_
    refine wz_ifT (hi) ?_
    exact wz_stop ⟨rfl, rfl, rfl⟩
  · show wz_E 105 0 [some (.ref 0), some (.int (i))] [] (cz_w r q u b) (fun pc' _ st' w' => pc' = 15 ∧ st' = [] ∧ w' = cz_w r q u b)
    refine wz_go ez_h105 2 (pc' := bif decide (i < (nI 0)) then 15 else 4) (L' := [some (.ref 0), some (.int (i))]) (st' := []) (w' := cz_w r q u b) rfl ?_
    refine wz_ifF (hi) ?_
    refine wz_go ez_h105 3 (pc' := 9) (L' := [some (.ref 0), some (.int (i))]) (st' := [.ref 1, .int (i)]) (w' := cz_w r q u b) rfl ?_
    refine wz_cl ez_h105 rfl rfl ?_
    refine ez_m.of (L := [some (.ref 1)]) rfl rfl rfl ?_
    refine ez_go ez_h26 2 (pc' := 4) (L' := [some (.ref 1)]) (st' := [.int (r.1)]) (w' := cz_w r q u b) rfl ?_
    refine ez_top (y := nI (n)) (e1) ?_
    refine ez_iret rfl ez_h26 rfl rfl ?_
    refine wz_go ez_h105 1 (pc' := bif decide (i < (nI (n))) then 25 else 15) (L' := [some (.ref 0), some (.int (i))]) (st' := []) (w' := cz_w r q u b) rfl ?_
    refine wz_ifF (Int32.not_lt.mpr (hx.resolve_left hi)) ?_
    exact wz_stop ⟨rfl, rfl, rfl⟩
theorem xf_choice {l : Launch} (hlt : l.stackTraces = false) {n : Nat} {r : cz_Row} {q : cz_Qk} {u : cz_Rn} {b : cz_Bn} (hn : n ≤ 600) (e1 : r.1 = nI n) {x y : Int32} (hx : x < nI 0 ∨ y < x) (D : va_G) (cI : ClassId) (ad : Nat → Nat) (sz : Nat) : xz_Met l xM106 D cI ad sz [.ref 0, .int x, .int y] (cz_w r q u b) "java/lang/IllegalArgumentException" := by
  refine xz_thr (pcx := 9) (ik := 66) (is := 166) (ic := 70) (X := "java/lang/IllegalArgumentException") (tx := "no such choice") hlt xM106_ok rfl ?_ rfl ⟨by decide, by decide⟩ (ez_dec xM106_ok (ez_h106.i rfl)) (ez_dec xM106_ok (ez_h106.i rfl)) (ez_dec xM106_ok (ez_h106.i rfl)) (ez_dec xM106_ok (ez_h106.i rfl)) (ez_dec xM106_ok (ez_h106.i rfl)) (by decide +kernel) (by decide +kernel) (by decide +kernel) (ez_in_G xA0_4.1) (ez_in_G xA0_4.2) (fun w hw => ez_in_G (xA0_1 w hw)) xA0_2 xA0_3 D cI ad sz
  by_cases hi : x < nI 0
  · show wz_E 106 0 [some (.ref 0), some (.int (x)), some (.int (y))] [] (cz_w r q u b) (fun pc' _ st' w' => pc' = 9 ∧ st' = [] ∧ w' = cz_w r q u b)
    refine wz_go ez_h106 2 (pc' := bif decide (x < (nI 0)) then 9 else 4) (L' := [some (.ref 0), some (.int (x)), some (.int (y))]) (st' := []) (w' := cz_w r q u b) rfl ?_
    refine wz_ifT (hi) ?_
    exact wz_stop ⟨rfl, rfl, rfl⟩
  · show wz_E 106 0 [some (.ref 0), some (.int (x)), some (.int (y))] [] (cz_w r q u b) (fun pc' _ st' w' => pc' = 9 ∧ st' = [] ∧ w' = cz_w r q u b)
    refine wz_go ez_h106 2 (pc' := bif decide (x < (nI 0)) then 9 else 4) (L' := [some (.ref 0), some (.int (x)), some (.int (y))]) (st' := []) (w' := cz_w r q u b) rfl ?_
    refine wz_ifF (hi) ?_
    refine wz_go ez_h106 3 (pc' := bif decide (x ≤ y) then 19 else 9) (L' := [some (.ref 0), some (.int (x)), some (.int (y))]) (st' := []) (w' := cz_w r q u b) rfl ?_
    refine wz_ifF (Int32.not_le.mpr (hx.resolve_left hi)) ?_
    exact wz_stop ⟨rfl, rfl, rfl⟩
theorem xf_amount {l : Launch} (hlt : l.stackTraces = false) {n : Nat} {r : cz_Row} {q : cz_Qk} {u : cz_Rn} {b : cz_Bn} (hn : n ≤ 600) (e1 : r.1 = nI n) {x : Int32} (hx : x < nI 0 ∨ nI 600 < x) (D : va_G) (cI : ClassId) (ad : Nat → Nat) (sz : Nat) : xz_Met l xM107 D cI ad sz [.ref 0, .int x] (cz_w r q u b) "java/lang/IllegalArgumentException" := by
  refine xz_thr (pcx := 11) (ik := 66) (is := 168) (ic := 70) (X := "java/lang/IllegalArgumentException") (tx := "n is not 0 .. 600") hlt xM107_ok rfl ?_ rfl ⟨by decide, by decide⟩ (ez_dec xM107_ok (ez_h107.i rfl)) (ez_dec xM107_ok (ez_h107.i rfl)) (ez_dec xM107_ok (ez_h107.i rfl)) (ez_dec xM107_ok (ez_h107.i rfl)) (ez_dec xM107_ok (ez_h107.i rfl)) (by decide +kernel) (by decide +kernel) (by decide +kernel) (ez_in_G xA0_4.1) (ez_in_G xA0_4.2) (fun w hw => ez_in_G (xA0_1 w hw)) xA0_2 xA0_3 D cI ad sz
  by_cases hi : x < nI 0
  · show wz_E 107 0 [some (.ref 0), some (.int (x))] [] (cz_w r q u b) (fun pc' _ st' w' => pc' = 11 ∧ st' = [] ∧ w' = cz_w r q u b)
    refine wz_go ez_h107 2 (pc' := bif decide (x < (nI 0)) then 11 else 4) (L' := [some (.ref 0), some (.int (x))]) (st' := []) (w' := cz_w r q u b) rfl ?_
    refine wz_ifT (hi) ?_
    exact wz_stop ⟨rfl, rfl, rfl⟩
  · show wz_E 107 0 [some (.ref 0), some (.int (x))] [] (cz_w r q u b) (fun pc' _ st' w' => pc' = 11 ∧ st' = [] ∧ w' = cz_w r q u b)
    refine wz_go ez_h107 2 (pc' := bif decide (x < (nI 0)) then 11 else 4) (L' := [some (.ref 0), some (.int (x))]) (st' := []) (w' := cz_w r q u b) rfl ?_
    refine wz_ifF (hi) ?_
    refine wz_go ez_h107 3 (pc' := bif decide (x ≤ (nI (600))) then 21 else 11) (L' := [some (.ref 0), some (.int (x))]) (st' := []) (w' := cz_w r q u b) rfl ?_
    refine wz_ifF (Int32.not_le.mpr (hx.resolve_left hi)) ?_
    exact wz_stop ⟨rfl, rfl, rfl⟩
theorem xf_room {l : Launch} (hlt : l.stackTraces = false) {n : Nat} {r : cz_Row} {q : cz_Qk} {u : cz_Rn} {b : cz_Bn} (hn : n ≤ 600) (e1 : r.1 = nI n) {m : Nat} (hm : m ≤ 600) (hx : 600 < n + m) (D : va_G) (cI : ClassId) (ad : Nat → Nat) (sz : Nat) : xz_Met l xM108 D cI ad sz [.ref 0, .int (nI (m))] (cz_w r q u b) "java/lang/UnsupportedOperationException" := by
  refine xz_thr (pcx := 15) (ik := 170) (is := 172) (ic := 174) (X := "java/lang/UnsupportedOperationException") (tx := "more than 600 numbers") hlt xM108_ok rfl ?_ rfl ⟨by decide, by decide⟩ (ez_dec xM108_ok (ez_h108.i rfl)) (ez_dec xM108_ok (ez_h108.i rfl)) (ez_dec xM108_ok (ez_h108.i rfl)) (ez_dec xM108_ok (ez_h108.i rfl)) (ez_dec xM108_ok (ez_h108.i rfl)) (by decide +kernel) (by decide +kernel) (by decide +kernel) (ez_in_G xA2_4.1) (ez_in_G xA2_4.2) (fun w hw => ez_in_G (xA2_1 w hw)) xA2_2 xA2_3 D cI ad sz
  show wz_E 108 0 [some (.ref 0), some (.int (nI (m)))] [] (cz_w r q u b) (fun pc' _ st' w' => pc' = 15 ∧ st' = [] ∧ w' = cz_w r q u b)
  refine wz_go ez_h108 4 (pc' := 8) (L' := [some (.ref 0), some (.int (nI (m)))]) (st' := [.ref 1, .int (nI (600)), .int (nI (m))]) (w' := cz_w r q u b) rfl ?_
  refine wz_cl ez_h108 rfl rfl ?_
  refine ez_m.of (L := [some (.ref 1)]) rfl rfl rfl ?_
  refine ez_go ez_h26 2 (pc' := 4) (L' := [some (.ref 1)]) (st' := [.int (r.1)]) (w' := cz_w r q u b) rfl ?_
  refine ez_top (y := nI (n)) (e1) ?_
  refine ez_iret rfl ez_h26 rfl rfl ?_
  refine wz_go ez_h108 1 (pc' := 12) (L' := [some (.ref 0), some (.int (nI (m)))]) (st' := [.int ((nI (600)) - (nI (n))), .int (nI (m))]) (w' := cz_w r q u b) rfl ?_
  refine wz_top (y := nI (600 - n)) (pk_sub (by omega)) ?_
  refine wz_go ez_h108 1 (pc' := bif decide ((nI (m)) ≤ (nI (600 - n))) then 25 else 15) (L' := [some (.ref 0), some (.int (nI (m)))]) (st' := []) (w' := cz_w r q u b) rfl ?_
  refine wz_ifF (zt_nle (a := m) (b := 600 - n) (by omega) (by omega)) ?_
  exact wz_stop ⟨rfl, rfl, rfl⟩
/-! ===== the calls that are refused ===== -/
theorem xf_moreS {l : Launch} (hlt : l.stackTraces = false) {n : Nat} {r : cz_Row} {q : cz_Qk} {u : cz_Rn} {b : cz_Bn} (hn : n ≤ 600) (e1 : r.1 = nI n) {se : Int64} {sp m : Int32} (hx : sp < nI 1) (D : va_G) (cI : ClassId) (ad : Nat → Nat) (sz : Nat) : xz_Met l xM111 D cI ad sz [.ref 0, .long se, .int sp, .int m] (cz_w r q u b) "java/lang/IllegalArgumentException" := by
  refine xz_thr (pcx := 5) (ik := 66) (is := 68) (ic := 70) (X := "java/lang/IllegalArgumentException") (tx := "span is below 1") hlt xM111_ok rfl ?_ rfl ⟨by decide, by decide⟩ (ez_dec xM111_ok (ez_h111.i rfl)) (ez_dec xM111_ok (ez_h111.i rfl)) (ez_dec xM111_ok (ez_h111.i rfl)) (ez_dec xM111_ok (ez_h111.i rfl)) (ez_dec xM111_ok (ez_h111.i rfl)) (by decide +kernel) (by decide +kernel) (by decide +kernel) (ez_in_G xA0_4.1) (ez_in_G xA0_4.2) (fun w hw => ez_in_G (xA0_1 w hw)) xA0_2 xA0_3 D cI ad sz
  show wz_E 111 0 [some (.ref 0), some (.long (se)), none, some (.int (sp)), some (.int (m)), none, none, none] [] (cz_w r q u b) (fun pc' _ st' w' => pc' = 5 ∧ st' = [] ∧ w' = cz_w r q u b)
  refine wz_go ez_h111 3 (pc' := bif decide ((nI (1)) ≤ sp) then 15 else 5) (L' := [some (.ref 0), some (.long (se)), none, some (.int (sp)), some (.int (m)), none, none, none]) (st' := []) (w' := cz_w r q u b) rfl ?_
  refine wz_ifF (Int32.not_le.mpr hx) ?_
  exact wz_stop ⟨rfl, rfl, rfl⟩
theorem xf_lineT {l : Launch} (hlt : l.stackTraces = false) {n : Nat} {r : cz_Row} {q : cz_Qk} {u : cz_Rn} {b : cz_Bn} (hn : n ≤ 600) (e1 : r.1 = nI n) {fi sp m ti : Int32} (hx : ti < nI 1 ∨ nI 600 < ti) (D : va_G) (cI : ClassId) (ad : Nat → Nat) (sz : Nat) : xz_Met l xM112 D cI ad sz [.ref 0, .int fi, .int sp, .int m, .int ti] (cz_w r q u b) "java/lang/IllegalArgumentException" := by
  refine xz_thr (pcx := 14) (ik := 66) (is := 80) (ic := 70) (X := "java/lang/IllegalArgumentException") (tx := "times is not 1 .. 600") hlt xM112_ok rfl ?_ rfl ⟨by decide, by decide⟩ (ez_dec xM112_ok (ez_h112.i rfl)) (ez_dec xM112_ok (ez_h112.i rfl)) (ez_dec xM112_ok (ez_h112.i rfl)) (ez_dec xM112_ok (ez_h112.i rfl)) (ez_dec xM112_ok (ez_h112.i rfl)) (by decide +kernel) (by decide +kernel) (by decide +kernel) (ez_in_G xA0_4.1) (ez_in_G xA0_4.2) (fun w hw => ez_in_G (xA0_1 w hw)) xA0_2 xA0_3 D cI ad sz
  by_cases hi : ti < nI 1
  · show wz_E 112 0 [some (.ref 0), some (.int (fi)), some (.int (sp)), some (.int (m)), some (.int (ti)), none] [] (cz_w r q u b) (fun pc' _ st' w' => pc' = 14 ∧ st' = [] ∧ w' = cz_w r q u b)
    refine wz_go ez_h112 3 (pc' := bif decide (ti < (nI (1))) then 14 else 6) (L' := [some (.ref 0), some (.int (fi)), some (.int (sp)), some (.int (m)), some (.int (ti)), none]) (st' := []) (w' := cz_w r q u b) rfl ?_
    refine wz_ifT (hi) ?_
    exact wz_stop ⟨rfl, rfl, rfl⟩
  · show wz_E 112 0 [some (.ref 0), some (.int (fi)), some (.int (sp)), some (.int (m)), some (.int (ti)), none] [] (cz_w r q u b) (fun pc' _ st' w' => pc' = 14 ∧ st' = [] ∧ w' = cz_w r q u b)
    refine wz_go ez_h112 3 (pc' := bif decide (ti < (nI (1))) then 14 else 6) (L' := [some (.ref 0), some (.int (fi)), some (.int (sp)), some (.int (m)), some (.int (ti)), none]) (st' := []) (w' := cz_w r q u b) rfl ?_
    refine wz_ifF (hi) ?_
    refine wz_go ez_h112 3 (pc' := bif decide (ti ≤ (nI (600))) then 24 else 14) (L' := [some (.ref 0), some (.int (fi)), some (.int (sp)), some (.int (m)), some (.int (ti)), none]) (st' := []) (w' := cz_w r q u b) rfl ?_
    refine wz_ifF (Int32.not_le.mpr (hx.resolve_left hi)) ?_
    exact wz_stop ⟨rfl, rfl, rfl⟩
theorem xf_turn {l : Launch} (hlt : l.stackTraces = false) {n : Nat} {r : cz_Row} {q : cz_Qk} {u : cz_Rn} {b : cz_Bn} (hn : n ≤ 600) (e1 : r.1 = nI n) {i j : Int32} (hx : i < nI 0 ∨ j < i ∨ nI n < j) (D : va_G) (cI : ClassId) (ad : Nat → Nat) (sz : Nat) : xz_Met l xM114 D cI ad sz [.ref 0, .int i, .int j] (cz_w r q u b) "java/lang/IndexOutOfBoundsException" := by
  refine xz_thr (pcx := 20) (ik := 89) (is := 91) (ic := 93) (X := "java/lang/IndexOutOfBoundsException") (tx := "no such range") hlt xM114_ok rfl ?_ rfl ⟨by decide, by decide⟩ (ez_dec xM114_ok (ez_h114.i rfl)) (ez_dec xM114_ok (ez_h114.i rfl)) (ez_dec xM114_ok (ez_h114.i rfl)) (ez_dec xM114_ok (ez_h114.i rfl)) (ez_dec xM114_ok (ez_h114.i rfl)) (by decide +kernel) (by decide +kernel) (by decide +kernel) (ez_in_G xA1_4.1) (ez_in_G xA1_4.2) (fun w hw => ez_in_G (xA1_1 w hw)) xA1_2 xA1_3 D cI ad sz
  by_cases hi : i < nI 0
  · show wz_E 114 0 [some (.ref 0), some (.int (i)), some (.int (j))] [] (cz_w r q u b) (fun pc' _ st' w' => pc' = 20 ∧ st' = [] ∧ w' = cz_w r q u b)
    refine wz_go ez_h114 2 (pc' := bif decide (i < (nI 0)) then 20 else 4) (L' := [some (.ref 0), some (.int (i)), some (.int (j))]) (st' := []) (w' := cz_w r q u b) rfl ?_
    refine wz_ifT (hi) ?_
    exact wz_stop ⟨rfl, rfl, rfl⟩
  by_cases hj : j < i
  · show wz_E 114 0 [some (.ref 0), some (.int (i)), some (.int (j))] [] (cz_w r q u b) (fun pc' _ st' w' => pc' = 20 ∧ st' = [] ∧ w' = cz_w r q u b)
    refine wz_go ez_h114 2 (pc' := bif decide (i < (nI 0)) then 20 else 4) (L' := [some (.ref 0), some (.int (i)), some (.int (j))]) (st' := []) (w' := cz_w r q u b) rfl ?_
    refine wz_ifF (hi) ?_
    refine wz_go ez_h114 3 (pc' := bif decide (j < i) then 20 else 9) (L' := [some (.ref 0), some (.int (i)), some (.int (j))]) (st' := []) (w' := cz_w r q u b) rfl ?_
    refine wz_ifT (hj) ?_
    exact wz_stop ⟨rfl, rfl, rfl⟩
  · show wz_E 114 0 [some (.ref 0), some (.int (i)), some (.int (j))] [] (cz_w r q u b) (fun pc' _ st' w' => pc' = 20 ∧ st' = [] ∧ w' = cz_w r q u b)
    refine wz_go ez_h114 2 (pc' := bif decide (i < (nI 0)) then 20 else 4) (L' := [some (.ref 0), some (.int (i)), some (.int (j))]) (st' := []) (w' := cz_w r q u b) rfl ?_
    refine wz_ifF (hi) ?_
    refine wz_go ez_h114 3 (pc' := bif decide (j < i) then 20 else 9) (L' := [some (.ref 0), some (.int (i)), some (.int (j))]) (st' := []) (w' := cz_w r q u b) rfl ?_
    refine wz_ifF (hj) ?_
    refine wz_go ez_h114 3 (pc' := 14) (L' := [some (.ref 0), some (.int (i)), some (.int (j))]) (st' := [.ref 1, .int (j)]) (w' := cz_w r q u b) rfl ?_
    refine wz_cl ez_h114 rfl rfl ?_
    refine ez_m.of (L := [some (.ref 1)]) rfl rfl rfl ?_
    refine ez_go ez_h26 2 (pc' := 4) (L' := [some (.ref 1)]) (st' := [.int (r.1)]) (w' := cz_w r q u b) rfl ?_
    refine ez_top (y := nI (n)) (e1) ?_
    refine ez_iret rfl ez_h26 rfl rfl ?_
    refine wz_go ez_h114 1 (pc' := bif decide (j ≤ (nI (n))) then 30 else 20) (L' := [some (.ref 0), some (.int (i)), some (.int (j))]) (st' := []) (w' := cz_w r q u b) rfl ?_
    refine wz_ifF (Int32.not_le.mpr ((hx.resolve_left hi).resolve_left hj)) ?_
    exact wz_stop ⟨rfl, rfl, rfl⟩
theorem xf_put {l : Launch} (hlt : l.stackTraces = false) {n : Nat} {r : cz_Row} {q : cz_Qk} {u : cz_Rn} {b : cz_Bn} (hn : n ≤ 600) (e1 : r.1 = nI n) {v : Int32} (hx : n = 600) (D : va_G) (cI : ClassId) (ad : Nat → Nat) (sz : Nat) : xz_Met l xM110 D cI ad sz [.ref 0, .int v] (cz_w r q u b) "java/lang/UnsupportedOperationException" := by
  refine xz_via (pcx := 2) (k := 55) (j := 108) (Bs := [.int (nI (1))]) (rest := []) xM110_ok xM108_ok rfl ?_ rfl rfl (ez_dec xM110_ok (ez_h110.i rfl)) rfl rfl (fun D cI ad sz => xf_room hlt hn e1 (m := 1) (by omega) (by omega) D cI ad sz) D cI ad sz
  show wz_E 110 0 [some (.ref 0), some (.int (v))] [] (cz_w r q u b) (fun pc' _ st' w' => pc' = 2 ∧ st' = [.int (nI (1)), .ref 0] ∧ w' = cz_w r q u b)
  refine wz_go ez_h110 2 (pc' := 2) (L' := [some (.ref 0), some (.int (v))]) (st' := [.int (nI (1)), .ref 0]) (w' := cz_w r q u b) rfl ?_
  exact wz_stop ⟨rfl, rfl, rfl⟩
theorem xf_moreN {l : Launch} (hlt : l.stackTraces = false) {n : Nat} {r : cz_Row} {q : cz_Qk} {u : cz_Rn} {b : cz_Bn} (hn : n ≤ 600) (e1 : r.1 = nI n) {se : Int64} {sp m : Int32} (hsp : nI 1 ≤ sp) (hx : m < nI 0 ∨ nI 600 < m) (D : va_G) (cI : ClassId) (ad : Nat → Nat) (sz : Nat) : xz_Met l xM111 D cI ad sz [.ref 0, .long se, .int sp, .int m] (cz_w r q u b) "java/lang/IllegalArgumentException" := by
  refine xz_via (pcx := 18) (k := 73) (j := 107) (Bs := [.int m]) (rest := []) xM111_ok xM107_ok rfl ?_ rfl rfl (ez_dec xM111_ok (ez_h111.i rfl)) rfl rfl (fun D cI ad sz => xf_amount hlt hn e1 hx D cI ad sz) D cI ad sz
  show wz_E 111 0 [some (.ref 0), some (.long (se)), none, some (.int (sp)), some (.int (m)), none, none, none] [] (cz_w r q u b) (fun pc' _ st' w' => pc' = 18 ∧ st' = [.int m, .ref 0] ∧ w' = cz_w r q u b)
  refine wz_go ez_h111 3 (pc' := bif decide ((nI (1)) ≤ sp) then 15 else 5) (L' := [some (.ref 0), some (.long (se)), none, some (.int (sp)), some (.int (m)), none, none, none]) (st' := []) (w' := cz_w r q u b) rfl ?_
  refine wz_ifT (hsp) ?_
  refine wz_go ez_h111 2 (pc' := 18) (L' := [some (.ref 0), some (.long (se)), none, some (.int (sp)), some (.int (m)), none, none, none]) (st' := [.int (m), .ref 0]) (w' := cz_w r q u b) rfl ?_
  exact wz_stop ⟨rfl, rfl, rfl⟩
theorem xf_moreR {l : Launch} (hlt : l.stackTraces = false) {n : Nat} {r : cz_Row} {q : cz_Qk} {u : cz_Rn} {b : cz_Bn} (hn : n ≤ 600) (e1 : r.1 = nI n) {se : Int64} {sp : Int32} {m : Nat} (hsp : nI 1 ≤ sp) (hm : m ≤ 600) (hx : 600 < n + m) (D : va_G) (cI : ClassId) (ad : Nat → Nat) (sz : Nat) : xz_Met l xM111 D cI ad sz [.ref 0, .long se, .int sp, .int (nI (m))] (cz_w r q u b) "java/lang/UnsupportedOperationException" := by
  refine xz_via (pcx := 24) (k := 55) (j := 108) (Bs := [.int (nI (m))]) (rest := []) xM111_ok xM108_ok rfl ?_ rfl rfl (ez_dec xM111_ok (ez_h111.i rfl)) rfl rfl (fun D cI ad sz => xf_room hlt hn e1 hm hx D cI ad sz) D cI ad sz
  show wz_E 111 0 [some (.ref 0), some (.long (se)), none, some (.int (sp)), some (.int (nI (m))), none, none, none] [] (cz_w r q u b) (fun pc' _ st' w' => pc' = 24 ∧ st' = [.int (nI (m)), .ref 0] ∧ w' = cz_w r q u b)
  refine wz_go ez_h111 3 (pc' := bif decide ((nI (1)) ≤ sp) then 15 else 5) (L' := [some (.ref 0), some (.long (se)), none, some (.int (sp)), some (.int (nI (m))), none, none, none]) (st' := []) (w' := cz_w r q u b) rfl ?_
  refine wz_ifT (hsp) ?_
  refine wz_go ez_h111 2 (pc' := 18) (L' := [some (.ref 0), some (.long (se)), none, some (.int (sp)), some (.int (nI (m))), none, none, none]) (st' := [.int (nI (m)), .ref 0]) (w' := cz_w r q u b) rfl ?_
  refine wz_cl ez_h111 rfl rfl ?_
  refine ez_m.of (L := [some (.ref 0), some (.int (nI (m)))]) rfl rfl rfl ?_
  refine ez_go ez_h107 2 (pc' := bif decide ((nI (m)) < (nI 0)) then 11 else 4) (L' := [some (.ref 0), some (.int (nI (m)))]) (st' := []) (w' := cz_w r q u b) rfl ?_
  refine ez_ifF (zt_nlt (a := m) (b := 0) (by omega) (by omega)) ?_
  refine ez_go ez_h107 3 (pc' := bif decide ((nI (m)) ≤ (nI (600))) then 21 else 11) (L' := [some (.ref 0), some (.int (nI (m)))]) (st' := []) (w' := cz_w r q u b) rfl ?_
  refine ez_ifT (zt_le (a := m) (b := 600) (by omega) (by omega)) ?_
  refine ez_vret rfl ez_h107 rfl rfl ?_
  refine wz_go ez_h111 2 (pc' := 24) (L' := [some (.ref 0), some (.long (se)), none, some (.int (sp)), some (.int (nI (m))), none, none, none]) (st' := [.int (nI (m)), .ref 0]) (w' := cz_w r q u b) rfl ?_
  exact wz_stop ⟨rfl, rfl, rfl⟩
theorem xf_lineN {l : Launch} (hlt : l.stackTraces = false) {n : Nat} {r : cz_Row} {q : cz_Qk} {u : cz_Rn} {b : cz_Bn} (hn : n ≤ 600) (e1 : r.1 = nI n) {fi sp m : Int32} {ti : Nat} (h1 : 1 ≤ ti) (h2 : ti ≤ 600) (hx : m < nI 0 ∨ nI 600 < m) (D : va_G) (cI : ClassId) (ad : Nat → Nat) (sz : Nat) : xz_Met l xM112 D cI ad sz [.ref 0, .int fi, .int sp, .int m, .int (nI (ti))] (cz_w r q u b) "java/lang/IllegalArgumentException" := by
  refine xz_via (pcx := 26) (k := 73) (j := 107) (Bs := [.int m]) (rest := []) xM112_ok xM107_ok rfl ?_ rfl rfl (ez_dec xM112_ok (ez_h112.i rfl)) rfl rfl (fun D cI ad sz => xf_amount hlt hn e1 hx D cI ad sz) D cI ad sz
  show wz_E 112 0 [some (.ref 0), some (.int (fi)), some (.int (sp)), some (.int (m)), some (.int (nI (ti))), none] [] (cz_w r q u b) (fun pc' _ st' w' => pc' = 26 ∧ st' = [.int m, .ref 0] ∧ w' = cz_w r q u b)
  refine wz_go ez_h112 3 (pc' := bif decide ((nI (ti)) < (nI (1))) then 14 else 6) (L' := [some (.ref 0), some (.int (fi)), some (.int (sp)), some (.int (m)), some (.int (nI (ti))), none]) (st' := []) (w' := cz_w r q u b) rfl ?_
  refine wz_ifF (zt_nlt (a := ti) (b := 1) (by omega) (by omega)) ?_
  refine wz_go ez_h112 3 (pc' := bif decide ((nI (ti)) ≤ (nI (600))) then 24 else 14) (L' := [some (.ref 0), some (.int (fi)), some (.int (sp)), some (.int (m)), some (.int (nI (ti))), none]) (st' := []) (w' := cz_w r q u b) rfl ?_
  refine wz_ifT (zt_le (a := ti) (b := 600) (by omega) (by omega)) ?_
  refine wz_go ez_h112 2 (pc' := 26) (L' := [some (.ref 0), some (.int (fi)), some (.int (sp)), some (.int (m)), some (.int (nI (ti))), none]) (st' := [.int (m), .ref 0]) (w' := cz_w r q u b) rfl ?_
  exact wz_stop ⟨rfl, rfl, rfl⟩
theorem xf_lineR {l : Launch} (hlt : l.stackTraces = false) {n : Nat} {r : cz_Row} {q : cz_Qk} {u : cz_Rn} {b : cz_Bn} (hn : n ≤ 600) (e1 : r.1 = nI n) {fi sp : Int32} {m ti : Nat} (h1 : 1 ≤ ti) (h2 : ti ≤ 600) (hm : m ≤ 600) (hx : 600 < n + m) (D : va_G) (cI : ClassId) (ad : Nat → Nat) (sz : Nat) : xz_Met l xM112 D cI ad sz [.ref 0, .int fi, .int sp, .int (nI (m)), .int (nI (ti))] (cz_w r q u b) "java/lang/UnsupportedOperationException" := by
  refine xz_via (pcx := 31) (k := 55) (j := 108) (Bs := [.int (nI (m))]) (rest := []) xM112_ok xM108_ok rfl ?_ rfl rfl (ez_dec xM112_ok (ez_h112.i rfl)) rfl rfl (fun D cI ad sz => xf_room hlt hn e1 hm hx D cI ad sz) D cI ad sz
  show wz_E 112 0 [some (.ref 0), some (.int (fi)), some (.int (sp)), some (.int (nI (m))), some (.int (nI (ti))), none] [] (cz_w r q u b) (fun pc' _ st' w' => pc' = 31 ∧ st' = [.int (nI (m)), .ref 0] ∧ w' = cz_w r q u b)
  refine wz_go ez_h112 3 (pc' := bif decide ((nI (ti)) < (nI (1))) then 14 else 6) (L' := [some (.ref 0), some (.int (fi)), some (.int (sp)), some (.int (nI (m))), some (.int (nI (ti))), none]) (st' := []) (w' := cz_w r q u b) rfl ?_
  refine wz_ifF (zt_nlt (a := ti) (b := 1) (by omega) (by omega)) ?_
  refine wz_go ez_h112 3 (pc' := bif decide ((nI (ti)) ≤ (nI (600))) then 24 else 14) (L' := [some (.ref 0), some (.int (fi)), some (.int (sp)), some (.int (nI (m))), some (.int (nI (ti))), none]) (st' := []) (w' := cz_w r q u b) rfl ?_
  refine wz_ifT (zt_le (a := ti) (b := 600) (by omega) (by omega)) ?_
  refine wz_go ez_h112 2 (pc' := 26) (L' := [some (.ref 0), some (.int (fi)), some (.int (sp)), some (.int (nI (m))), some (.int (nI (ti))), none]) (st' := [.int (nI (m)), .ref 0]) (w' := cz_w r q u b) rfl ?_
  refine wz_cl ez_h112 rfl rfl ?_
  refine ez_m.of (L := [some (.ref 0), some (.int (nI (m)))]) rfl rfl rfl ?_
  refine ez_go ez_h107 2 (pc' := bif decide ((nI (m)) < (nI 0)) then 11 else 4) (L' := [some (.ref 0), some (.int (nI (m)))]) (st' := []) (w' := cz_w r q u b) rfl ?_
  refine ez_ifF (zt_nlt (a := m) (b := 0) (by omega) (by omega)) ?_
  refine ez_go ez_h107 3 (pc' := bif decide ((nI (m)) ≤ (nI (600))) then 21 else 11) (L' := [some (.ref 0), some (.int (nI (m)))]) (st' := []) (w' := cz_w r q u b) rfl ?_
  refine ez_ifT (zt_le (a := m) (b := 600) (by omega) (by omega)) ?_
  refine ez_vret rfl ez_h107 rfl rfl ?_
  refine wz_go ez_h112 2 (pc' := 31) (L' := [some (.ref 0), some (.int (fi)), some (.int (sp)), some (.int (nI (m))), some (.int (nI (ti))), none]) (st' := [.int (nI (m)), .ref 0]) (w' := cz_w r q u b) rfl ?_
  exact wz_stop ⟨rfl, rfl, rfl⟩
theorem xf_exch1 {l : Launch} (hlt : l.stackTraces = false) {n : Nat} {r : cz_Row} {q : cz_Qk} {u : cz_Rn} {b : cz_Bn} (hn : n ≤ 600) (e1 : r.1 = nI n) {i j : Int32} (hx : i < nI 0 ∨ nI n ≤ i) (D : va_G) (cI : ClassId) (ad : Nat → Nat) (sz : Nat) : xz_Met l xM113 D cI ad sz [.ref 0, .int i, .int j] (cz_w r q u b) "java/lang/IndexOutOfBoundsException" := by
  refine xz_via (pcx := 2) (k := 82) (j := 105) (Bs := [.int i]) (rest := []) xM113_ok xM105_ok rfl ?_ rfl rfl (ez_dec xM113_ok (ez_h113.i rfl)) rfl rfl (fun D cI ad sz => xf_place hlt hn e1 hx D cI ad sz) D cI ad sz
  show wz_E 113 0 [some (.ref 0), some (.int (i)), some (.int (j))] [] (cz_w r q u b) (fun pc' _ st' w' => pc' = 2 ∧ st' = [.int i, .ref 0] ∧ w' = cz_w r q u b)
  refine wz_go ez_h113 2 (pc' := 2) (L' := [some (.ref 0), some (.int (i)), some (.int (j))]) (st' := [.int (i), .ref 0]) (w' := cz_w r q u b) rfl ?_
  exact wz_stop ⟨rfl, rfl, rfl⟩
theorem xf_exch2 {l : Launch} (hlt : l.stackTraces = false) {n : Nat} {r : cz_Row} {q : cz_Qk} {u : cz_Rn} {b : cz_Bn} (hn : n ≤ 600) (e1 : r.1 = nI n) {i : Nat} {j : Int32} (hi : i < n) (hx : j < nI 0 ∨ nI n ≤ j) (D : va_G) (cI : ClassId) (ad : Nat → Nat) (sz : Nat) : xz_Met l xM113 D cI ad sz [.ref 0, .int (nI (i)), .int j] (cz_w r q u b) "java/lang/IndexOutOfBoundsException" := by
  refine xz_via (pcx := 7) (k := 82) (j := 105) (Bs := [.int j]) (rest := []) xM113_ok xM105_ok rfl ?_ rfl rfl (ez_dec xM113_ok (ez_h113.i rfl)) rfl rfl (fun D cI ad sz => xf_place hlt hn e1 hx D cI ad sz) D cI ad sz
  show wz_E 113 0 [some (.ref 0), some (.int (nI (i))), some (.int (j))] [] (cz_w r q u b) (fun pc' _ st' w' => pc' = 7 ∧ st' = [.int j, .ref 0] ∧ w' = cz_w r q u b)
  refine wz_go ez_h113 2 (pc' := 2) (L' := [some (.ref 0), some (.int (nI (i))), some (.int (j))]) (st' := [.int (nI (i)), .ref 0]) (w' := cz_w r q u b) rfl ?_
  refine wz_cl ez_h113 rfl rfl ?_
  refine ez_m.of (L := [some (.ref 0), some (.int (nI (i)))]) rfl rfl rfl ?_
  refine ez_go ez_h105 2 (pc' := bif decide ((nI (i)) < (nI 0)) then 15 else 4) (L' := [some (.ref 0), some (.int (nI (i)))]) (st' := []) (w' := cz_w r q u b) rfl ?_
  refine ez_ifF (zt_nlt (a := i) (b := 0) (by omega) (by omega)) ?_
  refine ez_go ez_h105 3 (pc' := 9) (L' := [some (.ref 0), some (.int (nI (i)))]) (st' := [.ref 1, .int (nI (i))]) (w' := cz_w r q u b) rfl ?_
  refine ez_cl ez_h105 rfl rfl ?_
  refine ez_m.of (L := [some (.ref 1)]) rfl rfl rfl ?_
  refine ez_go ez_h26 2 (pc' := 4) (L' := [some (.ref 1)]) (st' := [.int (r.1)]) (w' := cz_w r q u b) rfl ?_
  refine ez_top (y := nI (n)) (e1) ?_
  refine ez_iret rfl ez_h26 rfl rfl ?_
  refine ez_go ez_h105 1 (pc' := bif decide ((nI (i)) < (nI (n))) then 25 else 15) (L' := [some (.ref 0), some (.int (nI (i)))]) (st' := []) (w' := cz_w r q u b) rfl ?_
  refine ez_ifT (zt_lt (a := i) (b := n) (by omega) (by omega)) ?_
  refine ez_vret rfl ez_h105 rfl rfl ?_
  refine wz_go ez_h113 2 (pc' := 7) (L' := [some (.ref 0), some (.int (nI (i))), some (.int (j))]) (st' := [.int (j), .ref 0]) (w' := cz_w r q u b) rfl ?_
  exact wz_stop ⟨rfl, rfl, rfl⟩
theorem xf_order {l : Launch} (hlt : l.stackTraces = false) {n : Nat} {r : cz_Row} {q : cz_Qk} {u : cz_Rn} {b : cz_Bn} (hn : n ≤ 600) (e1 : r.1 = nI n) {x : Int32} (hx : x < nI 0 ∨ nI 3 < x) (D : va_G) (cI : ClassId) (ad : Nat → Nat) (sz : Nat) : xz_Met l xM115 D cI ad sz [.ref 0, .int x] (cz_w r q u b) "java/lang/IllegalArgumentException" := by
  refine xz_via (pcx := 3) (k := 97) (j := 106) (Bs := [.int x, .int (nI (3))]) (rest := []) xM115_ok xM106_ok rfl ?_ rfl rfl (ez_dec xM115_ok (ez_h115.i rfl)) rfl rfl (fun D cI ad sz => xf_choice hlt hn e1 hx D cI ad sz) D cI ad sz
  show wz_E 115 0 [some (.ref 0), some (.int (x)), none] [] (cz_w r q u b) (fun pc' _ st' w' => pc' = 3 ∧ st' = [.int (nI (3)), .int x, .ref 0] ∧ w' = cz_w r q u b)
  refine wz_go ez_h115 3 (pc' := 3) (L' := [some (.ref 0), some (.int (x)), none]) (st' := [.int (nI (3)), .int (x), .ref 0]) (w' := cz_w r q u b) rfl ?_
  exact wz_stop ⟨rfl, rfl, rfl⟩
theorem xf_sort {l : Launch} (hlt : l.stackTraces = false) {n : Nat} {r : cz_Row} {q : cz_Qk} {u : cz_Rn} {b : cz_Bn} (hn : n ≤ 600) (e1 : r.1 = nI n) {x : Int32} (hx : x < nI 0 ∨ nI 4 < x) (D : va_G) (cI : ClassId) (ad : Nat → Nat) (sz : Nat) : xz_Met l xM120 D cI ad sz [.ref 0, .int x] (cz_w r q u b) "java/lang/IllegalArgumentException" := by
  refine xz_via (pcx := 3) (k := 97) (j := 106) (Bs := [.int x, .int (nI (4))]) (rest := []) xM120_ok xM106_ok rfl ?_ rfl rfl (ez_dec xM120_ok (ez_h120.i rfl)) rfl rfl (fun D cI ad sz => xf_choice hlt hn e1 hx D cI ad sz) D cI ad sz
  show wz_E 120 0 [some (.ref 0), some (.int (x))] [] (cz_w r q u b) (fun pc' _ st' w' => pc' = 3 ∧ st' = [.int (nI (4)), .int x, .ref 0] ∧ w' = cz_w r q u b)
  refine wz_go ez_h120 3 (pc' := 3) (L' := [some (.ref 0), some (.int (x))]) (st' := [.int (nI (4)), .int (x), .ref 0]) (w' := cz_w r q u b) rfl ?_
  exact wz_stop ⟨rfl, rfl, rfl⟩
theorem xf_is {l : Launch} (hlt : l.stackTraces = false) {n : Nat} {r : cz_Row} {q : cz_Qk} {u : cz_Rn} {b : cz_Bn} (hn : n ≤ 600) (e1 : r.1 = nI n) {x : Int32} (hx : x < nI 0 ∨ nI 2 < x) (D : va_G) (cI : ClassId) (ad : Nat → Nat) (sz : Nat) : xz_Met l xM118 D cI ad sz [.ref 0, .int x] (cz_w r q u b) "java/lang/IllegalArgumentException" := by
  refine xz_via (pcx := 3) (k := 97) (j := 106) (Bs := [.int x, .int (nI (2))]) (rest := []) xM118_ok xM106_ok rfl ?_ rfl rfl (ez_dec xM118_ok (ez_h118.i rfl)) rfl rfl (fun D cI ad sz => xf_choice hlt hn e1 hx D cI ad sz) D cI ad sz
  show wz_E 118 0 [some (.ref 0), some (.int (x)), none] [] (cz_w r q u b) (fun pc' _ st' w' => pc' = 3 ∧ st' = [.int (nI (2)), .int x, .ref 0] ∧ w' = cz_w r q u b)
  refine wz_go ez_h118 3 (pc' := 3) (L' := [some (.ref 0), some (.int (x)), none]) (st' := [.int (nI (2)), .int (x), .ref 0]) (w' := cz_w r q u b) rfl ?_
  exact wz_stop ⟨rfl, rfl, rfl⟩
theorem xf_count {l : Launch} (hlt : l.stackTraces = false) {n : Nat} {r : cz_Row} {q : cz_Qk} {u : cz_Rn} {b : cz_Bn} (hn : n ≤ 600) (e1 : r.1 = nI n) {x : Int32} (hx : x < nI 0 ∨ nI 8 < x) (D : va_G) (cI : ClassId) (ad : Nat → Nat) (sz : Nat) : xz_Met l xM119 D cI ad sz [.ref 0, .int x] (cz_w r q u b) "java/lang/IllegalArgumentException" := by
  refine xz_via (pcx := 4) (k := 97) (j := 106) (Bs := [.int x, .int (nI (8))]) (rest := []) xM119_ok xM106_ok rfl ?_ rfl rfl (ez_dec xM119_ok (ez_h119.i rfl)) rfl rfl (fun D cI ad sz => xf_choice hlt hn e1 hx D cI ad sz) D cI ad sz
  show wz_E 119 0 [some (.ref 0), some (.int (x))] [] (cz_w r q u b) (fun pc' _ st' w' => pc' = 4 ∧ st' = [.int (nI (8)), .int x, .ref 0] ∧ w' = cz_w r q u b)
  refine wz_go ez_h119 3 (pc' := 4) (L' := [some (.ref 0), some (.int (x))]) (st' := [.int (nI (8)), .int (x), .ref 0]) (w' := cz_w r q u b) rfl ?_
  exact wz_stop ⟨rfl, rfl, rfl⟩
theorem xf_kill1 {l : Launch} (hlt : l.stackTraces = false) {n : Nat} {r : cz_Row} {q : cz_Qk} {u : cz_Rn} {b : cz_Bn} (hn : n ≤ 600) (e1 : r.1 = nI n) {x y : Int32} (hx : x < nI 0 ∨ nI 4 < x) (D : va_G) (cI : ClassId) (ad : Nat → Nat) (sz : Nat) : xz_Met l xM121 D cI ad sz [.ref 0, .int x, .int y] (cz_w r q u b) "java/lang/IllegalArgumentException" := by
  refine xz_via (pcx := 3) (k := 97) (j := 106) (Bs := [.int x, .int (nI (4))]) (rest := []) xM121_ok xM106_ok rfl ?_ rfl rfl (ez_dec xM121_ok (ez_h121.i rfl)) rfl rfl (fun D cI ad sz => xf_choice hlt hn e1 hx D cI ad sz) D cI ad sz
  show wz_E 121 0 [some (.ref 0), some (.int (x)), some (.int (y))] [] (cz_w r q u b) (fun pc' _ st' w' => pc' = 3 ∧ st' = [.int (nI (4)), .int x, .ref 0] ∧ w' = cz_w r q u b)
  refine wz_go ez_h121 3 (pc' := 3) (L' := [some (.ref 0), some (.int (x)), some (.int (y))]) (st' := [.int (nI (4)), .int (x), .ref 0]) (w' := cz_w r q u b) rfl ?_
  exact wz_stop ⟨rfl, rfl, rfl⟩
theorem xf_kill2 {l : Launch} (hlt : l.stackTraces = false) {n : Nat} {r : cz_Row} {q : cz_Qk} {u : cz_Rn} {b : cz_Bn} (hn : n ≤ 600) (e1 : r.1 = nI n) {w : Nat} {y : Int32} (hw : w ≤ 4) (hx : y < nI 0 ∨ nI 600 < y) (D : va_G) (cI : ClassId) (ad : Nat → Nat) (sz : Nat) : xz_Met l xM121 D cI ad sz [.ref 0, .int (nI (w)), .int y] (cz_w r q u b) "java/lang/IllegalArgumentException" := by
  refine xz_via (pcx := 8) (k := 73) (j := 107) (Bs := [.int y]) (rest := []) xM121_ok xM107_ok rfl ?_ rfl rfl (ez_dec xM121_ok (ez_h121.i rfl)) rfl rfl (fun D cI ad sz => xf_amount hlt hn e1 hx D cI ad sz) D cI ad sz
  show wz_E 121 0 [some (.ref 0), some (.int (nI (w))), some (.int (y))] [] (cz_w r q u b) (fun pc' _ st' w' => pc' = 8 ∧ st' = [.int y, .ref 0] ∧ w' = cz_w r q u b)
  refine wz_go ez_h121 3 (pc' := 3) (L' := [some (.ref 0), some (.int (nI (w))), some (.int (y))]) (st' := [.int (nI (4)), .int (nI (w)), .ref 0]) (w' := cz_w r q u b) rfl ?_
  refine wz_cl ez_h121 rfl rfl ?_
  refine ez_m.of (L := [some (.ref 0), some (.int (nI (w))), some (.int (nI (4)))]) rfl rfl rfl ?_
  refine ez_go ez_h106 2 (pc' := bif decide ((nI (w)) < (nI 0)) then 9 else 4) (L' := [some (.ref 0), some (.int (nI (w))), some (.int (nI (4)))]) (st' := []) (w' := cz_w r q u b) rfl ?_
  refine ez_ifF (zt_nlt (a := w) (b := 0) (by omega) (by omega)) ?_
  refine ez_go ez_h106 3 (pc' := bif decide ((nI (w)) ≤ (nI (4))) then 19 else 9) (L' := [some (.ref 0), some (.int (nI (w))), some (.int (nI (4)))]) (st' := []) (w' := cz_w r q u b) rfl ?_
  refine ez_ifT (zt_le (a := w) (b := 4) (by omega) (by omega)) ?_
  refine ez_vret rfl ez_h106 rfl rfl ?_
  refine wz_go ez_h121 2 (pc' := 8) (L' := [some (.ref 0), some (.int (nI (w))), some (.int (y))]) (st' := [.int (y), .ref 0]) (w' := cz_w r q u b) rfl ?_
  exact wz_stop ⟨rfl, rfl, rfl⟩
theorem xf_get {l : Launch} (hlt : l.stackTraces = false) {n : Nat} {r : cz_Row} {q : cz_Qk} {u : cz_Rn} {b : cz_Bn} (hn : n ≤ 600) (e1 : r.1 = nI n) {i : Int32} (hx : i < nI 0 ∨ nI n ≤ i) (D : va_G) (cI : ClassId) (ad : Nat → Nat) (sz : Nat) : xz_Met l xM116 D cI ad sz [.ref 0, .int i] (cz_w r q u b) "java/lang/IndexOutOfBoundsException" := by
  refine xz_via (pcx := 2) (k := 82) (j := 105) (Bs := [.int i]) (rest := []) xM116_ok xM105_ok rfl ?_ rfl rfl (ez_dec xM116_ok (ez_h116.i rfl)) rfl rfl (fun D cI ad sz => xf_place hlt hn e1 hx D cI ad sz) D cI ad sz
  show wz_E 116 0 [some (.ref 0), some (.int (i))] [] (cz_w r q u b) (fun pc' _ st' w' => pc' = 2 ∧ st' = [.int i, .ref 0] ∧ w' = cz_w r q u b)
  refine wz_go ez_h116 2 (pc' := 2) (L' := [some (.ref 0), some (.int (i))]) (st' := [.int (i), .ref 0]) (w' := cz_w r q u b) rfl ?_
  exact wz_stop ⟨rfl, rfl, rfl⟩
theorem xf_tag {l : Launch} (hlt : l.stackTraces = false) {n : Nat} {r : cz_Row} {q : cz_Qk} {u : cz_Rn} {b : cz_Bn} (hn : n ≤ 600) (e1 : r.1 = nI n) {i : Int32} (hx : i < nI 0 ∨ nI n ≤ i) (D : va_G) (cI : ClassId) (ad : Nat → Nat) (sz : Nat) : xz_Met l xM117 D cI ad sz [.ref 0, .int i] (cz_w r q u b) "java/lang/IndexOutOfBoundsException" := by
  refine xz_via (pcx := 2) (k := 82) (j := 105) (Bs := [.int i]) (rest := []) xM117_ok xM105_ok rfl ?_ rfl rfl (ez_dec xM117_ok (ez_h117.i rfl)) rfl rfl (fun D cI ad sz => xf_place hlt hn e1 hx D cI ad sz) D cI ad sz
  show wz_E 117 0 [some (.ref 0), some (.int (i))] [] (cz_w r q u b) (fun pc' _ st' w' => pc' = 2 ∧ st' = [.int i, .ref 0] ∧ w' = cz_w r q u b)
  refine wz_go ez_h117 2 (pc' := 2) (L' := [some (.ref 0), some (.int (i))]) (st' := [.int (i), .ref 0]) (w' := cz_w r q u b) rfl ?_
  exact wz_stop ⟨rfl, rfl, rfl⟩
