/-! ===== the tables hold what the Statement's tables say ===== -/
abbrev vwCl : List vw_C := [(RX0, TX0, 1), (RX1, TX1, 1), (RX2, TX2, 15), (RX3, TX3, 8), (RX4, TX4, 7), (RX5, TX5, 1), (RX7, TX7, 10), (RX8, TX8, 26)]
def ez_R (o : Nat) : String := match vwCl[o]? with
  | some q => q.1
  | none => ""
def ez_in (w : Jvm.Cond) : Bool := decide (w ∈ lw_tbl) && goodWord w
def ez_fk (kd : Nat) (f : String × String × String × Bool) : Bool := match kd with
  | 0 => !f.2.2.2 && decide (parseFieldDescriptor f.2.2.1 = some .int)
  | 1 => !f.2.2.2 && decide (parseFieldDescriptor f.2.2.1 = some .long)
  | 2 => !f.2.2.2 && decide (parseFieldDescriptor f.2.2.1 = some .boolean)
  | _ => true
def ez_fok (q : vw_C) (r : Nat × Nat × Nat) : Bool :=
  decide (r.2.1 < q.2.2) && (ez_in (.fieldLink q.1 r.1 q.1 (q.2.1 r.2.1).2.1 (q.2.1 r.2.1).2.2.1) && ((decide ((q.2.1 r.2.1).1 = q.1) || ez_in (.sameField q.1 (q.2.1 r.2.1).1 (q.2.1 r.2.1).2.1 (q.2.1 r.2.1).2.2.1)) && ez_fk r.2.2 (q.2.1 r.2.1)))
def ez_inp (k : Nat) (w : Jvm.Cond) : Bool := decide (lw_tbl[k]? = some w) && goodWord w
def ez_mok (N : ez_M) (q : Nat × Nat) : Bool :=
  ez_inp q.1 (.code N.2.1 N.2.2.1 N.2.2.2.1 N.2.2.2.2.1) && (ez_inp q.2 (.initialized N.2.1.cls) && (decide (ez_R N.1 = N.2.1.cls) && (decide (plainName N.2.1.cls = true) && (decide (N.2.1.cls ≠ "java/lang/invoke/MethodHandle" ∧ N.2.1.cls ≠ "java/lang/invoke/VarHandle") && decide ((parseMethodDescriptor N.2.1.desc).map (fun d => d.parameters.length) = some N.2.2.2.2.2.1)))))
def ez_cok (o : Nat) (p : (Nat × Nat) × (Nat × Nat × Nat)) : Bool := match ez_ms[p.1.2]? with
  | some N => ez_inp p.2.1 (.methodLink (ez_R o) p.1.1 N.2.1) && (ez_inp p.2.2.1 (.instanceMethod N.2.1) && ez_inp p.2.2.2 (.selects N.2.1.cls N.2.1 N.2.1))
  | none => false
def ez_sok (o : Nat) (r : Nat × Nat) : Bool := match ez_ms[r.2]? with
  | some N => ez_in (.methodLink (ez_R o) r.1 N.2.1) && ez_in (.static N.2.1)
  | none => false
def ez_mmok (o : Nat) (r : Nat × Nat) : Bool := bif Nat.beq r.2 0 then ez_in (.methodLink (ez_R o) r.1 Lib.Math.min.name) && (ez_in (.static Lib.Math.min.name) && (ez_in (.initialized "java/lang/Math") && ez_in (.code Lib.Math.min.name Lib.Math.min.code 2 (some .int))))
  else ez_in (.methodLink (ez_R o) r.1 Lib.Math.max.name) && (ez_in (.static Lib.Math.max.name) && (ez_in (.initialized "java/lang/Math") && ez_in (.code Lib.Math.max.name Lib.Math.max.code 2 (some .int))))
def ez_kok (o : Nat) (r : Nat × Int32) : Bool := ez_in (.constant (ez_R o) r.1 r.2)
def ez_klok (o : Nat) (r : Nat × Int64) : Bool := ez_in (.constantLong (ez_R o) r.1 r.2)
def ez_dok (b : ByteArray) (t : List (Nat × Instr × Nat)) : Bool := t.all (fun q => decide (decode b q.1 = .ok q.2))
set_option maxRecDepth 100000 in
theorem ez_ff_ok : ∀ p ∈ vwCl.zip ez_ff, p.2.all (ez_fok p.1) = true := by decide +kernel
def ez_ccp : List (List (Nat × Nat × Nat)) := [[(508, 276, 277), (509, 510, 511), (513, 515, 7), (536, 435, 436), (517, 439, 440), (518, 519, 520), (535, 443, 444)],
  [(540, 276, 277), (541, 542, 543), (545, 547, 9), (549, 439, 440), (550, 519, 520), (551, 443, 444)],
  [(555, 276, 277), (556, 558, 10), (561, 563, 11), (570, 572, 12), (574, 576, 13), (586, 439, 440), (587, 519, 520), (589, 591, 16), (602, 604, 19), (614, 616, 22), (627, 629, 24), (565, 542, 543), (566, 567, 568), (578, 580, 14), (588, 435, 436), (582, 584, 15), (593, 595, 17), (597, 599, 18), (601, 443, 444), (606, 608, 20), (610, 612, 21), (618, 619, 620), (622, 510, 511), (623, 625, 23)],
  [(438, 439, 440), (442, 443, 444), (458, 435, 436), (522, 524, 8), (526, 527, 528), (530, 531, 532), (721, 364, 365)],
  [(634, 276, 277), (635, 637, 25), (642, 644, 26), (657, 659, 28), (661, 663, 29), (689, 691, 36), (639, 439, 440), (640, 519, 520), (641, 455, 456), (649, 651, 27), (653, 443, 444), (665, 667, 30), (673, 675, 32), (677, 679, 33), (669, 671, 31), (681, 683, 34), (685, 687, 35)],
  [(698, 276, 277), (699, 701, 37), (703, 439, 440), (704, 519, 520), (705, 443, 444)],
  [(291, 293, 0), (363, 364, 365), (275, 276, 277), (391, 393, 2), (414, 416, 3), (434, 435, 436), (454, 455, 456), (466, 468, 4), (471, 472, 473), (475, 476, 477), (486, 488, 5), (498, 500, 6), (706, 708, 38), (717, 718, 719), (722, 723, 724), (733, 439, 440), (734, 527, 528), (749, 751, 39), (490, 491, 492), (494, 495, 496), (761, 762, 763), (765, 766, 767), (769, 770, 771), (279, 280, 281), (753, 531, 532)],
  [(866, 868, 40), (884, 886, 41), (888, 890, 42), (920, 922, 47), (916, 918, 46), (912, 914, 45), (929, 931, 49), (933, 935, 50), (957, 959, 56), (953, 955, 55), (941, 943, 52), (945, 947, 53), (908, 910, 44), (949, 951, 54), (961, 963, 57), (965, 967, 58), (925, 927, 48), (969, 971, 59), (981, 983, 62), (993, 995, 65), (997, 999, 66), (977, 979, 61), (985, 987, 63), (989, 991, 64), (937, 939, 51), (973, 975, 60), (1001, 1003, 67), (904, 906, 43)]]
def ez_msp : List (Nat × Nat) := [(507, 73), (512, 73), (516, 73), (539, 72), (544, 72), (569, 72), (621, 72), (548, 72), (497, 74), (764, 74), (554, 74), (559, 74), (573, 74), (630, 74), (564, 74), (577, 74), (581, 74), (585, 74), (592, 74), (605, 74), (609, 74), (600, 74), (596, 74), (613, 74), (617, 74), (626, 74), (278, 70), (474, 70), (478, 70), (493, 70), (282, 70), (366, 70), (441, 70), (445, 70), (529, 70), (437, 70), (457, 70), (533, 70), (521, 70), (720, 70), (725, 70), (525, 70), (768, 75), (772, 75), (633, 75), (638, 75), (645, 75), (652, 75), (660, 75), (672, 75), (688, 75), (664, 75), (692, 75), (668, 75), (676, 75), (680, 75), (684, 75), (702, 76), (274, 69), (489, 69), (709, 69), (752, 69), (861, 77), (865, 77), (869, 77), (873, 77), (879, 77), (887, 77), (891, 77), (883, 77), (895, 77), (899, 77), (923, 77), (919, 77), (915, 77), (936, 77), (911, 77), (932, 77), (928, 77), (960, 77), (956, 77), (964, 77), (968, 77), (972, 77), (952, 77), (940, 77), (944, 77), (948, 77), (984, 77), (980, 77), (988, 77), (1000, 77), (996, 77), (992, 77), (976, 77), (1007, 77), (1004, 77), (907, 77), (903, 77), (1011, 77), (1015, 77), (1019, 77), (1023, 77), (1027, 77), (1031, 77), (417, 69), (469, 69), (394, 69), (294, 69), (501, 69), (290, 69), (374, 69), (404, 69), (413, 69), (452, 69), (465, 69), (732, 69), (741, 69), (748, 69), (760, 69), (485, 69), (716, 69), (695, 76)]
theorem ez_cc_len : ∀ o ∈ List.range 8, ((ez_cc[o]?).getD []).length = ((ez_ccp[o]?).getD []).length := by decide +kernel
set_option maxRecDepth 100000 in
theorem ez_cc_ok0 : (((ez_cc[0]?).getD []).zip ((ez_ccp[0]?).getD [])).all (ez_cok 0) = true := by decide +kernel
set_option maxRecDepth 100000 in
theorem ez_cc_ok1 : (((ez_cc[1]?).getD []).zip ((ez_ccp[1]?).getD [])).all (ez_cok 1) = true := by decide +kernel
set_option maxRecDepth 100000 in
theorem ez_cc_ok2 : (((ez_cc[2]?).getD []).zip ((ez_ccp[2]?).getD [])).all (ez_cok 2) = true := by decide +kernel
set_option maxRecDepth 100000 in
theorem ez_cc_ok3 : (((ez_cc[3]?).getD []).zip ((ez_ccp[3]?).getD [])).all (ez_cok 3) = true := by decide +kernel
set_option maxRecDepth 100000 in
theorem ez_cc_ok4 : (((ez_cc[4]?).getD []).zip ((ez_ccp[4]?).getD [])).all (ez_cok 4) = true := by decide +kernel
set_option maxRecDepth 100000 in
theorem ez_cc_ok5 : (((ez_cc[5]?).getD []).zip ((ez_ccp[5]?).getD [])).all (ez_cok 5) = true := by decide +kernel
set_option maxRecDepth 100000 in
theorem ez_cc_ok6 : (((ez_cc[6]?).getD []).zip ((ez_ccp[6]?).getD [])).all (ez_cok 6) = true := by decide +kernel
set_option maxRecDepth 100000 in
theorem ez_cc_ok7 : (((ez_cc[7]?).getD []).zip ((ez_ccp[7]?).getD [])).all (ez_cok 7) = true := by decide +kernel
theorem ez_ms_len : ez_ms.length = ez_msp.length := by decide +kernel
set_option maxRecDepth 100000 in
theorem ez_ms_ok0 : ∀ p ∈ ((ez_ms.zip ez_msp).drop 0).take 15, ez_mok p.1 p.2 = true := by decide +kernel
set_option maxRecDepth 100000 in
theorem ez_ms_ok15 : ∀ p ∈ ((ez_ms.zip ez_msp).drop 15).take 15, ez_mok p.1 p.2 = true := by decide +kernel
set_option maxRecDepth 100000 in
theorem ez_ms_ok30 : ∀ p ∈ ((ez_ms.zip ez_msp).drop 30).take 15, ez_mok p.1 p.2 = true := by decide +kernel
set_option maxRecDepth 100000 in
theorem ez_ms_ok45 : ∀ p ∈ ((ez_ms.zip ez_msp).drop 45).take 15, ez_mok p.1 p.2 = true := by decide +kernel
set_option maxRecDepth 100000 in
theorem ez_ms_ok60 : ∀ p ∈ ((ez_ms.zip ez_msp).drop 60).take 15, ez_mok p.1 p.2 = true := by decide +kernel
set_option maxRecDepth 100000 in
theorem ez_ms_ok75 : ∀ p ∈ ((ez_ms.zip ez_msp).drop 75).take 15, ez_mok p.1 p.2 = true := by decide +kernel
set_option maxRecDepth 100000 in
theorem ez_ms_ok90 : ∀ p ∈ ((ez_ms.zip ez_msp).drop 90).take 15, ez_mok p.1 p.2 = true := by decide +kernel
set_option maxRecDepth 100000 in
theorem ez_ms_ok105 : ∀ p ∈ ((ez_ms.zip ez_msp).drop 105).take 15, ez_mok p.1 p.2 = true := by decide +kernel
set_option maxRecDepth 100000 in
theorem ez_ms_ok120 : ∀ p ∈ ((ez_ms.zip ez_msp).drop 120).take 15, ez_mok p.1 p.2 = true := by decide +kernel
set_option maxRecDepth 100000 in
theorem ez_sc_ok : ∀ o ∈ List.range 8, ((ez_sc[o]?).getD []).all (ez_sok o) = true := by decide +kernel
set_option maxRecDepth 100000 in
theorem ez_mm_ok : ∀ o ∈ List.range 8, ((ez_mm[o]?).getD []).all (ez_mmok o) = true := by decide +kernel
set_option maxRecDepth 100000 in
theorem ez_kk_ok : ∀ o ∈ List.range 8, ((ez_kk[o]?).getD []).all (ez_kok o) = true := by decide +kernel
set_option maxRecDepth 100000 in
theorem ez_kl_ok : ∀ o ∈ List.range 8, ((ez_kl[o]?).getD []).all (ez_klok o) = true := by decide +kernel
set_option maxRecDepth 100000 in
theorem ez_d_ok0 : ∀ p ∈ ((ez_ms.zip ez_tb).drop 0).take 15, ez_dok p.1.2.2.1 p.2 = true := by decide +kernel
set_option maxRecDepth 100000 in
theorem ez_d_ok15 : ∀ p ∈ ((ez_ms.zip ez_tb).drop 15).take 15, ez_dok p.1.2.2.1 p.2 = true := by decide +kernel
set_option maxRecDepth 100000 in
theorem ez_d_ok30 : ∀ p ∈ ((ez_ms.zip ez_tb).drop 30).take 15, ez_dok p.1.2.2.1 p.2 = true := by decide +kernel
set_option maxRecDepth 100000 in
theorem ez_d_ok45 : ∀ p ∈ ((ez_ms.zip ez_tb).drop 45).take 15, ez_dok p.1.2.2.1 p.2 = true := by decide +kernel
set_option maxRecDepth 100000 in
theorem ez_d_ok60 : ∀ p ∈ ((ez_ms.zip ez_tb).drop 60).take 15, ez_dok p.1.2.2.1 p.2 = true := by decide +kernel
set_option maxRecDepth 100000 in
theorem ez_d_ok75 : ∀ p ∈ ((ez_ms.zip ez_tb).drop 75).take 15, ez_dok p.1.2.2.1 p.2 = true := by decide +kernel
set_option maxRecDepth 100000 in
theorem ez_d_ok90 : ∀ p ∈ ((ez_ms.zip ez_tb).drop 90).take 15, ez_dok p.1.2.2.1 p.2 = true := by decide +kernel
set_option maxRecDepth 100000 in
theorem ez_d_ok105 : ∀ p ∈ ((ez_ms.zip ez_tb).drop 105).take 15, ez_dok p.1.2.2.1 p.2 = true := by decide +kernel
set_option maxRecDepth 100000 in
theorem ez_d_ok120 : ∀ p ∈ ((ez_ms.zip ez_tb).drop 120).take 15, ez_dok p.1.2.2.1 p.2 = true := by decide +kernel
