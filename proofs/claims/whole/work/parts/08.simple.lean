section EZ
variable {p : Program} {l : Launch} {e : Env} {R : Room} {s : State} {m : MethodId} {args : Array Value} {below : List Frame} {meth : Method} {c : Code} {H H0 : Heap} {locs : List Loc} {cells slots : Nat} {Q : State → Prop}
variable {D : va_G} {cI : ClassId} {o pc pc' len nL : Nat} {bytes : ByteArray} {L L' : ez_L} {st st' : List Value} {w w' : ez_W} {ad : Nat → Nat} {A : Nat → Prop} {ls : Array Slot} {i : Instr}
theorem ez_simple (F : ez_F p s m args c D cI o bytes) (hi : ez_s o i pc L st w = some (pc', L', st', w')) (hok : ez_ok i len = true) (hd : decode bytes pc = .ok (i, len)) (hP : va_P D vwCl (ez_z cI ad w) H) (hD : va_D A (ez_z cI ad w)) (hS : va_S A H0 H locs) (hl : ez_l nL ad L ls)
    (k : ∀ (ls' : Array Slot) (H' : Heap) (locs' : List Loc), ez_l nL ad L' ls' → va_P D vwCl (ez_z cI ad w') H' → va_D A (ez_z cI ad w') → va_S A H0 H' locs' → W p l e R s m args below meth c H' locs' cells slots Q (F0 m pc' ls' (st'.map (ez_v ad)))) : W p l e R s m args below meth c H locs cells slots Q (F0 m pc ls (st.map (ez_v ad))) := by
  have F' := F
  obtain ⟨hx, hb, hown, hts, hK⟩ := F'
  cases i
  case iconst n =>
    obtain rfl : len = 1 := Nat.eq_of_beq_eq_true hok
    cases hi
    exact lv_iconst hx hb hd rfl (k _ _ _ hl hP hD hS)
  case bipush n =>
    obtain rfl : len = 2 := Nat.eq_of_beq_eq_true hok
    cases hi
    exact lv_bipush hx hb hd rfl (k _ _ _ hl hP hD hS)
  case sipush n =>
    obtain rfl : len = 3 := Nat.eq_of_beq_eq_true hok
    cases hi
    exact lv_sipush hx hb hd rfl (k _ _ _ hl hP hD hS)
  case lconst n =>
    obtain rfl : len = 1 := Nat.eq_of_beq_eq_true hok
    cases hi
    exact lv_lconst hx hb hd rfl (k _ _ _ hl hP hD hS)
  case ldc n =>
    obtain rfl : len = 2 := Nat.eq_of_beq_eq_true hok
    simp only [ez_s] at hi
    split at hi
    · rename_i v hv
      cases hi
      exact lv_ldc hx hb hown (hts _ (ez_kk_of hv)) hd (k _ _ _ hl hP hD hS)
    · cases hi
  case ldc2_w n =>
    obtain rfl : len = 3 := Nat.eq_of_beq_eq_true hok
    simp only [ez_s] at hi
    split at hi
    · rename_i v hv
      cases hi
      exact lv_ldc2 hx hb hown (hts _ (ez_kl_of hv)) hd (k _ _ _ hl hP hD hS)
    · cases hi
  case iload_n n =>
    obtain rfl : len = 1 := Nat.eq_of_beq_eq_true hok
    simp only [ez_s] at hi
    split at hi
    · rename_i v hv
      cases hi
      exact lv_iload_n hx hb hd rfl (hl.2.2.2 _ _ (ez_li_of hv)) (k _ _ _ hl hP hD hS)
    · cases hi
  case iload n =>
    obtain rfl : len = 2 := Nat.eq_of_beq_eq_true hok
    simp only [ez_s] at hi
    split at hi
    · rename_i v hv
      cases hi
      exact lv_iload hx hb hd (hl.2.2.2 _ _ (ez_li_of hv)) (k _ _ _ hl hP hD hS)
    · cases hi
  case lload_n n =>
    obtain rfl : len = 1 := Nat.eq_of_beq_eq_true hok
    simp only [ez_s] at hi
    split at hi
    · rename_i v hv
      cases hi
      exact lv_lload_n hx hb hd rfl (hl.2.2.2 _ _ (ez_ll_of hv)) (k _ _ _ hl hP hD hS)
    · cases hi
  case lload n =>
    obtain rfl : len = 2 := Nat.eq_of_beq_eq_true hok
    simp only [ez_s] at hi
    split at hi
    · rename_i v hv
      cases hi
      exact lv_lload hx hb hd (hl.2.2.2 _ _ (ez_ll_of hv)) (k _ _ _ hl hP hD hS)
    · cases hi
  case aload_n n =>
    obtain rfl : len = 1 := Nat.eq_of_beq_eq_true hok
    simp only [ez_s] at hi
    split at hi
    · rename_i v hv
      cases hi
      exact lv_aload_n hx hb hd rfl (hl.2.2.2 _ _ (ez_la_of hv)) (k _ _ _ hl hP hD hS)
    · cases hi
  case aload n =>
    obtain rfl : len = 2 := Nat.eq_of_beq_eq_true hok
    simp only [ez_s] at hi
    split at hi
    · rename_i v hv
      cases hi
      exact lv_aload hx hb hd (hl.2.2.2 _ _ (ez_la_of hv)) (k _ _ _ hl hP hD hS)
    · cases hi
  case istore_n n =>
    obtain rfl : len = 1 := Nat.eq_of_beq_eq_true hok
    simp only [ez_s] at hi
    split at hi
    · split at hi
      · rename_i x st1 L1 hL1
        cases hi
        exact lv_istore_n hx hb hd rfl (ez_has hl) (ez_s1_lt hl.1 hL1) rfl (fun ls' h' => k _ _ _ (ez_s1_ok hl.1 hL1 h') hP hD hS)
      · cases hi
    · cases hi
  case istore n =>
    obtain rfl : len = 2 := Nat.eq_of_beq_eq_true hok
    simp only [ez_s] at hi
    split at hi
    · split at hi
      · rename_i x st1 L1 hL1
        cases hi
        exact lv_istore hx hb hd (ez_has hl) (ez_s1_lt hl.1 hL1) rfl (fun ls' h' => k _ _ _ (ez_s1_ok hl.1 hL1 h') hP hD hS)
      · cases hi
    · cases hi
  case lstore_n n =>
    obtain rfl : len = 1 := Nat.eq_of_beq_eq_true hok
    simp only [ez_s] at hi
    split at hi
    · split at hi
      · rename_i x st1 L1 hL1
        cases hi
        exact lv_lstore_n hx hb hd rfl (ez_has hl) (ez_s2_lt hl.1 hL1) rfl (fun ls' h' => k _ _ _ (ez_s2_ok hl.1 hL1 h') hP hD hS)
      · cases hi
    · cases hi
  case lstore n =>
    obtain rfl : len = 2 := Nat.eq_of_beq_eq_true hok
    simp only [ez_s] at hi
    split at hi
    · split at hi
      · rename_i x st1 L1 hL1
        cases hi
        exact lv_lstore hx hb hd (ez_has hl) (ez_s2_lt hl.1 hL1) rfl (fun ls' h' => k _ _ _ (ez_s2_ok hl.1 hL1 h') hP hD hS)
      · cases hi
    · cases hi
  case iinc n v =>
    obtain rfl : len = 3 := Nat.eq_of_beq_eq_true hok
    simp only [ez_s] at hi
    split at hi
    · split at hi
      · rename_i x hx1 _ L1 hL1
        cases hi
        obtain ⟨j, hj⟩ := List.getElem?_of_mem (ez_p_mem (ad := ad) (ez_li_of hx1))
        exact lv_iinc hx hb hd (ez_has hl) hj rfl (ez_s1_lt hl.1 hL1) rfl (fun ls' h' => k _ _ _ (ez_s1_ok hl.1 hL1 h') hP hD hS)
      · cases hi
    · cases hi
  case iadd =>
    obtain rfl : len = 1 := Nat.eq_of_beq_eq_true hok
    simp only [ez_s] at hi
    split at hi
    · cases hi
      exact lv_iadd hx hb hd (k _ _ _ hl hP hD hS)
    · cases hi
  case isub =>
    obtain rfl : len = 1 := Nat.eq_of_beq_eq_true hok
    simp only [ez_s] at hi
    split at hi
    · cases hi
      exact lv_isub hx hb hd (k _ _ _ hl hP hD hS)
    · cases hi
  case imul =>
    obtain rfl : len = 1 := Nat.eq_of_beq_eq_true hok
    simp only [ez_s] at hi
    split at hi
    · cases hi
      exact lv_imul hx hb hd (k _ _ _ hl hP hD hS)
    · cases hi
  case iand =>
    obtain rfl : len = 1 := Nat.eq_of_beq_eq_true hok
    simp only [ez_s] at hi
    split at hi
    · cases hi
      exact lv_iand hx hb hd (k _ _ _ hl hP hD hS)
    · cases hi
  case ishr =>
    obtain rfl : len = 1 := Nat.eq_of_beq_eq_true hok
    simp only [ez_s] at hi
    split at hi
    · cases hi
      exact lv_ishr hx hb hd (k _ _ _ hl hP hD hS)
    · cases hi
  case idiv =>
    obtain rfl : len = 1 := Nat.eq_of_beq_eq_true hok
    simp only [ez_s] at hi
    split at hi
    · split at hi
      · cases hi
      · rename_i hy
        cases hi
        exact lv_idiv hx hb hd hy (k _ _ _ hl hP hD hS)
    · cases hi
  case ladd =>
    obtain rfl : len = 1 := Nat.eq_of_beq_eq_true hok
    simp only [ez_s] at hi
    split at hi
    · cases hi
      exact lv_ladd hx hb hd (k _ _ _ hl hP hD hS)
    · cases hi
  case lsub =>
    obtain rfl : len = 1 := Nat.eq_of_beq_eq_true hok
    simp only [ez_s] at hi
    split at hi
    · cases hi
      exact lv_lsub hx hb hd (k _ _ _ hl hP hD hS)
    · cases hi
  case lmul =>
    obtain rfl : len = 1 := Nat.eq_of_beq_eq_true hok
    simp only [ez_s] at hi
    split at hi
    · cases hi
      exact lv_lmul hx hb hd (k _ _ _ hl hP hD hS)
    · cases hi
  case land =>
    obtain rfl : len = 1 := Nat.eq_of_beq_eq_true hok
    simp only [ez_s] at hi
    split at hi
    · cases hi
      exact lv_land hx hb hd (k _ _ _ hl hP hD hS)
    · cases hi
  case lrem =>
    obtain rfl : len = 1 := Nat.eq_of_beq_eq_true hok
    simp only [ez_s] at hi
    split at hi
    · split at hi
      · cases hi
      · rename_i hy
        cases hi
        exact lv_lrem hx hb hd hy (k _ _ _ hl hP hD hS)
    · cases hi
  case lneg =>
    obtain rfl : len = 1 := Nat.eq_of_beq_eq_true hok
    simp only [ez_s] at hi
    split at hi
    · cases hi
      exact lv_lneg hx hb hd (k _ _ _ hl hP hD hS)
    · cases hi
  case lushr =>
    obtain rfl : len = 1 := Nat.eq_of_beq_eq_true hok
    simp only [ez_s] at hi
    split at hi
    · cases hi
      exact lv_lushr hx hb hd rfl (k _ _ _ hl hP hD hS)
    · cases hi
  case lcmp =>
    obtain rfl : len = 1 := Nat.eq_of_beq_eq_true hok
    simp only [ez_s] at hi
    split at hi
    · cases hi
      exact W.lcmp hx hb hd (k _ _ _ hl hP hD hS)
    · cases hi
  case i2l =>
    obtain rfl : len = 1 := Nat.eq_of_beq_eq_true hok
    simp only [ez_s] at hi
    split at hi
    · cases hi
      exact lv_i2l hx hb hd rfl (k _ _ _ hl hP hD hS)
    · cases hi
  case l2i =>
    obtain rfl : len = 1 := Nat.eq_of_beq_eq_true hok
    simp only [ez_s] at hi
    split at hi
    · cases hi
      exact lv_l2i hx hb hd rfl (k _ _ _ hl hP hD hS)
    · cases hi
  case dup =>
    obtain rfl : len = 1 := Nat.eq_of_beq_eq_true hok
    simp only [ez_s] at hi
    split at hi
    · cases hi
      exact lv_dup hx hb hd rfl (k _ _ _ hl hP hD hS)
    · cases hi
      exact lv_dup hx hb hd rfl (k _ _ _ hl hP hD hS)
    · cases hi
  case dup2 =>
    obtain rfl : len = 1 := Nat.eq_of_beq_eq_true hok
    simp only [ez_s] at hi
    split at hi
    · cases hi
      exact lv_dup2_11 hx hb hd rfl rfl (k _ _ _ hl hP hD hS)
    · cases hi
  case pop =>
    obtain rfl : len = 1 := Nat.eq_of_beq_eq_true hok
    simp only [ez_s] at hi
    split at hi
    · cases hi
      exact lv_pop hx hb hd rfl (k _ _ _ hl hP hD hS)
    · cases hi
  case goto off =>
    obtain rfl : len = 3 := Nat.eq_of_beq_eq_true hok
    simp only [ez_s] at hi
    split at hi
    · rename_i t ht
      cases hi
      exact lv_goto hx hb hd (ez_br_of ht) (k _ _ _ hl hP hD hS)
    · cases hi
  case ifCond cd off =>
    obtain rfl : len = 3 := Nat.eq_of_beq_eq_true hok
    simp only [ez_s] at hi
    split at hi
    · split at hi
      · rename_i x st1 _ t ht
        cases hi
        have kk := k _ _ _ hl hP hD hS
        cases cd
        · exact lv_if_eq hx hb hd (ez_br_of ht) (fun q => by simpa [ez_cd, q] using kk) (fun q => by simpa [ez_cd, q] using kk)
        · exact lv_if_ne hx hb hd (ez_br_of ht) (fun q => by simpa [ez_cd, q] using kk) (fun q => by simpa [ez_cd, q] using kk)
        · exact lv_if_lt hx hb hd (ez_br_of ht) (fun q => by simpa [ez_cd, q] using kk) (fun q => by simpa [ez_cd, q] using kk)
        · exact lv_if_ge hx hb hd (ez_br_of ht) (fun q => by simpa [ez_cd, q] using kk) (fun q => by simpa [ez_cd, q] using kk)
        · exact lv_if_gt hx hb hd (ez_br_of ht) (fun q => by simpa [ez_cd, q] using kk) (fun q => by simpa [ez_cd, q] using kk)
        · exact lv_if_le hx hb hd (ez_br_of ht) (fun q => by simpa [ez_cd, q] using kk) (fun q => by simpa [ez_cd, q] using kk)
      · cases hi
    · cases hi
  case if_icmp cd off =>
    obtain rfl : len = 3 := Nat.eq_of_beq_eq_true hok
    simp only [ez_s] at hi
    split at hi
    · split at hi
      · rename_i x y st1 _ t ht
        cases hi
        have kk := k _ _ _ hl hP hD hS
        cases cd
        · exact lv_icmp_eq hx hb hd (ez_br_of ht) (fun q => by simpa [ez_cd, q] using kk) (fun q => by simpa [ez_cd, q] using kk)
        · exact lv_icmp_ne hx hb hd (ez_br_of ht) (fun q => by simpa [ez_cd, q] using kk) (fun q => by simpa [ez_cd, q] using kk)
        · exact lv_icmp_lt hx hb hd (ez_br_of ht) (fun q => by simpa [ez_cd, q] using kk) (fun q => by simpa [ez_cd, q] using kk)
        · exact lv_icmp_ge hx hb hd (ez_br_of ht) (fun q => by simpa [ez_cd, q] using kk) (fun q => by simpa [ez_cd, q] using kk)
        · exact lv_icmp_gt hx hb hd (ez_br_of ht) (fun q => by simpa [ez_cd, q] using kk) (fun q => by simpa [ez_cd, q] using kk)
        · exact lv_icmp_le hx hb hd (ez_br_of ht) (fun q => by simpa [ez_cd, q] using kk) (fun q => by simpa [ez_cd, q] using kk)
      · cases hi
    · cases hi
  case tableswitch d lo hi1 offs =>
    simp only [ez_s] at hi
    split at hi
    · split at hi
      · rename_i x st1 _ off hoff
        split at hi
        · rename_i t ht
          cases hi
          by_cases hq : x.toInt < lo ∨ hi1 < x.toInt
          · rw [if_pos hq] at hoff
            cases hoff
            exact lv_tableOut hx hb hd hq (ez_br_of ht) (k _ _ _ hl hP hD hS)
          · rw [if_neg hq] at hoff
            exact lv_tableIn hx hb hd (fun z => hq (Or.inl z)) (fun z => hq (Or.inr z)) hoff (ez_br_of ht) (k _ _ _ hl hP hD hS)
        · cases hi
      · cases hi
    · cases hi
  case lookupswitch d ps =>
    simp only [ez_s] at hi
    split at hi
    · rename_i x st1
      cases hq : (ps.toList.zip (ps.toList.drop 1)).all (fun (a, next) => a.1 < next.1) with
      | false => rw [hq] at hi; cases hi
      | true =>
        rw [hq] at hi
        simp only [cond_true] at hi
        split at hi
        · rename_i t ht
          cases hi
          exact lv_lookup hx hb hd hq rfl (ez_br_of ht) (k _ _ _ hl hP hD hS)
        · cases hi
    · cases hi
  case getfield n =>
    obtain rfl : len = 3 := Nat.eq_of_beq_eq_true hok
    simp only [ez_s] at hi
    split at hi
    · split at hi
      · split at hi
        · rename_i a st1 _ j kd hf _ cc fs hw
          cases hc : Nat.beq cc o with
          | false => rw [hc] at hi; cases hi
          | true =>
            rw [hc] at hi
            simp only [cond_true] at hi
            split at hi
            · rename_i v hv
              cases hi
              exact ez_getf F hd hP hf hw hc hv (k _ _ _ hl hP hD hS)
            · cases hi
        · cases hi
      · cases hi
    · cases hi
  case putfield n =>
    obtain rfl : len = 3 := Nat.eq_of_beq_eq_true hok
    simp only [ez_s] at hi
    split at hi
    · split at hi
      · rename_i v a st1 _ j kd hf
        cases hv : ez_ft kd v with
        | false => rw [hv] at hi; cases hi
        | true =>
          rw [hv] at hi
          simp only [cond_true] at hi
          split at hi
          · rename_i _ cc fs hw
            cases hc : Nat.beq cc o && Nat.blt j fs.length with
            | false => rw [hc] at hi; cases hi
            | true =>
              rw [hc] at hi
              cases hi
              simp only [Bool.and_eq_true] at hc
              exact ez_putf F hd hP hD hS hf hw hc.1 hc.2 hv (fun H1 locs1 g1 g2 g3 => k _ _ _ hl g1 g2 g3)
          · cases hi
      · cases hi
    · cases hi
  case iaload =>
    obtain rfl : len = 1 := Nat.eq_of_beq_eq_true hok
    simp only [ez_s] at hi
    split at hi
    · split at hi
      · split at hi
        · cases hi
        · rename_i j a st1 _ n f hw hq
          cases hi
          exact va_iald hx hb hK hP a 0 (ez_z_at hw) rfl hq hd (k _ _ _ hl hP hD hS)
      · cases hi
    · cases hi
  case iastore =>
    obtain rfl : len = 1 := Nat.eq_of_beq_eq_true hok
    simp only [ez_s] at hi
    split at hi
    · split at hi
      · split at hi
        · cases hi
        · rename_i x j a st1 _ n f hw hq
          cases hi
          refine va_iast hx hb hK hP hD hS a 0 (ez_z_at hw) rfl hq hd (fun H1 locs1 g1 g2 g3 => k _ _ _ hl ?_ ?_ g3)
          · rw [ez_z_set]; exact g1
          · rw [ez_z_set]; exact g2
      · cases hi
    · cases hi
  case arraylength =>
    obtain rfl : len = 1 := Nat.eq_of_beq_eq_true hok
    simp only [ez_s] at hi
    split at hi
    · split at hi
      · rename_i a st1 _ n f hw
        cases hi
        exact va_alen hx hb hK hP a 0 (ez_z_at hw) rfl rfl hd (k _ _ _ hl hP hD hS)
      · cases hi
    · cases hi
  all_goals (simp only [ez_s] at hi; cases hi)
end EZ
