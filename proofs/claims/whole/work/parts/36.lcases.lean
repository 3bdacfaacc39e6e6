set_option maxHeartbeats 4000000 in
set_option maxRecDepth 100000 in
theorem lc_value {p : Program} {l : Launch} {e : Env} {s : State} {m : MethodId} {args : Array Value} {below : List Frame} {meth : Method} {c : Code} {Q : State → Prop} {ret0 : Option FieldType} {D : va_G} {z : Nat} {a b : Nat → Nat} {oa : Nat} {cI cZ cJ : ClassId} {bs L j : Nat} {xs : Nat → Int32} (hst : l.stackTraces = false) (hF : Fx p s m args meth c cL_law 8 RL ret0) (hK : kn D cI cZ cJ s) (hKx : kx s) (hZ : zq z s s.heap) (hX : va_X bs L xs s s.heap) (hbl : bs < s.heap.size) (hbA : ¬ Ar z bs) (hj : 6 * j + 6 ≤ L) (hL : L ≤ 3072) (KT : lKT p l e s m args below meth c Q D z a b oa cI cZ cJ bs j) {S : Sta} {t w0 : Nat} {q vals fil rb wo : Nat → Int32} {fn : Int32} {og : Nat → Int64} {th : Nat → Bool} {vs : Nat → Int32} {kt : Nat → Bool} {kv wa : Nat → Int32} {tr ch : Int32} (hinv : linv S t w0 q vals fil rb wo th vs wa) {H : Heap} {locs : List Loc} (hI : wi D z (Ar z) (gw a b oa cI cZ cJ vals fil rb t wo w0 fn og th vs kt kv wa tr ch) s H locs) {ls : Array Slot} (hl : lv_has ls 8 [(0, .ref bs), (1, .ref (a 0)), (2, .ref (b 0)), (3, .ref oa), (4, .int (nI (6 * j)))]) : W p l e room_1 s m args below meth c H locs (14 + j) (16168 + 6 * j) Q (F0 m 411 ls []) := by
  obtain ⟨hx, hb, hml, hown, hts, hr, hlocks⟩ := id hF
  obtain ⟨ht, hA, hR, hM, hw, hq1, hq2⟩ := id hinv
  have hI : wi D z (Ar z) (cw a cI vals fil rb (nI t) wo (nI w0) fn (Xo oa cJ og (mw b cI cZ (nI t) th vs kt kv (nI w0) wa fn tr ch []))) s H locs := hI
  refine lv_aload_n hx hb dL_law_411 rfl (lv_at hl 1 rfl) ?_
  refine lv_aload_n hx hb dL_law_412 rfl (lv_at hl 0 rfl) ?_
  refine lv_iload hx hb dL_law_413 (lv_at hl 4 rfl) ?_
  refine lv_iconst (v := nI 1) hx hb dL_law_415 (by decide) ?_
  refine lv_iadd hx hb dL_law_416 ?_
  refine tp (nI_add _ _) ?_
  refine sl_ld (k := 6 * j + 1) hx hb hX hbl hbA hI dL_law_417 (by omega) (by omega) ?_
  refine lv_aload_n hx hb dL_law_418 rfl (lv_at hl 0 rfl) ?_
  refine lv_iload hx hb dL_law_419 (lv_at hl 4 rfl) ?_
  refine lv_iconst (v := nI 2) hx hb dL_law_421 (by decide) ?_
  refine lv_iadd hx hb dL_law_422 ?_
  refine tp (nI_add _ _) ?_
  refine sl_ld (k := 6 * j + 2) hx hb hX hbl hbA hI dL_law_423 (by omega) (by omega) ?_
  refine lv_aload_n hx hb dL_law_424 rfl (lv_at hl 0 rfl) ?_
  refine lv_iload hx hb dL_law_425 (lv_at hl 4 rfl) ?_
  refine lv_iconst (v := nI 3) hx hb dL_law_427 (by decide) ?_
  refine lv_iadd hx hb dL_law_428 ?_
  refine tp (nI_add _ _) ?_
  refine sl_ld (k := 6 * j + 3) hx hb hX hbl hbA hI dL_law_429 (by omega) (by omega) ?_
  refine lv_aload_n hx hb dL_law_430 rfl (lv_at hl 3 rfl) ?_
  refine k_tri (run_h (As := [.ref (a 0), .int (xs (6 * j + 1)), .int (xs (6 * j + 2)), .int (xs (6 * j + 3)), .ref (oa)]) (rest := []) hF hK hKx hZ hI (c_L_value hst hA ht) cf_L_value k301 ⟨Nat.le_of_ble_eq_true rfl, Nat.le_of_ble_eq_true rfl⟩ ⟨rfl, rfl⟩ ⟨by show _ ≤ 1053; omega, by show _ ≤ 24450; omega⟩ rfl hl.1 rfl (Nat.le_of_ble_eq_true rfl) dL_law_431) hI (fun E ce q9 u hp => absurd hp id) (fun r u hp H locs hI => ?_)
  obtain ⟨rfl, hv⟩ := hp
  have hI : wi D z (Ar z) (cw a cI vals fil rb (nI t) wo (nI w0) fn (Xo oa cJ u (mw b cI cZ (nI t) th vs kt kv (nI w0) wa fn tr ch []))) s H locs := hI
  refine lv_istore (lv' := [(5, .int (nI (vCode S t (xs (6 * j + 1)) (xs (6 * j + 2)) (xs (6 * j + 3))))), (0, .ref (bs)), (1, .ref (a 0)), (2, .ref (b 0)), (3, .ref (oa)), (4, .int (nI (6 * j)))]) hx hb dL_law_434 hl (by decide) rfl (fun ls hl => ?_)
  refine lv_aload_n hx hb dL_law_436 rfl (lv_at hl 3 rfl) ?_
  refine lv_aload_n hx hb dL_law_437 rfl (lv_at hl 1 rfl) ?_
  refine lv_iload hx hb dL_law_438 (lv_at hl 5 rfl) ?_
  refine lv_iconst (v := nI 1) hx hb dL_law_440 (by decide) ?_
  refine lv_iadd hx hb dL_law_441 ?_
  refine tp (nI_add _ _) ?_
  refine sl_ld (k := 6 * j + 1) hx hb hX hbl hbA hI dL_law_442 (by omega) (by omega) ?_
  refine lv_aload_n hx hb dL_law_443 rfl (lv_at hl 1 rfl) ?_
  refine lv_iload hx hb dL_law_444 (lv_at hl 5 rfl) ?_
  refine lv_iconst (v := nI 2) hx hb dL_law_446 (by decide) ?_
  refine lv_iadd hx hb dL_law_447 ?_
  refine tp (nI_add _ _) ?_
  refine sl_ld (k := 6 * j + 2) hx hb hX hbl hbA hI dL_law_448 (by omega) (by omega) ?_
  refine lv_aload_n hx hb dL_law_449 rfl (lv_at hl 1 rfl) ?_
  refine lv_iload hx hb dL_law_450 (lv_at hl 5 rfl) ?_
  refine lv_iconst (v := nI 3) hx hb dL_law_452 (by decide) ?_
  refine lv_iadd hx hb dL_law_453 ?_
  refine tp (nI_add _ _) ?_
  refine sl_ld (k := 6 * j + 3) hx hb hX hbl hbA hI dL_law_454 (by omega) (by omega) ?_
  have hJ : wi D z (Ar z) (mw b cI cZ (nI t) th vs kt kv (nI w0) wa fn tr ch (cw a cI vals fil rb (nI t) wo (nI w0) fn (Xo oa cJ u []))) s H locs := hI.ofP [8, 9, 10, 11, 12, 13, 0, 1, 2, 3, 4, 5, 6, 7] (by decide) rfl rfl
  refine k_mu (run_v (As := [.int (xs (6 * j + 1)), .int (xs (6 * j + 2)), .int (xs (6 * j + 3))]) (rest := []) hF hK hJ (c_X3_value hM ht) cf_X3_value k539 0 3 rfl rfl ⟨Nat.le_of_ble_eq_true rfl, Nat.le_of_ble_eq_true rfl⟩ ⟨rfl, rfl⟩ ⟨by show _ ≤ 1053; omega, by show _ ≤ 24450; omega⟩ rfl hl.1 rfl (Nat.le_of_ble_eq_true rfl) dL_law_455) hJ (fun r2 u2 hp2 H locs hJ => ?_)
  obtain ⟨rfl, hm⟩ := hp2
  have hJ : wi D z (Ar z) (mw b cI cZ (nI t) th vs kt kv (nI w0) wa fn (nI (vCode S t (xs (6 * j + 1)) (xs (6 * j + 2)) (xs (6 * j + 3)))) ch (cw a cI vals fil rb (nI t) wo (nI w0) fn (Xo oa cJ u []))) s H locs := hJ
  have hI : wi D z (Ar z) (cw a cI vals fil rb (nI t) wo (nI w0) fn (Xo oa cJ u (mw b cI cZ (nI t) th vs kt kv (nI w0) wa fn (nI (vCode S t (xs (6 * j + 1)) (xs (6 * j + 2)) (xs (6 * j + 3)))) ch []))) s H locs := hJ.ofP [6, 7, 8, 9, 10, 11, 12, 13, 0, 1, 2, 3, 4, 5] (by decide) rfl rfl
  refine lv_istore (lv' := [(6, .int (r2)), (5, .int (nI (vCode S t (xs (6 * j + 1)) (xs (6 * j + 2)) (xs (6 * j + 3))))), (0, .ref (bs)), (1, .ref (a 0)), (2, .ref (b 0)), (3, .ref (oa)), (4, .int (nI (6 * j)))]) hx hb dL_law_458 hl (by decide) rfl (fun ls hl => ?_)
  refine lv_aload_n hx hb dL_law_460 rfl (lv_at hl 4 rfl) ?_
  have hJ : wi D z (Ar z) (mw b cI cZ (nI t) th vs kt kv (nI w0) wa fn (nI (vCode S t (xs (6 * j + 1)) (xs (6 * j + 2)) (xs (6 * j + 3)))) ch (cw a cI vals fil rb (nI t) wo (nI w0) fn (Xo oa cJ u []))) s H locs := hI.ofP [8, 9, 10, 11, 12, 13, 0, 1, 2, 3, 4, 5, 6, 7] (by decide) rfl rfl
  refine k_ro (run_v (As := []) (rest := []) hF hK hJ c_X3_thrown cf_X3_thrown k454 0 3 rfl rfl ⟨Nat.le_of_ble_eq_true rfl, Nat.le_of_ble_eq_true rfl⟩ ⟨rfl, rfl⟩ ⟨by show _ ≤ 1053; omega, by show _ ≤ 24450; omega⟩ rfl hl.1 rfl (Nat.le_of_ble_eq_true rfl) dL_law_461) hJ (fun H locs hJ => ?_)
  have hJ : wi D z (Ar z) (mw b cI cZ (nI t) th vs kt kv (nI w0) wa fn (nI (vCode S t (xs (6 * j + 1)) (xs (6 * j + 2)) (xs (6 * j + 3)))) ch (cw a cI vals fil rb (nI t) wo (nI w0) fn (Xo oa cJ u []))) s H locs := hJ
  have hI : wi D z (Ar z) (cw a cI vals fil rb (nI t) wo (nI w0) fn (Xo oa cJ u (mw b cI cZ (nI t) th vs kt kv (nI w0) wa fn (nI (vCode S t (xs (6 * j + 1)) (xs (6 * j + 2)) (xs (6 * j + 3)))) ch []))) s H locs := hJ.ofP [6, 7, 8, 9, 10, 11, 12, 13, 0, 1, 2, 3, 4, 5] (by decide) rfl rfl
  refine lv_iload hx hb dL_law_464 (lv_at hl 1 rfl) ?_
  refine lv_icmp_eq (tgt := 471) hx hb dL_law_466 (by decide) (fun _ => ?_) (fun q9 => absurd rfl q9)
  refine lv_iload hx hb dL_law_471 (lv_at hl 1 rfl) ?_
  have g9 := cd_le S t (xs (6 * j + 1)) (xs (6 * j + 2)) (xs (6 * j + 3)) 0
  refine nz_ne (tgt := 488) hx hb dL_law_473 (by decide) (by omega) (fun cc => ?_) (fun cc => ?_)
  · refine lv_goto (tgt := 1124) hx hb dL_law_488 (by decide) ?_
    refine W.widen (k := 15 + j) (n := 16174 + 6 * j) (by omega) (by omega) ?_
    exact KT S t w0 q vals fil rb wo fn u th vs kt kv wa (nI (vCode S t (xs (6 * j + 1)) (xs (6 * j + 2)) (xs (6 * j + 3)))) ch ⟨ht, hA, hR, hM, hw, hq1, hq2⟩ H locs hI ls (lv_sub hl [2, 3, 4, 5, 6] rfl)
  · refine lv_aload_n hx hb dL_law_476 rfl (lv_at hl 5 rfl) ?_
    refine lv_iconst (v := nI 0) hx hb dL_law_477 (by decide) ?_
    refine la_ld hx hb hK hI 7 rfl dL_law_478 ?_
    refine lv_iload hx hb dL_law_479 (lv_at hl 0 rfl) ?_
    refine lv_i2l (v := (r2).toInt64) hx hb dL_law_481 rfl ?_
    refine W.lcmp hx hb dL_law_482 ?_
    refine lv_if_eq (tgt := 488) hx hb dL_law_483 (by decide) (fun _ => ?_) (fun q9 => absurd (lg_eq (by rw [hv cc, hm cc])) q9)
    refine lv_goto (tgt := 1124) hx hb dL_law_488 (by decide) ?_
    refine W.widen (k := 15 + j) (n := 16174 + 6 * j) (by omega) (by omega) ?_
    exact KT S t w0 q vals fil rb wo fn u th vs kt kv wa (nI (vCode S t (xs (6 * j + 1)) (xs (6 * j + 2)) (xs (6 * j + 3)))) ch ⟨ht, hA, hR, hM, hw, hq1, hq2⟩ H locs hI ls (lv_sub hl [2, 3, 4, 5, 6] rfl)
set_option maxHeartbeats 4000000 in
set_option maxRecDepth 100000 in
theorem lc_sum {p : Program} {l : Launch} {e : Env} {s : State} {m : MethodId} {args : Array Value} {below : List Frame} {meth : Method} {c : Code} {Q : State → Prop} {ret0 : Option FieldType} {D : va_G} {z : Nat} {a b : Nat → Nat} {oa : Nat} {cI cZ cJ : ClassId} {bs L j : Nat} {xs : Nat → Int32} (hst : l.stackTraces = false) (hF : Fx p s m args meth c cL_law 8 RL ret0) (hK : kn D cI cZ cJ s) (hKx : kx s) (hZ : zq z s s.heap) (hX : va_X bs L xs s s.heap) (hbl : bs < s.heap.size) (hbA : ¬ Ar z bs) (hj : 6 * j + 6 ≤ L) (hL : L ≤ 3072) (KT : lKT p l e s m args below meth c Q D z a b oa cI cZ cJ bs j) {S : Sta} {t w0 : Nat} {q vals fil rb wo : Nat → Int32} {fn : Int32} {og : Nat → Int64} {th : Nat → Bool} {vs : Nat → Int32} {kt : Nat → Bool} {kv wa : Nat → Int32} {tr ch : Int32} (hinv : linv S t w0 q vals fil rb wo th vs wa) {H : Heap} {locs : List Loc} (hI : wi D z (Ar z) (gw a b oa cI cZ cJ vals fil rb t wo w0 fn og th vs kt kv wa tr ch) s H locs) {ls : Array Slot} (hl : lv_has ls 8 [(0, .ref bs), (1, .ref (a 0)), (2, .ref (b 0)), (3, .ref oa), (4, .int (nI (6 * j)))]) : W p l e room_1 s m args below meth c H locs (14 + j) (16168 + 6 * j) Q (F0 m 540 ls []) := by
  obtain ⟨hx, hb, hml, hown, hts, hr, hlocks⟩ := id hF
  obtain ⟨ht, hA, hR, hM, hw, hq1, hq2⟩ := id hinv
  have hI : wi D z (Ar z) (cw a cI vals fil rb (nI t) wo (nI w0) fn (Xo oa cJ og (mw b cI cZ (nI t) th vs kt kv (nI w0) wa fn tr ch []))) s H locs := hI
  refine lv_aload_n hx hb dL_law_540 rfl (lv_at hl 1 rfl) ?_
  refine lv_aload_n hx hb dL_law_541 rfl (lv_at hl 0 rfl) ?_
  refine lv_iload hx hb dL_law_542 (lv_at hl 4 rfl) ?_
  refine lv_iconst (v := nI 1) hx hb dL_law_544 (by decide) ?_
  refine lv_iadd hx hb dL_law_545 ?_
  refine tp (nI_add _ _) ?_
  refine sl_ld (k := 6 * j + 1) hx hb hX hbl hbA hI dL_law_546 (by omega) (by omega) ?_
  refine lv_aload_n hx hb dL_law_547 rfl (lv_at hl 0 rfl) ?_
  refine lv_iload hx hb dL_law_548 (lv_at hl 4 rfl) ?_
  refine lv_iconst (v := nI 2) hx hb dL_law_550 (by decide) ?_
  refine lv_iadd hx hb dL_law_551 ?_
  refine tp (nI_add _ _) ?_
  refine sl_ld (k := 6 * j + 2) hx hb hX hbl hbA hI dL_law_552 (by omega) (by omega) ?_
  refine lv_aload_n hx hb dL_law_553 rfl (lv_at hl 0 rfl) ?_
  refine lv_iload hx hb dL_law_554 (lv_at hl 4 rfl) ?_
  refine lv_iconst (v := nI 3) hx hb dL_law_556 (by decide) ?_
  refine lv_iadd hx hb dL_law_557 ?_
  refine tp (nI_add _ _) ?_
  refine sl_ld (k := 6 * j + 3) hx hb hX hbl hbA hI dL_law_558 (by omega) (by omega) ?_
  refine lv_aload_n hx hb dL_law_559 rfl (lv_at hl 0 rfl) ?_
  refine lv_iload hx hb dL_law_560 (lv_at hl 4 rfl) ?_
  refine lv_iconst (v := nI 4) hx hb dL_law_562 (by decide) ?_
  refine lv_iadd hx hb dL_law_563 ?_
  refine tp (nI_add _ _) ?_
  refine sl_ld (k := 6 * j + 4) hx hb hX hbl hbA hI dL_law_564 (by omega) (by omega) ?_
  refine lv_aload_n hx hb dL_law_565 rfl (lv_at hl 3 rfl) ?_
  refine k_tri (run_h (As := [.ref (a 0), .int (xs (6 * j + 1)), .int (xs (6 * j + 2)), .int (xs (6 * j + 3)), .int (xs (6 * j + 4)), .ref (oa)]) (rest := []) hF hK hKx hZ hI (c_L_sum hst hA ht) cf_L_sum k309 ⟨Nat.le_of_ble_eq_true rfl, Nat.le_of_ble_eq_true rfl⟩ ⟨rfl, rfl⟩ ⟨by show _ ≤ 1053; omega, by show _ ≤ 24450; omega⟩ rfl hl.1 rfl (Nat.le_of_ble_eq_true rfl) dL_law_566) hI (fun E ce q9 u hp => absurd hp id) (fun r u hp H locs hI => ?_)
  obtain ⟨rfl, hv⟩ := hp
  have hI : wi D z (Ar z) (cw a cI vals fil rb (nI t) wo (nI w0) fn (Xo oa cJ u (mw b cI cZ (nI t) th vs kt kv (nI w0) wa fn tr ch []))) s H locs := hI
  refine lv_istore (lv' := [(5, .int (nI (sCode t (xs (6 * j + 1)) (xs (6 * j + 2)) (xs (6 * j + 3)) (xs (6 * j + 4))))), (0, .ref (bs)), (1, .ref (a 0)), (2, .ref (b 0)), (3, .ref (oa)), (4, .int (nI (6 * j)))]) hx hb dL_law_569 hl (by decide) rfl (fun ls hl => ?_)
  refine lv_aload_n hx hb dL_law_571 rfl (lv_at hl 3 rfl) ?_
  refine lv_aload_n hx hb dL_law_572 rfl (lv_at hl 1 rfl) ?_
  refine lv_iload hx hb dL_law_573 (lv_at hl 5 rfl) ?_
  refine lv_iconst (v := nI 1) hx hb dL_law_575 (by decide) ?_
  refine lv_iadd hx hb dL_law_576 ?_
  refine tp (nI_add _ _) ?_
  refine sl_ld (k := 6 * j + 1) hx hb hX hbl hbA hI dL_law_577 (by omega) (by omega) ?_
  refine lv_aload_n hx hb dL_law_578 rfl (lv_at hl 1 rfl) ?_
  refine lv_iload hx hb dL_law_579 (lv_at hl 5 rfl) ?_
  refine lv_iconst (v := nI 2) hx hb dL_law_581 (by decide) ?_
  refine lv_iadd hx hb dL_law_582 ?_
  refine tp (nI_add _ _) ?_
  refine sl_ld (k := 6 * j + 2) hx hb hX hbl hbA hI dL_law_583 (by omega) (by omega) ?_
  refine lv_aload_n hx hb dL_law_584 rfl (lv_at hl 1 rfl) ?_
  refine lv_iload hx hb dL_law_585 (lv_at hl 5 rfl) ?_
  refine lv_iconst (v := nI 3) hx hb dL_law_587 (by decide) ?_
  refine lv_iadd hx hb dL_law_588 ?_
  refine tp (nI_add _ _) ?_
  refine sl_ld (k := 6 * j + 3) hx hb hX hbl hbA hI dL_law_589 (by omega) (by omega) ?_
  refine lv_aload_n hx hb dL_law_590 rfl (lv_at hl 1 rfl) ?_
  refine lv_iload hx hb dL_law_591 (lv_at hl 5 rfl) ?_
  refine lv_iconst (v := nI 4) hx hb dL_law_593 (by decide) ?_
  refine lv_iadd hx hb dL_law_594 ?_
  refine tp (nI_add _ _) ?_
  refine sl_ld (k := 6 * j + 4) hx hb hX hbl hbA hI dL_law_595 (by omega) (by omega) ?_
  have hJ : wi D z (Ar z) (mw b cI cZ (nI t) th vs kt kv (nI w0) wa fn tr ch (cw a cI vals fil rb (nI t) wo (nI w0) fn (Xo oa cJ u []))) s H locs := hI.ofP [8, 9, 10, 11, 12, 13, 0, 1, 2, 3, 4, 5, 6, 7] (by decide) rfl rfl
  refine k_ml (run_v (As := [.int (xs (6 * j + 1)), .int (xs (6 * j + 2)), .int (xs (6 * j + 3)), .int (xs (6 * j + 4))]) (rest := []) hF hK hJ (c_X3_sum hM ht) cf_X3_sum k554 0 3 rfl rfl ⟨Nat.le_of_ble_eq_true rfl, Nat.le_of_ble_eq_true rfl⟩ ⟨rfl, rfl⟩ ⟨by show _ ≤ 1053; omega, by show _ ≤ 24450; omega⟩ rfl hl.1 rfl (Nat.le_of_ble_eq_true rfl) dL_law_596) hJ (fun r2 u2 hp2 H locs hJ => ?_)
  obtain ⟨rfl, hm⟩ := hp2
  have hJ : wi D z (Ar z) (mw b cI cZ (nI t) th vs kt kv (nI w0) wa fn (nI (sCode t (xs (6 * j + 1)) (xs (6 * j + 2)) (xs (6 * j + 3)) (xs (6 * j + 4)))) ch (cw a cI vals fil rb (nI t) wo (nI w0) fn (Xo oa cJ u []))) s H locs := hJ
  have hI : wi D z (Ar z) (cw a cI vals fil rb (nI t) wo (nI w0) fn (Xo oa cJ u (mw b cI cZ (nI t) th vs kt kv (nI w0) wa fn (nI (sCode t (xs (6 * j + 1)) (xs (6 * j + 2)) (xs (6 * j + 3)) (xs (6 * j + 4)))) ch []))) s H locs := hJ.ofP [6, 7, 8, 9, 10, 11, 12, 13, 0, 1, 2, 3, 4, 5] (by decide) rfl rfl
  refine lv_lstore (lv' := [(6, .long (r2)), (5, .int (nI (sCode t (xs (6 * j + 1)) (xs (6 * j + 2)) (xs (6 * j + 3)) (xs (6 * j + 4))))), (0, .ref (bs)), (1, .ref (a 0)), (2, .ref (b 0)), (3, .ref (oa)), (4, .int (nI (6 * j)))]) hx hb dL_law_599 hl (by decide) rfl (fun ls hl => ?_)
  refine lv_aload_n hx hb dL_law_601 rfl (lv_at hl 4 rfl) ?_
  have hJ : wi D z (Ar z) (mw b cI cZ (nI t) th vs kt kv (nI w0) wa fn (nI (sCode t (xs (6 * j + 1)) (xs (6 * j + 2)) (xs (6 * j + 3)) (xs (6 * j + 4)))) ch (cw a cI vals fil rb (nI t) wo (nI w0) fn (Xo oa cJ u []))) s H locs := hI.ofP [8, 9, 10, 11, 12, 13, 0, 1, 2, 3, 4, 5, 6, 7] (by decide) rfl rfl
  refine k_ro (run_v (As := []) (rest := []) hF hK hJ c_X3_thrown cf_X3_thrown k454 0 3 rfl rfl ⟨Nat.le_of_ble_eq_true rfl, Nat.le_of_ble_eq_true rfl⟩ ⟨rfl, rfl⟩ ⟨by show _ ≤ 1053; omega, by show _ ≤ 24450; omega⟩ rfl hl.1 rfl (Nat.le_of_ble_eq_true rfl) dL_law_602) hJ (fun H locs hJ => ?_)
  have hJ : wi D z (Ar z) (mw b cI cZ (nI t) th vs kt kv (nI w0) wa fn (nI (sCode t (xs (6 * j + 1)) (xs (6 * j + 2)) (xs (6 * j + 3)) (xs (6 * j + 4)))) ch (cw a cI vals fil rb (nI t) wo (nI w0) fn (Xo oa cJ u []))) s H locs := hJ
  have hI : wi D z (Ar z) (cw a cI vals fil rb (nI t) wo (nI w0) fn (Xo oa cJ u (mw b cI cZ (nI t) th vs kt kv (nI w0) wa fn (nI (sCode t (xs (6 * j + 1)) (xs (6 * j + 2)) (xs (6 * j + 3)) (xs (6 * j + 4)))) ch []))) s H locs := hJ.ofP [6, 7, 8, 9, 10, 11, 12, 13, 0, 1, 2, 3, 4, 5] (by decide) rfl rfl
  refine lv_iload hx hb dL_law_605 (lv_at hl 1 rfl) ?_
  refine lv_icmp_eq (tgt := 612) hx hb dL_law_607 (by decide) (fun _ => ?_) (fun q9 => absurd rfl q9)
  refine lv_iload hx hb dL_law_612 (lv_at hl 1 rfl) ?_
  have g9 := cd_le S t (xs (6 * j + 1)) (xs (6 * j + 2)) (xs (6 * j + 3)) (xs (6 * j + 4))
  refine nz_ne (tgt := 628) hx hb dL_law_614 (by decide) (by omega) (fun cc => ?_) (fun cc => ?_)
  · refine lv_goto (tgt := 1124) hx hb dL_law_628 (by decide) ?_
    refine W.widen (k := 15 + j) (n := 16174 + 6 * j) (by omega) (by omega) ?_
    exact KT S t w0 q vals fil rb wo fn u th vs kt kv wa (nI (sCode t (xs (6 * j + 1)) (xs (6 * j + 2)) (xs (6 * j + 3)) (xs (6 * j + 4)))) ch ⟨ht, hA, hR, hM, hw, hq1, hq2⟩ H locs hI ls (lv_sub hl [2, 3, 4, 5, 6] rfl)
  · refine lv_aload_n hx hb dL_law_617 rfl (lv_at hl 5 rfl) ?_
    refine lv_iconst (v := nI 0) hx hb dL_law_618 (by decide) ?_
    refine la_ld hx hb hK hI 7 rfl dL_law_619 ?_
    refine lv_lload hx hb dL_law_620 (lv_at hl 0 rfl) ?_
    refine W.lcmp hx hb dL_law_622 ?_
    refine lv_if_eq (tgt := 628) hx hb dL_law_623 (by decide) (fun _ => ?_) (fun q9 => absurd (lg_eq ((hv cc).trans (hm cc).symm)) q9)
    refine lv_goto (tgt := 1124) hx hb dL_law_628 (by decide) ?_
    refine W.widen (k := 15 + j) (n := 16174 + 6 * j) (by omega) (by omega) ?_
    exact KT S t w0 q vals fil rb wo fn u th vs kt kv wa (nI (sCode t (xs (6 * j + 1)) (xs (6 * j + 2)) (xs (6 * j + 3)) (xs (6 * j + 4)))) ch ⟨ht, hA, hR, hM, hw, hq1, hq2⟩ H locs hI ls (lv_sub hl [2, 3, 4, 5, 6] rfl)
set_option maxHeartbeats 4000000 in
set_option maxRecDepth 100000 in
theorem lc_runs {p : Program} {l : Launch} {e : Env} {s : State} {m : MethodId} {args : Array Value} {below : List Frame} {meth : Method} {c : Code} {Q : State → Prop} {ret0 : Option FieldType} {D : va_G} {z : Nat} {a b : Nat → Nat} {oa : Nat} {cI cZ cJ : ClassId} {bs L j : Nat} {xs : Nat → Int32} (hst : l.stackTraces = false) (hF : Fx p s m args meth c cL_law 8 RL ret0) (hK : kn D cI cZ cJ s) (hKx : kx s) (hZ : zq z s s.heap) (hX : va_X bs L xs s s.heap) (hbl : bs < s.heap.size) (hbA : ¬ Ar z bs) (hj : 6 * j + 6 ≤ L) (hL : L ≤ 3072) (KT : lKT p l e s m args below meth c Q D z a b oa cI cZ cJ bs j) {S : Sta} {t w0 : Nat} {q vals fil rb wo : Nat → Int32} {fn : Int32} {og : Nat → Int64} {th : Nat → Bool} {vs : Nat → Int32} {kt : Nat → Bool} {kv wa : Nat → Int32} {tr ch : Int32} (hinv : linv S t w0 q vals fil rb wo th vs wa) {H : Heap} {locs : List Loc} (hI : wi D z (Ar z) (gw a b oa cI cZ cJ vals fil rb t wo w0 fn og th vs kt kv wa tr ch) s H locs) {ls : Array Slot} (hl : lv_has ls 8 [(0, .ref bs), (1, .ref (a 0)), (2, .ref (b 0)), (3, .ref oa), (4, .int (nI (6 * j)))]) : W p l e room_1 s m args below meth c H locs (14 + j) (16168 + 6 * j) Q (F0 m 631 ls []) := by
  obtain ⟨hx, hb, hml, hown, hts, hr, hlocks⟩ := id hF
  obtain ⟨ht, hA, hR, hM, hw, hq1, hq2⟩ := id hinv
  have hI : wi D z (Ar z) (cw a cI vals fil rb (nI t) wo (nI w0) fn (Xo oa cJ og (mw b cI cZ (nI t) th vs kt kv (nI w0) wa fn tr ch []))) s H locs := hI
  refine lv_aload_n hx hb dL_law_631 rfl (lv_at hl 1 rfl) ?_
  refine lv_aload_n hx hb dL_law_632 rfl (lv_at hl 0 rfl) ?_
  refine lv_iload hx hb dL_law_633 (lv_at hl 4 rfl) ?_
  refine lv_iconst (v := nI 1) hx hb dL_law_635 (by decide) ?_
  refine lv_iadd hx hb dL_law_636 ?_
  refine tp (nI_add _ _) ?_
  refine sl_ld (k := 6 * j + 1) hx hb hX hbl hbA hI dL_law_637 (by omega) (by omega) ?_
  refine lv_aload_n hx hb dL_law_638 rfl (lv_at hl 0 rfl) ?_
  refine lv_iload hx hb dL_law_639 (lv_at hl 4 rfl) ?_
  refine lv_iconst (v := nI 2) hx hb dL_law_641 (by decide) ?_
  refine lv_iadd hx hb dL_law_642 ?_
  refine tp (nI_add _ _) ?_
  refine sl_ld (k := 6 * j + 2) hx hb hX hbl hbA hI dL_law_643 (by omega) (by omega) ?_
  refine lv_aload_n hx hb dL_law_644 rfl (lv_at hl 3 rfl) ?_
  refine k_tri (run_h (As := [.ref (a 0), .int (xs (6 * j + 1)), .int (xs (6 * j + 2)), .ref (oa)]) (rest := []) hF hK hKx hZ hI (c_L_runs hst hA ht) cf_L_runs k317 ⟨Nat.le_of_ble_eq_true rfl, Nat.le_of_ble_eq_true rfl⟩ ⟨rfl, rfl⟩ ⟨by show _ ≤ 1053; omega, by show _ ≤ 24450; omega⟩ rfl hl.1 rfl (Nat.le_of_ble_eq_true rfl) dL_law_645) hI (fun E ce q9 u hp => absurd hp id) (fun r u hp H locs hI => ?_)
  obtain ⟨rfl, hv⟩ := hp
  have hI : wi D z (Ar z) (cw a cI vals fil rb (nI t) wo (nI w0) fn (Xo oa cJ u (mw b cI cZ (nI t) th vs kt kv (nI w0) wa fn tr ch []))) s H locs := hI
  refine lv_istore (lv' := [(5, .int (nI (rsCode t (xs (6 * j + 1)) (xs (6 * j + 2))))), (0, .ref (bs)), (1, .ref (a 0)), (2, .ref (b 0)), (3, .ref (oa)), (4, .int (nI (6 * j)))]) hx hb dL_law_648 hl (by decide) rfl (fun ls hl => ?_)
  refine lv_aload_n hx hb dL_law_650 rfl (lv_at hl 3 rfl) ?_
  refine lv_aload_n hx hb dL_law_651 rfl (lv_at hl 1 rfl) ?_
  refine lv_iload hx hb dL_law_652 (lv_at hl 5 rfl) ?_
  refine lv_iconst (v := nI 1) hx hb dL_law_654 (by decide) ?_
  refine lv_iadd hx hb dL_law_655 ?_
  refine tp (nI_add _ _) ?_
  refine sl_ld (k := 6 * j + 1) hx hb hX hbl hbA hI dL_law_656 (by omega) (by omega) ?_
  refine lv_aload_n hx hb dL_law_657 rfl (lv_at hl 1 rfl) ?_
  refine lv_iload hx hb dL_law_658 (lv_at hl 5 rfl) ?_
  refine lv_iconst (v := nI 2) hx hb dL_law_660 (by decide) ?_
  refine lv_iadd hx hb dL_law_661 ?_
  refine tp (nI_add _ _) ?_
  refine sl_ld (k := 6 * j + 2) hx hb hX hbl hbA hI dL_law_662 (by omega) (by omega) ?_
  have hJ : wi D z (Ar z) (mw b cI cZ (nI t) th vs kt kv (nI w0) wa fn tr ch (cw a cI vals fil rb (nI t) wo (nI w0) fn (Xo oa cJ u []))) s H locs := hI.ofP [8, 9, 10, 11, 12, 13, 0, 1, 2, 3, 4, 5, 6, 7] (by decide) rfl rfl
  refine k_mu (run_v (As := [.int (xs (6 * j + 1)), .int (xs (6 * j + 2))]) (rest := []) hF hK hJ (c_X3_runs hM ht) cf_X3_runs k558 0 3 rfl rfl ⟨Nat.le_of_ble_eq_true rfl, Nat.le_of_ble_eq_true rfl⟩ ⟨rfl, rfl⟩ ⟨by show _ ≤ 1053; omega, by show _ ≤ 24450; omega⟩ rfl hl.1 rfl (Nat.le_of_ble_eq_true rfl) dL_law_663) hJ (fun r2 u2 hp2 H locs hJ => ?_)
  obtain ⟨rfl, hm⟩ := hp2
  have hJ : wi D z (Ar z) (mw b cI cZ (nI t) th vs kt kv (nI w0) wa fn (nI (rsCode t (xs (6 * j + 1)) (xs (6 * j + 2)))) ch (cw a cI vals fil rb (nI t) wo (nI w0) fn (Xo oa cJ u []))) s H locs := hJ
  have hI : wi D z (Ar z) (cw a cI vals fil rb (nI t) wo (nI w0) fn (Xo oa cJ u (mw b cI cZ (nI t) th vs kt kv (nI w0) wa fn (nI (rsCode t (xs (6 * j + 1)) (xs (6 * j + 2)))) ch []))) s H locs := hJ.ofP [6, 7, 8, 9, 10, 11, 12, 13, 0, 1, 2, 3, 4, 5] (by decide) rfl rfl
  refine lv_istore (lv' := [(6, .int (r2)), (5, .int (nI (rsCode t (xs (6 * j + 1)) (xs (6 * j + 2))))), (0, .ref (bs)), (1, .ref (a 0)), (2, .ref (b 0)), (3, .ref (oa)), (4, .int (nI (6 * j)))]) hx hb dL_law_666 hl (by decide) rfl (fun ls hl => ?_)
  refine lv_aload_n hx hb dL_law_668 rfl (lv_at hl 4 rfl) ?_
  have hJ : wi D z (Ar z) (mw b cI cZ (nI t) th vs kt kv (nI w0) wa fn (nI (rsCode t (xs (6 * j + 1)) (xs (6 * j + 2)))) ch (cw a cI vals fil rb (nI t) wo (nI w0) fn (Xo oa cJ u []))) s H locs := hI.ofP [8, 9, 10, 11, 12, 13, 0, 1, 2, 3, 4, 5, 6, 7] (by decide) rfl rfl
  refine k_ro (run_v (As := []) (rest := []) hF hK hJ c_X3_thrown cf_X3_thrown k454 0 3 rfl rfl ⟨Nat.le_of_ble_eq_true rfl, Nat.le_of_ble_eq_true rfl⟩ ⟨rfl, rfl⟩ ⟨by show _ ≤ 1053; omega, by show _ ≤ 24450; omega⟩ rfl hl.1 rfl (Nat.le_of_ble_eq_true rfl) dL_law_669) hJ (fun H locs hJ => ?_)
  have hJ : wi D z (Ar z) (mw b cI cZ (nI t) th vs kt kv (nI w0) wa fn (nI (rsCode t (xs (6 * j + 1)) (xs (6 * j + 2)))) ch (cw a cI vals fil rb (nI t) wo (nI w0) fn (Xo oa cJ u []))) s H locs := hJ
  have hI : wi D z (Ar z) (cw a cI vals fil rb (nI t) wo (nI w0) fn (Xo oa cJ u (mw b cI cZ (nI t) th vs kt kv (nI w0) wa fn (nI (rsCode t (xs (6 * j + 1)) (xs (6 * j + 2)))) ch []))) s H locs := hJ.ofP [6, 7, 8, 9, 10, 11, 12, 13, 0, 1, 2, 3, 4, 5] (by decide) rfl rfl
  refine lv_iload hx hb dL_law_672 (lv_at hl 1 rfl) ?_
  refine lv_icmp_eq (tgt := 679) hx hb dL_law_674 (by decide) (fun _ => ?_) (fun q9 => absurd rfl q9)
  refine lv_iload hx hb dL_law_679 (lv_at hl 1 rfl) ?_
  have g9 := cd_le S t (xs (6 * j + 1)) (xs (6 * j + 2)) 0 0
  refine nz_ne (tgt := 696) hx hb dL_law_681 (by decide) (by omega) (fun cc => ?_) (fun cc => ?_)
  · refine lv_goto (tgt := 1124) hx hb dL_law_696 (by decide) ?_
    refine W.widen (k := 15 + j) (n := 16174 + 6 * j) (by omega) (by omega) ?_
    exact KT S t w0 q vals fil rb wo fn u th vs kt kv wa (nI (rsCode t (xs (6 * j + 1)) (xs (6 * j + 2)))) ch ⟨ht, hA, hR, hM, hw, hq1, hq2⟩ H locs hI ls (lv_sub hl [2, 3, 4, 5, 6] rfl)
  · refine lv_aload_n hx hb dL_law_684 rfl (lv_at hl 5 rfl) ?_
    refine lv_iconst (v := nI 0) hx hb dL_law_685 (by decide) ?_
    refine la_ld hx hb hK hI 7 rfl dL_law_686 ?_
    refine lv_iload hx hb dL_law_687 (lv_at hl 0 rfl) ?_
    refine lv_i2l (v := (r2).toInt64) hx hb dL_law_689 rfl ?_
    refine W.lcmp hx hb dL_law_690 ?_
    refine lv_if_eq (tgt := 696) hx hb dL_law_691 (by decide) (fun _ => ?_) (fun q9 => absurd (lg_eq (by rw [hv cc, hm cc])) q9)
    refine lv_goto (tgt := 1124) hx hb dL_law_696 (by decide) ?_
    refine W.widen (k := 15 + j) (n := 16174 + 6 * j) (by omega) (by omega) ?_
    exact KT S t w0 q vals fil rb wo fn u th vs kt kv wa (nI (rsCode t (xs (6 * j + 1)) (xs (6 * j + 2)))) ch ⟨ht, hA, hR, hM, hw, hq1, hq2⟩ H locs hI ls (lv_sub hl [2, 3, 4, 5, 6] rfl)
set_option maxHeartbeats 4000000 in
set_option maxRecDepth 100000 in
theorem lc_run {p : Program} {l : Launch} {e : Env} {s : State} {m : MethodId} {args : Array Value} {below : List Frame} {meth : Method} {c : Code} {Q : State → Prop} {ret0 : Option FieldType} {D : va_G} {z : Nat} {a b : Nat → Nat} {oa : Nat} {cI cZ cJ : ClassId} {bs L j : Nat} {xs : Nat → Int32} (hst : l.stackTraces = false) (hF : Fx p s m args meth c cL_law 8 RL ret0) (hK : kn D cI cZ cJ s) (hKx : kx s) (hZ : zq z s s.heap) (hX : va_X bs L xs s s.heap) (hbl : bs < s.heap.size) (hbA : ¬ Ar z bs) (hj : 6 * j + 6 ≤ L) (hL : L ≤ 3072) (KT : lKT p l e s m args below meth c Q D z a b oa cI cZ cJ bs j) {S : Sta} {t w0 : Nat} {q vals fil rb wo : Nat → Int32} {fn : Int32} {og : Nat → Int64} {th : Nat → Bool} {vs : Nat → Int32} {kt : Nat → Bool} {kv wa : Nat → Int32} {tr ch : Int32} (hinv : linv S t w0 q vals fil rb wo th vs wa) {H : Heap} {locs : List Loc} (hI : wi D z (Ar z) (gw a b oa cI cZ cJ vals fil rb t wo w0 fn og th vs kt kv wa tr ch) s H locs) {ls : Array Slot} (hl : lv_has ls 8 [(0, .ref bs), (1, .ref (a 0)), (2, .ref (b 0)), (3, .ref oa), (4, .int (nI (6 * j)))]) : W p l e room_1 s m args below meth c H locs (14 + j) (16168 + 6 * j) Q (F0 m 699 ls []) := by
  obtain ⟨hx, hb, hml, hown, hts, hr, hlocks⟩ := id hF
  obtain ⟨ht, hA, hR, hM, hw, hq1, hq2⟩ := id hinv
  have hI : wi D z (Ar z) (cw a cI vals fil rb (nI t) wo (nI w0) fn (Xo oa cJ og (mw b cI cZ (nI t) th vs kt kv (nI w0) wa fn tr ch []))) s H locs := hI
  obtain ⟨i, hg⟩ := rn_ex S t (xs (6 * j + 1)) (xs (6 * j + 2)) (xs (6 * j + 3)) (xs (6 * j + 4))
  refine lv_aload_n hx hb dL_law_699 rfl (lv_at hl 1 rfl) ?_
  refine lv_aload_n hx hb dL_law_700 rfl (lv_at hl 0 rfl) ?_
  refine lv_iload hx hb dL_law_701 (lv_at hl 4 rfl) ?_
  refine lv_iconst (v := nI 1) hx hb dL_law_703 (by decide) ?_
  refine lv_iadd hx hb dL_law_704 ?_
  refine tp (nI_add _ _) ?_
  refine sl_ld (k := 6 * j + 1) hx hb hX hbl hbA hI dL_law_705 (by omega) (by omega) ?_
  refine lv_aload_n hx hb dL_law_706 rfl (lv_at hl 0 rfl) ?_
  refine lv_iload hx hb dL_law_707 (lv_at hl 4 rfl) ?_
  refine lv_iconst (v := nI 2) hx hb dL_law_709 (by decide) ?_
  refine lv_iadd hx hb dL_law_710 ?_
  refine tp (nI_add _ _) ?_
  refine sl_ld (k := 6 * j + 2) hx hb hX hbl hbA hI dL_law_711 (by omega) (by omega) ?_
  refine lv_aload_n hx hb dL_law_712 rfl (lv_at hl 0 rfl) ?_
  refine lv_iload hx hb dL_law_713 (lv_at hl 4 rfl) ?_
  refine lv_iconst (v := nI 3) hx hb dL_law_715 (by decide) ?_
  refine lv_iadd hx hb dL_law_716 ?_
  refine tp (nI_add _ _) ?_
  refine sl_ld (k := 6 * j + 3) hx hb hX hbl hbA hI dL_law_717 (by omega) (by omega) ?_
  refine lv_aload_n hx hb dL_law_718 rfl (lv_at hl 0 rfl) ?_
  refine lv_iload hx hb dL_law_719 (lv_at hl 4 rfl) ?_
  refine lv_iconst (v := nI 4) hx hb dL_law_721 (by decide) ?_
  refine lv_iadd hx hb dL_law_722 ?_
  refine tp (nI_add _ _) ?_
  refine sl_ld (k := 6 * j + 4) hx hb hX hbl hbA hI dL_law_723 (by omega) (by omega) ?_
  refine lv_aload_n hx hb dL_law_724 rfl (lv_at hl 3 rfl) ?_
  refine k_tri (run_h (As := [.ref (a 0), .int (xs (6 * j + 1)), .int (xs (6 * j + 2)), .int (xs (6 * j + 3)), .int (xs (6 * j + 4)), .ref (oa)]) (rest := []) hF hK hKx hZ hI (c_L_run hst hA ht hg) cf_L_run k328 ⟨Nat.le_of_ble_eq_true rfl, Nat.le_of_ble_eq_true rfl⟩ ⟨rfl, rfl⟩ ⟨by show _ ≤ 1053; omega, by show _ ≤ 24450; omega⟩ rfl hl.1 rfl (Nat.le_of_ble_eq_true rfl) dL_law_725) hI (fun E ce q9 u hp => absurd hp id) (fun r u hp H locs hI => ?_)
  obtain ⟨rfl, hv⟩ := hp
  have hI : wi D z (Ar z) (cw a cI vals fil rb (nI t) wo (nI w0) fn (Xo oa cJ u (mw b cI cZ (nI t) th vs kt kv (nI w0) wa fn tr ch []))) s H locs := hI
  refine lv_istore (lv' := [(5, .int (nI (rnCode S t (xs (6 * j + 1)) (xs (6 * j + 2)) (xs (6 * j + 3)) (xs (6 * j + 4))))), (0, .ref (bs)), (1, .ref (a 0)), (2, .ref (b 0)), (3, .ref (oa)), (4, .int (nI (6 * j)))]) hx hb dL_law_728 hl (by decide) rfl (fun ls hl => ?_)
  refine lv_aload_n hx hb dL_law_730 rfl (lv_at hl 3 rfl) ?_
  refine lv_aload_n hx hb dL_law_731 rfl (lv_at hl 1 rfl) ?_
  refine lv_iload hx hb dL_law_732 (lv_at hl 5 rfl) ?_
  refine lv_iconst (v := nI 1) hx hb dL_law_734 (by decide) ?_
  refine lv_iadd hx hb dL_law_735 ?_
  refine tp (nI_add _ _) ?_
  refine sl_ld (k := 6 * j + 1) hx hb hX hbl hbA hI dL_law_736 (by omega) (by omega) ?_
  refine lv_aload_n hx hb dL_law_737 rfl (lv_at hl 1 rfl) ?_
  refine lv_iload hx hb dL_law_738 (lv_at hl 5 rfl) ?_
  refine lv_iconst (v := nI 2) hx hb dL_law_740 (by decide) ?_
  refine lv_iadd hx hb dL_law_741 ?_
  refine tp (nI_add _ _) ?_
  refine sl_ld (k := 6 * j + 2) hx hb hX hbl hbA hI dL_law_742 (by omega) (by omega) ?_
  refine lv_aload_n hx hb dL_law_743 rfl (lv_at hl 1 rfl) ?_
  refine lv_iload hx hb dL_law_744 (lv_at hl 5 rfl) ?_
  refine lv_iconst (v := nI 3) hx hb dL_law_746 (by decide) ?_
  refine lv_iadd hx hb dL_law_747 ?_
  refine tp (nI_add _ _) ?_
  refine sl_ld (k := 6 * j + 3) hx hb hX hbl hbA hI dL_law_748 (by omega) (by omega) ?_
  refine lv_aload_n hx hb dL_law_749 rfl (lv_at hl 1 rfl) ?_
  refine lv_iload hx hb dL_law_750 (lv_at hl 5 rfl) ?_
  refine lv_iconst (v := nI 4) hx hb dL_law_752 (by decide) ?_
  refine lv_iadd hx hb dL_law_753 ?_
  refine tp (nI_add _ _) ?_
  refine sl_ld (k := 6 * j + 4) hx hb hX hbl hbA hI dL_law_754 (by omega) (by omega) ?_
  have hJ : wi D z (Ar z) (mw b cI cZ (nI t) th vs kt kv (nI w0) wa fn tr ch (cw a cI vals fil rb (nI t) wo (nI w0) fn (Xo oa cJ u []))) s H locs := hI.ofP [8, 9, 10, 11, 12, 13, 0, 1, 2, 3, 4, 5, 6, 7] (by decide) rfl rfl
  refine k_mu (run_v (As := [.int (xs (6 * j + 1)), .int (xs (6 * j + 2)), .int (xs (6 * j + 3)), .int (xs (6 * j + 4))]) (rest := []) hF hK hJ (c_X3_run hM ht hg) cf_X3_run k562 0 3 rfl rfl ⟨Nat.le_of_ble_eq_true rfl, Nat.le_of_ble_eq_true rfl⟩ ⟨rfl, rfl⟩ ⟨by show _ ≤ 1053; omega, by show _ ≤ 24450; omega⟩ rfl hl.1 rfl (Nat.le_of_ble_eq_true rfl) dL_law_755) hJ (fun r2 u2 hp2 H locs hJ => ?_)
  obtain ⟨rfl, hm⟩ := hp2
  have hJ : wi D z (Ar z) (mw b cI cZ (nI t) th vs kt kv (nI w0) wa fn (nI (rnCode S t (xs (6 * j + 1)) (xs (6 * j + 2)) (xs (6 * j + 3)) (xs (6 * j + 4)))) ch (cw a cI vals fil rb (nI t) wo (nI w0) fn (Xo oa cJ u []))) s H locs := hJ
  have hI : wi D z (Ar z) (cw a cI vals fil rb (nI t) wo (nI w0) fn (Xo oa cJ u (mw b cI cZ (nI t) th vs kt kv (nI w0) wa fn (nI (rnCode S t (xs (6 * j + 1)) (xs (6 * j + 2)) (xs (6 * j + 3)) (xs (6 * j + 4)))) ch []))) s H locs := hJ.ofP [6, 7, 8, 9, 10, 11, 12, 13, 0, 1, 2, 3, 4, 5] (by decide) rfl rfl
  refine lv_istore (lv' := [(6, .int (r2)), (5, .int (nI (rnCode S t (xs (6 * j + 1)) (xs (6 * j + 2)) (xs (6 * j + 3)) (xs (6 * j + 4))))), (0, .ref (bs)), (1, .ref (a 0)), (2, .ref (b 0)), (3, .ref (oa)), (4, .int (nI (6 * j)))]) hx hb dL_law_758 hl (by decide) rfl (fun ls hl => ?_)
  refine lv_aload_n hx hb dL_law_760 rfl (lv_at hl 4 rfl) ?_
  have hJ : wi D z (Ar z) (mw b cI cZ (nI t) th vs kt kv (nI w0) wa fn (nI (rnCode S t (xs (6 * j + 1)) (xs (6 * j + 2)) (xs (6 * j + 3)) (xs (6 * j + 4)))) ch (cw a cI vals fil rb (nI t) wo (nI w0) fn (Xo oa cJ u []))) s H locs := hI.ofP [8, 9, 10, 11, 12, 13, 0, 1, 2, 3, 4, 5, 6, 7] (by decide) rfl rfl
  refine k_ro (run_v (As := []) (rest := []) hF hK hJ c_X3_thrown cf_X3_thrown k454 0 3 rfl rfl ⟨Nat.le_of_ble_eq_true rfl, Nat.le_of_ble_eq_true rfl⟩ ⟨rfl, rfl⟩ ⟨by show _ ≤ 1053; omega, by show _ ≤ 24450; omega⟩ rfl hl.1 rfl (Nat.le_of_ble_eq_true rfl) dL_law_761) hJ (fun H locs hJ => ?_)
  have hJ : wi D z (Ar z) (mw b cI cZ (nI t) th vs kt kv (nI w0) wa fn (nI (rnCode S t (xs (6 * j + 1)) (xs (6 * j + 2)) (xs (6 * j + 3)) (xs (6 * j + 4)))) ch (cw a cI vals fil rb (nI t) wo (nI w0) fn (Xo oa cJ u []))) s H locs := hJ
  have hI : wi D z (Ar z) (cw a cI vals fil rb (nI t) wo (nI w0) fn (Xo oa cJ u (mw b cI cZ (nI t) th vs kt kv (nI w0) wa fn (nI (rnCode S t (xs (6 * j + 1)) (xs (6 * j + 2)) (xs (6 * j + 3)) (xs (6 * j + 4)))) ch []))) s H locs := hJ.ofP [6, 7, 8, 9, 10, 11, 12, 13, 0, 1, 2, 3, 4, 5] (by decide) rfl rfl
  refine lv_iload hx hb dL_law_764 (lv_at hl 1 rfl) ?_
  refine lv_icmp_eq (tgt := 771) hx hb dL_law_766 (by decide) (fun _ => ?_) (fun q9 => absurd rfl q9)
  refine lv_iload hx hb dL_law_771 (lv_at hl 1 rfl) ?_
  have g9 := cd_le S t (xs (6 * j + 1)) (xs (6 * j + 2)) (xs (6 * j + 3)) (xs (6 * j + 4))
  refine nz_ne (tgt := 788) hx hb dL_law_773 (by decide) (by omega) (fun cc => ?_) (fun cc => ?_)
  · refine lv_goto (tgt := 1124) hx hb dL_law_788 (by decide) ?_
    refine W.widen (k := 15 + j) (n := 16174 + 6 * j) (by omega) (by omega) ?_
    exact KT S t w0 q vals fil rb wo fn u th vs kt kv wa (nI (rnCode S t (xs (6 * j + 1)) (xs (6 * j + 2)) (xs (6 * j + 3)) (xs (6 * j + 4)))) ch ⟨ht, hA, hR, hM, hw, hq1, hq2⟩ H locs hI ls (lv_sub hl [2, 3, 4, 5, 6] rfl)
  · refine lv_aload_n hx hb dL_law_776 rfl (lv_at hl 5 rfl) ?_
    refine lv_iconst (v := nI 0) hx hb dL_law_777 (by decide) ?_
    refine la_ld hx hb hK hI 7 rfl dL_law_778 ?_
    refine lv_iload hx hb dL_law_779 (lv_at hl 0 rfl) ?_
    refine lv_i2l (v := (r2).toInt64) hx hb dL_law_781 rfl ?_
    refine W.lcmp hx hb dL_law_782 ?_
    refine lv_if_eq (tgt := 788) hx hb dL_law_783 (by decide) (fun _ => ?_) (fun q9 => absurd (lg_eq (by rw [hv cc, hm cc])) q9)
    refine lv_goto (tgt := 1124) hx hb dL_law_788 (by decide) ?_
    refine W.widen (k := 15 + j) (n := 16174 + 6 * j) (by omega) (by omega) ?_
    exact KT S t w0 q vals fil rb wo fn u th vs kt kv wa (nI (rnCode S t (xs (6 * j + 1)) (xs (6 * j + 2)) (xs (6 * j + 3)) (xs (6 * j + 4)))) ch ⟨ht, hA, hR, hM, hw, hq1, hq2⟩ H locs hI ls (lv_sub hl [2, 3, 4, 5, 6] rfl)
set_option maxHeartbeats 4000000 in
set_option maxRecDepth 100000 in
theorem lc_row {p : Program} {l : Launch} {e : Env} {s : State} {m : MethodId} {args : Array Value} {below : List Frame} {meth : Method} {c : Code} {Q : State → Prop} {ret0 : Option FieldType} {D : va_G} {z : Nat} {a b : Nat → Nat} {oa : Nat} {cI cZ cJ : ClassId} {bs L j : Nat} {xs : Nat → Int32} (hst : l.stackTraces = false) (hF : Fx p s m args meth c cL_law 8 RL ret0) (hK : kn D cI cZ cJ s) (hKx : kx s) (hZ : zq z s s.heap) (hX : va_X bs L xs s s.heap) (hbl : bs < s.heap.size) (hbA : ¬ Ar z bs) (hj : 6 * j + 6 ≤ L) (hL : L ≤ 3072) (KT : lKT p l e s m args below meth c Q D z a b oa cI cZ cJ bs j) {S : Sta} {t w0 : Nat} {q vals fil rb wo : Nat → Int32} {fn : Int32} {og : Nat → Int64} {th : Nat → Bool} {vs : Nat → Int32} {kt : Nat → Bool} {kv wa : Nat → Int32} {tr ch : Int32} (hinv : linv S t w0 q vals fil rb wo th vs wa) {H : Heap} {locs : List Loc} (hI : wi D z (Ar z) (gw a b oa cI cZ cJ vals fil rb t wo w0 fn og th vs kt kv wa tr ch) s H locs) {ls : Array Slot} (hl : lv_has ls 8 [(0, .ref bs), (1, .ref (a 0)), (2, .ref (b 0)), (3, .ref oa), (4, .int (nI (6 * j)))]) : W p l e room_1 s m args below meth c H locs (14 + j) (16168 + 6 * j) Q (F0 m 804 ls []) := by
  obtain ⟨hx, hb, hml, hown, hts, hr, hlocks⟩ := id hF
  obtain ⟨ht, hA, hR, hM, hw, hq1, hq2⟩ := id hinv
  have hI : wi D z (Ar z) (cw a cI vals fil rb (nI t) wo (nI w0) fn (Xo oa cJ og (mw b cI cZ (nI t) th vs kt kv (nI w0) wa fn tr ch []))) s H locs := hI
  obtain ⟨ky, tm, i, hg⟩ := rw_ex S t ht (xs (6 * j + 1)) (xs (6 * j + 2))
  refine lv_aload_n hx hb dL_law_804 rfl (lv_at hl 1 rfl) ?_
  refine lv_aload_n hx hb dL_law_805 rfl (lv_at hl 0 rfl) ?_
  refine lv_iload hx hb dL_law_806 (lv_at hl 4 rfl) ?_
  refine lv_iconst (v := nI 1) hx hb dL_law_808 (by decide) ?_
  refine lv_iadd hx hb dL_law_809 ?_
  refine tp (nI_add _ _) ?_
  refine sl_ld (k := 6 * j + 1) hx hb hX hbl hbA hI dL_law_810 (by omega) (by omega) ?_
  refine lv_aload_n hx hb dL_law_811 rfl (lv_at hl 0 rfl) ?_
  refine lv_iload hx hb dL_law_812 (lv_at hl 4 rfl) ?_
  refine lv_iconst (v := nI 2) hx hb dL_law_814 (by decide) ?_
  refine lv_iadd hx hb dL_law_815 ?_
  refine tp (nI_add _ _) ?_
  refine sl_ld (k := 6 * j + 2) hx hb hX hbl hbA hI dL_law_816 (by omega) (by omega) ?_
  refine lv_aload_n hx hb dL_law_817 rfl (lv_at hl 3 rfl) ?_
  refine k_tri (run_h (As := [.ref (a 0), .int (xs (6 * j + 1)), .int (xs (6 * j + 2)), .ref (oa)]) (rest := []) hF hK hKx hZ hI (c_L_row hst hA ht hR hg) cf_L_row k356 ⟨Nat.le_of_ble_eq_true rfl, Nat.le_of_ble_eq_true rfl⟩ ⟨rfl, rfl⟩ ⟨by show _ ≤ 1053; omega, by show _ ≤ 24450; omega⟩ rfl hl.1 rfl (Nat.le_of_ble_eq_true rfl) dL_law_818) hI (fun E ce q9 u hp => absurd hp id) (fun r u hp H locs hI => ?_)
  obtain ⟨rfl, hv⟩ := hp
  have hI : wi D z (Ar z) (cw a cI vals fil rb (nI t) wo (nI w0) fn (Xo oa cJ u (mw b cI cZ (nI t) th vs kt kv (nI w0) wa fn tr ch []))) s H locs := hI
  refine lv_istore (lv' := [(5, .int (nI (rwCode S t (xs (6 * j + 1)) (xs (6 * j + 2))))), (0, .ref (bs)), (1, .ref (a 0)), (2, .ref (b 0)), (3, .ref (oa)), (4, .int (nI (6 * j)))]) hx hb dL_law_821 hl (by decide) rfl (fun ls hl => ?_)
  refine lv_aload_n hx hb dL_law_823 rfl (lv_at hl 3 rfl) ?_
  refine lv_aload_n hx hb dL_law_824 rfl (lv_at hl 1 rfl) ?_
  refine lv_iload hx hb dL_law_825 (lv_at hl 5 rfl) ?_
  refine lv_iconst (v := nI 1) hx hb dL_law_827 (by decide) ?_
  refine lv_iadd hx hb dL_law_828 ?_
  refine tp (nI_add _ _) ?_
  refine sl_ld (k := 6 * j + 1) hx hb hX hbl hbA hI dL_law_829 (by omega) (by omega) ?_
  refine lv_aload_n hx hb dL_law_830 rfl (lv_at hl 1 rfl) ?_
  refine lv_iload hx hb dL_law_831 (lv_at hl 5 rfl) ?_
  refine lv_iconst (v := nI 2) hx hb dL_law_833 (by decide) ?_
  refine lv_iadd hx hb dL_law_834 ?_
  refine tp (nI_add _ _) ?_
  refine sl_ld (k := 6 * j + 2) hx hb hX hbl hbA hI dL_law_835 (by omega) (by omega) ?_
  have hJ : wi D z (Ar z) (mw b cI cZ (nI t) th vs kt kv (nI w0) wa fn tr ch (cw a cI vals fil rb (nI t) wo (nI w0) fn (Xo oa cJ u []))) s H locs := hI.ofP [8, 9, 10, 11, 12, 13, 0, 1, 2, 3, 4, 5, 6, 7] (by decide) rfl rfl
  refine k_mu (run_v (As := [.int (xs (6 * j + 1)), .int (xs (6 * j + 2))]) (rest := []) hF hK hJ (c_X3_row hM ht hg) cf_X3_row k570 0 3 rfl rfl ⟨Nat.le_of_ble_eq_true rfl, Nat.le_of_ble_eq_true rfl⟩ ⟨rfl, rfl⟩ ⟨by show _ ≤ 1053; omega, by show _ ≤ 24450; omega⟩ rfl hl.1 rfl (Nat.le_of_ble_eq_true rfl) dL_law_836) hJ (fun r2 u2 hp2 H locs hJ => ?_)
  obtain ⟨rfl, hm⟩ := hp2
  have hJ : wi D z (Ar z) (mw b cI cZ (nI t) th vs kt kv (nI w0) wa fn (nI (rwCode S t (xs (6 * j + 1)) (xs (6 * j + 2)))) ch (cw a cI vals fil rb (nI t) wo (nI w0) fn (Xo oa cJ u []))) s H locs := hJ
  have hI : wi D z (Ar z) (cw a cI vals fil rb (nI t) wo (nI w0) fn (Xo oa cJ u (mw b cI cZ (nI t) th vs kt kv (nI w0) wa fn (nI (rwCode S t (xs (6 * j + 1)) (xs (6 * j + 2)))) ch []))) s H locs := hJ.ofP [6, 7, 8, 9, 10, 11, 12, 13, 0, 1, 2, 3, 4, 5] (by decide) rfl rfl
  refine lv_istore (lv' := [(6, .int (r2)), (5, .int (nI (rwCode S t (xs (6 * j + 1)) (xs (6 * j + 2))))), (0, .ref (bs)), (1, .ref (a 0)), (2, .ref (b 0)), (3, .ref (oa)), (4, .int (nI (6 * j)))]) hx hb dL_law_839 hl (by decide) rfl (fun ls hl => ?_)
  refine lv_aload_n hx hb dL_law_841 rfl (lv_at hl 4 rfl) ?_
  have hJ : wi D z (Ar z) (mw b cI cZ (nI t) th vs kt kv (nI w0) wa fn (nI (rwCode S t (xs (6 * j + 1)) (xs (6 * j + 2)))) ch (cw a cI vals fil rb (nI t) wo (nI w0) fn (Xo oa cJ u []))) s H locs := hI.ofP [8, 9, 10, 11, 12, 13, 0, 1, 2, 3, 4, 5, 6, 7] (by decide) rfl rfl
  refine k_ro (run_v (As := []) (rest := []) hF hK hJ c_X3_thrown cf_X3_thrown k454 0 3 rfl rfl ⟨Nat.le_of_ble_eq_true rfl, Nat.le_of_ble_eq_true rfl⟩ ⟨rfl, rfl⟩ ⟨by show _ ≤ 1053; omega, by show _ ≤ 24450; omega⟩ rfl hl.1 rfl (Nat.le_of_ble_eq_true rfl) dL_law_842) hJ (fun H locs hJ => ?_)
  have hJ : wi D z (Ar z) (mw b cI cZ (nI t) th vs kt kv (nI w0) wa fn (nI (rwCode S t (xs (6 * j + 1)) (xs (6 * j + 2)))) ch (cw a cI vals fil rb (nI t) wo (nI w0) fn (Xo oa cJ u []))) s H locs := hJ
  have hI : wi D z (Ar z) (cw a cI vals fil rb (nI t) wo (nI w0) fn (Xo oa cJ u (mw b cI cZ (nI t) th vs kt kv (nI w0) wa fn (nI (rwCode S t (xs (6 * j + 1)) (xs (6 * j + 2)))) ch []))) s H locs := hJ.ofP [6, 7, 8, 9, 10, 11, 12, 13, 0, 1, 2, 3, 4, 5] (by decide) rfl rfl
  refine lv_iload hx hb dL_law_845 (lv_at hl 1 rfl) ?_
  refine lv_icmp_eq (tgt := 852) hx hb dL_law_847 (by decide) (fun _ => ?_) (fun q9 => absurd rfl q9)
  refine lv_iload hx hb dL_law_852 (lv_at hl 1 rfl) ?_
  have g9 := cd_le S t (xs (6 * j + 1)) (xs (6 * j + 2)) 0 0
  refine nz_ne (tgt := 869) hx hb dL_law_854 (by decide) (by omega) (fun cc => ?_) (fun cc => ?_)
  · refine lv_goto (tgt := 1124) hx hb dL_law_869 (by decide) ?_
    refine W.widen (k := 15 + j) (n := 16174 + 6 * j) (by omega) (by omega) ?_
    exact KT S t w0 q vals fil rb wo fn u th vs kt kv wa (nI (rwCode S t (xs (6 * j + 1)) (xs (6 * j + 2)))) ch ⟨ht, hA, hR, hM, hw, hq1, hq2⟩ H locs hI ls (lv_sub hl [2, 3, 4, 5, 6] rfl)
  · refine lv_aload_n hx hb dL_law_857 rfl (lv_at hl 5 rfl) ?_
    refine lv_iconst (v := nI 0) hx hb dL_law_858 (by decide) ?_
    refine la_ld hx hb hK hI 7 rfl dL_law_859 ?_
    refine lv_iload hx hb dL_law_860 (lv_at hl 0 rfl) ?_
    refine lv_i2l (v := (r2).toInt64) hx hb dL_law_862 rfl ?_
    refine W.lcmp hx hb dL_law_863 ?_
    refine lv_if_eq (tgt := 869) hx hb dL_law_864 (by decide) (fun _ => ?_) (fun q9 => absurd (lg_eq (by rw [hv cc, hm cc])) q9)
    refine lv_goto (tgt := 1124) hx hb dL_law_869 (by decide) ?_
    refine W.widen (k := 15 + j) (n := 16174 + 6 * j) (by omega) (by omega) ?_
    exact KT S t w0 q vals fil rb wo fn u th vs kt kv wa (nI (rwCode S t (xs (6 * j + 1)) (xs (6 * j + 2)))) ch ⟨ht, hA, hR, hM, hw, hq1, hq2⟩ H locs hI ls (lv_sub hl [2, 3, 4, 5, 6] rfl)
set_option maxHeartbeats 4000000 in
set_option maxRecDepth 100000 in
theorem lc_changes {p : Program} {l : Launch} {e : Env} {s : State} {m : MethodId} {args : Array Value} {below : List Frame} {meth : Method} {c : Code} {Q : State → Prop} {ret0 : Option FieldType} {D : va_G} {z : Nat} {a b : Nat → Nat} {oa : Nat} {cI cZ cJ : ClassId} {bs L j : Nat} {xs : Nat → Int32} (hst : l.stackTraces = false) (hF : Fx p s m args meth c cL_law 8 RL ret0) (hK : kn D cI cZ cJ s) (hKx : kx s) (hZ : zq z s s.heap) (hX : va_X bs L xs s s.heap) (hbl : bs < s.heap.size) (hbA : ¬ Ar z bs) (hj : 6 * j + 6 ≤ L) (hL : L ≤ 3072) (KT : lKT p l e s m args below meth c Q D z a b oa cI cZ cJ bs j) {S : Sta} {t w0 : Nat} {q vals fil rb wo : Nat → Int32} {fn : Int32} {og : Nat → Int64} {th : Nat → Bool} {vs : Nat → Int32} {kt : Nat → Bool} {kv wa : Nat → Int32} {tr ch : Int32} (hinv : linv S t w0 q vals fil rb wo th vs wa) {H : Heap} {locs : List Loc} (hI : wi D z (Ar z) (gw a b oa cI cZ cJ vals fil rb t wo w0 fn og th vs kt kv wa tr ch) s H locs) {ls : Array Slot} (hl : lv_has ls 8 [(0, .ref bs), (1, .ref (a 0)), (2, .ref (b 0)), (3, .ref oa), (4, .int (nI (6 * j)))]) : W p l e room_1 s m args below meth c H locs (14 + j) (16168 + 6 * j) Q (F0 m 872 ls []) := by
  obtain ⟨hx, hb, hml, hown, hts, hr, hlocks⟩ := id hF
  obtain ⟨ht, hA, hR, hM, hw, hq1, hq2⟩ := id hinv
  have hI : wi D z (Ar z) (cw a cI vals fil rb (nI t) wo (nI w0) fn (Xo oa cJ og (mw b cI cZ (nI t) th vs kt kv (nI w0) wa fn tr ch []))) s H locs := hI
  refine lv_aload_n hx hb dL_law_872 rfl (lv_at hl 1 rfl) ?_
  refine lv_aload_n hx hb dL_law_873 rfl (lv_at hl 0 rfl) ?_
  refine lv_iload hx hb dL_law_874 (lv_at hl 4 rfl) ?_
  refine lv_iconst (v := nI 1) hx hb dL_law_876 (by decide) ?_
  refine lv_iadd hx hb dL_law_877 ?_
  refine tp (nI_add _ _) ?_
  refine sl_ld (k := 6 * j + 1) hx hb hX hbl hbA hI dL_law_878 (by omega) (by omega) ?_
  refine lv_aload_n hx hb dL_law_879 rfl (lv_at hl 0 rfl) ?_
  refine lv_iload hx hb dL_law_880 (lv_at hl 4 rfl) ?_
  refine lv_iconst (v := nI 2) hx hb dL_law_882 (by decide) ?_
  refine lv_iadd hx hb dL_law_883 ?_
  refine tp (nI_add _ _) ?_
  refine sl_ld (k := 6 * j + 2) hx hb hX hbl hbA hI dL_law_884 (by omega) (by omega) ?_
  refine lv_aload_n hx hb dL_law_885 rfl (lv_at hl 3 rfl) ?_
  refine k_tri (run_h (As := [.ref (a 0), .int (xs (6 * j + 1)), .int (xs (6 * j + 2)), .ref (oa)]) (rest := []) hF hK hKx hZ hI (c_L_changes hst hA ht) cf_L_changes k379 ⟨Nat.le_of_ble_eq_true rfl, Nat.le_of_ble_eq_true rfl⟩ ⟨rfl, rfl⟩ ⟨by show _ ≤ 1053; omega, by show _ ≤ 24450; omega⟩ rfl hl.1 rfl (Nat.le_of_ble_eq_true rfl) dL_law_886) hI (fun E ce q9 u hp => absurd hp id) (fun r u hp H locs hI => ?_)
  obtain ⟨rfl, hv⟩ := hp
  have hI : wi D z (Ar z) (cw a cI vals fil rb (nI t) wo (nI w0) fn (Xo oa cJ u (mw b cI cZ (nI t) th vs kt kv (nI w0) wa fn tr ch []))) s H locs := hI
  refine lv_istore (lv' := [(5, .int (nI (chCode (xs (6 * j + 1)) (xs (6 * j + 2))))), (0, .ref (bs)), (1, .ref (a 0)), (2, .ref (b 0)), (3, .ref (oa)), (4, .int (nI (6 * j)))]) hx hb dL_law_889 hl (by decide) rfl (fun ls hl => ?_)
  refine lv_aload_n hx hb dL_law_891 rfl (lv_at hl 3 rfl) ?_
  refine lv_aload_n hx hb dL_law_892 rfl (lv_at hl 1 rfl) ?_
  refine lv_iload hx hb dL_law_893 (lv_at hl 5 rfl) ?_
  refine lv_iconst (v := nI 1) hx hb dL_law_895 (by decide) ?_
  refine lv_iadd hx hb dL_law_896 ?_
  refine tp (nI_add _ _) ?_
  refine sl_ld (k := 6 * j + 1) hx hb hX hbl hbA hI dL_law_897 (by omega) (by omega) ?_
  refine lv_aload_n hx hb dL_law_898 rfl (lv_at hl 1 rfl) ?_
  refine lv_iload hx hb dL_law_899 (lv_at hl 5 rfl) ?_
  refine lv_iconst (v := nI 2) hx hb dL_law_901 (by decide) ?_
  refine lv_iadd hx hb dL_law_902 ?_
  refine tp (nI_add _ _) ?_
  refine sl_ld (k := 6 * j + 2) hx hb hX hbl hbA hI dL_law_903 (by omega) (by omega) ?_
  have hJ : wi D z (Ar z) (mw b cI cZ (nI t) th vs kt kv (nI w0) wa fn tr ch (cw a cI vals fil rb (nI t) wo (nI w0) fn (Xo oa cJ u []))) s H locs := hI.ofP [8, 9, 10, 11, 12, 13, 0, 1, 2, 3, 4, 5, 6, 7] (by decide) rfl rfl
  refine k_mu (run_v (As := [.int (xs (6 * j + 1)), .int (xs (6 * j + 2))]) (rest := []) hF hK hJ (c_X3_changes hM ht) cf_X3_changes k578 0 3 rfl rfl ⟨Nat.le_of_ble_eq_true rfl, Nat.le_of_ble_eq_true rfl⟩ ⟨rfl, rfl⟩ ⟨by show _ ≤ 1053; omega, by show _ ≤ 24450; omega⟩ rfl hl.1 rfl (Nat.le_of_ble_eq_true rfl) dL_law_904) hJ (fun r2 u2 hp2 H locs hJ => ?_)
  obtain ⟨rfl, hm⟩ := hp2
  have hJ : wi D z (Ar z) (mw b cI cZ (nI t) th vs kt kv (nI w0) wa fn (nI (chCode (xs (6 * j + 1)) (xs (6 * j + 2)))) ch (cw a cI vals fil rb (nI t) wo (nI w0) fn (Xo oa cJ u []))) s H locs := hJ
  have hI : wi D z (Ar z) (cw a cI vals fil rb (nI t) wo (nI w0) fn (Xo oa cJ u (mw b cI cZ (nI t) th vs kt kv (nI w0) wa fn (nI (chCode (xs (6 * j + 1)) (xs (6 * j + 2)))) ch []))) s H locs := hJ.ofP [6, 7, 8, 9, 10, 11, 12, 13, 0, 1, 2, 3, 4, 5] (by decide) rfl rfl
  refine lv_istore (lv' := [(6, .int (r2)), (5, .int (nI (chCode (xs (6 * j + 1)) (xs (6 * j + 2))))), (0, .ref (bs)), (1, .ref (a 0)), (2, .ref (b 0)), (3, .ref (oa)), (4, .int (nI (6 * j)))]) hx hb dL_law_907 hl (by decide) rfl (fun ls hl => ?_)
  refine lv_aload_n hx hb dL_law_909 rfl (lv_at hl 4 rfl) ?_
  have hJ : wi D z (Ar z) (mw b cI cZ (nI t) th vs kt kv (nI w0) wa fn (nI (chCode (xs (6 * j + 1)) (xs (6 * j + 2)))) ch (cw a cI vals fil rb (nI t) wo (nI w0) fn (Xo oa cJ u []))) s H locs := hI.ofP [8, 9, 10, 11, 12, 13, 0, 1, 2, 3, 4, 5, 6, 7] (by decide) rfl rfl
  refine k_ro (run_v (As := []) (rest := []) hF hK hJ c_X3_thrown cf_X3_thrown k454 0 3 rfl rfl ⟨Nat.le_of_ble_eq_true rfl, Nat.le_of_ble_eq_true rfl⟩ ⟨rfl, rfl⟩ ⟨by show _ ≤ 1053; omega, by show _ ≤ 24450; omega⟩ rfl hl.1 rfl (Nat.le_of_ble_eq_true rfl) dL_law_910) hJ (fun H locs hJ => ?_)
  have hJ : wi D z (Ar z) (mw b cI cZ (nI t) th vs kt kv (nI w0) wa fn (nI (chCode (xs (6 * j + 1)) (xs (6 * j + 2)))) ch (cw a cI vals fil rb (nI t) wo (nI w0) fn (Xo oa cJ u []))) s H locs := hJ
  have hI : wi D z (Ar z) (cw a cI vals fil rb (nI t) wo (nI w0) fn (Xo oa cJ u (mw b cI cZ (nI t) th vs kt kv (nI w0) wa fn (nI (chCode (xs (6 * j + 1)) (xs (6 * j + 2)))) ch []))) s H locs := hJ.ofP [6, 7, 8, 9, 10, 11, 12, 13, 0, 1, 2, 3, 4, 5] (by decide) rfl rfl
  refine lv_iload hx hb dL_law_913 (lv_at hl 1 rfl) ?_
  refine lv_icmp_eq (tgt := 920) hx hb dL_law_915 (by decide) (fun _ => ?_) (fun q9 => absurd rfl q9)
  refine lv_iload hx hb dL_law_920 (lv_at hl 1 rfl) ?_
  have g9 := cd_le S t (xs (6 * j + 1)) (xs (6 * j + 2)) 0 0
  refine nz_ne (tgt := 937) hx hb dL_law_922 (by decide) (by omega) (fun cc => ?_) (fun cc => ?_)
  · refine lv_goto (tgt := 1124) hx hb dL_law_937 (by decide) ?_
    refine W.widen (k := 15 + j) (n := 16174 + 6 * j) (by omega) (by omega) ?_
    exact KT S t w0 q vals fil rb wo fn u th vs kt kv wa (nI (chCode (xs (6 * j + 1)) (xs (6 * j + 2)))) ch ⟨ht, hA, hR, hM, hw, hq1, hq2⟩ H locs hI ls (lv_sub hl [2, 3, 4, 5, 6] rfl)
  · refine lv_aload_n hx hb dL_law_925 rfl (lv_at hl 5 rfl) ?_
    refine lv_iconst (v := nI 0) hx hb dL_law_926 (by decide) ?_
    refine la_ld hx hb hK hI 7 rfl dL_law_927 ?_
    refine lv_iload hx hb dL_law_928 (lv_at hl 0 rfl) ?_
    refine lv_i2l (v := (r2).toInt64) hx hb dL_law_930 rfl ?_
    refine W.lcmp hx hb dL_law_931 ?_
    refine lv_if_eq (tgt := 937) hx hb dL_law_932 (by decide) (fun _ => ?_) (fun q9 => absurd (lg_eq (by rw [hv cc, hm cc])) q9)
    refine lv_goto (tgt := 1124) hx hb dL_law_937 (by decide) ?_
    refine W.widen (k := 15 + j) (n := 16174 + 6 * j) (by omega) (by omega) ?_
    exact KT S t w0 q vals fil rb wo fn u th vs kt kv wa (nI (chCode (xs (6 * j + 1)) (xs (6 * j + 2)))) ch ⟨ht, hA, hR, hM, hw, hq1, hq2⟩ H locs hI ls (lv_sub hl [2, 3, 4, 5, 6] rfl)
set_option maxHeartbeats 4000000 in
set_option maxRecDepth 100000 in
theorem lc_relation {p : Program} {l : Launch} {e : Env} {s : State} {m : MethodId} {args : Array Value} {below : List Frame} {meth : Method} {c : Code} {Q : State → Prop} {ret0 : Option FieldType} {D : va_G} {z : Nat} {a b : Nat → Nat} {oa : Nat} {cI cZ cJ : ClassId} {bs L j : Nat} {xs : Nat → Int32} (hst : l.stackTraces = false) (hF : Fx p s m args meth c cL_law 8 RL ret0) (hK : kn D cI cZ cJ s) (hKx : kx s) (hZ : zq z s s.heap) (hX : va_X bs L xs s s.heap) (hbl : bs < s.heap.size) (hbA : ¬ Ar z bs) (hj : 6 * j + 6 ≤ L) (hL : L ≤ 3072) (KT : lKT p l e s m args below meth c Q D z a b oa cI cZ cJ bs j) {S : Sta} {t w0 : Nat} {q vals fil rb wo : Nat → Int32} {fn : Int32} {og : Nat → Int64} {th : Nat → Bool} {vs : Nat → Int32} {kt : Nat → Bool} {kv wa : Nat → Int32} {tr ch : Int32} (hinv : linv S t w0 q vals fil rb wo th vs wa) {H : Heap} {locs : List Loc} (hI : wi D z (Ar z) (gw a b oa cI cZ cJ vals fil rb t wo w0 fn og th vs kt kv wa tr ch) s H locs) {ls : Array Slot} (hl : lv_has ls 8 [(0, .ref bs), (1, .ref (a 0)), (2, .ref (b 0)), (3, .ref oa), (4, .int (nI (6 * j)))]) : W p l e room_1 s m args below meth c H locs (14 + j) (16168 + 6 * j) Q (F0 m 940 ls []) := by
  obtain ⟨hx, hb, hml, hown, hts, hr, hlocks⟩ := id hF
  obtain ⟨ht, hA, hR, hM, hw, hq1, hq2⟩ := id hinv
  have hI : wi D z (Ar z) (cw a cI vals fil rb (nI t) wo (nI w0) fn (Xo oa cJ og (mw b cI cZ (nI t) th vs kt kv (nI w0) wa fn tr ch []))) s H locs := hI
  refine lv_aload_n hx hb dL_law_940 rfl (lv_at hl 1 rfl) ?_
  refine lv_aload_n hx hb dL_law_941 rfl (lv_at hl 0 rfl) ?_
  refine lv_iload hx hb dL_law_942 (lv_at hl 4 rfl) ?_
  refine lv_iconst (v := nI 1) hx hb dL_law_944 (by decide) ?_
  refine lv_iadd hx hb dL_law_945 ?_
  refine tp (nI_add _ _) ?_
  refine sl_ld (k := 6 * j + 1) hx hb hX hbl hbA hI dL_law_946 (by omega) (by omega) ?_
  refine lv_aload_n hx hb dL_law_947 rfl (lv_at hl 0 rfl) ?_
  refine lv_iload hx hb dL_law_948 (lv_at hl 4 rfl) ?_
  refine lv_iconst (v := nI 2) hx hb dL_law_950 (by decide) ?_
  refine lv_iadd hx hb dL_law_951 ?_
  refine tp (nI_add _ _) ?_
  refine sl_ld (k := 6 * j + 2) hx hb hX hbl hbA hI dL_law_952 (by omega) (by omega) ?_
  refine lv_aload_n hx hb dL_law_953 rfl (lv_at hl 0 rfl) ?_
  refine lv_iload hx hb dL_law_954 (lv_at hl 4 rfl) ?_
  refine lv_iconst (v := nI 3) hx hb dL_law_956 (by decide) ?_
  refine lv_iadd hx hb dL_law_957 ?_
  refine tp (nI_add _ _) ?_
  refine sl_ld (k := 6 * j + 3) hx hb hX hbl hbA hI dL_law_958 (by omega) (by omega) ?_
  refine lv_aload_n hx hb dL_law_959 rfl (lv_at hl 0 rfl) ?_
  refine lv_iload hx hb dL_law_960 (lv_at hl 4 rfl) ?_
  refine lv_iconst (v := nI 4) hx hb dL_law_962 (by decide) ?_
  refine lv_iadd hx hb dL_law_963 ?_
  refine tp (nI_add _ _) ?_
  refine sl_ld (k := 6 * j + 4) hx hb hX hbl hbA hI dL_law_964 (by omega) (by omega) ?_
  refine lv_aload_n hx hb dL_law_965 rfl (lv_at hl 3 rfl) ?_
  refine k_tri (run_h (As := [.ref (a 0), .int (xs (6 * j + 1)), .int (xs (6 * j + 2)), .int (xs (6 * j + 3)), .int (xs (6 * j + 4)), .ref (oa)]) (rest := []) hF hK hKx hZ hI (c_L_relation hst) cf_L_relation k390 ⟨Nat.le_of_ble_eq_true rfl, Nat.le_of_ble_eq_true rfl⟩ ⟨rfl, rfl⟩ ⟨by show _ ≤ 1053; omega, by show _ ≤ 24450; omega⟩ rfl hl.1 rfl (Nat.le_of_ble_eq_true rfl) dL_law_966) hI (fun E ce q9 u hp => absurd hp id) (fun r u hp H locs hI => ?_)
  obtain ⟨rfl, hv⟩ := hp
  have hI : wi D z (Ar z) (cw a cI vals fil rb (nI t) wo (nI w0) fn (Xo oa cJ u (mw b cI cZ (nI t) th vs kt kv (nI w0) wa fn tr ch []))) s H locs := hI
  refine lv_istore (lv' := [(5, .int (nI (rlCode (xs (6 * j + 1)) (xs (6 * j + 2)) (xs (6 * j + 3)) (xs (6 * j + 4))))), (0, .ref (bs)), (1, .ref (a 0)), (2, .ref (b 0)), (3, .ref (oa)), (4, .int (nI (6 * j)))]) hx hb dL_law_969 hl (by decide) rfl (fun ls hl => ?_)
  refine lv_aload_n hx hb dL_law_971 rfl (lv_at hl 3 rfl) ?_
  refine lv_aload_n hx hb dL_law_972 rfl (lv_at hl 1 rfl) ?_
  refine lv_iload hx hb dL_law_973 (lv_at hl 5 rfl) ?_
  refine lv_iconst (v := nI 1) hx hb dL_law_975 (by decide) ?_
  refine lv_iadd hx hb dL_law_976 ?_
  refine tp (nI_add _ _) ?_
  refine sl_ld (k := 6 * j + 1) hx hb hX hbl hbA hI dL_law_977 (by omega) (by omega) ?_
  refine lv_aload_n hx hb dL_law_978 rfl (lv_at hl 1 rfl) ?_
  refine lv_iload hx hb dL_law_979 (lv_at hl 5 rfl) ?_
  refine lv_iconst (v := nI 2) hx hb dL_law_981 (by decide) ?_
  refine lv_iadd hx hb dL_law_982 ?_
  refine tp (nI_add _ _) ?_
  refine sl_ld (k := 6 * j + 2) hx hb hX hbl hbA hI dL_law_983 (by omega) (by omega) ?_
  refine lv_aload_n hx hb dL_law_984 rfl (lv_at hl 1 rfl) ?_
  refine lv_iload hx hb dL_law_985 (lv_at hl 5 rfl) ?_
  refine lv_iconst (v := nI 3) hx hb dL_law_987 (by decide) ?_
  refine lv_iadd hx hb dL_law_988 ?_
  refine tp (nI_add _ _) ?_
  refine sl_ld (k := 6 * j + 3) hx hb hX hbl hbA hI dL_law_989 (by omega) (by omega) ?_
  refine lv_aload_n hx hb dL_law_990 rfl (lv_at hl 1 rfl) ?_
  refine lv_iload hx hb dL_law_991 (lv_at hl 5 rfl) ?_
  refine lv_iconst (v := nI 4) hx hb dL_law_993 (by decide) ?_
  refine lv_iadd hx hb dL_law_994 ?_
  refine tp (nI_add _ _) ?_
  refine sl_ld (k := 6 * j + 4) hx hb hX hbl hbA hI dL_law_995 (by omega) (by omega) ?_
  have hJ : wi D z (Ar z) (mw b cI cZ (nI t) th vs kt kv (nI w0) wa fn tr ch (cw a cI vals fil rb (nI t) wo (nI w0) fn (Xo oa cJ u []))) s H locs := hI.ofP [8, 9, 10, 11, 12, 13, 0, 1, 2, 3, 4, 5, 6, 7] (by decide) rfl rfl
  refine k_mu (run_v (As := [.int (xs (6 * j + 1)), .int (xs (6 * j + 2)), .int (xs (6 * j + 3)), .int (xs (6 * j + 4))]) (rest := []) hF hK hJ (c_X3_relation) cf_X3_relation k582 0 3 rfl rfl ⟨Nat.le_of_ble_eq_true rfl, Nat.le_of_ble_eq_true rfl⟩ ⟨rfl, rfl⟩ ⟨by show _ ≤ 1053; omega, by show _ ≤ 24450; omega⟩ rfl hl.1 rfl (Nat.le_of_ble_eq_true rfl) dL_law_996) hJ (fun r2 u2 hp2 H locs hJ => ?_)
  obtain ⟨rfl, hm⟩ := hp2
  have hJ : wi D z (Ar z) (mw b cI cZ (nI t) th vs kt kv (nI w0) wa fn (nI (rlCode (xs (6 * j + 1)) (xs (6 * j + 2)) (xs (6 * j + 3)) (xs (6 * j + 4)))) ch (cw a cI vals fil rb (nI t) wo (nI w0) fn (Xo oa cJ u []))) s H locs := hJ
  have hI : wi D z (Ar z) (cw a cI vals fil rb (nI t) wo (nI w0) fn (Xo oa cJ u (mw b cI cZ (nI t) th vs kt kv (nI w0) wa fn (nI (rlCode (xs (6 * j + 1)) (xs (6 * j + 2)) (xs (6 * j + 3)) (xs (6 * j + 4)))) ch []))) s H locs := hJ.ofP [6, 7, 8, 9, 10, 11, 12, 13, 0, 1, 2, 3, 4, 5] (by decide) rfl rfl
  refine lv_istore (lv' := [(6, .int (r2)), (5, .int (nI (rlCode (xs (6 * j + 1)) (xs (6 * j + 2)) (xs (6 * j + 3)) (xs (6 * j + 4))))), (0, .ref (bs)), (1, .ref (a 0)), (2, .ref (b 0)), (3, .ref (oa)), (4, .int (nI (6 * j)))]) hx hb dL_law_999 hl (by decide) rfl (fun ls hl => ?_)
  refine lv_aload_n hx hb dL_law_1001 rfl (lv_at hl 4 rfl) ?_
  have hJ : wi D z (Ar z) (mw b cI cZ (nI t) th vs kt kv (nI w0) wa fn (nI (rlCode (xs (6 * j + 1)) (xs (6 * j + 2)) (xs (6 * j + 3)) (xs (6 * j + 4)))) ch (cw a cI vals fil rb (nI t) wo (nI w0) fn (Xo oa cJ u []))) s H locs := hI.ofP [8, 9, 10, 11, 12, 13, 0, 1, 2, 3, 4, 5, 6, 7] (by decide) rfl rfl
  refine k_ro (run_v (As := []) (rest := []) hF hK hJ c_X3_thrown cf_X3_thrown k454 0 3 rfl rfl ⟨Nat.le_of_ble_eq_true rfl, Nat.le_of_ble_eq_true rfl⟩ ⟨rfl, rfl⟩ ⟨by show _ ≤ 1053; omega, by show _ ≤ 24450; omega⟩ rfl hl.1 rfl (Nat.le_of_ble_eq_true rfl) dL_law_1002) hJ (fun H locs hJ => ?_)
  have hJ : wi D z (Ar z) (mw b cI cZ (nI t) th vs kt kv (nI w0) wa fn (nI (rlCode (xs (6 * j + 1)) (xs (6 * j + 2)) (xs (6 * j + 3)) (xs (6 * j + 4)))) ch (cw a cI vals fil rb (nI t) wo (nI w0) fn (Xo oa cJ u []))) s H locs := hJ
  have hI : wi D z (Ar z) (cw a cI vals fil rb (nI t) wo (nI w0) fn (Xo oa cJ u (mw b cI cZ (nI t) th vs kt kv (nI w0) wa fn (nI (rlCode (xs (6 * j + 1)) (xs (6 * j + 2)) (xs (6 * j + 3)) (xs (6 * j + 4)))) ch []))) s H locs := hJ.ofP [6, 7, 8, 9, 10, 11, 12, 13, 0, 1, 2, 3, 4, 5] (by decide) rfl rfl
  refine lv_iload hx hb dL_law_1005 (lv_at hl 1 rfl) ?_
  refine lv_icmp_eq (tgt := 1012) hx hb dL_law_1007 (by decide) (fun _ => ?_) (fun q9 => absurd rfl q9)
  refine lv_iload hx hb dL_law_1012 (lv_at hl 1 rfl) ?_
  have g9 := cd_le S t (xs (6 * j + 1)) (xs (6 * j + 2)) (xs (6 * j + 3)) (xs (6 * j + 4))
  refine nz_ne (tgt := 1029) hx hb dL_law_1014 (by decide) (by omega) (fun cc => ?_) (fun cc => ?_)
  · refine lv_goto (tgt := 1124) hx hb dL_law_1029 (by decide) ?_
    refine W.widen (k := 15 + j) (n := 16174 + 6 * j) (by omega) (by omega) ?_
    exact KT S t w0 q vals fil rb wo fn u th vs kt kv wa (nI (rlCode (xs (6 * j + 1)) (xs (6 * j + 2)) (xs (6 * j + 3)) (xs (6 * j + 4)))) ch ⟨ht, hA, hR, hM, hw, hq1, hq2⟩ H locs hI ls (lv_sub hl [2, 3, 4, 5, 6] rfl)
  · refine lv_aload_n hx hb dL_law_1017 rfl (lv_at hl 5 rfl) ?_
    refine lv_iconst (v := nI 0) hx hb dL_law_1018 (by decide) ?_
    refine la_ld hx hb hK hI 7 rfl dL_law_1019 ?_
    refine lv_iload hx hb dL_law_1020 (lv_at hl 0 rfl) ?_
    refine lv_i2l (v := (r2).toInt64) hx hb dL_law_1022 rfl ?_
    refine W.lcmp hx hb dL_law_1023 ?_
    refine lv_if_eq (tgt := 1029) hx hb dL_law_1024 (by decide) (fun _ => ?_) (fun q9 => absurd (lg_eq (by rw [hv cc, hm cc])) q9)
    refine lv_goto (tgt := 1124) hx hb dL_law_1029 (by decide) ?_
    refine W.widen (k := 15 + j) (n := 16174 + 6 * j) (by omega) (by omega) ?_
    exact KT S t w0 q vals fil rb wo fn u th vs kt kv wa (nI (rlCode (xs (6 * j + 1)) (xs (6 * j + 2)) (xs (6 * j + 3)) (xs (6 * j + 4)))) ch ⟨ht, hA, hR, hM, hw, hq1, hq2⟩ H locs hI ls (lv_sub hl [2, 3, 4, 5, 6] rfl)
set_option maxHeartbeats 4000000 in
set_option maxRecDepth 100000 in
theorem lc_join {p : Program} {l : Launch} {e : Env} {s : State} {m : MethodId} {args : Array Value} {below : List Frame} {meth : Method} {c : Code} {Q : State → Prop} {ret0 : Option FieldType} {D : va_G} {z : Nat} {a b : Nat → Nat} {oa : Nat} {cI cZ cJ : ClassId} {bs L j : Nat} {xs : Nat → Int32} (hst : l.stackTraces = false) (hF : Fx p s m args meth c cL_law 8 RL ret0) (hK : kn D cI cZ cJ s) (hKx : kx s) (hZ : zq z s s.heap) (hX : va_X bs L xs s s.heap) (hbl : bs < s.heap.size) (hbA : ¬ Ar z bs) (hj : 6 * j + 6 ≤ L) (hL : L ≤ 3072) (KT : lKT p l e s m args below meth c Q D z a b oa cI cZ cJ bs j) {S : Sta} {t w0 : Nat} {q vals fil rb wo : Nat → Int32} {fn : Int32} {og : Nat → Int64} {th : Nat → Bool} {vs : Nat → Int32} {kt : Nat → Bool} {kv wa : Nat → Int32} {tr ch : Int32} (hinv : linv S t w0 q vals fil rb wo th vs wa) {H : Heap} {locs : List Loc} (hI : wi D z (Ar z) (gw a b oa cI cZ cJ vals fil rb t wo w0 fn og th vs kt kv wa tr ch) s H locs) {ls : Array Slot} (hl : lv_has ls 8 [(0, .ref bs), (1, .ref (a 0)), (2, .ref (b 0)), (3, .ref oa), (4, .int (nI (6 * j)))]) : W p l e room_1 s m args below meth c H locs (14 + j) (16168 + 6 * j) Q (F0 m 1032 ls []) := by
  obtain ⟨hx, hb, hml, hown, hts, hr, hlocks⟩ := id hF
  obtain ⟨ht, hA, hR, hM, hw, hq1, hq2⟩ := id hinv
  have hI : wi D z (Ar z) (cw a cI vals fil rb (nI t) wo (nI w0) fn (Xo oa cJ og (mw b cI cZ (nI t) th vs kt kv (nI w0) wa fn tr ch []))) s H locs := hI
  refine lv_aload_n hx hb dL_law_1032 rfl (lv_at hl 1 rfl) ?_
  refine lv_aload_n hx hb dL_law_1033 rfl (lv_at hl 0 rfl) ?_
  refine lv_iload hx hb dL_law_1034 (lv_at hl 4 rfl) ?_
  refine lv_iconst (v := nI 1) hx hb dL_law_1036 (by decide) ?_
  refine lv_iadd hx hb dL_law_1037 ?_
  refine tp (nI_add _ _) ?_
  refine sl_ld (k := 6 * j + 1) hx hb hX hbl hbA hI dL_law_1038 (by omega) (by omega) ?_
  refine lv_aload_n hx hb dL_law_1039 rfl (lv_at hl 0 rfl) ?_
  refine lv_iload hx hb dL_law_1040 (lv_at hl 4 rfl) ?_
  refine lv_iconst (v := nI 2) hx hb dL_law_1042 (by decide) ?_
  refine lv_iadd hx hb dL_law_1043 ?_
  refine tp (nI_add _ _) ?_
  refine sl_ld (k := 6 * j + 2) hx hb hX hbl hbA hI dL_law_1044 (by omega) (by omega) ?_
  refine lv_aload_n hx hb dL_law_1045 rfl (lv_at hl 0 rfl) ?_
  refine lv_iload hx hb dL_law_1046 (lv_at hl 4 rfl) ?_
  refine lv_iconst (v := nI 3) hx hb dL_law_1048 (by decide) ?_
  refine lv_iadd hx hb dL_law_1049 ?_
  refine tp (nI_add _ _) ?_
  refine sl_ld (k := 6 * j + 3) hx hb hX hbl hbA hI dL_law_1050 (by omega) (by omega) ?_
  refine lv_aload_n hx hb dL_law_1051 rfl (lv_at hl 0 rfl) ?_
  refine lv_iload hx hb dL_law_1052 (lv_at hl 4 rfl) ?_
  refine lv_iconst (v := nI 4) hx hb dL_law_1054 (by decide) ?_
  refine lv_iadd hx hb dL_law_1055 ?_
  refine tp (nI_add _ _) ?_
  refine sl_ld (k := 6 * j + 4) hx hb hX hbl hbA hI dL_law_1056 (by omega) (by omega) ?_
  refine lv_aload_n hx hb dL_law_1057 rfl (lv_at hl 3 rfl) ?_
  refine k_tri (run_h (As := [.ref (a 0), .int (xs (6 * j + 1)), .int (xs (6 * j + 2)), .int (xs (6 * j + 3)), .int (xs (6 * j + 4)), .ref (oa)]) (rest := []) hF hK hKx hZ hI (c_L_join hst hA ht) cf_L_join k403 ⟨Nat.le_of_ble_eq_true rfl, Nat.le_of_ble_eq_true rfl⟩ ⟨rfl, rfl⟩ ⟨by show _ ≤ 1053; omega, by show _ ≤ 24450; omega⟩ rfl hl.1 rfl (Nat.le_of_ble_eq_true rfl) dL_law_1058) hI (fun E ce q9 u hp => absurd hp id) (fun r u hp H locs hI => ?_)
  obtain ⟨rfl, hv⟩ := hp
  have hI : wi D z (Ar z) (cw a cI vals fil rb (nI t) wo (nI w0) fn (Xo oa cJ u (mw b cI cZ (nI t) th vs kt kv (nI w0) wa fn tr ch []))) s H locs := hI
  refine lv_istore (lv' := [(5, .int (nI (jnCode t (xs (6 * j + 1)) (xs (6 * j + 2)) (xs (6 * j + 3)) (xs (6 * j + 4))))), (0, .ref (bs)), (1, .ref (a 0)), (2, .ref (b 0)), (3, .ref (oa)), (4, .int (nI (6 * j)))]) hx hb dL_law_1061 hl (by decide) rfl (fun ls hl => ?_)
  refine lv_aload_n hx hb dL_law_1063 rfl (lv_at hl 3 rfl) ?_
  refine lv_aload_n hx hb dL_law_1064 rfl (lv_at hl 1 rfl) ?_
  refine lv_iload hx hb dL_law_1065 (lv_at hl 5 rfl) ?_
  refine lv_iconst (v := nI 1) hx hb dL_law_1067 (by decide) ?_
  refine lv_iadd hx hb dL_law_1068 ?_
  refine tp (nI_add _ _) ?_
  refine sl_ld (k := 6 * j + 1) hx hb hX hbl hbA hI dL_law_1069 (by omega) (by omega) ?_
  refine lv_aload_n hx hb dL_law_1070 rfl (lv_at hl 1 rfl) ?_
  refine lv_iload hx hb dL_law_1071 (lv_at hl 5 rfl) ?_
  refine lv_iconst (v := nI 2) hx hb dL_law_1073 (by decide) ?_
  refine lv_iadd hx hb dL_law_1074 ?_
  refine tp (nI_add _ _) ?_
  refine sl_ld (k := 6 * j + 2) hx hb hX hbl hbA hI dL_law_1075 (by omega) (by omega) ?_
  refine lv_aload_n hx hb dL_law_1076 rfl (lv_at hl 1 rfl) ?_
  refine lv_iload hx hb dL_law_1077 (lv_at hl 5 rfl) ?_
  refine lv_iconst (v := nI 3) hx hb dL_law_1079 (by decide) ?_
  refine lv_iadd hx hb dL_law_1080 ?_
  refine tp (nI_add _ _) ?_
  refine sl_ld (k := 6 * j + 3) hx hb hX hbl hbA hI dL_law_1081 (by omega) (by omega) ?_
  refine lv_aload_n hx hb dL_law_1082 rfl (lv_at hl 1 rfl) ?_
  refine lv_iload hx hb dL_law_1083 (lv_at hl 5 rfl) ?_
  refine lv_iconst (v := nI 4) hx hb dL_law_1085 (by decide) ?_
  refine lv_iadd hx hb dL_law_1086 ?_
  refine tp (nI_add _ _) ?_
  refine sl_ld (k := 6 * j + 4) hx hb hX hbl hbA hI dL_law_1087 (by omega) (by omega) ?_
  have hJ : wi D z (Ar z) (mw b cI cZ (nI t) th vs kt kv (nI w0) wa fn tr ch (cw a cI vals fil rb (nI t) wo (nI w0) fn (Xo oa cJ u []))) s H locs := hI.ofP [8, 9, 10, 11, 12, 13, 0, 1, 2, 3, 4, 5, 6, 7] (by decide) rfl rfl
  refine k_mu (run_v (As := [.int (xs (6 * j + 1)), .int (xs (6 * j + 2)), .int (xs (6 * j + 3)), .int (xs (6 * j + 4))]) (rest := []) hF hK hJ (c_X3_join hM ht) cf_X3_join k592 0 3 rfl rfl ⟨Nat.le_of_ble_eq_true rfl, Nat.le_of_ble_eq_true rfl⟩ ⟨rfl, rfl⟩ ⟨by show _ ≤ 1053; omega, by show _ ≤ 24450; omega⟩ rfl hl.1 rfl (Nat.le_of_ble_eq_true rfl) dL_law_1088) hJ (fun r2 u2 hp2 H locs hJ => ?_)
  obtain ⟨rfl, hm⟩ := hp2
  have hJ : wi D z (Ar z) (mw b cI cZ (nI t) th vs kt kv (nI w0) wa fn (nI (jnCode t (xs (6 * j + 1)) (xs (6 * j + 2)) (xs (6 * j + 3)) (xs (6 * j + 4)))) ch (cw a cI vals fil rb (nI t) wo (nI w0) fn (Xo oa cJ u []))) s H locs := hJ
  have hI : wi D z (Ar z) (cw a cI vals fil rb (nI t) wo (nI w0) fn (Xo oa cJ u (mw b cI cZ (nI t) th vs kt kv (nI w0) wa fn (nI (jnCode t (xs (6 * j + 1)) (xs (6 * j + 2)) (xs (6 * j + 3)) (xs (6 * j + 4)))) ch []))) s H locs := hJ.ofP [6, 7, 8, 9, 10, 11, 12, 13, 0, 1, 2, 3, 4, 5] (by decide) rfl rfl
  refine lv_istore (lv' := [(6, .int (r2)), (5, .int (nI (jnCode t (xs (6 * j + 1)) (xs (6 * j + 2)) (xs (6 * j + 3)) (xs (6 * j + 4))))), (0, .ref (bs)), (1, .ref (a 0)), (2, .ref (b 0)), (3, .ref (oa)), (4, .int (nI (6 * j)))]) hx hb dL_law_1091 hl (by decide) rfl (fun ls hl => ?_)
  refine lv_aload_n hx hb dL_law_1093 rfl (lv_at hl 4 rfl) ?_
  have hJ : wi D z (Ar z) (mw b cI cZ (nI t) th vs kt kv (nI w0) wa fn (nI (jnCode t (xs (6 * j + 1)) (xs (6 * j + 2)) (xs (6 * j + 3)) (xs (6 * j + 4)))) ch (cw a cI vals fil rb (nI t) wo (nI w0) fn (Xo oa cJ u []))) s H locs := hI.ofP [8, 9, 10, 11, 12, 13, 0, 1, 2, 3, 4, 5, 6, 7] (by decide) rfl rfl
  refine k_ro (run_v (As := []) (rest := []) hF hK hJ c_X3_thrown cf_X3_thrown k454 0 3 rfl rfl ⟨Nat.le_of_ble_eq_true rfl, Nat.le_of_ble_eq_true rfl⟩ ⟨rfl, rfl⟩ ⟨by show _ ≤ 1053; omega, by show _ ≤ 24450; omega⟩ rfl hl.1 rfl (Nat.le_of_ble_eq_true rfl) dL_law_1094) hJ (fun H locs hJ => ?_)
  have hJ : wi D z (Ar z) (mw b cI cZ (nI t) th vs kt kv (nI w0) wa fn (nI (jnCode t (xs (6 * j + 1)) (xs (6 * j + 2)) (xs (6 * j + 3)) (xs (6 * j + 4)))) ch (cw a cI vals fil rb (nI t) wo (nI w0) fn (Xo oa cJ u []))) s H locs := hJ
  have hI : wi D z (Ar z) (cw a cI vals fil rb (nI t) wo (nI w0) fn (Xo oa cJ u (mw b cI cZ (nI t) th vs kt kv (nI w0) wa fn (nI (jnCode t (xs (6 * j + 1)) (xs (6 * j + 2)) (xs (6 * j + 3)) (xs (6 * j + 4)))) ch []))) s H locs := hJ.ofP [6, 7, 8, 9, 10, 11, 12, 13, 0, 1, 2, 3, 4, 5] (by decide) rfl rfl
  refine lv_iload hx hb dL_law_1097 (lv_at hl 1 rfl) ?_
  refine lv_icmp_eq (tgt := 1104) hx hb dL_law_1099 (by decide) (fun _ => ?_) (fun q9 => absurd rfl q9)
  refine lv_iload hx hb dL_law_1104 (lv_at hl 1 rfl) ?_
  have g9 := cd_le S t (xs (6 * j + 1)) (xs (6 * j + 2)) (xs (6 * j + 3)) (xs (6 * j + 4))
  refine nz_ne (tgt := 1121) hx hb dL_law_1106 (by decide) (by omega) (fun cc => ?_) (fun cc => ?_)
  · refine lv_goto (tgt := 1124) hx hb dL_law_1121 (by decide) ?_
    refine W.widen (k := 15 + j) (n := 16174 + 6 * j) (by omega) (by omega) ?_
    exact KT S t w0 q vals fil rb wo fn u th vs kt kv wa (nI (jnCode t (xs (6 * j + 1)) (xs (6 * j + 2)) (xs (6 * j + 3)) (xs (6 * j + 4)))) ch ⟨ht, hA, hR, hM, hw, hq1, hq2⟩ H locs hI ls (lv_sub hl [2, 3, 4, 5, 6] rfl)
  · refine lv_aload_n hx hb dL_law_1109 rfl (lv_at hl 5 rfl) ?_
    refine lv_iconst (v := nI 0) hx hb dL_law_1110 (by decide) ?_
    refine la_ld hx hb hK hI 7 rfl dL_law_1111 ?_
    refine lv_iload hx hb dL_law_1112 (lv_at hl 0 rfl) ?_
    refine lv_i2l (v := (r2).toInt64) hx hb dL_law_1114 rfl ?_
    refine W.lcmp hx hb dL_law_1115 ?_
    refine lv_if_eq (tgt := 1121) hx hb dL_law_1116 (by decide) (fun _ => ?_) (fun q9 => absurd (lg_eq (by rw [hv cc, hm cc])) q9)
    refine lv_goto (tgt := 1124) hx hb dL_law_1121 (by decide) ?_
    refine W.widen (k := 15 + j) (n := 16174 + 6 * j) (by omega) (by omega) ?_
    exact KT S t w0 q vals fil rb wo fn u th vs kt kv wa (nI (jnCode t (xs (6 * j + 1)) (xs (6 * j + 2)) (xs (6 * j + 3)) (xs (6 * j + 4)))) ch ⟨ht, hA, hR, hM, hw, hq1, hq2⟩ H locs hI ls (lv_sub hl [2, 3, 4, 5, 6] rfl)
set_option maxHeartbeats 4000000 in
set_option maxRecDepth 100000 in
theorem lc_clock {p : Program} {l : Launch} {e : Env} {s : State} {m : MethodId} {args : Array Value} {below : List Frame} {meth : Method} {c : Code} {Q : State → Prop} {ret0 : Option FieldType} {D : va_G} {z : Nat} {a b : Nat → Nat} {oa : Nat} {cI cZ cJ : ClassId} {bs L j : Nat} {xs : Nat → Int32} (hst : l.stackTraces = false) (hF : Fx p s m args meth c cL_law 8 RL ret0) (hK : kn D cI cZ cJ s) (hKx : kx s) (hZ : zq z s s.heap) (hX : va_X bs L xs s s.heap) (hbl : bs < s.heap.size) (hbA : ¬ Ar z bs) (hj : 6 * j + 6 ≤ L) (hL : L ≤ 3072) (KT : lKT p l e s m args below meth c Q D z a b oa cI cZ cJ bs j) {S : Sta} {t w0 : Nat} {q vals fil rb wo : Nat → Int32} {fn : Int32} {og : Nat → Int64} {th : Nat → Bool} {vs : Nat → Int32} {kt : Nat → Bool} {kv wa : Nat → Int32} {tr ch : Int32} (hinv : linv S t w0 q vals fil rb wo th vs wa) {H : Heap} {locs : List Loc} (hI : wi D z (Ar z) (gw a b oa cI cZ cJ vals fil rb t wo w0 fn og th vs kt kv wa tr ch) s H locs) {ls : Array Slot} (hl : lv_has ls 8 [(0, .ref bs), (1, .ref (a 0)), (2, .ref (b 0)), (3, .ref oa), (4, .int (nI (6 * j)))]) : W p l e room_1 s m args below meth c H locs (14 + j) (16168 + 6 * j) Q (F0 m 164 ls []) := by
  obtain ⟨hx, hb, hml, hown, hts, hr, hlocks⟩ := id hF
  obtain ⟨ht, hA, hR, hM, hw, hq1, hq2⟩ := id hinv
  have hI : wi D z (Ar z) (cw a cI vals fil rb (nI t) wo (nI w0) fn (Xo oa cJ og (mw b cI cZ (nI t) th vs kt kv (nI w0) wa fn tr ch []))) s H locs := hI
  refine lv_aload_n hx hb dL_law_164 rfl (lv_at hl 1 rfl) ?_
  refine k_ro (run_v (As := []) (rest := []) hF hK hI (c_X2_clock) cf_X2_clock k66 0 2 rfl rfl ⟨Nat.le_of_ble_eq_true rfl, Nat.le_of_ble_eq_true rfl⟩ ⟨rfl, rfl⟩ ⟨by show _ ≤ 1053; omega, by show _ ≤ 24450; omega⟩ rfl hl.1 rfl (Nat.le_of_ble_eq_true rfl) dL_law_165) hI (fun H locs hI => ?_)
  refine lv_aload_n hx hb dL_law_168 rfl (lv_at hl 2 rfl) ?_
  have hJ : wi D z (Ar z) (mw b cI cZ (nI t) th vs kt kv (nI w0) wa fn tr ch (cw a cI vals fil rb (nI t) wo (nI w0) fn (Xo oa cJ og []))) s H locs := hI.ofP [8, 9, 10, 11, 12, 13, 0, 1, 2, 3, 4, 5, 6, 7] (by decide) rfl rfl
  refine k_mu (run_v (As := []) (rest := [.int (nI t)]) hF hK hJ (c_X3_clock) cf_X3_clock k466 0 3 rfl rfl ⟨Nat.le_of_ble_eq_true rfl, Nat.le_of_ble_eq_true rfl⟩ ⟨rfl, rfl⟩ ⟨by show _ ≤ 1053; omega, by show _ ≤ 24450; omega⟩ rfl hl.1 rfl (Nat.le_of_ble_eq_true rfl) dL_law_169) hJ (fun r2 u2 hp2 H locs hJ => ?_)
  subst hp2
  have hJ : wi D z (Ar z) (mw b cI cZ (nI t) th vs kt kv (nI w0) wa fn (nI 0) ch (cw a cI vals fil rb (nI t) wo (nI w0) fn (Xo oa cJ og []))) s H locs := hJ
  have hI : wi D z (Ar z) (cw a cI vals fil rb (nI t) wo (nI w0) fn (Xo oa cJ og (mw b cI cZ (nI t) th vs kt kv (nI w0) wa fn (nI 0) ch []))) s H locs := hJ.ofP [6, 7, 8, 9, 10, 11, 12, 13, 0, 1, 2, 3, 4, 5] (by decide) rfl rfl
  refine lv_icmp_eq (tgt := 1124) hx hb dL_law_172 (by decide) (fun _ => ?_) (fun q9 => absurd rfl q9)
  refine W.widen (k := 15 + j) (n := 16174 + 6 * j) (by omega) (by omega) ?_
  exact KT S t w0 q vals fil rb wo fn og th vs kt kv wa (nI 0) ch ⟨ht, hA, hR, hM, hw, hq1, hq2⟩ H locs hI ls (lv_sub hl [0, 1, 2, 3, 4] rfl)
set_option maxHeartbeats 4000000 in
set_option maxRecDepth 100000 in
theorem lc_failed {p : Program} {l : Launch} {e : Env} {s : State} {m : MethodId} {args : Array Value} {below : List Frame} {meth : Method} {c : Code} {Q : State → Prop} {ret0 : Option FieldType} {D : va_G} {z : Nat} {a b : Nat → Nat} {oa : Nat} {cI cZ cJ : ClassId} {bs L j : Nat} {xs : Nat → Int32} (hst : l.stackTraces = false) (hF : Fx p s m args meth c cL_law 8 RL ret0) (hK : kn D cI cZ cJ s) (hKx : kx s) (hZ : zq z s s.heap) (hX : va_X bs L xs s s.heap) (hbl : bs < s.heap.size) (hbA : ¬ Ar z bs) (hj : 6 * j + 6 ≤ L) (hL : L ≤ 3072) (KT : lKT p l e s m args below meth c Q D z a b oa cI cZ cJ bs j) {S : Sta} {t w0 : Nat} {q vals fil rb wo : Nat → Int32} {fn : Int32} {og : Nat → Int64} {th : Nat → Bool} {vs : Nat → Int32} {kt : Nat → Bool} {kv wa : Nat → Int32} {tr ch : Int32} (hinv : linv S t w0 q vals fil rb wo th vs wa) {H : Heap} {locs : List Loc} (hI : wi D z (Ar z) (gw a b oa cI cZ cJ vals fil rb t wo w0 fn og th vs kt kv wa tr ch) s H locs) {ls : Array Slot} (hl : lv_has ls 8 [(0, .ref bs), (1, .ref (a 0)), (2, .ref (b 0)), (3, .ref oa), (4, .int (nI (6 * j)))]) : W p l e room_1 s m args below meth c H locs (14 + j) (16168 + 6 * j) Q (F0 m 398 ls []) := by
  obtain ⟨hx, hb, hml, hown, hts, hr, hlocks⟩ := id hF
  obtain ⟨ht, hA, hR, hM, hw, hq1, hq2⟩ := id hinv
  have hI : wi D z (Ar z) (cw a cI vals fil rb (nI t) wo (nI w0) fn (Xo oa cJ og (mw b cI cZ (nI t) th vs kt kv (nI w0) wa fn tr ch []))) s H locs := hI
  refine lv_aload_n hx hb dL_law_398 rfl (lv_at hl 1 rfl) ?_
  refine k_ro (run_v (As := []) (rest := []) hF hK hI (c_X2_failed) cf_X2_failed k78 0 2 rfl rfl ⟨Nat.le_of_ble_eq_true rfl, Nat.le_of_ble_eq_true rfl⟩ ⟨rfl, rfl⟩ ⟨by show _ ≤ 1053; omega, by show _ ≤ 24450; omega⟩ rfl hl.1 rfl (Nat.le_of_ble_eq_true rfl) dL_law_399) hI (fun H locs hI => ?_)
  refine lv_aload_n hx hb dL_law_402 rfl (lv_at hl 2 rfl) ?_
  have hJ : wi D z (Ar z) (mw b cI cZ (nI t) th vs kt kv (nI w0) wa fn tr ch (cw a cI vals fil rb (nI t) wo (nI w0) fn (Xo oa cJ og []))) s H locs := hI.ofP [8, 9, 10, 11, 12, 13, 0, 1, 2, 3, 4, 5, 6, 7] (by decide) rfl rfl
  refine k_mu (run_v (As := []) (rest := [.int (fn)]) hF hK hJ (c_X3_failed) cf_X3_failed k535 0 3 rfl rfl ⟨Nat.le_of_ble_eq_true rfl, Nat.le_of_ble_eq_true rfl⟩ ⟨rfl, rfl⟩ ⟨by show _ ≤ 1053; omega, by show _ ≤ 24450; omega⟩ rfl hl.1 rfl (Nat.le_of_ble_eq_true rfl) dL_law_403) hJ (fun r2 u2 hp2 H locs hJ => ?_)
  have hJ : wi D z (Ar z) (mw b cI cZ (nI t) th vs kt kv (nI w0) wa fn (nI 0) ch (cw a cI vals fil rb (nI t) wo (nI w0) fn (Xo oa cJ og []))) s H locs := hJ
  have hI : wi D z (Ar z) (cw a cI vals fil rb (nI t) wo (nI w0) fn (Xo oa cJ og (mw b cI cZ (nI t) th vs kt kv (nI w0) wa fn (nI 0) ch []))) s H locs := hJ.ofP [6, 7, 8, 9, 10, 11, 12, 13, 0, 1, 2, 3, 4, 5] (by decide) rfl rfl
  refine lv_icmp_eq (tgt := 1124) hx hb dL_law_406 (by decide) (fun _ => ?_) (fun q9 => absurd hp2.symm q9)
  refine W.widen (k := 15 + j) (n := 16174 + 6 * j) (by omega) (by omega) ?_
  exact KT S t w0 q vals fil rb wo fn og th vs kt kv wa (nI 0) ch ⟨ht, hA, hR, hM, hw, hq1, hq2⟩ H locs hI ls (lv_sub hl [0, 1, 2, 3, 4] rfl)
set_option maxHeartbeats 4000000 in
set_option maxRecDepth 100000 in
theorem lc_rows {p : Program} {l : Launch} {e : Env} {s : State} {m : MethodId} {args : Array Value} {below : List Frame} {meth : Method} {c : Code} {Q : State → Prop} {ret0 : Option FieldType} {D : va_G} {z : Nat} {a b : Nat → Nat} {oa : Nat} {cI cZ cJ : ClassId} {bs L j : Nat} {xs : Nat → Int32} (hst : l.stackTraces = false) (hF : Fx p s m args meth c cL_law 8 RL ret0) (hK : kn D cI cZ cJ s) (hKx : kx s) (hZ : zq z s s.heap) (hX : va_X bs L xs s s.heap) (hbl : bs < s.heap.size) (hbA : ¬ Ar z bs) (hj : 6 * j + 6 ≤ L) (hL : L ≤ 3072) (KT : lKT p l e s m args below meth c Q D z a b oa cI cZ cJ bs j) {S : Sta} {t w0 : Nat} {q vals fil rb wo : Nat → Int32} {fn : Int32} {og : Nat → Int64} {th : Nat → Bool} {vs : Nat → Int32} {kt : Nat → Bool} {kv wa : Nat → Int32} {tr ch : Int32} (hinv : linv S t w0 q vals fil rb wo th vs wa) {H : Heap} {locs : List Loc} (hI : wi D z (Ar z) (gw a b oa cI cZ cJ vals fil rb t wo w0 fn og th vs kt kv wa tr ch) s H locs) {ls : Array Slot} (hl : lv_has ls 8 [(0, .ref bs), (1, .ref (a 0)), (2, .ref (b 0)), (3, .ref oa), (4, .int (nI (6 * j)))]) : W p l e room_1 s m args below meth c H locs (14 + j) (16168 + 6 * j) Q (F0 m 791 ls []) := by
  obtain ⟨hx, hb, hml, hown, hts, hr, hlocks⟩ := id hF
  obtain ⟨ht, hA, hR, hM, hw, hq1, hq2⟩ := id hinv
  have hI : wi D z (Ar z) (cw a cI vals fil rb (nI t) wo (nI w0) fn (Xo oa cJ og (mw b cI cZ (nI t) th vs kt kv (nI w0) wa fn tr ch []))) s H locs := hI
  refine lv_aload_n hx hb dL_law_791 rfl (lv_at hl 1 rfl) ?_
  refine k_ro (run_v (As := []) (rest := []) hF hK hI (c_X2_rows hA ht hR) cf_X2_rows k103 0 2 rfl rfl ⟨Nat.le_of_ble_eq_true rfl, Nat.le_of_ble_eq_true rfl⟩ ⟨rfl, rfl⟩ ⟨by show _ ≤ 1053; omega, by show _ ≤ 24450; omega⟩ rfl hl.1 rfl (Nat.le_of_ble_eq_true rfl) dL_law_792) hI (fun H locs hI => ?_)
  refine lv_aload_n hx hb dL_law_795 rfl (lv_at hl 2 rfl) ?_
  have hJ : wi D z (Ar z) (mw b cI cZ (nI t) th vs kt kv (nI w0) wa fn tr ch (cw a cI vals fil rb (nI t) wo (nI w0) fn (Xo oa cJ og []))) s H locs := hI.ofP [8, 9, 10, 11, 12, 13, 0, 1, 2, 3, 4, 5, 6, 7] (by decide) rfl rfl
  refine k_mu (run_v (As := []) (rest := [.int (nI (rowsTo S (4 * (t + 1))))]) hF hK hJ (c_X3_rows hM ht) cf_X3_rows k566 0 3 rfl rfl ⟨Nat.le_of_ble_eq_true rfl, Nat.le_of_ble_eq_true rfl⟩ ⟨rfl, rfl⟩ ⟨by show _ ≤ 1053; omega, by show _ ≤ 24450; omega⟩ rfl hl.1 rfl (Nat.le_of_ble_eq_true rfl) dL_law_796) hJ (fun r2 u2 hp2 H locs hJ => ?_)
  subst hp2
  have hJ : wi D z (Ar z) (mw b cI cZ (nI t) th vs kt kv (nI w0) wa fn (nI 0) ch (cw a cI vals fil rb (nI t) wo (nI w0) fn (Xo oa cJ og []))) s H locs := hJ
  have hI : wi D z (Ar z) (cw a cI vals fil rb (nI t) wo (nI w0) fn (Xo oa cJ og (mw b cI cZ (nI t) th vs kt kv (nI w0) wa fn (nI 0) ch []))) s H locs := hJ.ofP [6, 7, 8, 9, 10, 11, 12, 13, 0, 1, 2, 3, 4, 5] (by decide) rfl rfl
  refine lv_icmp_eq (tgt := 1124) hx hb dL_law_799 (by decide) (fun _ => ?_) (fun q9 => absurd rfl q9)
  refine W.widen (k := 15 + j) (n := 16174 + 6 * j) (by omega) (by omega) ?_
  exact KT S t w0 q vals fil rb wo fn og th vs kt kv wa (nI 0) ch ⟨ht, hA, hR, hM, hw, hq1, hq2⟩ H locs hI ls (lv_sub hl [0, 1, 2, 3, 4] rfl)
set_option maxHeartbeats 4000000 in
set_option maxRecDepth 100000 in
theorem lc_has {p : Program} {l : Launch} {e : Env} {s : State} {m : MethodId} {args : Array Value} {below : List Frame} {meth : Method} {c : Code} {Q : State → Prop} {ret0 : Option FieldType} {D : va_G} {z : Nat} {a b : Nat → Nat} {oa : Nat} {cI cZ cJ : ClassId} {bs L j : Nat} {xs : Nat → Int32} (hst : l.stackTraces = false) (hF : Fx p s m args meth c cL_law 8 RL ret0) (hK : kn D cI cZ cJ s) (hKx : kx s) (hZ : zq z s s.heap) (hX : va_X bs L xs s s.heap) (hbl : bs < s.heap.size) (hbA : ¬ Ar z bs) (hj : 6 * j + 6 ≤ L) (hL : L ≤ 3072) (KT : lKT p l e s m args below meth c Q D z a b oa cI cZ cJ bs j) {S : Sta} {t w0 : Nat} {q vals fil rb wo : Nat → Int32} {fn : Int32} {og : Nat → Int64} {th : Nat → Bool} {vs : Nat → Int32} {kt : Nat → Bool} {kv wa : Nat → Int32} {tr ch : Int32} (hinv : linv S t w0 q vals fil rb wo th vs wa) {H : Heap} {locs : List Loc} (hI : wi D z (Ar z) (gw a b oa cI cZ cJ vals fil rb t wo w0 fn og th vs kt kv wa tr ch) s H locs) {ls : Array Slot} (hl : lv_has ls 8 [(0, .ref bs), (1, .ref (a 0)), (2, .ref (b 0)), (3, .ref oa), (4, .int (nI (6 * j)))]) : W p l e room_1 s m args below meth c H locs (14 + j) (16168 + 6 * j) Q (F0 m 491 ls []) := by
  obtain ⟨hx, hb, hml, hown, hts, hr, hlocks⟩ := id hF
  obtain ⟨ht, hA, hR, hM, hw, hq1, hq2⟩ := id hinv
  have hI : wi D z (Ar z) (cw a cI vals fil rb (nI t) wo (nI w0) fn (Xo oa cJ og (mw b cI cZ (nI t) th vs kt kv (nI w0) wa fn tr ch []))) s H locs := hI
  refine lv_aload_n hx hb dL_law_491 rfl (lv_at hl 1 rfl) ?_
  refine lv_aload_n hx hb dL_law_492 rfl (lv_at hl 0 rfl) ?_
  refine lv_iload hx hb dL_law_493 (lv_at hl 4 rfl) ?_
  refine lv_iconst (v := nI 1) hx hb dL_law_495 (by decide) ?_
  refine lv_iadd hx hb dL_law_496 ?_
  refine tp (nI_add _ _) ?_
  refine sl_ld (k := 6 * j + 1) hx hb hX hbl hbA hI dL_law_497 (by omega) (by omega) ?_
  refine lv_aload_n hx hb dL_law_498 rfl (lv_at hl 0 rfl) ?_
  refine lv_iload hx hb dL_law_499 (lv_at hl 4 rfl) ?_
  refine lv_iconst (v := nI 2) hx hb dL_law_501 (by decide) ?_
  refine lv_iadd hx hb dL_law_502 ?_
  refine tp (nI_add _ _) ?_
  refine sl_ld (k := 6 * j + 2) hx hb hX hbl hbA hI dL_law_503 (by omega) (by omega) ?_
  refine lv_aload_n hx hb dL_law_504 rfl (lv_at hl 0 rfl) ?_
  refine lv_iload hx hb dL_law_505 (lv_at hl 4 rfl) ?_
  refine lv_iconst (v := nI 3) hx hb dL_law_507 (by decide) ?_
  refine lv_iadd hx hb dL_law_508 ?_
  refine tp (nI_add _ _) ?_
  refine sl_ld (k := 6 * j + 3) hx hb hX hbl hbA hI dL_law_509 (by omega) (by omega) ?_
  refine k_ro (run_v (As := [.int (xs (6 * j + 1)), .int (xs (6 * j + 2)), .int (xs (6 * j + 3))]) (rest := []) hF hK hI (c_X2_has hA ht) cf_X2_has k82 0 2 rfl rfl ⟨Nat.le_of_ble_eq_true rfl, Nat.le_of_ble_eq_true rfl⟩ ⟨rfl, rfl⟩ ⟨by show _ ≤ 1053; omega, by show _ ≤ 24450; omega⟩ rfl hl.1 rfl (Nat.le_of_ble_eq_true rfl) dL_law_510) hI (fun H locs hI => ?_)
  refine lv_aload_n hx hb dL_law_513 rfl (lv_at hl 2 rfl) ?_
  refine lv_aload_n hx hb dL_law_514 rfl (lv_at hl 0 rfl) ?_
  refine lv_iload hx hb dL_law_515 (lv_at hl 4 rfl) ?_
  refine lv_iconst (v := nI 1) hx hb dL_law_517 (by decide) ?_
  refine lv_iadd hx hb dL_law_518 ?_
  refine tp (nI_add _ _) ?_
  refine sl_ld (k := 6 * j + 1) hx hb hX hbl hbA hI dL_law_519 (by omega) (by omega) ?_
  refine lv_aload_n hx hb dL_law_520 rfl (lv_at hl 0 rfl) ?_
  refine lv_iload hx hb dL_law_521 (lv_at hl 4 rfl) ?_
  refine lv_iconst (v := nI 2) hx hb dL_law_523 (by decide) ?_
  refine lv_iadd hx hb dL_law_524 ?_
  refine tp (nI_add _ _) ?_
  refine sl_ld (k := 6 * j + 2) hx hb hX hbl hbA hI dL_law_525 (by omega) (by omega) ?_
  refine lv_aload_n hx hb dL_law_526 rfl (lv_at hl 0 rfl) ?_
  refine lv_iload hx hb dL_law_527 (lv_at hl 4 rfl) ?_
  refine lv_iconst (v := nI 3) hx hb dL_law_529 (by decide) ?_
  refine lv_iadd hx hb dL_law_530 ?_
  refine tp (nI_add _ _) ?_
  refine sl_ld (k := 6 * j + 3) hx hb hX hbl hbA hI dL_law_531 (by omega) (by omega) ?_
  have hJ : wi D z (Ar z) (mw b cI cZ (nI t) th vs kt kv (nI w0) wa fn tr ch (cw a cI vals fil rb (nI t) wo (nI w0) fn (Xo oa cJ og []))) s H locs := hI.ofP [8, 9, 10, 11, 12, 13, 0, 1, 2, 3, 4, 5, 6, 7] (by decide) rfl rfl
  refine k_mu (run_v (As := [.int (xs (6 * j + 1)), .int (xs (6 * j + 2)), .int (xs (6 * j + 3))]) (rest := [.int (bi (hVal S t (xs (6 * j + 1)) (xs (6 * j + 2)) (xs (6 * j + 3))))]) hF hK hJ (c_X3_has hM ht) cf_X3_has k550 0 3 rfl rfl ⟨Nat.le_of_ble_eq_true rfl, Nat.le_of_ble_eq_true rfl⟩ ⟨rfl, rfl⟩ ⟨by show _ ≤ 1053; omega, by show _ ≤ 24450; omega⟩ rfl hl.1 rfl (Nat.le_of_ble_eq_true rfl) dL_law_532) hJ (fun r2 u2 hp2 H locs hJ => ?_)
  subst hp2
  have hJ : wi D z (Ar z) (mw b cI cZ (nI t) th vs kt kv (nI w0) wa fn (nI 0) ch (cw a cI vals fil rb (nI t) wo (nI w0) fn (Xo oa cJ og []))) s H locs := hJ
  have hI : wi D z (Ar z) (cw a cI vals fil rb (nI t) wo (nI w0) fn (Xo oa cJ og (mw b cI cZ (nI t) th vs kt kv (nI w0) wa fn (nI 0) ch []))) s H locs := hJ.ofP [6, 7, 8, 9, 10, 11, 12, 13, 0, 1, 2, 3, 4, 5] (by decide) rfl rfl
  refine lv_icmp_eq (tgt := 1124) hx hb dL_law_535 (by decide) (fun _ => ?_) (fun q9 => absurd rfl q9)
  refine W.widen (k := 15 + j) (n := 16174 + 6 * j) (by omega) (by omega) ?_
  exact KT S t w0 q vals fil rb wo fn og th vs kt kv wa (nI 0) ch ⟨ht, hA, hR, hM, hw, hq1, hq2⟩ H locs hI ls (lv_sub hl [0, 1, 2, 3, 4] rfl)
set_option maxHeartbeats 4000000 in
set_option maxRecDepth 100000 in
theorem lc_state {p : Program} {l : Launch} {e : Env} {s : State} {m : MethodId} {args : Array Value} {below : List Frame} {meth : Method} {c : Code} {Q : State → Prop} {ret0 : Option FieldType} {D : va_G} {z : Nat} {a b : Nat → Nat} {oa : Nat} {cI cZ cJ : ClassId} {bs L j : Nat} {xs : Nat → Int32} (hst : l.stackTraces = false) (hF : Fx p s m args meth c cL_law 8 RL ret0) (hK : kn D cI cZ cJ s) (hKx : kx s) (hZ : zq z s s.heap) (hX : va_X bs L xs s s.heap) (hbl : bs < s.heap.size) (hbA : ¬ Ar z bs) (hj : 6 * j + 6 ≤ L) (hL : L ≤ 3072) (KT : lKT p l e s m args below meth c Q D z a b oa cI cZ cJ bs j) {S : Sta} {t w0 : Nat} {q vals fil rb wo : Nat → Int32} {fn : Int32} {og : Nat → Int64} {th : Nat → Bool} {vs : Nat → Int32} {kt : Nat → Bool} {kv wa : Nat → Int32} {tr ch : Int32} (hinv : linv S t w0 q vals fil rb wo th vs wa) {H : Heap} {locs : List Loc} (hI : wi D z (Ar z) (gw a b oa cI cZ cJ vals fil rb t wo w0 fn og th vs kt kv wa tr ch) s H locs) {ls : Array Slot} (hl : lv_has ls 8 [(0, .ref bs), (1, .ref (a 0)), (2, .ref (b 0)), (3, .ref oa), (4, .int (nI (6 * j)))]) : W p l e room_1 s m args below meth c H locs (14 + j) (16168 + 6 * j) Q (F0 m 177 ls []) := by
  obtain ⟨hx, hb, hml, hown, hts, hr, hlocks⟩ := id hF
  obtain ⟨ht, hA, hR, hM, hw, hq1, hq2⟩ := id hinv
  have hI : wi D z (Ar z) (cw a cI vals fil rb (nI t) wo (nI w0) fn (Xo oa cJ og (mw b cI cZ (nI t) th vs kt kv (nI w0) wa fn tr ch []))) s H locs := hI
  refine lv_aload_n hx hb dL_law_177 rfl (lv_at hl 1 rfl) ?_
  refine lv_aload_n hx hb dL_law_178 rfl (lv_at hl 0 rfl) ?_
  refine lv_iload hx hb dL_law_179 (lv_at hl 4 rfl) ?_
  refine lv_iconst (v := nI 1) hx hb dL_law_181 (by decide) ?_
  refine lv_iadd hx hb dL_law_182 ?_
  refine tp (nI_add _ _) ?_
  refine sl_ld (k := 6 * j + 1) hx hb hX hbl hbA hI dL_law_183 (by omega) (by omega) ?_
  refine lv_aload_n hx hb dL_law_184 rfl (lv_at hl 0 rfl) ?_
  refine lv_iload hx hb dL_law_185 (lv_at hl 4 rfl) ?_
  refine lv_iconst (v := nI 2) hx hb dL_law_187 (by decide) ?_
  refine lv_iadd hx hb dL_law_188 ?_
  refine tp (nI_add _ _) ?_
  refine sl_ld (k := 6 * j + 2) hx hb hX hbl hbA hI dL_law_189 (by omega) (by omega) ?_
  refine lv_aload_n hx hb dL_law_190 rfl (lv_at hl 0 rfl) ?_
  refine lv_iload hx hb dL_law_191 (lv_at hl 4 rfl) ?_
  refine lv_iconst (v := nI 3) hx hb dL_law_193 (by decide) ?_
  refine lv_iadd hx hb dL_law_194 ?_
  refine tp (nI_add _ _) ?_
  refine sl_ld (k := 6 * j + 3) hx hb hX hbl hbA hI dL_law_195 (by omega) (by omega) ?_
  refine lv_aload_n hx hb dL_law_196 rfl (lv_at hl 0 rfl) ?_
  refine lv_iload hx hb dL_law_197 (lv_at hl 4 rfl) ?_
  refine lv_iconst (v := nI 4) hx hb dL_law_199 (by decide) ?_
  refine lv_iadd hx hb dL_law_200 ?_
  refine tp (nI_add _ _) ?_
  refine sl_ld (k := 6 * j + 4) hx hb hX hbl hbA hI dL_law_201 (by omega) (by omega) ?_
  refine lv_aload_n hx hb dL_law_202 rfl (lv_at hl 0 rfl) ?_
  refine lv_iload hx hb dL_law_203 (lv_at hl 4 rfl) ?_
  refine lv_iconst (v := nI 5) hx hb dL_law_205 (by decide) ?_
  refine lv_iadd hx hb dL_law_206 ?_
  refine tp (nI_add _ _) ?_
  refine sl_ld (k := 6 * j + 5) hx hb hX hbl hbA hI dL_law_207 (by omega) (by omega) ?_
  refine lv_aload_n hx hb dL_law_208 rfl (lv_at hl 3 rfl) ?_
  refine k_tri (run_h (As := [.ref (a 0), .int (xs (6 * j + 1)), .int (xs (6 * j + 2)), .int (xs (6 * j + 3)), .int (xs (6 * j + 4)), .int (xs (6 * j + 5)), .ref (oa)]) (rest := []) hF hK hKx hZ hI (c_L_state hst hA ht hR) cf_L_state k194 ⟨Nat.le_of_ble_eq_true rfl, Nat.le_of_ble_eq_true rfl⟩ ⟨rfl, rfl⟩ ⟨by show _ ≤ 1053; omega, by show _ ≤ 24450; omega⟩ rfl hl.1 rfl (Nat.le_of_ble_eq_true rfl) dL_law_209) hI (fun E ce q9 u hp => absurd hp id) (fun r u hp H locs hI => ?_)
  obtain ⟨rfl, hv, hA2, hR2⟩ := hp
  have hI : wi D z (Ar z) (cw a cI (u.1) (u.2.1) (u.2.2.1) (nI t) wo (nI w0) fn (Xo oa cJ (u.2.2.2) (mw b cI cZ (nI t) th vs kt kv (nI w0) wa fn tr ch []))) s H locs := hI
  refine lv_istore (lv' := [(5, .int (nI (pcode S t (xs (6 * j + 1)) (xs (6 * j + 2)) (xs (6 * j + 3)) (xs (6 * j + 4)) (xs (6 * j + 5))))), (0, .ref (bs)), (1, .ref (a 0)), (2, .ref (b 0)), (3, .ref (oa)), (4, .int (nI (6 * j)))]) hx hb dL_law_212 hl (by decide) rfl (fun ls hl => ?_)
  refine lv_aload_n hx hb dL_law_214 rfl (lv_at hl 3 rfl) ?_
  refine lv_aload_n hx hb dL_law_215 rfl (lv_at hl 1 rfl) ?_
  refine lv_iload hx hb dL_law_216 (lv_at hl 5 rfl) ?_
  refine lv_iconst (v := nI 1) hx hb dL_law_218 (by decide) ?_
  refine lv_iadd hx hb dL_law_219 ?_
  refine tp (nI_add _ _) ?_
  refine sl_ld (k := 6 * j + 1) hx hb hX hbl hbA hI dL_law_220 (by omega) (by omega) ?_
  refine lv_aload_n hx hb dL_law_221 rfl (lv_at hl 1 rfl) ?_
  refine lv_iload hx hb dL_law_222 (lv_at hl 5 rfl) ?_
  refine lv_iconst (v := nI 2) hx hb dL_law_224 (by decide) ?_
  refine lv_iadd hx hb dL_law_225 ?_
  refine tp (nI_add _ _) ?_
  refine sl_ld (k := 6 * j + 2) hx hb hX hbl hbA hI dL_law_226 (by omega) (by omega) ?_
  refine lv_aload_n hx hb dL_law_227 rfl (lv_at hl 1 rfl) ?_
  refine lv_iload hx hb dL_law_228 (lv_at hl 5 rfl) ?_
  refine lv_iconst (v := nI 3) hx hb dL_law_230 (by decide) ?_
  refine lv_iadd hx hb dL_law_231 ?_
  refine tp (nI_add _ _) ?_
  refine sl_ld (k := 6 * j + 3) hx hb hX hbl hbA hI dL_law_232 (by omega) (by omega) ?_
  refine lv_aload_n hx hb dL_law_233 rfl (lv_at hl 1 rfl) ?_
  refine lv_iload hx hb dL_law_234 (lv_at hl 5 rfl) ?_
  refine lv_iconst (v := nI 4) hx hb dL_law_236 (by decide) ?_
  refine lv_iadd hx hb dL_law_237 ?_
  refine tp (nI_add _ _) ?_
  refine sl_ld (k := 6 * j + 4) hx hb hX hbl hbA hI dL_law_238 (by omega) (by omega) ?_
  refine lv_aload_n hx hb dL_law_239 rfl (lv_at hl 1 rfl) ?_
  refine lv_iload hx hb dL_law_240 (lv_at hl 5 rfl) ?_
  refine lv_iconst (v := nI 5) hx hb dL_law_242 (by decide) ?_
  refine lv_iadd hx hb dL_law_243 ?_
  refine tp (nI_add _ _) ?_
  refine sl_ld (k := 6 * j + 5) hx hb hX hbl hbA hI dL_law_244 (by omega) (by omega) ?_
  have hJ : wi D z (Ar z) (mw b cI cZ (nI t) th vs kt kv (nI w0) wa fn tr ch (cw a cI (u.1) (u.2.1) (u.2.2.1) (nI t) wo (nI w0) fn (Xo oa cJ (u.2.2.2) []))) s H locs := hI.ofP [8, 9, 10, 11, 12, 13, 0, 1, 2, 3, 4, 5, 6, 7] (by decide) rfl rfl
  refine k_mu (run_v (As := [.int (xs (6 * j + 1)), .int (xs (6 * j + 2)), .int (xs (6 * j + 3)), .int (xs (6 * j + 4)), .int (xs (6 * j + 5))]) (rest := []) hF hK hJ (c_X3_state hM ht) cf_X3_state k470 0 3 rfl rfl ⟨Nat.le_of_ble_eq_true rfl, Nat.le_of_ble_eq_true rfl⟩ ⟨rfl, rfl⟩ ⟨by show _ ≤ 1053; omega, by show _ ≤ 24450; omega⟩ rfl hl.1 rfl (Nat.le_of_ble_eq_true rfl) dL_law_245) hJ (fun r2 u2 hp2 H locs hJ => ?_)
  obtain ⟨hM2, hm⟩ := hp2
  have hJ : wi D z (Ar z) (mw b cI cZ (nI t) (u2.1) (u2.2.1) (u2.2.2.1) (u2.2.2.2.1) (nI w0) wa fn (nI (pcode S t (xs (6 * j + 1)) (xs (6 * j + 2)) (xs (6 * j + 3)) (xs (6 * j + 4)) (xs (6 * j + 5)))) (u2.2.2.2.2) (cw a cI (u.1) (u.2.1) (u.2.2.1) (nI t) wo (nI w0) fn (Xo oa cJ (u.2.2.2) []))) s H locs := hJ
  have hI : wi D z (Ar z) (cw a cI (u.1) (u.2.1) (u.2.2.1) (nI t) wo (nI w0) fn (Xo oa cJ (u.2.2.2) (mw b cI cZ (nI t) (u2.1) (u2.2.1) (u2.2.2.1) (u2.2.2.2.1) (nI w0) wa fn (nI (pcode S t (xs (6 * j + 1)) (xs (6 * j + 2)) (xs (6 * j + 3)) (xs (6 * j + 4)) (xs (6 * j + 5)))) (u2.2.2.2.2) []))) s H locs := hJ.ofP [6, 7, 8, 9, 10, 11, 12, 13, 0, 1, 2, 3, 4, 5] (by decide) rfl rfl
  refine lv_istore (lv' := [(6, .int (r2)), (5, .int (nI (pcode S t (xs (6 * j + 1)) (xs (6 * j + 2)) (xs (6 * j + 3)) (xs (6 * j + 4)) (xs (6 * j + 5))))), (0, .ref (bs)), (1, .ref (a 0)), (2, .ref (b 0)), (3, .ref (oa)), (4, .int (nI (6 * j)))]) hx hb dL_law_248 hl (by decide) rfl (fun ls hl => ?_)
  refine lv_aload_n hx hb dL_law_250 rfl (lv_at hl 4 rfl) ?_
  have hJ : wi D z (Ar z) (mw b cI cZ (nI t) (u2.1) (u2.2.1) (u2.2.2.1) (u2.2.2.2.1) (nI w0) wa fn (nI (pcode S t (xs (6 * j + 1)) (xs (6 * j + 2)) (xs (6 * j + 3)) (xs (6 * j + 4)) (xs (6 * j + 5)))) (u2.2.2.2.2) (cw a cI (u.1) (u.2.1) (u.2.2.1) (nI t) wo (nI w0) fn (Xo oa cJ (u.2.2.2) []))) s H locs := hI.ofP [8, 9, 10, 11, 12, 13, 0, 1, 2, 3, 4, 5, 6, 7] (by decide) rfl rfl
  refine k_ro (run_v (As := []) (rest := []) hF hK hJ c_X3_thrown cf_X3_thrown k454 0 3 rfl rfl ⟨Nat.le_of_ble_eq_true rfl, Nat.le_of_ble_eq_true rfl⟩ ⟨rfl, rfl⟩ ⟨by show _ ≤ 1053; omega, by show _ ≤ 24450; omega⟩ rfl hl.1 rfl (Nat.le_of_ble_eq_true rfl) dL_law_251) hJ (fun H locs hJ => ?_)
  have hJ : wi D z (Ar z) (mw b cI cZ (nI t) (u2.1) (u2.2.1) (u2.2.2.1) (u2.2.2.2.1) (nI w0) wa fn (nI (pcode S t (xs (6 * j + 1)) (xs (6 * j + 2)) (xs (6 * j + 3)) (xs (6 * j + 4)) (xs (6 * j + 5)))) (u2.2.2.2.2) (cw a cI (u.1) (u.2.1) (u.2.2.1) (nI t) wo (nI w0) fn (Xo oa cJ (u.2.2.2) []))) s H locs := hJ
  have hI : wi D z (Ar z) (cw a cI (u.1) (u.2.1) (u.2.2.1) (nI t) wo (nI w0) fn (Xo oa cJ (u.2.2.2) (mw b cI cZ (nI t) (u2.1) (u2.2.1) (u2.2.2.1) (u2.2.2.2.1) (nI w0) wa fn (nI (pcode S t (xs (6 * j + 1)) (xs (6 * j + 2)) (xs (6 * j + 3)) (xs (6 * j + 4)) (xs (6 * j + 5)))) (u2.2.2.2.2) []))) s H locs := hJ.ofP [6, 7, 8, 9, 10, 11, 12, 13, 0, 1, 2, 3, 4, 5] (by decide) rfl rfl
  refine lv_iload hx hb dL_law_254 (lv_at hl 1 rfl) ?_
  refine lv_icmp_eq (tgt := 261) hx hb dL_law_256 (by decide) (fun _ => ?_) (fun q9 => absurd rfl q9)
  refine lv_iload hx hb dL_law_261 (lv_at hl 1 rfl) ?_
  have g9 := pcode_le S t (xs (6 * j + 1)) (xs (6 * j + 2)) (xs (6 * j + 3)) (xs (6 * j + 4)) (xs (6 * j + 5))
  refine nz_ne (tgt := 278) hx hb dL_law_263 (by decide) (by omega) (fun cc => ?_) (fun cc => ?_)
  · refine lv_goto (tgt := 1124) hx hb dL_law_278 (by decide) ?_
    refine W.widen (k := 15 + j) (n := 16174 + 6 * j) (by omega) (by omega) ?_
    exact KT (if pcode S t (xs (6 * j + 1)) (xs (6 * j + 2)) (xs (6 * j + 3)) (xs (6 * j + 4)) (xs (6 * j + 5)) = 0 then pS S t (xs (6 * j + 1)) (xs (6 * j + 2)) (xs (6 * j + 3)) (xs (6 * j + 4)) (xs (6 * j + 5)) else S) t w0 q (u.1) (u.2.1) (u.2.2.1) wo fn (u.2.2.2) (u2.1) (u2.2.1) (u2.2.2.1) (u2.2.2.2.1) wa (nI (pcode S t (xs (6 * j + 1)) (xs (6 * j + 2)) (xs (6 * j + 3)) (xs (6 * j + 4)) (xs (6 * j + 5)))) (u2.2.2.2.2) ⟨ht, hA2, hR2, hM2, hw, hq1, hq2⟩ H locs hI ls (lv_sub hl [2, 3, 4, 5, 6] rfl)
  · refine lv_aload_n hx hb dL_law_266 rfl (lv_at hl 5 rfl) ?_
    refine lv_iconst (v := nI 0) hx hb dL_law_267 (by decide) ?_
    refine la_ld hx hb hK hI 7 rfl dL_law_268 ?_
    refine lv_iload hx hb dL_law_269 (lv_at hl 0 rfl) ?_
    refine lv_i2l (v := (r2).toInt64) hx hb dL_law_271 rfl ?_
    refine W.lcmp hx hb dL_law_272 ?_
    refine lv_if_eq (tgt := 278) hx hb dL_law_273 (by decide) (fun _ => ?_) (fun q9 => absurd (lg_eq (by rw [hv cc, hm cc])) q9)
    refine lv_goto (tgt := 1124) hx hb dL_law_278 (by decide) ?_
    refine W.widen (k := 15 + j) (n := 16174 + 6 * j) (by omega) (by omega) ?_
    exact KT (if pcode S t (xs (6 * j + 1)) (xs (6 * j + 2)) (xs (6 * j + 3)) (xs (6 * j + 4)) (xs (6 * j + 5)) = 0 then pS S t (xs (6 * j + 1)) (xs (6 * j + 2)) (xs (6 * j + 3)) (xs (6 * j + 4)) (xs (6 * j + 5)) else S) t w0 q (u.1) (u.2.1) (u.2.2.1) wo fn (u.2.2.2) (u2.1) (u2.2.1) (u2.2.2.1) (u2.2.2.2.1) wa (nI (pcode S t (xs (6 * j + 1)) (xs (6 * j + 2)) (xs (6 * j + 3)) (xs (6 * j + 4)) (xs (6 * j + 5)))) (u2.2.2.2.2) ⟨ht, hA2, hR2, hM2, hw, hq1, hq2⟩ H locs hI ls (lv_sub hl [2, 3, 4, 5, 6] rfl)
set_option maxHeartbeats 4000000 in
set_option maxRecDepth 100000 in
theorem lc_commit {p : Program} {l : Launch} {e : Env} {s : State} {m : MethodId} {args : Array Value} {below : List Frame} {meth : Method} {c : Code} {Q : State → Prop} {ret0 : Option FieldType} {D : va_G} {z : Nat} {a b : Nat → Nat} {oa : Nat} {cI cZ cJ : ClassId} {bs L j : Nat} {xs : Nat → Int32} (hst : l.stackTraces = false) (hF : Fx p s m args meth c cL_law 8 RL ret0) (hK : kn D cI cZ cJ s) (hKx : kx s) (hZ : zq z s s.heap) (hX : va_X bs L xs s s.heap) (hbl : bs < s.heap.size) (hbA : ¬ Ar z bs) (hj : 6 * j + 6 ≤ L) (hL : L ≤ 3072) (KT : lKT p l e s m args below meth c Q D z a b oa cI cZ cJ bs j) {S : Sta} {t w0 : Nat} {q vals fil rb wo : Nat → Int32} {fn : Int32} {og : Nat → Int64} {th : Nat → Bool} {vs : Nat → Int32} {kt : Nat → Bool} {kv wa : Nat → Int32} {tr ch : Int32} (hinv : linv S t w0 q vals fil rb wo th vs wa) {H : Heap} {locs : List Loc} (hI : wi D z (Ar z) (gw a b oa cI cZ cJ vals fil rb t wo w0 fn og th vs kt kv wa tr ch) s H locs) {ls : Array Slot} (hl : lv_has ls 8 [(0, .ref bs), (1, .ref (a 0)), (2, .ref (b 0)), (3, .ref oa), (4, .int (nI (6 * j)))]) : W p l e room_1 s m args below meth c H locs (14 + j) (16168 + 6 * j) Q (F0 m 354 ls []) := by
  obtain ⟨hx, hb, hml, hown, hts, hr, hlocks⟩ := id hF
  obtain ⟨ht, hA, hR, hM, hw, hq1, hq2⟩ := id hinv
  have hI : wi D z (Ar z) (cw a cI vals fil rb (nI t) wo (nI w0) fn (Xo oa cJ og (mw b cI cZ (nI t) th vs kt kv (nI w0) wa fn tr ch []))) s H locs := hI
  refine lv_aload_n hx hb dL_law_354 rfl (lv_at hl 1 rfl) ?_
  refine lv_aload_n hx hb dL_law_355 rfl (lv_at hl 3 rfl) ?_
  refine k_tri (run_h (As := [.ref (a 0), .ref (oa)]) (rest := []) hF hK hKx hZ hI (c_L_commit hst hA ht hR hw hq1) cf_L_commit k290 ⟨Nat.le_of_ble_eq_true rfl, Nat.le_of_ble_eq_true rfl⟩ ⟨rfl, rfl⟩ ⟨by show _ ≤ 1053; omega, by show _ ≤ 24450; omega⟩ rfl hl.1 rfl (Nat.le_of_ble_eq_true rfl) dL_law_356) hI (fun E ce q9 u hp => absurd hp id) (fun r u hp H locs hI => ?_)
  obtain ⟨rfl, hv, hA2, hR2⟩ := hp
  have hI : wi D z (Ar z) (cw a cI (u.1) (u.2.1) (u.2.2.1) (nI t) wo (nI 0) (if (cmt t q w0 0 S 0).1 = 0 then (-1 : Int32) else nI (cmt t q w0 0 S 0).2.1) (Xo oa cJ (u.2.2.2) (mw b cI cZ (nI t) th vs kt kv (nI w0) wa fn tr ch []))) s H locs := hI
  refine lv_istore (lv' := [(5, .int (nI ((cmt t q w0 0 S 0).1))), (0, .ref (bs)), (1, .ref (a 0)), (2, .ref (b 0)), (3, .ref (oa)), (4, .int (nI (6 * j)))]) hx hb dL_law_359 hl (by decide) rfl (fun ls hl => ?_)
  refine lv_aload_n hx hb dL_law_361 rfl (lv_at hl 3 rfl) ?_
  have hJ : wi D z (Ar z) (mw b cI cZ (nI t) th vs kt kv (nI w0) wa fn tr ch (cw a cI (u.1) (u.2.1) (u.2.2.1) (nI t) wo (nI 0) (if (cmt t q w0 0 S 0).1 = 0 then (-1 : Int32) else nI (cmt t q w0 0 S 0).2.1) (Xo oa cJ (u.2.2.2) []))) s H locs := hI.ofP [8, 9, 10, 11, 12, 13, 0, 1, 2, 3, 4, 5, 6, 7] (by decide) rfl rfl
  refine k_mu (run_v (As := []) (rest := []) hF hK hJ (c_X3_commit hM ht hw hq2) cf_X3_commit k531 0 3 rfl rfl ⟨Nat.le_of_ble_eq_true rfl, Nat.le_of_ble_eq_true rfl⟩ ⟨rfl, rfl⟩ ⟨by show _ ≤ 1053; omega, by show _ ≤ 24450; omega⟩ rfl hl.1 rfl (Nat.le_of_ble_eq_true rfl) dL_law_362) hJ (fun r2 u2 hp2 H locs hJ => ?_)
  obtain ⟨hM2, hm⟩ := hp2
  have hJ : wi D z (Ar z) (mw b cI cZ (nI t) (u2.1) (u2.2.1) (u2.2.2.1) (u2.2.2.2.1) (nI 0) wa (if (cmt t q w0 0 S 0).1 = 0 then (-1 : Int32) else nI (cmt t q w0 0 S 0).2.1) (nI ((cmt t q w0 0 S 0).1)) (u2.2.2.2.2) (cw a cI (u.1) (u.2.1) (u.2.2.1) (nI t) wo (nI 0) (if (cmt t q w0 0 S 0).1 = 0 then (-1 : Int32) else nI (cmt t q w0 0 S 0).2.1) (Xo oa cJ (u.2.2.2) []))) s H locs := hJ
  have hI : wi D z (Ar z) (cw a cI (u.1) (u.2.1) (u.2.2.1) (nI t) wo (nI 0) (if (cmt t q w0 0 S 0).1 = 0 then (-1 : Int32) else nI (cmt t q w0 0 S 0).2.1) (Xo oa cJ (u.2.2.2) (mw b cI cZ (nI t) (u2.1) (u2.2.1) (u2.2.2.1) (u2.2.2.2.1) (nI 0) wa (if (cmt t q w0 0 S 0).1 = 0 then (-1 : Int32) else nI (cmt t q w0 0 S 0).2.1) (nI ((cmt t q w0 0 S 0).1)) (u2.2.2.2.2) []))) s H locs := hJ.ofP [6, 7, 8, 9, 10, 11, 12, 13, 0, 1, 2, 3, 4, 5] (by decide) rfl rfl
  refine lv_istore (lv' := [(6, .int (r2)), (5, .int (nI ((cmt t q w0 0 S 0).1))), (0, .ref (bs)), (1, .ref (a 0)), (2, .ref (b 0)), (3, .ref (oa)), (4, .int (nI (6 * j)))]) hx hb dL_law_365 hl (by decide) rfl (fun ls hl => ?_)
  refine lv_aload_n hx hb dL_law_367 rfl (lv_at hl 4 rfl) ?_
  have hJ : wi D z (Ar z) (mw b cI cZ (nI t) (u2.1) (u2.2.1) (u2.2.2.1) (u2.2.2.2.1) (nI 0) wa (if (cmt t q w0 0 S 0).1 = 0 then (-1 : Int32) else nI (cmt t q w0 0 S 0).2.1) (nI ((cmt t q w0 0 S 0).1)) (u2.2.2.2.2) (cw a cI (u.1) (u.2.1) (u.2.2.1) (nI t) wo (nI 0) (if (cmt t q w0 0 S 0).1 = 0 then (-1 : Int32) else nI (cmt t q w0 0 S 0).2.1) (Xo oa cJ (u.2.2.2) []))) s H locs := hI.ofP [8, 9, 10, 11, 12, 13, 0, 1, 2, 3, 4, 5, 6, 7] (by decide) rfl rfl
  refine k_ro (run_v (As := []) (rest := []) hF hK hJ c_X3_thrown cf_X3_thrown k454 0 3 rfl rfl ⟨Nat.le_of_ble_eq_true rfl, Nat.le_of_ble_eq_true rfl⟩ ⟨rfl, rfl⟩ ⟨by show _ ≤ 1053; omega, by show _ ≤ 24450; omega⟩ rfl hl.1 rfl (Nat.le_of_ble_eq_true rfl) dL_law_368) hJ (fun H locs hJ => ?_)
  have hJ : wi D z (Ar z) (mw b cI cZ (nI t) (u2.1) (u2.2.1) (u2.2.2.1) (u2.2.2.2.1) (nI 0) wa (if (cmt t q w0 0 S 0).1 = 0 then (-1 : Int32) else nI (cmt t q w0 0 S 0).2.1) (nI ((cmt t q w0 0 S 0).1)) (u2.2.2.2.2) (cw a cI (u.1) (u.2.1) (u.2.2.1) (nI t) wo (nI 0) (if (cmt t q w0 0 S 0).1 = 0 then (-1 : Int32) else nI (cmt t q w0 0 S 0).2.1) (Xo oa cJ (u.2.2.2) []))) s H locs := hJ
  have hI : wi D z (Ar z) (cw a cI (u.1) (u.2.1) (u.2.2.1) (nI t) wo (nI 0) (if (cmt t q w0 0 S 0).1 = 0 then (-1 : Int32) else nI (cmt t q w0 0 S 0).2.1) (Xo oa cJ (u.2.2.2) (mw b cI cZ (nI t) (u2.1) (u2.2.1) (u2.2.2.1) (u2.2.2.2.1) (nI 0) wa (if (cmt t q w0 0 S 0).1 = 0 then (-1 : Int32) else nI (cmt t q w0 0 S 0).2.1) (nI ((cmt t q w0 0 S 0).1)) (u2.2.2.2.2) []))) s H locs := hJ.ofP [6, 7, 8, 9, 10, 11, 12, 13, 0, 1, 2, 3, 4, 5] (by decide) rfl rfl
  refine lv_iload hx hb dL_law_371 (lv_at hl 1 rfl) ?_
  refine lv_icmp_eq (tgt := 378) hx hb dL_law_373 (by decide) (fun _ => ?_) (fun q9 => absurd rfl q9)
  refine lv_iload hx hb dL_law_378 (lv_at hl 1 rfl) ?_
  have g9 := cmt_le t q w0 0 S 0
  refine nz_ne (tgt := 395) hx hb dL_law_380 (by decide) (by omega) (fun cc => ?_) (fun cc => ?_)
  · refine lv_goto (tgt := 1124) hx hb dL_law_395 (by decide) ?_
    refine W.widen (k := 15 + j) (n := 16174 + 6 * j) (by omega) (by omega) ?_
    exact KT (if (cmt t q w0 0 S 0).1 = 0 then (cmt t q w0 0 S 0).2.2.1 else S) t 0 q (u.1) (u.2.1) (u.2.2.1) wo (if (cmt t q w0 0 S 0).1 = 0 then (-1 : Int32) else nI (cmt t q w0 0 S 0).2.1) (u.2.2.2) (u2.1) (u2.2.1) (u2.2.2.1) (u2.2.2.2.1) wa (nI ((cmt t q w0 0 S 0).1)) (u2.2.2.2.2) ⟨ht, hA2, hR2, hM2, by omega, fun p hp => absurd hp (by omega), fun p hp => absurd hp (by omega)⟩ H locs hI ls (lv_sub hl [2, 3, 4, 5, 6] rfl)
  · refine lv_aload_n hx hb dL_law_383 rfl (lv_at hl 5 rfl) ?_
    refine lv_iconst (v := nI 0) hx hb dL_law_384 (by decide) ?_
    refine la_ld hx hb hK hI 7 rfl dL_law_385 ?_
    refine lv_iload hx hb dL_law_386 (lv_at hl 0 rfl) ?_
    refine lv_i2l (v := (r2).toInt64) hx hb dL_law_388 rfl ?_
    refine W.lcmp hx hb dL_law_389 ?_
    refine lv_if_eq (tgt := 395) hx hb dL_law_390 (by decide) (fun _ => ?_) (fun q9 => absurd (lg_eq (by rw [hv cc, hm cc])) q9)
    refine lv_goto (tgt := 1124) hx hb dL_law_395 (by decide) ?_
    refine W.widen (k := 15 + j) (n := 16174 + 6 * j) (by omega) (by omega) ?_
    exact KT (if (cmt t q w0 0 S 0).1 = 0 then (cmt t q w0 0 S 0).2.2.1 else S) t 0 q (u.1) (u.2.1) (u.2.2.1) wo (if (cmt t q w0 0 S 0).1 = 0 then (-1 : Int32) else nI (cmt t q w0 0 S 0).2.1) (u.2.2.2) (u2.1) (u2.2.1) (u2.2.2.1) (u2.2.2.2.1) wa (nI ((cmt t q w0 0 S 0).1)) (u2.2.2.2.2) ⟨ht, hA2, hR2, hM2, by omega, fun p hp => absurd hp (by omega), fun p hp => absurd hp (by omega)⟩ H locs hI ls (lv_sub hl [2, 3, 4, 5, 6] rfl)
set_option maxHeartbeats 4000000 in
set_option maxRecDepth 100000 in
theorem lc_queue {p : Program} {l : Launch} {e : Env} {s : State} {m : MethodId} {args : Array Value} {below : List Frame} {meth : Method} {c : Code} {Q : State → Prop} {ret0 : Option FieldType} {D : va_G} {z : Nat} {a b : Nat → Nat} {oa : Nat} {cI cZ cJ : ClassId} {bs L j : Nat} {xs : Nat → Int32} (hst : l.stackTraces = false) (hF : Fx p s m args meth c cL_law 8 RL ret0) (hK : kn D cI cZ cJ s) (hKx : kx s) (hZ : zq z s s.heap) (hX : va_X bs L xs s s.heap) (hbl : bs < s.heap.size) (hbA : ¬ Ar z bs) (hj : 6 * j + 6 ≤ L) (hL : L ≤ 3072) (KT : lKT p l e s m args below meth c Q D z a b oa cI cZ cJ bs j) {S : Sta} {t w0 : Nat} {q vals fil rb wo : Nat → Int32} {fn : Int32} {og : Nat → Int64} {th : Nat → Bool} {vs : Nat → Int32} {kt : Nat → Bool} {kv wa : Nat → Int32} {tr ch : Int32} (hinv : linv S t w0 q vals fil rb wo th vs wa) {H : Heap} {locs : List Loc} (hI : wi D z (Ar z) (gw a b oa cI cZ cJ vals fil rb t wo w0 fn og th vs kt kv wa tr ch) s H locs) {ls : Array Slot} (hl : lv_has ls 8 [(0, .ref bs), (1, .ref (a 0)), (2, .ref (b 0)), (3, .ref oa), (4, .int (nI (6 * j)))]) : W p l e room_1 s m args below meth c H locs (14 + j) (16168 + 6 * j) Q (F0 m 281 ls []) := by
  obtain ⟨hx, hb, hml, hown, hts, hr, hlocks⟩ := id hF
  obtain ⟨ht, hA, hR, hM, hw, hq1, hq2⟩ := id hinv
  have hI : wi D z (Ar z) (cw a cI vals fil rb (nI t) wo (nI w0) fn (Xo oa cJ og (mw b cI cZ (nI t) th vs kt kv (nI w0) wa fn tr ch []))) s H locs := hI
  refine lv_aload_n hx hb dL_law_281 rfl (lv_at hl 1 rfl) ?_
  refine lv_aload_n hx hb dL_law_282 rfl (lv_at hl 0 rfl) ?_
  refine lv_iload hx hb dL_law_283 (lv_at hl 4 rfl) ?_
  refine lv_iconst (v := nI 1) hx hb dL_law_285 (by decide) ?_
  refine lv_iadd hx hb dL_law_286 ?_
  refine tp (nI_add _ _) ?_
  refine sl_ld (k := 6 * j + 1) hx hb hX hbl hbA hI dL_law_287 (by omega) (by omega) ?_
  refine lv_aload_n hx hb dL_law_288 rfl (lv_at hl 0 rfl) ?_
  refine lv_iload hx hb dL_law_289 (lv_at hl 4 rfl) ?_
  refine lv_iconst (v := nI 2) hx hb dL_law_291 (by decide) ?_
  refine lv_iadd hx hb dL_law_292 ?_
  refine tp (nI_add _ _) ?_
  refine sl_ld (k := 6 * j + 2) hx hb hX hbl hbA hI dL_law_293 (by omega) (by omega) ?_
  refine lv_aload_n hx hb dL_law_294 rfl (lv_at hl 0 rfl) ?_
  refine lv_iload hx hb dL_law_295 (lv_at hl 4 rfl) ?_
  refine lv_iconst (v := nI 3) hx hb dL_law_297 (by decide) ?_
  refine lv_iadd hx hb dL_law_298 ?_
  refine tp (nI_add _ _) ?_
  refine sl_ld (k := 6 * j + 3) hx hb hX hbl hbA hI dL_law_299 (by omega) (by omega) ?_
  refine lv_aload_n hx hb dL_law_300 rfl (lv_at hl 0 rfl) ?_
  refine lv_iload hx hb dL_law_301 (lv_at hl 4 rfl) ?_
  refine lv_iconst (v := nI 4) hx hb dL_law_303 (by decide) ?_
  refine lv_iadd hx hb dL_law_304 ?_
  refine tp (nI_add _ _) ?_
  refine sl_ld (k := 6 * j + 4) hx hb hX hbl hbA hI dL_law_305 (by omega) (by omega) ?_
  refine lv_aload_n hx hb dL_law_306 rfl (lv_at hl 0 rfl) ?_
  refine lv_iload hx hb dL_law_307 (lv_at hl 4 rfl) ?_
  refine lv_iconst (v := nI 5) hx hb dL_law_309 (by decide) ?_
  refine lv_iadd hx hb dL_law_310 ?_
  refine tp (nI_add _ _) ?_
  refine sl_ld (k := 6 * j + 5) hx hb hX hbl hbA hI dL_law_311 (by omega) (by omega) ?_
  refine k_mu (run_v (As := [.int (xs (6 * j + 1)), .int (xs (6 * j + 2)), .int (xs (6 * j + 3)), .int (xs (6 * j + 4)), .int (xs (6 * j + 5))]) (rest := []) hF hK hI (c_X2_queue hw hq1) cf_X2_queue k70 0 2 rfl rfl ⟨Nat.le_of_ble_eq_true rfl, Nat.le_of_ble_eq_true rfl⟩ ⟨rfl, rfl⟩ ⟨by show _ ≤ 1053; omega, by show _ ≤ 24450; omega⟩ rfl hl.1 rfl (Nat.le_of_ble_eq_true rfl) dL_law_312) hI (fun r u hp H locs hI => ?_)
  obtain ⟨rfl, hy1, hn1⟩ := hp
  have hI : wi D z (Ar z) (cw a cI vals fil rb (nI t) (u.2) (nI (u.1)) fn (Xo oa cJ og (mw b cI cZ (nI t) th vs kt kv (nI w0) wa fn tr ch []))) s H locs := hI
  refine lv_aload_n hx hb dL_law_315 rfl (lv_at hl 2 rfl) ?_
  refine lv_aload_n hx hb dL_law_316 rfl (lv_at hl 0 rfl) ?_
  refine lv_iload hx hb dL_law_317 (lv_at hl 4 rfl) ?_
  refine lv_iconst (v := nI 1) hx hb dL_law_319 (by decide) ?_
  refine lv_iadd hx hb dL_law_320 ?_
  refine tp (nI_add _ _) ?_
  refine sl_ld (k := 6 * j + 1) hx hb hX hbl hbA hI dL_law_321 (by omega) (by omega) ?_
  refine lv_aload_n hx hb dL_law_322 rfl (lv_at hl 0 rfl) ?_
  refine lv_iload hx hb dL_law_323 (lv_at hl 4 rfl) ?_
  refine lv_iconst (v := nI 2) hx hb dL_law_325 (by decide) ?_
  refine lv_iadd hx hb dL_law_326 ?_
  refine tp (nI_add _ _) ?_
  refine sl_ld (k := 6 * j + 2) hx hb hX hbl hbA hI dL_law_327 (by omega) (by omega) ?_
  refine lv_aload_n hx hb dL_law_328 rfl (lv_at hl 0 rfl) ?_
  refine lv_iload hx hb dL_law_329 (lv_at hl 4 rfl) ?_
  refine lv_iconst (v := nI 3) hx hb dL_law_331 (by decide) ?_
  refine lv_iadd hx hb dL_law_332 ?_
  refine tp (nI_add _ _) ?_
  refine sl_ld (k := 6 * j + 3) hx hb hX hbl hbA hI dL_law_333 (by omega) (by omega) ?_
  refine lv_aload_n hx hb dL_law_334 rfl (lv_at hl 0 rfl) ?_
  refine lv_iload hx hb dL_law_335 (lv_at hl 4 rfl) ?_
  refine lv_iconst (v := nI 4) hx hb dL_law_337 (by decide) ?_
  refine lv_iadd hx hb dL_law_338 ?_
  refine tp (nI_add _ _) ?_
  refine sl_ld (k := 6 * j + 4) hx hb hX hbl hbA hI dL_law_339 (by omega) (by omega) ?_
  refine lv_aload_n hx hb dL_law_340 rfl (lv_at hl 0 rfl) ?_
  refine lv_iload hx hb dL_law_341 (lv_at hl 4 rfl) ?_
  refine lv_iconst (v := nI 5) hx hb dL_law_343 (by decide) ?_
  refine lv_iadd hx hb dL_law_344 ?_
  refine tp (nI_add _ _) ?_
  refine sl_ld (k := 6 * j + 5) hx hb hX hbl hbA hI dL_law_345 (by omega) (by omega) ?_
  have hJ : wi D z (Ar z) (mw b cI cZ (nI t) th vs kt kv (nI w0) wa fn tr ch (cw a cI vals fil rb (nI t) (u.2) (nI (u.1)) fn (Xo oa cJ og []))) s H locs := hI.ofP [8, 9, 10, 11, 12, 13, 0, 1, 2, 3, 4, 5, 6, 7] (by decide) rfl rfl
  refine k_mu (run_v (As := [.int (xs (6 * j + 1)), .int (xs (6 * j + 2)), .int (xs (6 * j + 3)), .int (xs (6 * j + 4)), .int (xs (6 * j + 5))]) (rest := [.int (bi (decide (w0 < 8)))]) hF hK hJ (c_X3_queue hw hq2) cf_X3_queue k527 0 3 rfl rfl ⟨Nat.le_of_ble_eq_true rfl, Nat.le_of_ble_eq_true rfl⟩ ⟨rfl, rfl⟩ ⟨by show _ ≤ 1053; omega, by show _ ≤ 24450; omega⟩ rfl hl.1 rfl (Nat.le_of_ble_eq_true rfl) dL_law_346) hJ (fun r2 u2 hp2 H locs hJ => ?_)
  obtain ⟨rfl, hy2, hn2⟩ := hp2
  have hJ : wi D z (Ar z) (mw b cI cZ (nI t) th vs kt kv (nI (u2.1)) (u2.2) fn (nI 0) ch (cw a cI vals fil rb (nI t) (u.2) (nI (u.1)) fn (Xo oa cJ og []))) s H locs := hJ
  have hI : wi D z (Ar z) (cw a cI vals fil rb (nI t) (u.2) (nI (u.1)) fn (Xo oa cJ og (mw b cI cZ (nI t) th vs kt kv (nI (u2.1)) (u2.2) fn (nI 0) ch []))) s H locs := hJ.ofP [6, 7, 8, 9, 10, 11, 12, 13, 0, 1, 2, 3, 4, 5] (by decide) rfl rfl
  refine lv_icmp_eq (tgt := 1124) hx hb dL_law_349 (by decide) (fun _ => ?_) (fun q9 => absurd rfl q9)
  refine W.widen (k := 15 + j) (n := 16174 + 6 * j) (by omega) (by omega) ?_
  by_cases h8 : w0 < 8
  · obtain ⟨e1, e2⟩ := hy1 h8
    obtain ⟨e3, e4⟩ := hy2 h8
    have hI : wi D z (Ar z) (cw a cI vals fil rb (nI t) (u.2) (nI (w0 + 1)) fn (Xo oa cJ og (mw b cI cZ (nI t) th vs kt kv (nI (w0 + 1)) (u2.2) fn (nI 0) ch []))) s H locs := by rw [e1, e3] at hI; exact hI
    exact KT S t (w0 + 1) (qput q w0 (xs (6 * j + 1)) (xs (6 * j + 2)) (xs (6 * j + 3)) (xs (6 * j + 4)) (xs (6 * j + 5))) vals fil rb (u.2) fn og th vs kt kv (u2.2) (nI 0) ch ⟨ht, hA, hR, hM, by omega, e2, e4⟩ H locs hI ls (lv_sub hl [0, 1, 2, 3, 4] rfl)
  · have hI : wi D z (Ar z) (cw a cI vals fil rb (nI t) wo (nI w0) fn (Xo oa cJ og (mw b cI cZ (nI t) th vs kt kv (nI w0) wa fn (nI 0) ch []))) s H locs := by rw [hn1 h8, hn2 h8] at hI; exact hI
    exact KT S t w0 q vals fil rb wo fn og th vs kt kv wa (nI 0) ch ⟨ht, hA, hR, hM, hw, hq1, hq2⟩ H locs hI ls (lv_sub hl [0, 1, 2, 3, 4] rfl)
set_option maxHeartbeats 4000000 in
set_option maxRecDepth 100000 in
theorem lc_tick {p : Program} {l : Launch} {e : Env} {s : State} {m : MethodId} {args : Array Value} {below : List Frame} {meth : Method} {c : Code} {Q : State → Prop} {ret0 : Option FieldType} {D : va_G} {z : Nat} {a b : Nat → Nat} {oa : Nat} {cI cZ cJ : ClassId} {bs L j : Nat} {xs : Nat → Int32} (hst : l.stackTraces = false) (hF : Fx p s m args meth c cL_law 8 RL ret0) (hK : kn D cI cZ cJ s) (hKx : kx s) (hZ : zq z s s.heap) (hX : va_X bs L xs s s.heap) (hbl : bs < s.heap.size) (hbA : ¬ Ar z bs) (hj : 6 * j + 6 ≤ L) (hL : L ≤ 3072) (KT : lKT p l e s m args below meth c Q D z a b oa cI cZ cJ bs j) {S : Sta} {t w0 : Nat} {q vals fil rb wo : Nat → Int32} {fn : Int32} {og : Nat → Int64} {th : Nat → Bool} {vs : Nat → Int32} {kt : Nat → Bool} {kv wa : Nat → Int32} {tr ch : Int32} (hinv : linv S t w0 q vals fil rb wo th vs wa) {H : Heap} {locs : List Loc} (hI : wi D z (Ar z) (gw a b oa cI cZ cJ vals fil rb t wo w0 fn og th vs kt kv wa tr ch) s H locs) {ls : Array Slot} (hl : lv_has ls 8 [(0, .ref bs), (1, .ref (a 0)), (2, .ref (b 0)), (3, .ref oa), (4, .int (nI (6 * j)))]) : W p l e room_1 s m args below meth c H locs (14 + j) (16168 + 6 * j) Q (F0 m 120 ls []) := by
  obtain ⟨hx, hb, hml, hown, hts, hr, hlocks⟩ := id hF
  obtain ⟨ht, hA, hR, hM, hw, hq1, hq2⟩ := id hinv
  have hI : wi D z (Ar z) (cw a cI vals fil rb (nI t) wo (nI w0) fn (Xo oa cJ og (mw b cI cZ (nI t) th vs kt kv (nI w0) wa fn tr ch []))) s H locs := hI
  rcases (show t < 39 ∨ t = 39 by omega) with ht9 | ht9
  · refine lv_aload_n hx hb dL_law_120 rfl (lv_at hl 1 rfl) ?_
    refine lv_aload_n hx hb dL_law_121 rfl (lv_at hl 3 rfl) ?_
    refine k_tri (run_h (As := [.ref (a 0), .ref (oa)]) (rest := []) hF hK hKx hZ hI (c_L_tick hst hA ht ht9 hR) cf_L_tick k111 ⟨Nat.le_of_ble_eq_true rfl, Nat.le_of_ble_eq_true rfl⟩ ⟨rfl, rfl⟩ ⟨by show _ ≤ 1053; omega, by show _ ≤ 24450; omega⟩ rfl hl.1 rfl (Nat.le_of_ble_eq_true rfl) dL_law_122) hI (fun E ce q9 u hp => absurd hp id) (fun r u hp H locs hI => ?_)
    obtain ⟨rfl, hv, hA2, hR2⟩ := hp
    have hI : wi D z (Ar z) (cw a cI (u.1) (u.2.1) rb (nI (t + 1)) wo (nI w0) fn (Xo oa cJ (u.2.2) (mw b cI cZ (nI t) th vs kt kv (nI w0) wa fn tr ch []))) s H locs := hI
    refine lv_istore (lv' := [(5, .int (nI 0)), (0, .ref (bs)), (1, .ref (a 0)), (2, .ref (b 0)), (3, .ref (oa)), (4, .int (nI (6 * j)))]) hx hb dL_law_125 hl (by decide) rfl (fun ls hl => ?_)
    refine lv_aload_n hx hb dL_law_127 rfl (lv_at hl 3 rfl) ?_
    have hJ : wi D z (Ar z) (mw b cI cZ (nI t) th vs kt kv (nI w0) wa fn tr ch (cw a cI (u.1) (u.2.1) rb (nI (t + 1)) wo (nI w0) fn (Xo oa cJ (u.2.2) []))) s H locs := hI.ofP [8, 9, 10, 11, 12, 13, 0, 1, 2, 3, 4, 5, 6, 7] (by decide) rfl rfl
    refine k_mu (run_v (As := []) (rest := []) hF hK hJ (c_X3_tick hM ht ht9) cf_X3_tick k458 0 3 rfl rfl ⟨Nat.le_of_ble_eq_true rfl, Nat.le_of_ble_eq_true rfl⟩ ⟨rfl, rfl⟩ ⟨by show _ ≤ 1053; omega, by show _ ≤ 24450; omega⟩ rfl hl.1 rfl (Nat.le_of_ble_eq_true rfl) dL_law_128) hJ (fun r2 u2 hp2 H locs hJ => ?_)
    obtain ⟨rfl, hM2⟩ := hp2
    have hJ : wi D z (Ar z) (mw b cI cZ (nI (t + 1)) (u2.1) (u2.2) kt kv (nI w0) wa fn (nI 0) ch (cw a cI (u.1) (u.2.1) rb (nI (t + 1)) wo (nI w0) fn (Xo oa cJ (u.2.2) []))) s H locs := hJ
    have hI : wi D z (Ar z) (cw a cI (u.1) (u.2.1) rb (nI (t + 1)) wo (nI w0) fn (Xo oa cJ (u.2.2) (mw b cI cZ (nI (t + 1)) (u2.1) (u2.2) kt kv (nI w0) wa fn (nI 0) ch []))) s H locs := hJ.ofP [6, 7, 8, 9, 10, 11, 12, 13, 0, 1, 2, 3, 4, 5] (by decide) rfl rfl
    refine lv_istore (lv' := [(6, .int (nI (t + 1))), (5, .int (nI 0)), (0, .ref (bs)), (1, .ref (a 0)), (2, .ref (b 0)), (3, .ref (oa)), (4, .int (nI (6 * j)))]) hx hb dL_law_131 hl (by decide) rfl (fun ls hl => ?_)
    refine lv_aload_n hx hb dL_law_133 rfl (lv_at hl 4 rfl) ?_
    have hJ : wi D z (Ar z) (mw b cI cZ (nI (t + 1)) (u2.1) (u2.2) kt kv (nI w0) wa fn (nI 0) ch (cw a cI (u.1) (u.2.1) rb (nI (t + 1)) wo (nI w0) fn (Xo oa cJ (u.2.2) []))) s H locs := hI.ofP [8, 9, 10, 11, 12, 13, 0, 1, 2, 3, 4, 5, 6, 7] (by decide) rfl rfl
    refine k_ro (run_v (As := []) (rest := []) hF hK hJ c_X3_thrown cf_X3_thrown k454 0 3 rfl rfl ⟨Nat.le_of_ble_eq_true rfl, Nat.le_of_ble_eq_true rfl⟩ ⟨rfl, rfl⟩ ⟨by show _ ≤ 1053; omega, by show _ ≤ 24450; omega⟩ rfl hl.1 rfl (Nat.le_of_ble_eq_true rfl) dL_law_134) hJ (fun H locs hJ => ?_)
    have hJ : wi D z (Ar z) (mw b cI cZ (nI (t + 1)) (u2.1) (u2.2) kt kv (nI w0) wa fn (nI 0) ch (cw a cI (u.1) (u.2.1) rb (nI (t + 1)) wo (nI w0) fn (Xo oa cJ (u.2.2) []))) s H locs := hJ
    have hI : wi D z (Ar z) (cw a cI (u.1) (u.2.1) rb (nI (t + 1)) wo (nI w0) fn (Xo oa cJ (u.2.2) (mw b cI cZ (nI (t + 1)) (u2.1) (u2.2) kt kv (nI w0) wa fn (nI 0) ch []))) s H locs := hJ.ofP [6, 7, 8, 9, 10, 11, 12, 13, 0, 1, 2, 3, 4, 5] (by decide) rfl rfl
    refine lv_iload hx hb dL_law_137 (lv_at hl 1 rfl) ?_
    refine lv_icmp_eq (tgt := 144) hx hb dL_law_139 (by decide) (fun _ => ?_) (fun q9 => absurd rfl q9)
    refine lv_iload hx hb dL_law_144 (lv_at hl 1 rfl) ?_
    refine lv_if_ne (tgt := 161) hx hb dL_law_146 (by decide) (fun q => absurd nI_0 q) (fun _ => ?_)
    refine lv_aload_n hx hb dL_law_149 rfl (lv_at hl 5 rfl) ?_
    refine lv_iconst (v := nI 0) hx hb dL_law_150 (by decide) ?_
    refine la_ld hx hb hK hI 7 rfl dL_law_151 ?_
    refine lv_iload hx hb dL_law_152 (lv_at hl 0 rfl) ?_
    refine lv_i2l (v := (nI (t + 1)).toInt64) hx hb dL_law_154 rfl ?_
    refine W.lcmp hx hb dL_law_155 ?_
    refine lv_if_eq (tgt := 161) hx hb dL_law_156 (by decide) (fun _ => ?_) (fun q9 => absurd (lg_eq (hv)) q9)
    refine lv_goto (tgt := 1124) hx hb dL_law_161 (by decide) ?_
    refine W.widen (k := 15 + j) (n := 16174 + 6 * j) (by omega) (by omega) ?_
    exact KT (tkS S t) (t + 1) w0 q (u.1) (u.2.1) rb wo fn (u.2.2) (u2.1) (u2.2) kt kv wa (nI 0) ch ⟨by omega, hA2, hR2, hM2, hw, hq1, hq2⟩ H locs hI ls (lv_sub hl [2, 3, 4, 5, 6] rfl)
  · refine lv_aload_n hx hb dL_law_120 rfl (lv_at hl 1 rfl) ?_
    refine lv_aload_n hx hb dL_law_121 rfl (lv_at hl 3 rfl) ?_
    refine k_tri (run_h (As := [.ref (a 0), .ref (oa)]) (rest := []) hF hK hKx hZ hI (c_L_tick39 hst ht9) cf_L_tick k111 ⟨Nat.le_of_ble_eq_true rfl, Nat.le_of_ble_eq_true rfl⟩ ⟨rfl, rfl⟩ ⟨by show _ ≤ 1053; omega, by show _ ≤ 24450; omega⟩ rfl hl.1 rfl (Nat.le_of_ble_eq_true rfl) dL_law_122) hI (fun E ce q9 u hp => absurd hp id) (fun r u hp H locs hI => ?_)
    subst hp
    have hI : wi D z (Ar z) (cw a cI vals fil rb (nI t) wo (nI w0) fn (Xo oa cJ og (mw b cI cZ (nI t) th vs kt kv (nI w0) wa fn tr ch []))) s H locs := hI
    refine lv_istore (lv' := [(5, .int (nI 1)), (0, .ref (bs)), (1, .ref (a 0)), (2, .ref (b 0)), (3, .ref (oa)), (4, .int (nI (6 * j)))]) hx hb dL_law_125 hl (by decide) rfl (fun ls hl => ?_)
    refine lv_aload_n hx hb dL_law_127 rfl (lv_at hl 3 rfl) ?_
    have hJ : wi D z (Ar z) (mw b cI cZ (nI t) th vs kt kv (nI w0) wa fn tr ch (cw a cI vals fil rb (nI t) wo (nI w0) fn (Xo oa cJ og []))) s H locs := hI.ofP [8, 9, 10, 11, 12, 13, 0, 1, 2, 3, 4, 5, 6, 7] (by decide) rfl rfl
    refine k_mu (run_v (As := []) (rest := []) hF hK hJ (c_X3_tick39 ht9) cf_X3_tick k458 0 3 rfl rfl ⟨Nat.le_of_ble_eq_true rfl, Nat.le_of_ble_eq_true rfl⟩ ⟨rfl, rfl⟩ ⟨by show _ ≤ 1053; omega, by show _ ≤ 24450; omega⟩ rfl hl.1 rfl (Nat.le_of_ble_eq_true rfl) dL_law_128) hJ (fun r2 u2 hp2 H locs hJ => ?_)
    have hJ : wi D z (Ar z) (mw b cI cZ (nI t) th vs kt kv (nI w0) wa fn (nI 1) ch (cw a cI vals fil rb (nI t) wo (nI w0) fn (Xo oa cJ og []))) s H locs := hJ
    have hI : wi D z (Ar z) (cw a cI vals fil rb (nI t) wo (nI w0) fn (Xo oa cJ og (mw b cI cZ (nI t) th vs kt kv (nI w0) wa fn (nI 1) ch []))) s H locs := hJ.ofP [6, 7, 8, 9, 10, 11, 12, 13, 0, 1, 2, 3, 4, 5] (by decide) rfl rfl
    refine lv_istore (lv' := [(6, .int (r2)), (5, .int (nI 1)), (0, .ref (bs)), (1, .ref (a 0)), (2, .ref (b 0)), (3, .ref (oa)), (4, .int (nI (6 * j)))]) hx hb dL_law_131 hl (by decide) rfl (fun ls hl => ?_)
    refine lv_aload_n hx hb dL_law_133 rfl (lv_at hl 4 rfl) ?_
    have hJ : wi D z (Ar z) (mw b cI cZ (nI t) th vs kt kv (nI w0) wa fn (nI 1) ch (cw a cI vals fil rb (nI t) wo (nI w0) fn (Xo oa cJ og []))) s H locs := hI.ofP [8, 9, 10, 11, 12, 13, 0, 1, 2, 3, 4, 5, 6, 7] (by decide) rfl rfl
    refine k_ro (run_v (As := []) (rest := []) hF hK hJ c_X3_thrown cf_X3_thrown k454 0 3 rfl rfl ⟨Nat.le_of_ble_eq_true rfl, Nat.le_of_ble_eq_true rfl⟩ ⟨rfl, rfl⟩ ⟨by show _ ≤ 1053; omega, by show _ ≤ 24450; omega⟩ rfl hl.1 rfl (Nat.le_of_ble_eq_true rfl) dL_law_134) hJ (fun H locs hJ => ?_)
    have hJ : wi D z (Ar z) (mw b cI cZ (nI t) th vs kt kv (nI w0) wa fn (nI 1) ch (cw a cI vals fil rb (nI t) wo (nI w0) fn (Xo oa cJ og []))) s H locs := hJ
    have hI : wi D z (Ar z) (cw a cI vals fil rb (nI t) wo (nI w0) fn (Xo oa cJ og (mw b cI cZ (nI t) th vs kt kv (nI w0) wa fn (nI 1) ch []))) s H locs := hJ.ofP [6, 7, 8, 9, 10, 11, 12, 13, 0, 1, 2, 3, 4, 5] (by decide) rfl rfl
    refine lv_iload hx hb dL_law_137 (lv_at hl 1 rfl) ?_
    refine lv_icmp_eq (tgt := 144) hx hb dL_law_139 (by decide) (fun _ => ?_) (fun q9 => absurd rfl q9)
    refine lv_iload hx hb dL_law_144 (lv_at hl 1 rfl) ?_
    refine lv_if_ne (tgt := 161) hx hb dL_law_146 (by decide) (fun _ => ?_) (fun q => absurd q (by decide))
    refine lv_goto (tgt := 1124) hx hb dL_law_161 (by decide) ?_
    refine W.widen (k := 15 + j) (n := 16174 + 6 * j) (by omega) (by omega) ?_
    exact KT S t w0 q vals fil rb wo fn og th vs kt kv wa (nI 1) ch ⟨ht, hA, hR, hM, hw, hq1, hq2⟩ H locs hI ls (lv_sub hl [2, 3, 4, 5, 6] rfl)
