set_option maxHeartbeats 4000000 in
set_option maxRecDepth 100000 in
theorem c_X0_maskOf {l : Launch} {fr to : Nat} (h1 : fr < to) (h2 : to ≤ 32)  : roM l yX0_maskOf cX0_maskOf 2 (some .int) 0 0 [.int (nI fr), .int (nI to)] (fun _ => True) (mk fr to) := by
  refine bd_ro (by decide) (Nat.le_of_ble_eq_true rfl) ?_
  intro p e s m args below meth c Q hF hpw hret ls hl
  obtain ⟨hx, hb, hml, hown, hts, hr, hlocks⟩ := id hF
  have hI : va_S noA s.heap s.heap [] := va_S.rf
  have hl : lv_has ls 2 [(0, .int (nI fr)), (1, .int (nI to))] := hl
  suffices hgo : ∀ (H : Heap) (locs : List Loc), va_S noA s.heap H locs → ∀ ls : Array Slot, lv_has ls 2 [(0, .int (nI fr)), (1, .int (nI to))] → W p l e (rmv 0 0) s m args below meth c H locs 0 0 Q (F0 m 0 ls []) from hgo _ _ hI ls hl
  intro H locs hI ls hl
  refine lv_iconst (v := (-1 : Int32)) hx hb dX0_maskOf_0 (by decide) ?_
  refine lv_iload_n hx hb dX0_maskOf_1 rfl (lv_at hl 0 rfl) ?_
  refine lv_ishl hx hb dX0_maskOf_2 ?_
  refine lv_iconst (v := (-1 : Int32)) hx hb dX0_maskOf_3 (by decide) ?_
  refine lv_bipush (v := nI 32) hx hb dX0_maskOf_4 (by decide) ?_
  refine lv_iload_n hx hb dX0_maskOf_6 rfl (lv_at hl 1 rfl) ?_
  refine lv_isub hx hb dX0_maskOf_7 ?_
  refine tp (pk_sub (by omega)) ?_
  refine lv_iushr (v := (((-1 : Int32)).toUInt32 >>> ((nI (32 - to)).toUInt32 &&& Int32.toUInt32 31)).toInt32) hx hb dX0_maskOf_8 rfl ?_
  refine lv_iand hx hb dX0_maskOf_9 ?_
  exact hret hI dX0_maskOf_10 (rfl)
set_option maxHeartbeats 4000000 in
set_option maxRecDepth 100000 in
theorem c_X0_copyState {l : Launch} {D : va_G} {cI cZ cJ : ClassId} {z : Nat} {a : Nat → Nat} {X : va_W} {vals fil rb : Nat → Int32} {t : Nat} {wo : Nat → Int32} {cnt fn : Int32} {x y : Nat} (h1 : x ≤ 40) (h2 : y ≤ 40)  : mvM (S := Unit) l yX0_copyState cX0_copyState 3 1 18 [.ref (a 1), .int (nI x), .int (nI y)] (pw D cI cZ cJ z (cw a cI vals fil rb (nI t) wo cnt fn X)) D z (fun _ => cw a cI (va_cpy vals vals (x * 4 * 32) (y * 4 * 32) 128) (va_cpy fil fil (x * 4) (y * 4) 4) rb (nI t) wo cnt fn X) (fun _ => True) := by
  refine bd_mv (by decide) (Nat.le_of_ble_eq_true rfl) ?_
  intro p e s m args below meth c Q hF hpw hret ls hl
  obtain ⟨hx, hb, hml, hown, hts, hr, hlocks⟩ := id hF
  have hK := hpw.2.2.2
  have hI : wi D z (Ar z) (cw a cI vals fil rb (nI t) wo cnt fn X) s s.heap [] := hpw.wi
  have hl : lv_has ls 3 [(0, .ref (a 1)), (1, .int (nI x)), (2, .int (nI y))] := hl
  suffices hgo : ∀ (H : Heap) (locs : List Loc), wi D z (Ar z) (cw a cI vals fil rb (nI t) wo cnt fn X) s H locs → ∀ ls : Array Slot, lv_has ls 3 [(0, .ref (a 1)), (1, .int (nI x)), (2, .int (nI y))] → W p l e (rmv 1 18) s m args below meth c H locs 0 0 Q (F0 m 0 ls []) from hgo _ _ hI ls hl
  intro H locs hI ls hl
  refine lv_aload_n hx hb dX0_copyState_0 rfl (lv_at hl 0 rfl) ?_
  refine va_get (D := D) (ci := 0) (v := .ref (a 2)) (C := RX0) (T := TX0) (N := 4) hx hb hts inX0 hown hK.1 hI.2.1 1 rfl rfl 0 (by decide) (hts _ k27) (fun _ h9 => h9) rfl dX0_copyState_1 ?_
  refine lv_iload_n hx hb dX0_copyState_4 rfl (lv_at hl 1 rfl) ?_
  refine lv_iconst (v := nI 4) hx hb dX0_copyState_5 (by decide) ?_
  refine lv_imul hx hb dX0_copyState_6 ?_
  refine tp (pk_mul _ _) ?_
  refine lv_bipush (v := nI 32) hx hb dX0_copyState_7 (by decide) ?_
  refine lv_imul hx hb dX0_copyState_9 ?_
  refine tp (pk_mul _ _) ?_
  refine lv_aload_n hx hb dX0_copyState_10 rfl (lv_at hl 0 rfl) ?_
  refine va_get (D := D) (ci := 0) (v := .ref (a 2)) (C := RX0) (T := TX0) (N := 4) hx hb hts inX0 hown hK.1 hI.2.1 1 rfl rfl 0 (by decide) (hts _ k27) (fun _ h9 => h9) rfl dX0_copyState_11 ?_
  refine lv_iload_n hx hb dX0_copyState_14 rfl (lv_at hl 2 rfl) ?_
  refine lv_iconst (v := nI 4) hx hb dX0_copyState_15 (by decide) ?_
  refine lv_imul hx hb dX0_copyState_16 ?_
  refine tp (pk_mul _ _) ?_
  refine lv_bipush (v := nI 32) hx hb dX0_copyState_17 (by decide) ?_
  refine lv_imul hx hb dX0_copyState_19 ?_
  refine tp (pk_mul _ _) ?_
  refine lv_sipush (v := nI 128) hx hb dX0_copyState_20 (by decide) ?_
  refine cp_i (rest := []) hF hl.1 hK hI 2 rfl k191 k193 k192 k9 dX0_copyState_23 (Nat.le_of_ble_eq_true rfl) (Nat.le_of_ble_eq_true rfl) (by omega) (by omega) (by decide) (fun H locs hI => ?_)
  have hI : wi D z (Ar z) (cw a cI (va_cpy vals vals ((x * 4) * 32) ((y * 4) * 32) 128) fil rb (nI t) wo cnt fn X) s H locs := hI
  refine lv_aload_n hx hb dX0_copyState_26 rfl (lv_at hl 0 rfl) ?_
  refine va_get (D := D) (ci := 0) (v := .ref (a 3)) (C := RX0) (T := TX0) (N := 4) hx hb hts inX0 hown hK.1 hI.2.1 1 rfl rfl 1 (by decide) (hts _ k28) (fun _ h9 => h9) rfl dX0_copyState_27 ?_
  refine lv_iload_n hx hb dX0_copyState_30 rfl (lv_at hl 1 rfl) ?_
  refine lv_iconst (v := nI 4) hx hb dX0_copyState_31 (by decide) ?_
  refine lv_imul hx hb dX0_copyState_32 ?_
  refine tp (pk_mul _ _) ?_
  refine lv_aload_n hx hb dX0_copyState_33 rfl (lv_at hl 0 rfl) ?_
  refine va_get (D := D) (ci := 0) (v := .ref (a 3)) (C := RX0) (T := TX0) (N := 4) hx hb hts inX0 hown hK.1 hI.2.1 1 rfl rfl 1 (by decide) (hts _ k28) (fun _ h9 => h9) rfl dX0_copyState_34 ?_
  refine lv_iload_n hx hb dX0_copyState_37 rfl (lv_at hl 2 rfl) ?_
  refine lv_iconst (v := nI 4) hx hb dX0_copyState_38 (by decide) ?_
  refine lv_imul hx hb dX0_copyState_39 ?_
  refine tp (pk_mul _ _) ?_
  refine lv_iconst (v := nI 4) hx hb dX0_copyState_40 (by decide) ?_
  refine cp_i (rest := []) hF hl.1 hK hI 3 rfl k191 k193 k192 k9 dX0_copyState_41 (Nat.le_of_ble_eq_true rfl) (Nat.le_of_ble_eq_true rfl) (by omega) (by omega) (by decide) (fun H locs hI => ?_)
  have hI : wi D z (Ar z) (cw a cI (va_cpy vals vals ((x * 4) * 32) ((y * 4) * 32) 128) (va_cpy fil fil (x * 4) (y * 4) 4) rb (nI t) wo cnt fn X) s H locs := hI
  exact hret () hI dX0_copyState_44 trivial
set_option maxHeartbeats 4000000 in
set_option maxRecDepth 100000 in
theorem c_X0_goOn {l : Launch} {D : va_G} {cI cZ cJ : ClassId} {z : Nat} {a : Nat → Nat} {X : va_W} {vals fil rb : Nat → Int32} {t : Nat} {wo : Nat → Int32} {cnt fn : Int32} (ht : t < 39)  : mvM (S := Unit) l yX0_goOn cX0_goOn 1 2 40 [.ref (a 1)] (pw D cI cZ cJ z (cw a cI vals fil rb (nI t) wo cnt fn X)) D z (fun _ => cw a cI (va_cpy vals vals (t * 4 * 32) ((t + 1) * 4 * 32) 128) (va_cpy fil fil (t * 4) ((t + 1) * 4) 4) rb (nI (t + 1)) wo cnt fn X) (fun _ => True) := by
  refine bd_mv (by decide) (Nat.le_of_ble_eq_true rfl) ?_
  intro p e s m args below meth c Q hF hpw hret ls hl
  obtain ⟨hx, hb, hml, hown, hts, hr, hlocks⟩ := id hF
  have hK := hpw.2.2.2
  have hI : wi D z (Ar z) (cw a cI vals fil rb (nI t) wo cnt fn X) s s.heap [] := hpw.wi
  have hl : lv_has ls 1 [(0, .ref (a 1))] := hl
  suffices hgo : ∀ (H : Heap) (locs : List Loc), wi D z (Ar z) (cw a cI vals fil rb (nI t) wo cnt fn X) s H locs → ∀ ls : Array Slot, lv_has ls 1 [(0, .ref (a 1))] → W p l e (rmv 2 40) s m args below meth c H locs 0 0 Q (F0 m 0 ls []) from hgo _ _ hI ls hl
  intro H locs hI ls hl
  refine lv_aload_n hx hb dX0_goOn_0 rfl (lv_at hl 0 rfl) ?_
  refine lv_aload_n hx hb dX0_goOn_1 rfl (lv_at hl 0 rfl) ?_
  refine va_get (D := D) (ci := 0) (v := .int (nI t)) (C := RX0) (T := TX0) (N := 4) hx hb hts inX0 hown hK.1 hI.2.1 1 rfl rfl 3 (by decide) (hts _ k30) (fun _ h9 => h9) rfl dX0_goOn_2 ?_
  refine lv_aload_n hx hb dX0_goOn_5 rfl (lv_at hl 0 rfl) ?_
  refine va_get (D := D) (ci := 0) (v := .int (nI t)) (C := RX0) (T := TX0) (N := 4) hx hb hts inX0 hown hK.1 hI.2.1 1 rfl rfl 3 (by decide) (hts _ k30) (fun _ h9 => h9) rfl dX0_goOn_6 ?_
  refine lv_iconst (v := nI 1) hx hb dX0_goOn_9 (by decide) ?_
  refine lv_iadd hx hb dX0_goOn_10 ?_
  refine tp (nI_add _ _) ?_
  refine k_mv (run_v (As := [.int (nI t), .int (nI (t + 1))]) (rest := []) hF hK hI (c_X0_copyState (by omega) (by omega)) cf_X0_copyState k187 1 0 rfl rfl ⟨Nat.le_of_ble_eq_true rfl, Nat.le_of_ble_eq_true rfl⟩ ⟨rfl, rfl⟩ ⟨Nat.le_of_ble_eq_true rfl, Nat.le_of_ble_eq_true rfl⟩ rfl hl.1 rfl (Nat.le_of_ble_eq_true rfl) dX0_goOn_11) hI (fun u11 hp11 H locs hI => ?_)
  have hI : wi D z (Ar z) (cw a cI (va_cpy vals vals (t * 4 * 32) ((t + 1) * 4 * 32) 128) (va_cpy fil fil (t * 4) ((t + 1) * 4) 4) rb (nI t) wo cnt fn X) s H locs := hI
  refine lv_aload_n hx hb dX0_goOn_14 rfl (lv_at hl 0 rfl) ?_
  refine lv_dup hx hb dX0_goOn_15 rfl ?_
  refine va_get (D := D) (ci := 0) (v := .int (nI t)) (C := RX0) (T := TX0) (N := 4) hx hb hts inX0 hown hK.1 hI.2.1 1 rfl rfl 3 (by decide) (hts _ k30) (fun _ h9 => h9) rfl dX0_goOn_16 ?_
  refine lv_iconst (v := nI 1) hx hb dX0_goOn_19 (by decide) ?_
  refine lv_iadd hx hb dX0_goOn_20 ?_
  refine tp (nI_add _ _) ?_
  refine va_put (D := D) (ci := 0) (v := .int (nI (t + 1))) (ty := .int) (C := RX0) (T := TX0) (N := 4) hx hb hts inX0 tyX0 tyX0_ok nmX0 hown hK.1 hI.2.1 hI.2.2.1 hI.2.2.2 1 rfl rfl 3 (by decide) (hts _ k30) (fun _ h9 => h9) rfl (by decide +kernel) rfl rfl (Nat.le_of_ble_eq_true rfl) dX0_goOn_21 (fun H locs hP hD hS => ?_)
  have hI : wi D z (Ar z) (cw a cI (va_cpy vals vals (t * 4 * 32) ((t + 1) * 4 * 32) 128) (va_cpy fil fil (t * 4) ((t + 1) * 4) 4) rb (nI (t + 1)) wo cnt fn X) s H locs := ⟨hI.1, hP, hD, hS⟩
  exact hret () hI dX0_goOn_24 trivial
set_option maxHeartbeats 4000000 in
set_option maxRecDepth 100000 in
theorem c_X0_save {l : Launch} {D : va_G} {cI cZ cJ : ClassId} {z : Nat} {a : Nat → Nat} {X : va_W} {vals fil rb : Nat → Int32} {t : Nat} {wo : Nat → Int32} {cnt fn : Int32} (ht : t < 40)  : mvM (S := Unit) l yX0_save cX0_save 1 2 40 [.ref (a 1)] (pw D cI cZ cJ z (cw a cI vals fil rb (nI t) wo cnt fn X)) D z (fun _ => cw a cI (va_cpy vals vals (t * 4 * 32) (40 * 4 * 32) 128) (va_cpy fil fil (t * 4) (40 * 4) 4) rb (nI t) wo cnt fn X) (fun _ => True) := by
  refine bd_mv (by decide) (Nat.le_of_ble_eq_true rfl) ?_
  intro p e s m args below meth c Q hF hpw hret ls hl
  obtain ⟨hx, hb, hml, hown, hts, hr, hlocks⟩ := id hF
  have hK := hpw.2.2.2
  have hI : wi D z (Ar z) (cw a cI vals fil rb (nI t) wo cnt fn X) s s.heap [] := hpw.wi
  have hl : lv_has ls 1 [(0, .ref (a 1))] := hl
  suffices hgo : ∀ (H : Heap) (locs : List Loc), wi D z (Ar z) (cw a cI vals fil rb (nI t) wo cnt fn X) s H locs → ∀ ls : Array Slot, lv_has ls 1 [(0, .ref (a 1))] → W p l e (rmv 2 40) s m args below meth c H locs 0 0 Q (F0 m 0 ls []) from hgo _ _ hI ls hl
  intro H locs hI ls hl
  refine lv_aload_n hx hb dX0_save_0 rfl (lv_at hl 0 rfl) ?_
  refine lv_aload_n hx hb dX0_save_1 rfl (lv_at hl 0 rfl) ?_
  refine va_get (D := D) (ci := 0) (v := .int (nI t)) (C := RX0) (T := TX0) (N := 4) hx hb hts inX0 hown hK.1 hI.2.1 1 rfl rfl 3 (by decide) (hts _ k30) (fun _ h9 => h9) rfl dX0_save_2 ?_
  refine lv_bipush (v := nI 40) hx hb dX0_save_5 (by decide) ?_
  refine k_mv (run_v (As := [.int (nI t), .int (nI 40)]) (rest := []) hF hK hI (c_X0_copyState (by omega) (by omega)) cf_X0_copyState k187 1 0 rfl rfl ⟨Nat.le_of_ble_eq_true rfl, Nat.le_of_ble_eq_true rfl⟩ ⟨rfl, rfl⟩ ⟨Nat.le_of_ble_eq_true rfl, Nat.le_of_ble_eq_true rfl⟩ rfl hl.1 rfl (Nat.le_of_ble_eq_true rfl) dX0_save_7) hI (fun u7 hp7 H locs hI => ?_)
  have hI : wi D z (Ar z) (cw a cI (va_cpy vals vals (t * 4 * 32) (40 * 4 * 32) 128) (va_cpy fil fil (t * 4) (40 * 4) 4) rb (nI t) wo cnt fn X) s H locs := hI
  exact hret () hI dX0_save_10 trivial
set_option maxHeartbeats 4000000 in
set_option maxRecDepth 100000 in
theorem c_X0_recountRows {l : Launch} {D : va_G} {cI cZ cJ : ClassId} {z : Nat} {a : Nat → Nat} {X : va_W} {vals fil rb : Nat → Int32} {t : Nat} {wo : Nat → Int32} {cnt fn : Int32} {S : Sta} (hA : cAbs S vals fil t) (ht : t < 40) {ky : Nat} (h3 : ky < 4) : mvM (S := Unit) l yX0_recountRows cX0_recountRows 5 4 91 [.ref (a 1), .int (nI ky)] (pw D cI cZ cJ z (cw a cI vals fil rb (nI t) wo cnt fn X)) D z (fun _ => cw a cI vals fil (upd rb (t * 4 + ky) (nI (rowsIn S (t * 4 + ky)))) (nI t) wo cnt fn X) (fun _ => True) := by
  refine bd_mv (by decide) (Nat.le_of_ble_eq_true rfl) ?_
  intro p e s m args below meth c Q hF hpw hret ls hl
  obtain ⟨hx, hb, hml, hown, hts, hr, hlocks⟩ := id hF
  have hK := hpw.2.2.2
  have hI : wi D z (Ar z) (cw a cI vals fil rb (nI t) wo cnt fn X) s s.heap [] := hpw.wi
  have hl : lv_has ls 5 [(0, .ref (a 1)), (1, .int (nI ky))] := hl
  suffices hgo : ∀ (H : Heap) (locs : List Loc), wi D z (Ar z) (cw a cI vals fil rb (nI t) wo cnt fn X) s H locs → ∀ ls : Array Slot, lv_has ls 5 [(0, .ref (a 1)), (1, .int (nI ky))] → W p l e (rmv 4 91) s m args below meth c H locs 0 0 Q (F0 m 0 ls []) from hgo _ _ hI ls hl
  intro H locs hI ls hl
  refine lv_aload_n hx hb dX0_recountRows_0 rfl (lv_at hl 0 rfl) ?_
  refine va_get (D := D) (ci := 0) (v := .int (nI t)) (C := RX0) (T := TX0) (N := 4) hx hb hts inX0 hown hK.1 hI.2.1 1 rfl rfl 3 (by decide) (hts _ k30) (fun _ h9 => h9) rfl dX0_recountRows_1 ?_
  refine lv_iload_n hx hb dX0_recountRows_4 rfl (lv_at hl 1 rfl) ?_
  refine k_ro (run_n (As := [.int (nI t), .int (nI ky)]) (rest := []) hF (c_X2_slotOf ) tt_blind (fun _ _ _ => trivial) cf_X2_slotOf hK.2.2.2.2.2.1 ⟨Nat.le_of_ble_eq_true rfl, Nat.le_of_ble_eq_true rfl⟩ ⟨rfl, rfl⟩ ⟨Nat.le_of_ble_eq_true rfl, Nat.le_of_ble_eq_true rfl⟩ rfl hl.1 rfl (Nat.le_of_ble_eq_true rfl) dX0_recountRows_5) hI (fun H locs hI => ?_)
  refine lv_istore_n (lv' := [(2, .int (nI (t * 4 + ky))), (0, .ref (a 1)), (1, .int (nI ky))]) hx hb dX0_recountRows_8 rfl hl (by decide) rfl (fun ls hl => ?_)
  refine lv_iconst (v := nI 0) hx hb dX0_recountRows_9 (by decide) ?_
  refine lv_istore_n (lv' := [(3, .int (nI 0)), (2, .int (nI (t * 4 + ky))), (0, .ref (a 1)), (1, .int (nI ky))]) hx hb dX0_recountRows_10 rfl hl (by decide) rfl (fun ls hl => ?_)
  refine lv_iconst (v := nI 0) hx hb dX0_recountRows_11 (by decide) ?_
  refine lv_istore (lv' := [(4, .int (nI 0)), (3, .int (nI 0)), (2, .int (nI (t * 4 + ky))), (0, .ref (a 1)), (1, .int (nI ky))]) hx hb dX0_recountRows_12 hl (by decide) rfl (fun ls hl => ?_)
  have J14 : ∀ (n14_ : Nat) (dy : Nat) (n3 : Nat) (hd : dy ≤ 32) (hn : n3 = fb_ct (isRw S (t * 4 + ky)) dy) (hm14 : 32 < dy + n14_) (H : Heap) (locs : List Loc), wi D z (Ar z) (cw a cI vals fil rb (nI t) wo cnt fn X) s H locs → ∀ ls : Array Slot, lv_has ls 5 [(0, .ref (a 1)), (1, .int (nI ky)), (2, .int (nI (t * 4 + ky))), (3, .int (nI n3)), (4, .int (nI dy))] → W p l e (rmv 4 91) s m args below meth c H locs 0 0 Q (F0 m 14 ls []) := by
    intro n14_
    induction n14_ with
    | zero => intro dy n3 hd hn hm14; exact absurd hm14 (by omega)
    | succ n14_ ih14 =>
      intro dy n3 hd hn hm14 H locs hI ls hl
      refine lv_iload hx hb dX0_recountRows_14 (lv_at hl 4 rfl) ?_
      refine lv_bipush (v := nI 32) hx hb dX0_recountRows_16 (by decide) ?_
      refine nb_ge (tgt := 40) hx hb dX0_recountRows_18 (by decide) (by omega) (by omega) (fun c18 => ?_) (fun c18 => ?_)
      · refine lv_aload_n hx hb dX0_recountRows_40 rfl (lv_at hl 0 rfl) ?_
        refine va_get (D := D) (ci := 0) (v := .ref (a 4)) (C := RX0) (T := TX0) (N := 4) hx hb hts inX0 hown hK.1 hI.2.1 1 rfl rfl 2 (by decide) (hts _ k29) (fun _ h9 => h9) rfl dX0_recountRows_41 ?_
        refine lv_iload_n hx hb dX0_recountRows_44 rfl (lv_at hl 2 rfl) ?_
        refine lv_iload_n hx hb dX0_recountRows_45 rfl (lv_at hl 3 rfl) ?_
        have e7 : n3 = rowsIn S (t * 4 + ky) := by rw [hn, show dy = 32 by omega]; rfl
        subst e7
        refine ia_st (f := rb) (k := t * 4 + ky) hx hb hK hI 4 rfl dX0_recountRows_46 (by omega) (by decide) (fun H locs hI => ?_)
        have hI : wi D z (Ar z) (cw a cI vals fil (upd rb (t * 4 + ky) (nI (rowsIn S (t * 4 + ky)))) (nI t) wo cnt fn X) s H locs := hI
        exact hret () hI dX0_recountRows_47 trivial
      · refine lv_aload_n hx hb dX0_recountRows_21 rfl (lv_at hl 0 rfl) ?_
        refine lv_iload_n hx hb dX0_recountRows_22 rfl (lv_at hl 2 rfl) ?_
        refine lv_iload hx hb dX0_recountRows_23 (lv_at hl 4 rfl) ?_
        refine k_ro (run_v (As := [.int (nI (t * 4 + ky)), .int (nI dy)]) (rest := []) hF hK hI (c_X0_startsRow hA ht (by omega) (by omega)) cf_X0_startsRow k228 1 0 rfl rfl ⟨Nat.le_of_ble_eq_true rfl, Nat.le_of_ble_eq_true rfl⟩ ⟨rfl, rfl⟩ ⟨Nat.le_of_ble_eq_true rfl, Nat.le_of_ble_eq_true rfl⟩ rfl hl.1 rfl (Nat.le_of_ble_eq_true rfl) dX0_recountRows_25) hI (fun H locs hI => ?_)
        refine bz_eq (tgt := 34) hx hb dX0_recountRows_28 (by decide) (fun c28 => ?_) (fun c28 => ?_)
        · refine lv_iinc (v := nI (dy + 1)) (lv' := [(4, .int (nI (dy + 1))), (0, .ref (a 1)), (1, .int (nI ky)), (2, .int (nI (t * 4 + ky))), (3, .int (nI n3))]) hx hb dX0_recountRows_34 hl (k := 4) rfl (inc_n _ 1) (by decide) rfl (fun ls hl => ?_)
          refine lv_goto (tgt := 14) hx hb dX0_recountRows_37 (by decide) ?_
          exact ih14 (dy + 1) n3 (by omega) (by rw [fb_ct_succ, hn, c28]; rfl) (by omega) H locs hI ls (lv_sub hl [1, 2, 3, 4, 0] rfl)
        · refine lv_iinc (v := nI (n3 + 1)) (lv' := [(3, .int (nI (n3 + 1))), (0, .ref (a 1)), (1, .int (nI ky)), (2, .int (nI (t * 4 + ky))), (4, .int (nI dy))]) hx hb dX0_recountRows_31 hl (k := 3) rfl (inc_n _ 1) (by decide) rfl (fun ls hl => ?_)
          refine lv_iinc (v := nI (dy + 1)) (lv' := [(4, .int (nI (dy + 1))), (3, .int (nI (n3 + 1))), (0, .ref (a 1)), (1, .int (nI ky)), (2, .int (nI (t * 4 + ky)))]) hx hb dX0_recountRows_34 hl (k := 4) rfl (inc_n _ 1) (by decide) rfl (fun ls hl => ?_)
          refine lv_goto (tgt := 14) hx hb dX0_recountRows_37 (by decide) ?_
          exact ih14 (dy + 1) (n3 + 1) (by omega) (by rw [fb_ct_succ, hn, c28]; rfl) (by omega) H locs hI ls (lv_sub hl [2, 3, 4, 1, 0] rfl)
  exact J14 (32 + 1) 0 0 (by omega) rfl (by omega) H locs hI ls (lv_sub hl [3, 4, 2, 1, 0] rfl)
set_option maxHeartbeats 4000000 in
set_option maxRecDepth 100000 in
theorem c_X0_restore {l : Launch} {D : va_G} {cI cZ cJ : ClassId} {z : Nat} {a : Nat → Nat} {X : va_W} {vals fil rb : Nat → Int32} {t : Nat} {wo : Nat → Int32} {cnt fn : Int32} {S : Sta} {v0 f0 : Nat → Int32} (ht : t < 40) (hA : cAbs S v0 f0 t) (hf : fr2 t v0 f0 vals fil) (hs1 : ∀ i, i < 128 → vals (5120 + i) = v0 (128 * t + i)) (hs2 : ∀ i, i < 4 → fil (160 + i) = f0 (4 * t + i)) {rb0 : Nat → Int32} (hR : rOk S rb0 t) (hfr : frb t rb0 rb) : mvM (S := (Nat → Int32) × (Nat → Int32) × (Nat → Int32)) l yX0_restore cX0_restore 2 5 115 [.ref (a 1)] (pw D cI cZ cJ z (cw a cI vals fil rb (nI t) wo cnt fn X)) D z (fun u => cw a cI (u.1) (u.2.1) (u.2.2) (nI t) wo cnt fn X) (fun u => cAbs S u.1 u.2.1 t ∧ rOk S u.2.2 t) := by
  refine bd_mv (by decide) (Nat.le_of_ble_eq_true rfl) ?_
  intro p e s m args below meth c Q hF hpw hret ls hl
  obtain ⟨hx, hb, hml, hown, hts, hr, hlocks⟩ := id hF
  have hK := hpw.2.2.2
  have hI : wi D z (Ar z) (cw a cI vals fil rb (nI t) wo cnt fn X) s s.heap [] := hpw.wi
  have hl : lv_has ls 2 [(0, .ref (a 1))] := hl
  suffices hgo : ∀ (H : Heap) (locs : List Loc), wi D z (Ar z) (cw a cI vals fil rb (nI t) wo cnt fn X) s H locs → ∀ ls : Array Slot, lv_has ls 2 [(0, .ref (a 1))] → W p l e (rmv 5 115) s m args below meth c H locs 0 0 Q (F0 m 0 ls []) from hgo _ _ hI ls hl
  intro H locs hI ls hl
  refine lv_aload_n hx hb dX0_restore_0 rfl (lv_at hl 0 rfl) ?_
  refine lv_bipush (v := nI 40) hx hb dX0_restore_1 (by decide) ?_
  refine lv_aload_n hx hb dX0_restore_3 rfl (lv_at hl 0 rfl) ?_
  refine va_get (D := D) (ci := 0) (v := .int (nI t)) (C := RX0) (T := TX0) (N := 4) hx hb hts inX0 hown hK.1 hI.2.1 1 rfl rfl 3 (by decide) (hts _ k30) (fun _ h9 => h9) rfl dX0_restore_4 ?_
  refine k_mv (run_v (As := [.int (nI 40), .int (nI t)]) (rest := []) hF hK hI (c_X0_copyState (by omega) (by omega)) cf_X0_copyState k187 1 0 rfl rfl ⟨Nat.le_of_ble_eq_true rfl, Nat.le_of_ble_eq_true rfl⟩ ⟨rfl, rfl⟩ ⟨Nat.le_of_ble_eq_true rfl, Nat.le_of_ble_eq_true rfl⟩ rfl hl.1 rfl (Nat.le_of_ble_eq_true rfl) dX0_restore_7) hI (fun u7 hp7 H locs hI => ?_)
  have hI : wi D z (Ar z) (cw a cI (va_cpy vals vals (40 * 4 * 32) (t * 4 * 32) 128) (va_cpy fil fil (40 * 4) (t * 4) 4) rb (nI t) wo cnt fn X) s H locs := hI
  have hA2 := cAbs_back ht hA hf hs1 hs2
  generalize va_cpy vals vals (40 * 4 * 32) (t * 4 * 32) 128 = va at hI hA2
  generalize va_cpy fil fil (40 * 4) (t * 4) 4 = fi at hI hA2
  refine lv_iconst (v := nI 0) hx hb dX0_restore_10 (by decide) ?_
  refine lv_istore_n (lv' := [(1, .int (nI 0)), (0, .ref (a 1))]) hx hb dX0_restore_11 rfl hl (by decide) rfl (fun ls hl => ?_)
  have J12 : ∀ (n12_ : Nat) (y : Nat) (r2 : Nat → Int32) (hy : y ≤ 4) (hfr2 : frb t rb0 r2) (hr2 : ∀ k, k < y → r2 (t * 4 + k) = nI (rowsIn S (t * 4 + k))) (hm12 : 4 < y + n12_) (H : Heap) (locs : List Loc), wi D z (Ar z) (cw a cI va fi r2 (nI t) wo cnt fn X) s H locs → ∀ ls : Array Slot, lv_has ls 2 [(0, .ref (a 1)), (1, .int (nI y))] → W p l e (rmv 5 115) s m args below meth c H locs 0 0 Q (F0 m 12 ls []) := by
    intro n12_
    induction n12_ with
    | zero => intro y r2 hy hfr2 hr2 hm12; exact absurd hm12 (by omega)
    | succ n12_ ih12 =>
      intro y r2 hy hfr2 hr2 hm12 H locs hI ls hl
      refine lv_iload_n hx hb dX0_restore_12 rfl (lv_at hl 1 rfl) ?_
      refine lv_iconst (v := nI 4) hx hb dX0_restore_13 (by decide) ?_
      refine nb_ge (tgt := 28) hx hb dX0_restore_14 (by decide) (by omega) (by omega) (fun c14 => ?_) (fun c14 => ?_)
      · exact hret (va, fi, r2) hI dX0_restore_28 ⟨hA2, rOk_back hR hfr2 (fun k hk => hr2 k (by omega))⟩
      · refine lv_aload_n hx hb dX0_restore_17 rfl (lv_at hl 0 rfl) ?_
        refine lv_iload_n hx hb dX0_restore_18 rfl (lv_at hl 1 rfl) ?_
        refine k_mv (run_v (As := [.int (nI y)]) (rest := []) hF hK hI (c_X0_recountRows hA2 ht (by omega)) cf_X0_recountRows k224 1 0 rfl rfl ⟨Nat.le_of_ble_eq_true rfl, Nat.le_of_ble_eq_true rfl⟩ ⟨rfl, rfl⟩ ⟨Nat.le_of_ble_eq_true rfl, Nat.le_of_ble_eq_true rfl⟩ rfl hl.1 rfl (Nat.le_of_ble_eq_true rfl) dX0_restore_19) hI (fun u19 hp19 H locs hI => ?_)
        have hI : wi D z (Ar z) (cw a cI va fi (upd r2 (t * 4 + y) (nI (rowsIn S (t * 4 + y)))) (nI t) wo cnt fn X) s H locs := hI
        refine lv_iinc (v := nI (y + 1)) (lv' := [(1, .int (nI (y + 1))), (0, .ref (a 1))]) hx hb dX0_restore_22 hl (k := 1) rfl (inc_n _ 1) (by decide) rfl (fun ls hl => ?_)
        refine lv_goto (tgt := 12) hx hb dX0_restore_25 (by decide) ?_
        exact ih12 (y + 1) _ (by omega) (hfr2.upd (by omega) (by omega)) (rb_next hr2) (by omega) H locs hI ls (lv_sub hl [1, 0] rfl)
  exact J12 (4 + 1) 0 rb (by omega) hfr (fun k hk => absurd hk (by omega)) (by omega) H locs hI ls (lv_sub hl [1, 0] rfl)
set_option maxHeartbeats 4000000 in
set_option maxRecDepth 100000 in
theorem c_X0_changeDay {l : Launch} {D : va_G} {cI cZ cJ : ClassId} {z : Nat} {a : Nat → Nat} {X : va_W} {vals fil rb : Nat → Int32} {t : Nat} {wo : Nat → Int32} {cnt fn : Int32} {S : Sta} (hA : cAbs S vals fil t) (ht : t < 40) {sl dy kd : Nat} {v : Int32} {o : Option Int32} (h1 : sl < 4 * (t + 1)) (h2 : dy < 32) (h3 : kd ≤ 4) (ho : S sl dy = o) : muM (S := (Nat → Int32) × (Nat → Int32)) l yX0_changeDay cX0_changeDay 9 (some .boolean) 1 22 [.ref (a 1), .int (nI kd), .int (nI sl), .int (nI dy), .int (v)] (pw D cI cZ cJ z (cw a cI vals fil rb (nI t) wo cnt fn X)) D z (fun u => cw a cI (u.1) (u.2) rb (nI t) wo cnt fn X) (fun r u => r = bi (!(decide (nw kd v o = o))) ∧ cAbs (chg S sl kd v dy 1) u.1 u.2 t ∧ (∀ p, p ≠ sl * 32 + dy → u.1 p = vals p) ∧ (∀ x, x ≠ sl → u.2 x = fil x)) := by
  refine bd_mz (by decide) (Nat.le_of_ble_eq_true rfl) ?_
  intro p e s m args below meth c Q hF hpw hret ls hl
  obtain ⟨hx, hb, hml, hown, hts, hr, hlocks⟩ := id hF
  have hK := hpw.2.2.2
  have hI : wi D z (Ar z) (cw a cI vals fil rb (nI t) wo cnt fn X) s s.heap [] := hpw.wi
  have hl : lv_has ls 9 [(0, .ref (a 1)), (1, .int (nI kd)), (2, .int (nI sl)), (3, .int (nI dy)), (4, .int (v))] := hl
  suffices hgo : ∀ (H : Heap) (locs : List Loc), wi D z (Ar z) (cw a cI vals fil rb (nI t) wo cnt fn X) s H locs → ∀ ls : Array Slot, lv_has ls 9 [(0, .ref (a 1)), (1, .int (nI kd)), (2, .int (nI sl)), (3, .int (nI dy)), (4, .int (v))] → W p l e (rmv 1 22) s m args below meth c H locs 0 0 Q (F0 m 0 ls []) from hgo _ _ hI ls hl
  intro H locs hI ls hl
  refine lv_aload_n hx hb dX0_changeDay_0 rfl (lv_at hl 0 rfl) ?_
  refine lv_iload_n hx hb dX0_changeDay_1 rfl (lv_at hl 2 rfl) ?_
  refine lv_iload_n hx hb dX0_changeDay_2 rfl (lv_at hl 3 rfl) ?_
  refine k_ro (run_v (As := [.int (nI sl), .int (nI dy)]) (rest := []) hF hK hI (c_X0_isFilled hA ht (by omega) (by omega)) cf_X0_isFilled k223 1 0 rfl rfl ⟨Nat.le_of_ble_eq_true rfl, Nat.le_of_ble_eq_true rfl⟩ ⟨rfl, rfl⟩ ⟨Nat.le_of_ble_eq_true rfl, Nat.le_of_ble_eq_true rfl⟩ rfl hl.1 rfl (Nat.le_of_ble_eq_true rfl) dX0_changeDay_3) hI (fun H locs hI => ?_)
  refine lv_istore (lv' := [(5, .int (bi ((S sl dy).isSome))), (0, .ref (a 1)), (1, .int (nI kd)), (2, .int (nI sl)), (3, .int (nI dy)), (4, .int (v))]) hx hb dX0_changeDay_6 hl (by decide) rfl (fun ls hl => ?_)
  refine lv_iload hx hb dX0_changeDay_8 (lv_at hl 0 rfl) ?_
  refine bz_ne (tgt := 20) hx hb dX0_changeDay_10 (by decide) (fun c10 => ?_) (fun c10 => ?_)
  · refine lv_iload_n hx hb dX0_changeDay_20 rfl (lv_at hl 2 rfl) ?_
    refine lv_iconst (v := nI 4) hx hb dX0_changeDay_21 (by decide) ?_
    refine nb_ne (tgt := 41) hx hb dX0_changeDay_22 (by decide) (by omega) (by omega) (fun c22 => ?_) (fun c22 => ?_)
    · refine lv_iload_n hx hb dX0_changeDay_41 rfl (lv_at hl 3 rfl) ?_
      refine lv_bipush (v := nI 32) hx hb dX0_changeDay_42 (by decide) ?_
      refine lv_imul hx hb dX0_changeDay_44 ?_
      refine tp (pk_mul _ _) ?_
      refine lv_iload_n hx hb dX0_changeDay_45 rfl (lv_at hl 4 rfl) ?_
      refine lv_iadd hx hb dX0_changeDay_46 ?_
      refine tp (nI_add _ _) ?_
      refine lv_istore (lv' := [(6, .int (nI (sl * 32 + dy))), (5, .int (bi ((S sl dy).isSome))), (0, .ref (a 1)), (1, .int (nI kd)), (2, .int (nI sl)), (3, .int (nI dy)), (4, .int (v))]) hx hb dX0_changeDay_47 hl (by decide) rfl (fun ls hl => ?_)
      refine lv_iload_n hx hb dX0_changeDay_49 rfl (lv_at hl 3 rfl) ?_
      refine lv_iconst (v := nI 3) hx hb dX0_changeDay_50 (by decide) ?_
      refine nb_ne (tgt := 67) hx hb dX0_changeDay_51 (by decide) (by omega) (by omega) (fun c51 => ?_) (fun c51 => ?_)
      · refine lv_iload hx hb dX0_changeDay_67 (lv_at hl 6 rfl) ?_
        refine lv_istore (lv' := [(7, .int (v)), (6, .int (nI (sl * 32 + dy))), (5, .int (bi ((S sl dy).isSome))), (0, .ref (a 1)), (1, .int (nI kd)), (2, .int (nI sl)), (3, .int (nI dy)), (4, .int (v))]) hx hb dX0_changeDay_69 hl (by decide) rfl (fun ls hl => ?_)
        refine lv_iload hx hb dX0_changeDay_71 (lv_at hl 2 rfl) ?_
        refine bz_eq (tgt := 88) hx hb dX0_changeDay_73 (by decide) (fun c73 => ?_) (fun c73 => ?_)
        · refine lv_iconst (v := nI 1) hx hb dX0_changeDay_88 (by decide) ?_
          refine lv_goto (tgt := 93) hx hb dX0_changeDay_89 (by decide) ?_
          refine lv_istore (lv' := [(8, .int (nI 1)), (7, .int (v)), (6, .int (nI (sl * 32 + dy))), (5, .int (bi ((S sl dy).isSome))), (0, .ref (a 1)), (1, .int (nI kd)), (2, .int (nI sl)), (3, .int (nI dy)), (4, .int (v))]) hx hb dX0_changeDay_93 hl (by decide) rfl (fun ls hl => ?_)
          refine lv_aload_n hx hb dX0_changeDay_95 rfl (lv_at hl 4 rfl) ?_
          refine va_get (D := D) (ci := 0) (v := .ref (a 3)) (C := RX0) (T := TX0) (N := 4) hx hb hts inX0 hown hK.1 hI.2.1 1 rfl rfl 1 (by decide) (hts _ k28) (fun _ h9 => h9) rfl dX0_changeDay_96 ?_
          refine lv_iload_n hx hb dX0_changeDay_99 rfl (lv_at hl 6 rfl) ?_
          refine lv_dup2_11 hx hb dX0_changeDay_100 rfl rfl ?_
          refine ia_ld (f := fil) (k := sl) hx hb hK hI 3 rfl dX0_changeDay_101 (by omega) (by decide) ?_
          refine lv_iconst (v := nI 1) hx hb dX0_changeDay_102 (by decide) ?_
          refine lv_iload_n hx hb dX0_changeDay_103 rfl (lv_at hl 7 rfl) ?_
          refine lv_ishl hx hb dX0_changeDay_104 ?_
          refine lv_ior hx hb dX0_changeDay_105 ?_
          refine ia_st (f := fil) (k := sl) hx hb hK hI 3 rfl dX0_changeDay_106 (by omega) (by decide) (fun H locs hI => ?_)
          have hI : wi D z (Ar z) (cw a cI vals (upd fil sl ((fil sl) ||| ((nI 1) <<< (nI dy &&& 31)))) rb (nI t) wo cnt fn X) s H locs := hI
          refine lv_aload_n hx hb dX0_changeDay_107 rfl (lv_at hl 4 rfl) ?_
          refine va_get (D := D) (ci := 0) (v := .ref (a 2)) (C := RX0) (T := TX0) (N := 4) hx hb hts inX0 hown hK.1 hI.2.1 1 rfl rfl 0 (by decide) (hts _ k27) (fun _ h9 => h9) rfl dX0_changeDay_108 ?_
          refine lv_iload hx hb dX0_changeDay_111 (lv_at hl 2 rfl) ?_
          refine lv_iload hx hb dX0_changeDay_113 (lv_at hl 1 rfl) ?_
          refine ia_st (f := vals) (k := sl * 32 + dy) hx hb hK hI 2 rfl dX0_changeDay_115 (by omega) (by decide) (fun H locs hI => ?_)
          have hI : wi D z (Ar z) (cw a cI (upd vals (sl * 32 + dy) v) (upd fil sl ((fil sl) ||| ((nI 1) <<< (nI dy &&& 31)))) rb (nI t) wo cnt fn X) s H locs := hI
          have g9 := cd_3 (o := o) (v := v) hA h1 h2 ho h3 c22 (by first | exact Or.inl c10 | exact Or.inr (by omega))
          refine lv_iload hx hb dX0_changeDay_116 (lv_at hl 0 rfl) ?_
          exact hret (upd vals (sl * 32 + dy) (v), upd fil sl ((fil sl) ||| ((nI 1) <<< (nI dy &&& 31)))) (!(decide (nw kd v o = o))) hI dX0_changeDay_118 (by first | exact (bi_t (cd_t (by first | exact g9.1 c51 | exact g9.2.1 c51) g9.2.2.1 g9.2.2.2 (by first | exact Or.inl c73 | exact Or.inr c85))).symm | exact (bi_f (cd_f (by first | exact g9.1 c51 | exact g9.2.1 c51) g9.2.2.1 g9.2.2.2 c73 c85)).symm) ⟨rfl, cAbs_put hA h1 h2 (by rw [ho]; first | exact g9.1 c51 | exact g9.2.1 c51), fun _ hp2 => pk_un hp2, fun _ hx2 => pk_un hx2⟩
        · refine lv_aload_n hx hb dX0_changeDay_76 rfl (lv_at hl 3 rfl) ?_
          refine va_get (D := D) (ci := 0) (v := .ref (a 2)) (C := RX0) (T := TX0) (N := 4) hx hb hts inX0 hown hK.1 hI.2.1 1 rfl rfl 0 (by decide) (hts _ k27) (fun _ h9 => h9) rfl dX0_changeDay_77 ?_
          refine lv_iload hx hb dX0_changeDay_80 (lv_at hl 1 rfl) ?_
          refine ia_ld (f := vals) (k := sl * 32 + dy) hx hb hK hI 2 rfl dX0_changeDay_82 (by omega) (by decide) ?_
          refine lv_iload hx hb dX0_changeDay_83 (lv_at hl 0 rfl) ?_
          refine lv_icmp_eq (tgt := 92) hx hb dX0_changeDay_85 (by decide) (fun c85 => ?_) (fun c85 => ?_)
          · refine lv_iconst (v := nI 0) hx hb dX0_changeDay_92 (by decide) ?_
            refine lv_istore (lv' := [(8, .int (nI 0)), (7, .int (v)), (6, .int (nI (sl * 32 + dy))), (5, .int (bi ((S sl dy).isSome))), (0, .ref (a 1)), (1, .int (nI kd)), (2, .int (nI sl)), (3, .int (nI dy)), (4, .int (v))]) hx hb dX0_changeDay_93 hl (by decide) rfl (fun ls hl => ?_)
            refine lv_aload_n hx hb dX0_changeDay_95 rfl (lv_at hl 4 rfl) ?_
            refine va_get (D := D) (ci := 0) (v := .ref (a 3)) (C := RX0) (T := TX0) (N := 4) hx hb hts inX0 hown hK.1 hI.2.1 1 rfl rfl 1 (by decide) (hts _ k28) (fun _ h9 => h9) rfl dX0_changeDay_96 ?_
            refine lv_iload_n hx hb dX0_changeDay_99 rfl (lv_at hl 6 rfl) ?_
            refine lv_dup2_11 hx hb dX0_changeDay_100 rfl rfl ?_
            refine ia_ld (f := fil) (k := sl) hx hb hK hI 3 rfl dX0_changeDay_101 (by omega) (by decide) ?_
            refine lv_iconst (v := nI 1) hx hb dX0_changeDay_102 (by decide) ?_
            refine lv_iload_n hx hb dX0_changeDay_103 rfl (lv_at hl 7 rfl) ?_
            refine lv_ishl hx hb dX0_changeDay_104 ?_
            refine lv_ior hx hb dX0_changeDay_105 ?_
            refine ia_st (f := fil) (k := sl) hx hb hK hI 3 rfl dX0_changeDay_106 (by omega) (by decide) (fun H locs hI => ?_)
            have hI : wi D z (Ar z) (cw a cI vals (upd fil sl ((fil sl) ||| ((nI 1) <<< (nI dy &&& 31)))) rb (nI t) wo cnt fn X) s H locs := hI
            refine lv_aload_n hx hb dX0_changeDay_107 rfl (lv_at hl 4 rfl) ?_
            refine va_get (D := D) (ci := 0) (v := .ref (a 2)) (C := RX0) (T := TX0) (N := 4) hx hb hts inX0 hown hK.1 hI.2.1 1 rfl rfl 0 (by decide) (hts _ k27) (fun _ h9 => h9) rfl dX0_changeDay_108 ?_
            refine lv_iload hx hb dX0_changeDay_111 (lv_at hl 2 rfl) ?_
            refine lv_iload hx hb dX0_changeDay_113 (lv_at hl 1 rfl) ?_
            refine ia_st (f := vals) (k := sl * 32 + dy) hx hb hK hI 2 rfl dX0_changeDay_115 (by omega) (by decide) (fun H locs hI => ?_)
            have hI : wi D z (Ar z) (cw a cI (upd vals (sl * 32 + dy) v) (upd fil sl ((fil sl) ||| ((nI 1) <<< (nI dy &&& 31)))) rb (nI t) wo cnt fn X) s H locs := hI
            have g9 := cd_3 (o := o) (v := v) hA h1 h2 ho h3 c22 (by first | exact Or.inl c10 | exact Or.inr (by omega))
            refine lv_iload hx hb dX0_changeDay_116 (lv_at hl 0 rfl) ?_
            exact hret (upd vals (sl * 32 + dy) (v), upd fil sl ((fil sl) ||| ((nI 1) <<< (nI dy &&& 31)))) (!(decide (nw kd v o = o))) hI dX0_changeDay_118 (by first | exact (bi_t (cd_t (by first | exact g9.1 c51 | exact g9.2.1 c51) g9.2.2.1 g9.2.2.2 (by first | exact Or.inl c73 | exact Or.inr c85))).symm | exact (bi_f (cd_f (by first | exact g9.1 c51 | exact g9.2.1 c51) g9.2.2.1 g9.2.2.2 c73 c85)).symm) ⟨rfl, cAbs_put hA h1 h2 (by rw [ho]; first | exact g9.1 c51 | exact g9.2.1 c51), fun _ hp2 => pk_un hp2, fun _ hx2 => pk_un hx2⟩
          · refine lv_iconst (v := nI 1) hx hb dX0_changeDay_88 (by decide) ?_
            refine lv_goto (tgt := 93) hx hb dX0_changeDay_89 (by decide) ?_
            refine lv_istore (lv' := [(8, .int (nI 1)), (7, .int (v)), (6, .int (nI (sl * 32 + dy))), (5, .int (bi ((S sl dy).isSome))), (0, .ref (a 1)), (1, .int (nI kd)), (2, .int (nI sl)), (3, .int (nI dy)), (4, .int (v))]) hx hb dX0_changeDay_93 hl (by decide) rfl (fun ls hl => ?_)
            refine lv_aload_n hx hb dX0_changeDay_95 rfl (lv_at hl 4 rfl) ?_
            refine va_get (D := D) (ci := 0) (v := .ref (a 3)) (C := RX0) (T := TX0) (N := 4) hx hb hts inX0 hown hK.1 hI.2.1 1 rfl rfl 1 (by decide) (hts _ k28) (fun _ h9 => h9) rfl dX0_changeDay_96 ?_
            refine lv_iload_n hx hb dX0_changeDay_99 rfl (lv_at hl 6 rfl) ?_
            refine lv_dup2_11 hx hb dX0_changeDay_100 rfl rfl ?_
            refine ia_ld (f := fil) (k := sl) hx hb hK hI 3 rfl dX0_changeDay_101 (by omega) (by decide) ?_
            refine lv_iconst (v := nI 1) hx hb dX0_changeDay_102 (by decide) ?_
            refine lv_iload_n hx hb dX0_changeDay_103 rfl (lv_at hl 7 rfl) ?_
            refine lv_ishl hx hb dX0_changeDay_104 ?_
            refine lv_ior hx hb dX0_changeDay_105 ?_
            refine ia_st (f := fil) (k := sl) hx hb hK hI 3 rfl dX0_changeDay_106 (by omega) (by decide) (fun H locs hI => ?_)
            have hI : wi D z (Ar z) (cw a cI vals (upd fil sl ((fil sl) ||| ((nI 1) <<< (nI dy &&& 31)))) rb (nI t) wo cnt fn X) s H locs := hI
            refine lv_aload_n hx hb dX0_changeDay_107 rfl (lv_at hl 4 rfl) ?_
            refine va_get (D := D) (ci := 0) (v := .ref (a 2)) (C := RX0) (T := TX0) (N := 4) hx hb hts inX0 hown hK.1 hI.2.1 1 rfl rfl 0 (by decide) (hts _ k27) (fun _ h9 => h9) rfl dX0_changeDay_108 ?_
            refine lv_iload hx hb dX0_changeDay_111 (lv_at hl 2 rfl) ?_
            refine lv_iload hx hb dX0_changeDay_113 (lv_at hl 1 rfl) ?_
            refine ia_st (f := vals) (k := sl * 32 + dy) hx hb hK hI 2 rfl dX0_changeDay_115 (by omega) (by decide) (fun H locs hI => ?_)
            have hI : wi D z (Ar z) (cw a cI (upd vals (sl * 32 + dy) v) (upd fil sl ((fil sl) ||| ((nI 1) <<< (nI dy &&& 31)))) rb (nI t) wo cnt fn X) s H locs := hI
            have g9 := cd_3 (o := o) (v := v) hA h1 h2 ho h3 c22 (by first | exact Or.inl c10 | exact Or.inr (by omega))
            refine lv_iload hx hb dX0_changeDay_116 (lv_at hl 0 rfl) ?_
            exact hret (upd vals (sl * 32 + dy) (v), upd fil sl ((fil sl) ||| ((nI 1) <<< (nI dy &&& 31)))) (!(decide (nw kd v o = o))) hI dX0_changeDay_118 (by first | exact (bi_t (cd_t (by first | exact g9.1 c51 | exact g9.2.1 c51) g9.2.2.1 g9.2.2.2 (by first | exact Or.inl c73 | exact Or.inr c85))).symm | exact (bi_f (cd_f (by first | exact g9.1 c51 | exact g9.2.1 c51) g9.2.2.1 g9.2.2.2 c73 c85)).symm) ⟨rfl, cAbs_put hA h1 h2 (by rw [ho]; first | exact g9.1 c51 | exact g9.2.1 c51), fun _ hp2 => pk_un hp2, fun _ hx2 => pk_un hx2⟩
      · refine lv_aload_n hx hb dX0_changeDay_54 rfl (lv_at hl 2 rfl) ?_
        refine va_get (D := D) (ci := 0) (v := .ref (a 2)) (C := RX0) (T := TX0) (N := 4) hx hb hts inX0 hown hK.1 hI.2.1 1 rfl rfl 0 (by decide) (hts _ k27) (fun _ h9 => h9) rfl dX0_changeDay_55 ?_
        refine lv_iload hx hb dX0_changeDay_58 (lv_at hl 0 rfl) ?_
        refine ia_ld (f := vals) (k := sl * 32 + dy) hx hb hK hI 2 rfl dX0_changeDay_60 (by omega) (by decide) ?_
        refine lv_iload hx hb dX0_changeDay_61 (lv_at hl 6 rfl) ?_
        refine lv_iadd hx hb dX0_changeDay_63 ?_
        refine lv_goto (tgt := 69) hx hb dX0_changeDay_64 (by decide) ?_
        refine lv_istore (lv' := [(7, .int ((vals (sl * 32 + dy)) + v)), (6, .int (nI (sl * 32 + dy))), (5, .int (bi ((S sl dy).isSome))), (0, .ref (a 1)), (1, .int (nI kd)), (2, .int (nI sl)), (3, .int (nI dy)), (4, .int (v))]) hx hb dX0_changeDay_69 hl (by decide) rfl (fun ls hl => ?_)
        refine lv_iload hx hb dX0_changeDay_71 (lv_at hl 2 rfl) ?_
        refine bz_eq (tgt := 88) hx hb dX0_changeDay_73 (by decide) (fun c73 => ?_) (fun c73 => ?_)
        · refine lv_iconst (v := nI 1) hx hb dX0_changeDay_88 (by decide) ?_
          refine lv_goto (tgt := 93) hx hb dX0_changeDay_89 (by decide) ?_
          refine lv_istore (lv' := [(8, .int (nI 1)), (7, .int ((vals (sl * 32 + dy)) + v)), (6, .int (nI (sl * 32 + dy))), (5, .int (bi ((S sl dy).isSome))), (0, .ref (a 1)), (1, .int (nI kd)), (2, .int (nI sl)), (3, .int (nI dy)), (4, .int (v))]) hx hb dX0_changeDay_93 hl (by decide) rfl (fun ls hl => ?_)
          refine lv_aload_n hx hb dX0_changeDay_95 rfl (lv_at hl 4 rfl) ?_
          refine va_get (D := D) (ci := 0) (v := .ref (a 3)) (C := RX0) (T := TX0) (N := 4) hx hb hts inX0 hown hK.1 hI.2.1 1 rfl rfl 1 (by decide) (hts _ k28) (fun _ h9 => h9) rfl dX0_changeDay_96 ?_
          refine lv_iload_n hx hb dX0_changeDay_99 rfl (lv_at hl 6 rfl) ?_
          refine lv_dup2_11 hx hb dX0_changeDay_100 rfl rfl ?_
          refine ia_ld (f := fil) (k := sl) hx hb hK hI 3 rfl dX0_changeDay_101 (by omega) (by decide) ?_
          refine lv_iconst (v := nI 1) hx hb dX0_changeDay_102 (by decide) ?_
          refine lv_iload_n hx hb dX0_changeDay_103 rfl (lv_at hl 7 rfl) ?_
          refine lv_ishl hx hb dX0_changeDay_104 ?_
          refine lv_ior hx hb dX0_changeDay_105 ?_
          refine ia_st (f := fil) (k := sl) hx hb hK hI 3 rfl dX0_changeDay_106 (by omega) (by decide) (fun H locs hI => ?_)
          have hI : wi D z (Ar z) (cw a cI vals (upd fil sl ((fil sl) ||| ((nI 1) <<< (nI dy &&& 31)))) rb (nI t) wo cnt fn X) s H locs := hI
          refine lv_aload_n hx hb dX0_changeDay_107 rfl (lv_at hl 4 rfl) ?_
          refine va_get (D := D) (ci := 0) (v := .ref (a 2)) (C := RX0) (T := TX0) (N := 4) hx hb hts inX0 hown hK.1 hI.2.1 1 rfl rfl 0 (by decide) (hts _ k27) (fun _ h9 => h9) rfl dX0_changeDay_108 ?_
          refine lv_iload hx hb dX0_changeDay_111 (lv_at hl 2 rfl) ?_
          refine lv_iload hx hb dX0_changeDay_113 (lv_at hl 1 rfl) ?_
          refine ia_st (f := vals) (k := sl * 32 + dy) hx hb hK hI 2 rfl dX0_changeDay_115 (by omega) (by decide) (fun H locs hI => ?_)
          have hI : wi D z (Ar z) (cw a cI (upd vals (sl * 32 + dy) ((vals (sl * 32 + dy)) + v)) (upd fil sl ((fil sl) ||| ((nI 1) <<< (nI dy &&& 31)))) rb (nI t) wo cnt fn X) s H locs := hI
          have g9 := cd_3 (o := o) (v := v) hA h1 h2 ho h3 c22 (by first | exact Or.inl c10 | exact Or.inr (by omega))
          refine lv_iload hx hb dX0_changeDay_116 (lv_at hl 0 rfl) ?_
          exact hret (upd vals (sl * 32 + dy) ((vals (sl * 32 + dy)) + v), upd fil sl ((fil sl) ||| ((nI 1) <<< (nI dy &&& 31)))) (!(decide (nw kd v o = o))) hI dX0_changeDay_118 (by first | exact (bi_t (cd_t (by first | exact g9.1 c51 | exact g9.2.1 c51) g9.2.2.1 g9.2.2.2 (by first | exact Or.inl c73 | exact Or.inr c85))).symm | exact (bi_f (cd_f (by first | exact g9.1 c51 | exact g9.2.1 c51) g9.2.2.1 g9.2.2.2 c73 c85)).symm) ⟨rfl, cAbs_put hA h1 h2 (by rw [ho]; first | exact g9.1 c51 | exact g9.2.1 c51), fun _ hp2 => pk_un hp2, fun _ hx2 => pk_un hx2⟩
        · refine lv_aload_n hx hb dX0_changeDay_76 rfl (lv_at hl 3 rfl) ?_
          refine va_get (D := D) (ci := 0) (v := .ref (a 2)) (C := RX0) (T := TX0) (N := 4) hx hb hts inX0 hown hK.1 hI.2.1 1 rfl rfl 0 (by decide) (hts _ k27) (fun _ h9 => h9) rfl dX0_changeDay_77 ?_
          refine lv_iload hx hb dX0_changeDay_80 (lv_at hl 1 rfl) ?_
          refine ia_ld (f := vals) (k := sl * 32 + dy) hx hb hK hI 2 rfl dX0_changeDay_82 (by omega) (by decide) ?_
          refine lv_iload hx hb dX0_changeDay_83 (lv_at hl 0 rfl) ?_
          refine lv_icmp_eq (tgt := 92) hx hb dX0_changeDay_85 (by decide) (fun c85 => ?_) (fun c85 => ?_)
          · refine lv_iconst (v := nI 0) hx hb dX0_changeDay_92 (by decide) ?_
            refine lv_istore (lv' := [(8, .int (nI 0)), (7, .int ((vals (sl * 32 + dy)) + v)), (6, .int (nI (sl * 32 + dy))), (5, .int (bi ((S sl dy).isSome))), (0, .ref (a 1)), (1, .int (nI kd)), (2, .int (nI sl)), (3, .int (nI dy)), (4, .int (v))]) hx hb dX0_changeDay_93 hl (by decide) rfl (fun ls hl => ?_)
            refine lv_aload_n hx hb dX0_changeDay_95 rfl (lv_at hl 4 rfl) ?_
            refine va_get (D := D) (ci := 0) (v := .ref (a 3)) (C := RX0) (T := TX0) (N := 4) hx hb hts inX0 hown hK.1 hI.2.1 1 rfl rfl 1 (by decide) (hts _ k28) (fun _ h9 => h9) rfl dX0_changeDay_96 ?_
            refine lv_iload_n hx hb dX0_changeDay_99 rfl (lv_at hl 6 rfl) ?_
            refine lv_dup2_11 hx hb dX0_changeDay_100 rfl rfl ?_
            refine ia_ld (f := fil) (k := sl) hx hb hK hI 3 rfl dX0_changeDay_101 (by omega) (by decide) ?_
            refine lv_iconst (v := nI 1) hx hb dX0_changeDay_102 (by decide) ?_
            refine lv_iload_n hx hb dX0_changeDay_103 rfl (lv_at hl 7 rfl) ?_
            refine lv_ishl hx hb dX0_changeDay_104 ?_
            refine lv_ior hx hb dX0_changeDay_105 ?_
            refine ia_st (f := fil) (k := sl) hx hb hK hI 3 rfl dX0_changeDay_106 (by omega) (by decide) (fun H locs hI => ?_)
            have hI : wi D z (Ar z) (cw a cI vals (upd fil sl ((fil sl) ||| ((nI 1) <<< (nI dy &&& 31)))) rb (nI t) wo cnt fn X) s H locs := hI
            refine lv_aload_n hx hb dX0_changeDay_107 rfl (lv_at hl 4 rfl) ?_
            refine va_get (D := D) (ci := 0) (v := .ref (a 2)) (C := RX0) (T := TX0) (N := 4) hx hb hts inX0 hown hK.1 hI.2.1 1 rfl rfl 0 (by decide) (hts _ k27) (fun _ h9 => h9) rfl dX0_changeDay_108 ?_
            refine lv_iload hx hb dX0_changeDay_111 (lv_at hl 2 rfl) ?_
            refine lv_iload hx hb dX0_changeDay_113 (lv_at hl 1 rfl) ?_
            refine ia_st (f := vals) (k := sl * 32 + dy) hx hb hK hI 2 rfl dX0_changeDay_115 (by omega) (by decide) (fun H locs hI => ?_)
            have hI : wi D z (Ar z) (cw a cI (upd vals (sl * 32 + dy) ((vals (sl * 32 + dy)) + v)) (upd fil sl ((fil sl) ||| ((nI 1) <<< (nI dy &&& 31)))) rb (nI t) wo cnt fn X) s H locs := hI
            have g9 := cd_3 (o := o) (v := v) hA h1 h2 ho h3 c22 (by first | exact Or.inl c10 | exact Or.inr (by omega))
            refine lv_iload hx hb dX0_changeDay_116 (lv_at hl 0 rfl) ?_
            exact hret (upd vals (sl * 32 + dy) ((vals (sl * 32 + dy)) + v), upd fil sl ((fil sl) ||| ((nI 1) <<< (nI dy &&& 31)))) (!(decide (nw kd v o = o))) hI dX0_changeDay_118 (by first | exact (bi_t (cd_t (by first | exact g9.1 c51 | exact g9.2.1 c51) g9.2.2.1 g9.2.2.2 (by first | exact Or.inl c73 | exact Or.inr c85))).symm | exact (bi_f (cd_f (by first | exact g9.1 c51 | exact g9.2.1 c51) g9.2.2.1 g9.2.2.2 c73 c85)).symm) ⟨rfl, cAbs_put hA h1 h2 (by rw [ho]; first | exact g9.1 c51 | exact g9.2.1 c51), fun _ hp2 => pk_un hp2, fun _ hx2 => pk_un hx2⟩
          · refine lv_iconst (v := nI 1) hx hb dX0_changeDay_88 (by decide) ?_
            refine lv_goto (tgt := 93) hx hb dX0_changeDay_89 (by decide) ?_
            refine lv_istore (lv' := [(8, .int (nI 1)), (7, .int ((vals (sl * 32 + dy)) + v)), (6, .int (nI (sl * 32 + dy))), (5, .int (bi ((S sl dy).isSome))), (0, .ref (a 1)), (1, .int (nI kd)), (2, .int (nI sl)), (3, .int (nI dy)), (4, .int (v))]) hx hb dX0_changeDay_93 hl (by decide) rfl (fun ls hl => ?_)
            refine lv_aload_n hx hb dX0_changeDay_95 rfl (lv_at hl 4 rfl) ?_
            refine va_get (D := D) (ci := 0) (v := .ref (a 3)) (C := RX0) (T := TX0) (N := 4) hx hb hts inX0 hown hK.1 hI.2.1 1 rfl rfl 1 (by decide) (hts _ k28) (fun _ h9 => h9) rfl dX0_changeDay_96 ?_
            refine lv_iload_n hx hb dX0_changeDay_99 rfl (lv_at hl 6 rfl) ?_
            refine lv_dup2_11 hx hb dX0_changeDay_100 rfl rfl ?_
            refine ia_ld (f := fil) (k := sl) hx hb hK hI 3 rfl dX0_changeDay_101 (by omega) (by decide) ?_
            refine lv_iconst (v := nI 1) hx hb dX0_changeDay_102 (by decide) ?_
            refine lv_iload_n hx hb dX0_changeDay_103 rfl (lv_at hl 7 rfl) ?_
            refine lv_ishl hx hb dX0_changeDay_104 ?_
            refine lv_ior hx hb dX0_changeDay_105 ?_
            refine ia_st (f := fil) (k := sl) hx hb hK hI 3 rfl dX0_changeDay_106 (by omega) (by decide) (fun H locs hI => ?_)
            have hI : wi D z (Ar z) (cw a cI vals (upd fil sl ((fil sl) ||| ((nI 1) <<< (nI dy &&& 31)))) rb (nI t) wo cnt fn X) s H locs := hI
            refine lv_aload_n hx hb dX0_changeDay_107 rfl (lv_at hl 4 rfl) ?_
            refine va_get (D := D) (ci := 0) (v := .ref (a 2)) (C := RX0) (T := TX0) (N := 4) hx hb hts inX0 hown hK.1 hI.2.1 1 rfl rfl 0 (by decide) (hts _ k27) (fun _ h9 => h9) rfl dX0_changeDay_108 ?_
            refine lv_iload hx hb dX0_changeDay_111 (lv_at hl 2 rfl) ?_
            refine lv_iload hx hb dX0_changeDay_113 (lv_at hl 1 rfl) ?_
            refine ia_st (f := vals) (k := sl * 32 + dy) hx hb hK hI 2 rfl dX0_changeDay_115 (by omega) (by decide) (fun H locs hI => ?_)
            have hI : wi D z (Ar z) (cw a cI (upd vals (sl * 32 + dy) ((vals (sl * 32 + dy)) + v)) (upd fil sl ((fil sl) ||| ((nI 1) <<< (nI dy &&& 31)))) rb (nI t) wo cnt fn X) s H locs := hI
            have g9 := cd_3 (o := o) (v := v) hA h1 h2 ho h3 c22 (by first | exact Or.inl c10 | exact Or.inr (by omega))
            refine lv_iload hx hb dX0_changeDay_116 (lv_at hl 0 rfl) ?_
            exact hret (upd vals (sl * 32 + dy) ((vals (sl * 32 + dy)) + v), upd fil sl ((fil sl) ||| ((nI 1) <<< (nI dy &&& 31)))) (!(decide (nw kd v o = o))) hI dX0_changeDay_118 (by first | exact (bi_t (cd_t (by first | exact g9.1 c51 | exact g9.2.1 c51) g9.2.2.1 g9.2.2.2 (by first | exact Or.inl c73 | exact Or.inr c85))).symm | exact (bi_f (cd_f (by first | exact g9.1 c51 | exact g9.2.1 c51) g9.2.2.1 g9.2.2.2 c73 c85)).symm) ⟨rfl, cAbs_put hA h1 h2 (by rw [ho]; first | exact g9.1 c51 | exact g9.2.1 c51), fun _ hp2 => pk_un hp2, fun _ hx2 => pk_un hx2⟩
    · refine lv_aload_n hx hb dX0_changeDay_25 rfl (lv_at hl 1 rfl) ?_
      refine va_get (D := D) (ci := 0) (v := .ref (a 3)) (C := RX0) (T := TX0) (N := 4) hx hb hts inX0 hown hK.1 hI.2.1 1 rfl rfl 1 (by decide) (hts _ k28) (fun _ h9 => h9) rfl dX0_changeDay_26 ?_
      refine lv_iload_n hx hb dX0_changeDay_29 rfl (lv_at hl 3 rfl) ?_
      refine lv_dup2_11 hx hb dX0_changeDay_30 rfl rfl ?_
      refine ia_ld (f := fil) (k := sl) hx hb hK hI 3 rfl dX0_changeDay_31 (by omega) (by decide) ?_
      refine lv_iconst (v := nI 1) hx hb dX0_changeDay_32 (by decide) ?_
      refine lv_iload_n hx hb dX0_changeDay_33 rfl (lv_at hl 4 rfl) ?_
      refine lv_ishl hx hb dX0_changeDay_34 ?_
      refine lv_iconst (v := (-1 : Int32)) hx hb dX0_changeDay_35 (by decide) ?_
      refine lv_ixor hx hb dX0_changeDay_36 ?_
      refine lv_iand hx hb dX0_changeDay_37 ?_
      refine ia_st (f := fil) (k := sl) hx hb hK hI 3 rfl dX0_changeDay_38 (by omega) (by decide) (fun H locs hI => ?_)
      have hI : wi D z (Ar z) (cw a cI vals (upd fil sl ((fil sl) &&& (((nI 1) <<< (nI dy &&& 31)) ^^^ ((-1 : Int32))))) rb (nI t) wo cnt fn X) s H locs := hI
      refine lv_iconst (v := nI 1) hx hb dX0_changeDay_39 (by decide) ?_
      exact hret (vals, upd fil sl ((fil sl) &&& (((nI 1) <<< (nI dy &&& 31)) ^^^ ((-1 : Int32))))) (!(decide (nw kd v o = o))) hI dX0_changeDay_40 (cd_2 ho (by first | exact c10 | (exfalso; omega)) c22).1.symm ⟨rfl, cAbs_del hA h1 h2 (by rw [ho]; exact (cd_2 ho (by first | exact c10 | (exfalso; omega)) c22).2), fun _ _ => rfl, fun _ hx2 => pk_un hx2⟩
  · refine lv_iload_n hx hb dX0_changeDay_13 rfl (lv_at hl 2 rfl) ?_
    refine lv_iconst (v := nI 2) hx hb dX0_changeDay_14 (by decide) ?_
    refine nb_lt (tgt := 20) hx hb dX0_changeDay_15 (by decide) (by omega) (by omega) (fun c15 => ?_) (fun c15 => ?_)
    · refine lv_iload_n hx hb dX0_changeDay_20 rfl (lv_at hl 2 rfl) ?_
      refine lv_iconst (v := nI 4) hx hb dX0_changeDay_21 (by decide) ?_
      refine nb_ne (tgt := 41) hx hb dX0_changeDay_22 (by decide) (by omega) (by omega) (fun c22 => ?_) (fun c22 => ?_)
      · refine lv_iload_n hx hb dX0_changeDay_41 rfl (lv_at hl 3 rfl) ?_
        refine lv_bipush (v := nI 32) hx hb dX0_changeDay_42 (by decide) ?_
        refine lv_imul hx hb dX0_changeDay_44 ?_
        refine tp (pk_mul _ _) ?_
        refine lv_iload_n hx hb dX0_changeDay_45 rfl (lv_at hl 4 rfl) ?_
        refine lv_iadd hx hb dX0_changeDay_46 ?_
        refine tp (nI_add _ _) ?_
        refine lv_istore (lv' := [(6, .int (nI (sl * 32 + dy))), (5, .int (bi ((S sl dy).isSome))), (0, .ref (a 1)), (1, .int (nI kd)), (2, .int (nI sl)), (3, .int (nI dy)), (4, .int (v))]) hx hb dX0_changeDay_47 hl (by decide) rfl (fun ls hl => ?_)
        refine lv_iload_n hx hb dX0_changeDay_49 rfl (lv_at hl 3 rfl) ?_
        refine lv_iconst (v := nI 3) hx hb dX0_changeDay_50 (by decide) ?_
        refine nb_ne (tgt := 67) hx hb dX0_changeDay_51 (by decide) (by omega) (by omega) (fun c51 => ?_) (fun c51 => ?_)
        · refine lv_iload hx hb dX0_changeDay_67 (lv_at hl 6 rfl) ?_
          refine lv_istore (lv' := [(7, .int (v)), (6, .int (nI (sl * 32 + dy))), (5, .int (bi ((S sl dy).isSome))), (0, .ref (a 1)), (1, .int (nI kd)), (2, .int (nI sl)), (3, .int (nI dy)), (4, .int (v))]) hx hb dX0_changeDay_69 hl (by decide) rfl (fun ls hl => ?_)
          refine lv_iload hx hb dX0_changeDay_71 (lv_at hl 2 rfl) ?_
          refine bz_eq (tgt := 88) hx hb dX0_changeDay_73 (by decide) (fun c73 => ?_) (fun c73 => ?_)
          · refine lv_iconst (v := nI 1) hx hb dX0_changeDay_88 (by decide) ?_
            refine lv_goto (tgt := 93) hx hb dX0_changeDay_89 (by decide) ?_
            refine lv_istore (lv' := [(8, .int (nI 1)), (7, .int (v)), (6, .int (nI (sl * 32 + dy))), (5, .int (bi ((S sl dy).isSome))), (0, .ref (a 1)), (1, .int (nI kd)), (2, .int (nI sl)), (3, .int (nI dy)), (4, .int (v))]) hx hb dX0_changeDay_93 hl (by decide) rfl (fun ls hl => ?_)
            refine lv_aload_n hx hb dX0_changeDay_95 rfl (lv_at hl 4 rfl) ?_
            refine va_get (D := D) (ci := 0) (v := .ref (a 3)) (C := RX0) (T := TX0) (N := 4) hx hb hts inX0 hown hK.1 hI.2.1 1 rfl rfl 1 (by decide) (hts _ k28) (fun _ h9 => h9) rfl dX0_changeDay_96 ?_
            refine lv_iload_n hx hb dX0_changeDay_99 rfl (lv_at hl 6 rfl) ?_
            refine lv_dup2_11 hx hb dX0_changeDay_100 rfl rfl ?_
            refine ia_ld (f := fil) (k := sl) hx hb hK hI 3 rfl dX0_changeDay_101 (by omega) (by decide) ?_
            refine lv_iconst (v := nI 1) hx hb dX0_changeDay_102 (by decide) ?_
            refine lv_iload_n hx hb dX0_changeDay_103 rfl (lv_at hl 7 rfl) ?_
            refine lv_ishl hx hb dX0_changeDay_104 ?_
            refine lv_ior hx hb dX0_changeDay_105 ?_
            refine ia_st (f := fil) (k := sl) hx hb hK hI 3 rfl dX0_changeDay_106 (by omega) (by decide) (fun H locs hI => ?_)
            have hI : wi D z (Ar z) (cw a cI vals (upd fil sl ((fil sl) ||| ((nI 1) <<< (nI dy &&& 31)))) rb (nI t) wo cnt fn X) s H locs := hI
            refine lv_aload_n hx hb dX0_changeDay_107 rfl (lv_at hl 4 rfl) ?_
            refine va_get (D := D) (ci := 0) (v := .ref (a 2)) (C := RX0) (T := TX0) (N := 4) hx hb hts inX0 hown hK.1 hI.2.1 1 rfl rfl 0 (by decide) (hts _ k27) (fun _ h9 => h9) rfl dX0_changeDay_108 ?_
            refine lv_iload hx hb dX0_changeDay_111 (lv_at hl 2 rfl) ?_
            refine lv_iload hx hb dX0_changeDay_113 (lv_at hl 1 rfl) ?_
            refine ia_st (f := vals) (k := sl * 32 + dy) hx hb hK hI 2 rfl dX0_changeDay_115 (by omega) (by decide) (fun H locs hI => ?_)
            have hI : wi D z (Ar z) (cw a cI (upd vals (sl * 32 + dy) v) (upd fil sl ((fil sl) ||| ((nI 1) <<< (nI dy &&& 31)))) rb (nI t) wo cnt fn X) s H locs := hI
            have g9 := cd_3 (o := o) (v := v) hA h1 h2 ho h3 c22 (by first | exact Or.inl c10 | exact Or.inr (by omega))
            refine lv_iload hx hb dX0_changeDay_116 (lv_at hl 0 rfl) ?_
            exact hret (upd vals (sl * 32 + dy) (v), upd fil sl ((fil sl) ||| ((nI 1) <<< (nI dy &&& 31)))) (!(decide (nw kd v o = o))) hI dX0_changeDay_118 (by first | exact (bi_t (cd_t (by first | exact g9.1 c51 | exact g9.2.1 c51) g9.2.2.1 g9.2.2.2 (by first | exact Or.inl c73 | exact Or.inr c85))).symm | exact (bi_f (cd_f (by first | exact g9.1 c51 | exact g9.2.1 c51) g9.2.2.1 g9.2.2.2 c73 c85)).symm) ⟨rfl, cAbs_put hA h1 h2 (by rw [ho]; first | exact g9.1 c51 | exact g9.2.1 c51), fun _ hp2 => pk_un hp2, fun _ hx2 => pk_un hx2⟩
          · refine lv_aload_n hx hb dX0_changeDay_76 rfl (lv_at hl 3 rfl) ?_
            refine va_get (D := D) (ci := 0) (v := .ref (a 2)) (C := RX0) (T := TX0) (N := 4) hx hb hts inX0 hown hK.1 hI.2.1 1 rfl rfl 0 (by decide) (hts _ k27) (fun _ h9 => h9) rfl dX0_changeDay_77 ?_
            refine lv_iload hx hb dX0_changeDay_80 (lv_at hl 1 rfl) ?_
            refine ia_ld (f := vals) (k := sl * 32 + dy) hx hb hK hI 2 rfl dX0_changeDay_82 (by omega) (by decide) ?_
            refine lv_iload hx hb dX0_changeDay_83 (lv_at hl 0 rfl) ?_
            refine lv_icmp_eq (tgt := 92) hx hb dX0_changeDay_85 (by decide) (fun c85 => ?_) (fun c85 => ?_)
            · refine lv_iconst (v := nI 0) hx hb dX0_changeDay_92 (by decide) ?_
              refine lv_istore (lv' := [(8, .int (nI 0)), (7, .int (v)), (6, .int (nI (sl * 32 + dy))), (5, .int (bi ((S sl dy).isSome))), (0, .ref (a 1)), (1, .int (nI kd)), (2, .int (nI sl)), (3, .int (nI dy)), (4, .int (v))]) hx hb dX0_changeDay_93 hl (by decide) rfl (fun ls hl => ?_)
              refine lv_aload_n hx hb dX0_changeDay_95 rfl (lv_at hl 4 rfl) ?_
              refine va_get (D := D) (ci := 0) (v := .ref (a 3)) (C := RX0) (T := TX0) (N := 4) hx hb hts inX0 hown hK.1 hI.2.1 1 rfl rfl 1 (by decide) (hts _ k28) (fun _ h9 => h9) rfl dX0_changeDay_96 ?_
              refine lv_iload_n hx hb dX0_changeDay_99 rfl (lv_at hl 6 rfl) ?_
              refine lv_dup2_11 hx hb dX0_changeDay_100 rfl rfl ?_
              refine ia_ld (f := fil) (k := sl) hx hb hK hI 3 rfl dX0_changeDay_101 (by omega) (by decide) ?_
              refine lv_iconst (v := nI 1) hx hb dX0_changeDay_102 (by decide) ?_
              refine lv_iload_n hx hb dX0_changeDay_103 rfl (lv_at hl 7 rfl) ?_
              refine lv_ishl hx hb dX0_changeDay_104 ?_
              refine lv_ior hx hb dX0_changeDay_105 ?_
              refine ia_st (f := fil) (k := sl) hx hb hK hI 3 rfl dX0_changeDay_106 (by omega) (by decide) (fun H locs hI => ?_)
              have hI : wi D z (Ar z) (cw a cI vals (upd fil sl ((fil sl) ||| ((nI 1) <<< (nI dy &&& 31)))) rb (nI t) wo cnt fn X) s H locs := hI
              refine lv_aload_n hx hb dX0_changeDay_107 rfl (lv_at hl 4 rfl) ?_
              refine va_get (D := D) (ci := 0) (v := .ref (a 2)) (C := RX0) (T := TX0) (N := 4) hx hb hts inX0 hown hK.1 hI.2.1 1 rfl rfl 0 (by decide) (hts _ k27) (fun _ h9 => h9) rfl dX0_changeDay_108 ?_
              refine lv_iload hx hb dX0_changeDay_111 (lv_at hl 2 rfl) ?_
              refine lv_iload hx hb dX0_changeDay_113 (lv_at hl 1 rfl) ?_
              refine ia_st (f := vals) (k := sl * 32 + dy) hx hb hK hI 2 rfl dX0_changeDay_115 (by omega) (by decide) (fun H locs hI => ?_)
              have hI : wi D z (Ar z) (cw a cI (upd vals (sl * 32 + dy) v) (upd fil sl ((fil sl) ||| ((nI 1) <<< (nI dy &&& 31)))) rb (nI t) wo cnt fn X) s H locs := hI
              have g9 := cd_3 (o := o) (v := v) hA h1 h2 ho h3 c22 (by first | exact Or.inl c10 | exact Or.inr (by omega))
              refine lv_iload hx hb dX0_changeDay_116 (lv_at hl 0 rfl) ?_
              exact hret (upd vals (sl * 32 + dy) (v), upd fil sl ((fil sl) ||| ((nI 1) <<< (nI dy &&& 31)))) (!(decide (nw kd v o = o))) hI dX0_changeDay_118 (by first | exact (bi_t (cd_t (by first | exact g9.1 c51 | exact g9.2.1 c51) g9.2.2.1 g9.2.2.2 (by first | exact Or.inl c73 | exact Or.inr c85))).symm | exact (bi_f (cd_f (by first | exact g9.1 c51 | exact g9.2.1 c51) g9.2.2.1 g9.2.2.2 c73 c85)).symm) ⟨rfl, cAbs_put hA h1 h2 (by rw [ho]; first | exact g9.1 c51 | exact g9.2.1 c51), fun _ hp2 => pk_un hp2, fun _ hx2 => pk_un hx2⟩
            · refine lv_iconst (v := nI 1) hx hb dX0_changeDay_88 (by decide) ?_
              refine lv_goto (tgt := 93) hx hb dX0_changeDay_89 (by decide) ?_
              refine lv_istore (lv' := [(8, .int (nI 1)), (7, .int (v)), (6, .int (nI (sl * 32 + dy))), (5, .int (bi ((S sl dy).isSome))), (0, .ref (a 1)), (1, .int (nI kd)), (2, .int (nI sl)), (3, .int (nI dy)), (4, .int (v))]) hx hb dX0_changeDay_93 hl (by decide) rfl (fun ls hl => ?_)
              refine lv_aload_n hx hb dX0_changeDay_95 rfl (lv_at hl 4 rfl) ?_
              refine va_get (D := D) (ci := 0) (v := .ref (a 3)) (C := RX0) (T := TX0) (N := 4) hx hb hts inX0 hown hK.1 hI.2.1 1 rfl rfl 1 (by decide) (hts _ k28) (fun _ h9 => h9) rfl dX0_changeDay_96 ?_
              refine lv_iload_n hx hb dX0_changeDay_99 rfl (lv_at hl 6 rfl) ?_
              refine lv_dup2_11 hx hb dX0_changeDay_100 rfl rfl ?_
              refine ia_ld (f := fil) (k := sl) hx hb hK hI 3 rfl dX0_changeDay_101 (by omega) (by decide) ?_
              refine lv_iconst (v := nI 1) hx hb dX0_changeDay_102 (by decide) ?_
              refine lv_iload_n hx hb dX0_changeDay_103 rfl (lv_at hl 7 rfl) ?_
              refine lv_ishl hx hb dX0_changeDay_104 ?_
              refine lv_ior hx hb dX0_changeDay_105 ?_
              refine ia_st (f := fil) (k := sl) hx hb hK hI 3 rfl dX0_changeDay_106 (by omega) (by decide) (fun H locs hI => ?_)
              have hI : wi D z (Ar z) (cw a cI vals (upd fil sl ((fil sl) ||| ((nI 1) <<< (nI dy &&& 31)))) rb (nI t) wo cnt fn X) s H locs := hI
              refine lv_aload_n hx hb dX0_changeDay_107 rfl (lv_at hl 4 rfl) ?_
              refine va_get (D := D) (ci := 0) (v := .ref (a 2)) (C := RX0) (T := TX0) (N := 4) hx hb hts inX0 hown hK.1 hI.2.1 1 rfl rfl 0 (by decide) (hts _ k27) (fun _ h9 => h9) rfl dX0_changeDay_108 ?_
              refine lv_iload hx hb dX0_changeDay_111 (lv_at hl 2 rfl) ?_
              refine lv_iload hx hb dX0_changeDay_113 (lv_at hl 1 rfl) ?_
              refine ia_st (f := vals) (k := sl * 32 + dy) hx hb hK hI 2 rfl dX0_changeDay_115 (by omega) (by decide) (fun H locs hI => ?_)
              have hI : wi D z (Ar z) (cw a cI (upd vals (sl * 32 + dy) v) (upd fil sl ((fil sl) ||| ((nI 1) <<< (nI dy &&& 31)))) rb (nI t) wo cnt fn X) s H locs := hI
              have g9 := cd_3 (o := o) (v := v) hA h1 h2 ho h3 c22 (by first | exact Or.inl c10 | exact Or.inr (by omega))
              refine lv_iload hx hb dX0_changeDay_116 (lv_at hl 0 rfl) ?_
              exact hret (upd vals (sl * 32 + dy) (v), upd fil sl ((fil sl) ||| ((nI 1) <<< (nI dy &&& 31)))) (!(decide (nw kd v o = o))) hI dX0_changeDay_118 (by first | exact (bi_t (cd_t (by first | exact g9.1 c51 | exact g9.2.1 c51) g9.2.2.1 g9.2.2.2 (by first | exact Or.inl c73 | exact Or.inr c85))).symm | exact (bi_f (cd_f (by first | exact g9.1 c51 | exact g9.2.1 c51) g9.2.2.1 g9.2.2.2 c73 c85)).symm) ⟨rfl, cAbs_put hA h1 h2 (by rw [ho]; first | exact g9.1 c51 | exact g9.2.1 c51), fun _ hp2 => pk_un hp2, fun _ hx2 => pk_un hx2⟩
        · refine lv_aload_n hx hb dX0_changeDay_54 rfl (lv_at hl 2 rfl) ?_
          refine va_get (D := D) (ci := 0) (v := .ref (a 2)) (C := RX0) (T := TX0) (N := 4) hx hb hts inX0 hown hK.1 hI.2.1 1 rfl rfl 0 (by decide) (hts _ k27) (fun _ h9 => h9) rfl dX0_changeDay_55 ?_
          refine lv_iload hx hb dX0_changeDay_58 (lv_at hl 0 rfl) ?_
          refine ia_ld (f := vals) (k := sl * 32 + dy) hx hb hK hI 2 rfl dX0_changeDay_60 (by omega) (by decide) ?_
          refine lv_iload hx hb dX0_changeDay_61 (lv_at hl 6 rfl) ?_
          refine lv_iadd hx hb dX0_changeDay_63 ?_
          refine lv_goto (tgt := 69) hx hb dX0_changeDay_64 (by decide) ?_
          refine lv_istore (lv' := [(7, .int ((vals (sl * 32 + dy)) + v)), (6, .int (nI (sl * 32 + dy))), (5, .int (bi ((S sl dy).isSome))), (0, .ref (a 1)), (1, .int (nI kd)), (2, .int (nI sl)), (3, .int (nI dy)), (4, .int (v))]) hx hb dX0_changeDay_69 hl (by decide) rfl (fun ls hl => ?_)
          refine lv_iload hx hb dX0_changeDay_71 (lv_at hl 2 rfl) ?_
          refine bz_eq (tgt := 88) hx hb dX0_changeDay_73 (by decide) (fun c73 => ?_) (fun c73 => ?_)
          · refine lv_iconst (v := nI 1) hx hb dX0_changeDay_88 (by decide) ?_
            refine lv_goto (tgt := 93) hx hb dX0_changeDay_89 (by decide) ?_
            refine lv_istore (lv' := [(8, .int (nI 1)), (7, .int ((vals (sl * 32 + dy)) + v)), (6, .int (nI (sl * 32 + dy))), (5, .int (bi ((S sl dy).isSome))), (0, .ref (a 1)), (1, .int (nI kd)), (2, .int (nI sl)), (3, .int (nI dy)), (4, .int (v))]) hx hb dX0_changeDay_93 hl (by decide) rfl (fun ls hl => ?_)
            refine lv_aload_n hx hb dX0_changeDay_95 rfl (lv_at hl 4 rfl) ?_
            refine va_get (D := D) (ci := 0) (v := .ref (a 3)) (C := RX0) (T := TX0) (N := 4) hx hb hts inX0 hown hK.1 hI.2.1 1 rfl rfl 1 (by decide) (hts _ k28) (fun _ h9 => h9) rfl dX0_changeDay_96 ?_
            refine lv_iload_n hx hb dX0_changeDay_99 rfl (lv_at hl 6 rfl) ?_
            refine lv_dup2_11 hx hb dX0_changeDay_100 rfl rfl ?_
            refine ia_ld (f := fil) (k := sl) hx hb hK hI 3 rfl dX0_changeDay_101 (by omega) (by decide) ?_
            refine lv_iconst (v := nI 1) hx hb dX0_changeDay_102 (by decide) ?_
            refine lv_iload_n hx hb dX0_changeDay_103 rfl (lv_at hl 7 rfl) ?_
            refine lv_ishl hx hb dX0_changeDay_104 ?_
            refine lv_ior hx hb dX0_changeDay_105 ?_
            refine ia_st (f := fil) (k := sl) hx hb hK hI 3 rfl dX0_changeDay_106 (by omega) (by decide) (fun H locs hI => ?_)
            have hI : wi D z (Ar z) (cw a cI vals (upd fil sl ((fil sl) ||| ((nI 1) <<< (nI dy &&& 31)))) rb (nI t) wo cnt fn X) s H locs := hI
            refine lv_aload_n hx hb dX0_changeDay_107 rfl (lv_at hl 4 rfl) ?_
            refine va_get (D := D) (ci := 0) (v := .ref (a 2)) (C := RX0) (T := TX0) (N := 4) hx hb hts inX0 hown hK.1 hI.2.1 1 rfl rfl 0 (by decide) (hts _ k27) (fun _ h9 => h9) rfl dX0_changeDay_108 ?_
            refine lv_iload hx hb dX0_changeDay_111 (lv_at hl 2 rfl) ?_
            refine lv_iload hx hb dX0_changeDay_113 (lv_at hl 1 rfl) ?_
            refine ia_st (f := vals) (k := sl * 32 + dy) hx hb hK hI 2 rfl dX0_changeDay_115 (by omega) (by decide) (fun H locs hI => ?_)
            have hI : wi D z (Ar z) (cw a cI (upd vals (sl * 32 + dy) ((vals (sl * 32 + dy)) + v)) (upd fil sl ((fil sl) ||| ((nI 1) <<< (nI dy &&& 31)))) rb (nI t) wo cnt fn X) s H locs := hI
            have g9 := cd_3 (o := o) (v := v) hA h1 h2 ho h3 c22 (by first | exact Or.inl c10 | exact Or.inr (by omega))
            refine lv_iload hx hb dX0_changeDay_116 (lv_at hl 0 rfl) ?_
            exact hret (upd vals (sl * 32 + dy) ((vals (sl * 32 + dy)) + v), upd fil sl ((fil sl) ||| ((nI 1) <<< (nI dy &&& 31)))) (!(decide (nw kd v o = o))) hI dX0_changeDay_118 (by first | exact (bi_t (cd_t (by first | exact g9.1 c51 | exact g9.2.1 c51) g9.2.2.1 g9.2.2.2 (by first | exact Or.inl c73 | exact Or.inr c85))).symm | exact (bi_f (cd_f (by first | exact g9.1 c51 | exact g9.2.1 c51) g9.2.2.1 g9.2.2.2 c73 c85)).symm) ⟨rfl, cAbs_put hA h1 h2 (by rw [ho]; first | exact g9.1 c51 | exact g9.2.1 c51), fun _ hp2 => pk_un hp2, fun _ hx2 => pk_un hx2⟩
          · refine lv_aload_n hx hb dX0_changeDay_76 rfl (lv_at hl 3 rfl) ?_
            refine va_get (D := D) (ci := 0) (v := .ref (a 2)) (C := RX0) (T := TX0) (N := 4) hx hb hts inX0 hown hK.1 hI.2.1 1 rfl rfl 0 (by decide) (hts _ k27) (fun _ h9 => h9) rfl dX0_changeDay_77 ?_
            refine lv_iload hx hb dX0_changeDay_80 (lv_at hl 1 rfl) ?_
            refine ia_ld (f := vals) (k := sl * 32 + dy) hx hb hK hI 2 rfl dX0_changeDay_82 (by omega) (by decide) ?_
            refine lv_iload hx hb dX0_changeDay_83 (lv_at hl 0 rfl) ?_
            refine lv_icmp_eq (tgt := 92) hx hb dX0_changeDay_85 (by decide) (fun c85 => ?_) (fun c85 => ?_)
            · refine lv_iconst (v := nI 0) hx hb dX0_changeDay_92 (by decide) ?_
              refine lv_istore (lv' := [(8, .int (nI 0)), (7, .int ((vals (sl * 32 + dy)) + v)), (6, .int (nI (sl * 32 + dy))), (5, .int (bi ((S sl dy).isSome))), (0, .ref (a 1)), (1, .int (nI kd)), (2, .int (nI sl)), (3, .int (nI dy)), (4, .int (v))]) hx hb dX0_changeDay_93 hl (by decide) rfl (fun ls hl => ?_)
              refine lv_aload_n hx hb dX0_changeDay_95 rfl (lv_at hl 4 rfl) ?_
              refine va_get (D := D) (ci := 0) (v := .ref (a 3)) (C := RX0) (T := TX0) (N := 4) hx hb hts inX0 hown hK.1 hI.2.1 1 rfl rfl 1 (by decide) (hts _ k28) (fun _ h9 => h9) rfl dX0_changeDay_96 ?_
              refine lv_iload_n hx hb dX0_changeDay_99 rfl (lv_at hl 6 rfl) ?_
              refine lv_dup2_11 hx hb dX0_changeDay_100 rfl rfl ?_
              refine ia_ld (f := fil) (k := sl) hx hb hK hI 3 rfl dX0_changeDay_101 (by omega) (by decide) ?_
              refine lv_iconst (v := nI 1) hx hb dX0_changeDay_102 (by decide) ?_
              refine lv_iload_n hx hb dX0_changeDay_103 rfl (lv_at hl 7 rfl) ?_
              refine lv_ishl hx hb dX0_changeDay_104 ?_
              refine lv_ior hx hb dX0_changeDay_105 ?_
              refine ia_st (f := fil) (k := sl) hx hb hK hI 3 rfl dX0_changeDay_106 (by omega) (by decide) (fun H locs hI => ?_)
              have hI : wi D z (Ar z) (cw a cI vals (upd fil sl ((fil sl) ||| ((nI 1) <<< (nI dy &&& 31)))) rb (nI t) wo cnt fn X) s H locs := hI
              refine lv_aload_n hx hb dX0_changeDay_107 rfl (lv_at hl 4 rfl) ?_
              refine va_get (D := D) (ci := 0) (v := .ref (a 2)) (C := RX0) (T := TX0) (N := 4) hx hb hts inX0 hown hK.1 hI.2.1 1 rfl rfl 0 (by decide) (hts _ k27) (fun _ h9 => h9) rfl dX0_changeDay_108 ?_
              refine lv_iload hx hb dX0_changeDay_111 (lv_at hl 2 rfl) ?_
              refine lv_iload hx hb dX0_changeDay_113 (lv_at hl 1 rfl) ?_
              refine ia_st (f := vals) (k := sl * 32 + dy) hx hb hK hI 2 rfl dX0_changeDay_115 (by omega) (by decide) (fun H locs hI => ?_)
              have hI : wi D z (Ar z) (cw a cI (upd vals (sl * 32 + dy) ((vals (sl * 32 + dy)) + v)) (upd fil sl ((fil sl) ||| ((nI 1) <<< (nI dy &&& 31)))) rb (nI t) wo cnt fn X) s H locs := hI
              have g9 := cd_3 (o := o) (v := v) hA h1 h2 ho h3 c22 (by first | exact Or.inl c10 | exact Or.inr (by omega))
              refine lv_iload hx hb dX0_changeDay_116 (lv_at hl 0 rfl) ?_
              exact hret (upd vals (sl * 32 + dy) ((vals (sl * 32 + dy)) + v), upd fil sl ((fil sl) ||| ((nI 1) <<< (nI dy &&& 31)))) (!(decide (nw kd v o = o))) hI dX0_changeDay_118 (by first | exact (bi_t (cd_t (by first | exact g9.1 c51 | exact g9.2.1 c51) g9.2.2.1 g9.2.2.2 (by first | exact Or.inl c73 | exact Or.inr c85))).symm | exact (bi_f (cd_f (by first | exact g9.1 c51 | exact g9.2.1 c51) g9.2.2.1 g9.2.2.2 c73 c85)).symm) ⟨rfl, cAbs_put hA h1 h2 (by rw [ho]; first | exact g9.1 c51 | exact g9.2.1 c51), fun _ hp2 => pk_un hp2, fun _ hx2 => pk_un hx2⟩
            · refine lv_iconst (v := nI 1) hx hb dX0_changeDay_88 (by decide) ?_
              refine lv_goto (tgt := 93) hx hb dX0_changeDay_89 (by decide) ?_
              refine lv_istore (lv' := [(8, .int (nI 1)), (7, .int ((vals (sl * 32 + dy)) + v)), (6, .int (nI (sl * 32 + dy))), (5, .int (bi ((S sl dy).isSome))), (0, .ref (a 1)), (1, .int (nI kd)), (2, .int (nI sl)), (3, .int (nI dy)), (4, .int (v))]) hx hb dX0_changeDay_93 hl (by decide) rfl (fun ls hl => ?_)
              refine lv_aload_n hx hb dX0_changeDay_95 rfl (lv_at hl 4 rfl) ?_
              refine va_get (D := D) (ci := 0) (v := .ref (a 3)) (C := RX0) (T := TX0) (N := 4) hx hb hts inX0 hown hK.1 hI.2.1 1 rfl rfl 1 (by decide) (hts _ k28) (fun _ h9 => h9) rfl dX0_changeDay_96 ?_
              refine lv_iload_n hx hb dX0_changeDay_99 rfl (lv_at hl 6 rfl) ?_
              refine lv_dup2_11 hx hb dX0_changeDay_100 rfl rfl ?_
              refine ia_ld (f := fil) (k := sl) hx hb hK hI 3 rfl dX0_changeDay_101 (by omega) (by decide) ?_
              refine lv_iconst (v := nI 1) hx hb dX0_changeDay_102 (by decide) ?_
              refine lv_iload_n hx hb dX0_changeDay_103 rfl (lv_at hl 7 rfl) ?_
              refine lv_ishl hx hb dX0_changeDay_104 ?_
              refine lv_ior hx hb dX0_changeDay_105 ?_
              refine ia_st (f := fil) (k := sl) hx hb hK hI 3 rfl dX0_changeDay_106 (by omega) (by decide) (fun H locs hI => ?_)
              have hI : wi D z (Ar z) (cw a cI vals (upd fil sl ((fil sl) ||| ((nI 1) <<< (nI dy &&& 31)))) rb (nI t) wo cnt fn X) s H locs := hI
              refine lv_aload_n hx hb dX0_changeDay_107 rfl (lv_at hl 4 rfl) ?_
              refine va_get (D := D) (ci := 0) (v := .ref (a 2)) (C := RX0) (T := TX0) (N := 4) hx hb hts inX0 hown hK.1 hI.2.1 1 rfl rfl 0 (by decide) (hts _ k27) (fun _ h9 => h9) rfl dX0_changeDay_108 ?_
              refine lv_iload hx hb dX0_changeDay_111 (lv_at hl 2 rfl) ?_
              refine lv_iload hx hb dX0_changeDay_113 (lv_at hl 1 rfl) ?_
              refine ia_st (f := vals) (k := sl * 32 + dy) hx hb hK hI 2 rfl dX0_changeDay_115 (by omega) (by decide) (fun H locs hI => ?_)
              have hI : wi D z (Ar z) (cw a cI (upd vals (sl * 32 + dy) ((vals (sl * 32 + dy)) + v)) (upd fil sl ((fil sl) ||| ((nI 1) <<< (nI dy &&& 31)))) rb (nI t) wo cnt fn X) s H locs := hI
              have g9 := cd_3 (o := o) (v := v) hA h1 h2 ho h3 c22 (by first | exact Or.inl c10 | exact Or.inr (by omega))
              refine lv_iload hx hb dX0_changeDay_116 (lv_at hl 0 rfl) ?_
              exact hret (upd vals (sl * 32 + dy) ((vals (sl * 32 + dy)) + v), upd fil sl ((fil sl) ||| ((nI 1) <<< (nI dy &&& 31)))) (!(decide (nw kd v o = o))) hI dX0_changeDay_118 (by first | exact (bi_t (cd_t (by first | exact g9.1 c51 | exact g9.2.1 c51) g9.2.2.1 g9.2.2.2 (by first | exact Or.inl c73 | exact Or.inr c85))).symm | exact (bi_f (cd_f (by first | exact g9.1 c51 | exact g9.2.1 c51) g9.2.2.1 g9.2.2.2 c73 c85)).symm) ⟨rfl, cAbs_put hA h1 h2 (by rw [ho]; first | exact g9.1 c51 | exact g9.2.1 c51), fun _ hp2 => pk_un hp2, fun _ hx2 => pk_un hx2⟩
      · refine lv_aload_n hx hb dX0_changeDay_25 rfl (lv_at hl 1 rfl) ?_
        refine va_get (D := D) (ci := 0) (v := .ref (a 3)) (C := RX0) (T := TX0) (N := 4) hx hb hts inX0 hown hK.1 hI.2.1 1 rfl rfl 1 (by decide) (hts _ k28) (fun _ h9 => h9) rfl dX0_changeDay_26 ?_
        refine lv_iload_n hx hb dX0_changeDay_29 rfl (lv_at hl 3 rfl) ?_
        refine lv_dup2_11 hx hb dX0_changeDay_30 rfl rfl ?_
        refine ia_ld (f := fil) (k := sl) hx hb hK hI 3 rfl dX0_changeDay_31 (by omega) (by decide) ?_
        refine lv_iconst (v := nI 1) hx hb dX0_changeDay_32 (by decide) ?_
        refine lv_iload_n hx hb dX0_changeDay_33 rfl (lv_at hl 4 rfl) ?_
        refine lv_ishl hx hb dX0_changeDay_34 ?_
        refine lv_iconst (v := (-1 : Int32)) hx hb dX0_changeDay_35 (by decide) ?_
        refine lv_ixor hx hb dX0_changeDay_36 ?_
        refine lv_iand hx hb dX0_changeDay_37 ?_
        refine ia_st (f := fil) (k := sl) hx hb hK hI 3 rfl dX0_changeDay_38 (by omega) (by decide) (fun H locs hI => ?_)
        have hI : wi D z (Ar z) (cw a cI vals (upd fil sl ((fil sl) &&& (((nI 1) <<< (nI dy &&& 31)) ^^^ ((-1 : Int32))))) rb (nI t) wo cnt fn X) s H locs := hI
        refine lv_iconst (v := nI 1) hx hb dX0_changeDay_39 (by decide) ?_
        exact hret (vals, upd fil sl ((fil sl) &&& (((nI 1) <<< (nI dy &&& 31)) ^^^ ((-1 : Int32))))) (!(decide (nw kd v o = o))) hI dX0_changeDay_40 (cd_2 ho (by first | exact c10 | (exfalso; omega)) c22).1.symm ⟨rfl, cAbs_del hA h1 h2 (by rw [ho]; exact (cd_2 ho (by first | exact c10 | (exfalso; omega)) c22).2), fun _ _ => rfl, fun _ hx2 => pk_un hx2⟩
    · refine lv_iconst (v := nI 0) hx hb dX0_changeDay_18 (by decide) ?_
      exact hret (vals, fil) (!(decide (nw kd v o = o))) hI dX0_changeDay_19 (cd_1 ho c10 c15).1.symm ⟨rfl, cAbs_same hA (by rw [ho]; exact (cd_1 ho c10 c15).2), fun _ _ => rfl, fun _ _ => rfl⟩
set_option maxHeartbeats 4000000 in
set_option maxRecDepth 100000 in
theorem c_X0_perform {l : Launch} {D : va_G} {cI cZ cJ : ClassId} {z : Nat} {a : Nat → Nat} {X : va_W} {vals fil rb : Nat → Int32} {t : Nat} {wo : Nat → Int32} {cnt fn : Int32} {S : Sta} (hA : cAbs S vals fil t) (ht : t < 40) {kind key v fr to : Int32} (hR : rOk S rb t) : muM (S := (Nat → Int32) × (Nat → Int32) × (Nat → Int32)) l yX0_perform cX0_perform 10 (some .int) 5 115 [.ref (a 1), .int (kind), .int (key), .int (v), .int (fr), .int (to)] (pw D cI cZ cJ z (cw a cI vals fil rb (nI t) wo cnt fn X)) D z (fun u => cw a cI (u.1) (u.2.1) (u.2.2) (nI t) wo cnt fn X) (fun r u => r = pret S t kind key v fr to ∧ fr2 t vals fil u.1 u.2.1 ∧ frb t rb u.2.2 ∧ (pcode S t kind key v fr to = 0 → cAbs (pS S t kind key v fr to) u.1 u.2.1 t ∧ rOk (pS S t kind key v fr to) u.2.2 t)) := by
  refine bd_mu (by decide) (Nat.le_of_ble_eq_true rfl) ?_
  intro p e s m args below meth c Q hF hpw hret ls hl
  obtain ⟨hx, hb, hml, hown, hts, hr, hlocks⟩ := id hF
  have hK := hpw.2.2.2
  have hI : wi D z (Ar z) (cw a cI vals fil rb (nI t) wo cnt fn X) s s.heap [] := hpw.wi
  have hl : lv_has ls 10 [(0, .ref (a 1)), (1, .int (kind)), (2, .int (key)), (3, .int (v)), (4, .int (fr)), (5, .int (to))] := hl
  suffices hgo : ∀ (H : Heap) (locs : List Loc), wi D z (Ar z) (cw a cI vals fil rb (nI t) wo cnt fn X) s H locs → ∀ ls : Array Slot, lv_has ls 10 [(0, .ref (a 1)), (1, .int (kind)), (2, .int (key)), (3, .int (v)), (4, .int (fr)), (5, .int (to))] → W p l e (rmv 5 115) s m args below meth c H locs 0 0 Q (F0 m 0 ls []) from hgo _ _ hI ls hl
  intro H locs hI ls hl
  refine lv_iload_n hx hb dX0_perform_0 rfl (lv_at hl 1 rfl) ?_
  refine lv_if_lt (tgt := 26) hx hb dX0_perform_1 (by decide) (fun c1 => ?_) (fun c1 => ?_)
  · refine lv_iconst (v := (-1 : Int32)) hx hb dX0_perform_26 (by decide) ?_
    exact hret (vals, fil, rb) hI dX0_perform_27 (bad_post (by first | exact okS_k1 c1 | exact okS_k2 c6 | exact okS_k3 c13 | exact okS_k4 c23))
  · refine lv_iload_n hx hb dX0_perform_4 rfl (lv_at hl 1 rfl) ?_
    refine lv_iconst (v := nI 4) hx hb dX0_perform_5 (by decide) ?_
    refine lv_icmp_gt (tgt := 26) hx hb dX0_perform_6 (by decide) (fun c6 => ?_) (fun c6 => ?_)
    · refine lv_iconst (v := (-1 : Int32)) hx hb dX0_perform_26 (by decide) ?_
      exact hret (vals, fil, rb) hI dX0_perform_27 (bad_post (by first | exact okS_k1 c1 | exact okS_k2 c6 | exact okS_k3 c13 | exact okS_k4 c23))
    · refine lv_iload_n hx hb dX0_perform_9 rfl (lv_at hl 2 rfl) ?_
      refine k_ro (run_n (As := [.int (key)]) (rest := []) hF (c_X2_isKey ) tt_blind (fun _ _ _ => trivial) cf_X2_isKey hK.2.2.2.1 ⟨Nat.le_of_ble_eq_true rfl, Nat.le_of_ble_eq_true rfl⟩ ⟨rfl, rfl⟩ ⟨Nat.le_of_ble_eq_true rfl, Nat.le_of_ble_eq_true rfl⟩ rfl hl.1 rfl (Nat.le_of_ble_eq_true rfl) dX0_perform_10) hI (fun H locs hI => ?_)
      refine bz_eq (tgt := 26) hx hb dX0_perform_13 (by decide) (fun c13 => ?_) (fun c13 => ?_)
      · refine lv_iconst (v := (-1 : Int32)) hx hb dX0_perform_26 (by decide) ?_
        exact hret (vals, fil, rb) hI dX0_perform_27 (bad_post (by first | exact okS_k1 c1 | exact okS_k2 c6 | exact okS_k3 c13 | exact okS_k4 c23))
      · refine lv_iload hx hb dX0_perform_16 (lv_at hl 4 rfl) ?_
        refine lv_iload hx hb dX0_perform_18 (lv_at hl 5 rfl) ?_
        refine k_ro (run_n (As := [.int (fr), .int (to)]) (rest := []) hF (c_X2_isPeriod ) tt_blind (fun _ _ _ => trivial) cf_X2_isPeriod hK.2.2.2.2.1 ⟨Nat.le_of_ble_eq_true rfl, Nat.le_of_ble_eq_true rfl⟩ ⟨rfl, rfl⟩ ⟨Nat.le_of_ble_eq_true rfl, Nat.le_of_ble_eq_true rfl⟩ rfl hl.1 rfl (Nat.le_of_ble_eq_true rfl) dX0_perform_20) hI (fun H locs hI => ?_)
        refine bz_ne (tgt := 28) hx hb dX0_perform_23 (by decide) (fun c23 => ?_) (fun c23 => ?_)
        · obtain ⟨kd, hkd, rfl⟩ := kind_n c1 c6
          obtain ⟨ky, hky, rfl⟩ := okK_n c13
          obtain ⟨f1, t1, hft, ht1, rfl, rfl⟩ := okP_n c23
          have pcE := pcode_n (S := S) (t := t) (v := v) hkd hky hft ht1
          have pSE := pS_n (S := S) (t := t) (v := v) hkd hky hft ht1
          have pNE := pN_n (S := S) (t := t) (v := v) hkd hky hft ht1
          refine lv_aload_n hx hb dX0_perform_28 rfl (lv_at hl 0 rfl) ?_
          refine va_get (D := D) (ci := 0) (v := .int (nI t)) (C := RX0) (T := TX0) (N := 4) hx hb hts inX0 hown hK.1 hI.2.1 1 rfl rfl 3 (by decide) (hts _ k30) (fun _ h9 => h9) rfl dX0_perform_29 ?_
          refine lv_iload_n hx hb dX0_perform_32 rfl (lv_at hl 2 rfl) ?_
          refine k_ro (run_n (As := [.int (nI t), .int (nI ky)]) (rest := []) hF (c_X2_slotOf ) tt_blind (fun _ _ _ => trivial) cf_X2_slotOf hK.2.2.2.2.2.1 ⟨Nat.le_of_ble_eq_true rfl, Nat.le_of_ble_eq_true rfl⟩ ⟨rfl, rfl⟩ ⟨Nat.le_of_ble_eq_true rfl, Nat.le_of_ble_eq_true rfl⟩ rfl hl.1 rfl (Nat.le_of_ble_eq_true rfl) dX0_perform_33) hI (fun H locs hI => ?_)
          refine lv_istore (lv' := [(6, .int (nI (t * 4 + ky))), (0, .ref (a 1)), (1, .int (nI kd)), (2, .int (nI ky)), (3, .int (v)), (4, .int (nI f1)), (5, .int (nI t1))]) hx hb dX0_perform_36 hl (by decide) rfl (fun ls hl => ?_)
          refine lv_aload_n hx hb dX0_perform_38 rfl (lv_at hl 1 rfl) ?_
          refine va_get (D := D) (ci := 0) (v := .ref (a 3)) (C := RX0) (T := TX0) (N := 4) hx hb hts inX0 hown hK.1 hI.2.1 1 rfl rfl 1 (by decide) (hts _ k28) (fun _ h9 => h9) rfl dX0_perform_39 ?_
          refine lv_iload hx hb dX0_perform_42 (lv_at hl 0 rfl) ?_
          refine ia_ld (f := fil) (k := t * 4 + ky) hx hb hK hI 3 rfl dX0_perform_44 (by omega) (by decide) ?_
          refine lv_iload hx hb dX0_perform_45 (lv_at hl 5 rfl) ?_
          refine lv_iload hx hb dX0_perform_47 (lv_at hl 6 rfl) ?_
          refine k_ro (run_s (As := [.int (nI f1), .int (nI t1)]) (rest := [.int (fil (t * 4 + ky))]) hF (c_X0_maskOf (by omega) (by omega)) tt_blind (fun _ _ _ => trivial) cf_X0_maskOf k216 ⟨Nat.le_of_ble_eq_true rfl, Nat.le_of_ble_eq_true rfl⟩ ⟨rfl, rfl⟩ ⟨Nat.le_of_ble_eq_true rfl, Nat.le_of_ble_eq_true rfl⟩ rfl hl.1 rfl (Nat.le_of_ble_eq_true rfl) dX0_perform_49) hI (fun H locs hI => ?_)
          refine lv_iand hx hb dX0_perform_52 ?_
          have J61 : ∀ (q : Bool) (hq : q = decide (0 < held S (t * 4 + ky) f1 (t1 - f1))) (H : Heap) (locs : List Loc), wi D z (Ar z) (cw a cI vals fil rb (nI t) wo cnt fn X) s H locs → ∀ ls : Array Slot, lv_has ls 10 [(0, .ref (a 1)), (1, .int (nI kd)), (2, .int (nI ky)), (3, .int (v)), (4, .int (nI f1)), (5, .int (nI t1)), (6, .int (nI (t * 4 + ky)))] → W p l e (rmv 5 115) s m args below meth c H locs 0 0 Q (F0 m 61 ls [.int (bi (q))]) := by
            intro q hq H locs hI ls hl
            refine lv_istore (lv' := [(7, .int (bi (q))), (0, .ref (a 1)), (1, .int (nI kd)), (2, .int (nI ky)), (3, .int (v)), (4, .int (nI f1)), (5, .int (nI t1)), (6, .int (nI (t * 4 + ky)))]) hx hb dX0_perform_61 hl (by decide) rfl (fun ls hl => ?_)
            refine lv_iload_n hx hb dX0_perform_63 rfl (lv_at hl 2 rfl) ?_
            refine lv_iconst (v := nI 2) hx hb dX0_perform_64 (by decide) ?_
            refine nb_lt (tgt := 76) hx hb dX0_perform_65 (by decide) (by omega) (by omega) (fun c65 => ?_) (fun c65 => ?_)
            · refine lv_iload_n hx hb dX0_perform_76 rfl (lv_at hl 2 rfl) ?_
              refine lv_iconst (v := nI 1) hx hb dX0_perform_77 (by decide) ?_
              refine nb_ne (tgt := 89) hx hb dX0_perform_78 (by decide) (by omega) (by omega) (fun c78 => ?_) (fun c78 => ?_)
              · refine lv_iconst (v := nI 0) hx hb dX0_perform_89 (by decide) ?_
                refine lv_istore (lv' := [(8, .int (nI 0)), (7, .int (bi (q))), (0, .ref (a 1)), (1, .int (nI kd)), (2, .int (nI ky)), (3, .int (v)), (4, .int (nI f1)), (5, .int (nI t1)), (6, .int (nI (t * 4 + ky)))]) hx hb dX0_perform_90 hl (by decide) rfl (fun ls hl => ?_)
                refine lv_iload hx hb dX0_perform_92 (lv_at hl 6 rfl) ?_
                refine lv_istore (lv' := [(9, .int (nI f1)), (8, .int (nI 0)), (7, .int (bi (q))), (0, .ref (a 1)), (1, .int (nI kd)), (2, .int (nI ky)), (3, .int (v)), (4, .int (nI f1)), (5, .int (nI t1)), (6, .int (nI (t * 4 + ky)))]) hx hb dX0_perform_94 hl (by decide) rfl (fun ls hl => ?_)
                have J96 : ∀ (n96_ : Nat) (x : Nat) (n8 : Nat) (va : Nat → Int32) (fi : Nat → Int32) (hx1 : x ≤ t1) (hx0 : f1 ≤ x) (hAb : cAbs (chg S (t * 4 + ky) kd v f1 (x - f1)) va fi t) (hfr : fr2 t vals fil va fi) (hn : n8 = chgN S (t * 4 + ky) kd v f1 (x - f1)) (hm96 : t1 < x + n96_) (H : Heap) (locs : List Loc), wi D z (Ar z) (cw a cI va fi rb (nI t) wo cnt fn X) s H locs → ∀ ls : Array Slot, lv_has ls 10 [(0, .ref (a 1)), (1, .int (nI kd)), (2, .int (nI ky)), (3, .int (v)), (4, .int (nI f1)), (5, .int (nI t1)), (6, .int (nI (t * 4 + ky))), (7, .int (bi (q))), (8, .int (nI n8)), (9, .int (nI x))] → W p l e (rmv 5 115) s m args below meth c H locs 0 0 Q (F0 m 96 ls []) := by
                  intro n96_
                  induction n96_ with
                  | zero => intro x n8 va fi hx1 hx0 hAb hfr hn hm96; exact absurd hm96 (by omega)
                  | succ n96_ ih96 =>
                    intro x n8 va fi hx1 hx0 hAb hfr hn hm96 H locs hI ls hl
                    refine lv_iload hx hb dX0_perform_96 (lv_at hl 9 rfl) ?_
                    refine lv_iload hx hb dX0_perform_98 (lv_at hl 5 rfl) ?_
                    refine nb_ge (tgt := 125) hx hb dX0_perform_100 (by decide) (by omega) (by omega) (fun c100 => ?_) (fun c100 => ?_)
                    · have e5 : x = t1 := by omega
                      subst e5
                      have hR3 := rOk_chg (kd := kd) (v := v) (fr := f1) (n := x - f1) hR hky
                      refine lv_aload_n hx hb dX0_perform_125 rfl (lv_at hl 0 rfl) ?_
                      refine lv_iload_n hx hb dX0_perform_126 rfl (lv_at hl 2 rfl) ?_
                      refine k_mv (run_v (As := [.int (nI ky)]) (rest := []) hF hK hI (c_X0_recountRows hAb ht (by omega)) cf_X0_recountRows k224 1 0 rfl rfl ⟨Nat.le_of_ble_eq_true rfl, Nat.le_of_ble_eq_true rfl⟩ ⟨rfl, rfl⟩ ⟨Nat.le_of_ble_eq_true rfl, Nat.le_of_ble_eq_true rfl⟩ rfl hl.1 rfl (Nat.le_of_ble_eq_true rfl) dX0_perform_127) hI (fun u127 hp127 H locs hI => ?_)
                      have hI : wi D z (Ar z) (cw a cI va fi (upd rb (t * 4 + ky) (nI (rowsIn (chg S (t * 4 + ky) kd v f1 (x - f1)) (t * 4 + ky)))) (nI t) wo cnt fn X) s H locs := hI
                      refine lv_aload_n hx hb dX0_perform_130 rfl (lv_at hl 0 rfl) ?_
                      refine k_ro (run_v (As := []) (rest := []) hF hK hI (c_X0_countRows hAb ht hR3.1) cf_X0_countRows k252 1 0 rfl rfl ⟨Nat.le_of_ble_eq_true rfl, Nat.le_of_ble_eq_true rfl⟩ ⟨rfl, rfl⟩ ⟨Nat.le_of_ble_eq_true rfl, Nat.le_of_ble_eq_true rfl⟩ rfl hl.1 rfl (Nat.le_of_ble_eq_true rfl) dX0_perform_131) hI (fun H locs hI => ?_)
                      have g7 := rowsTo_le (S := chg S (t * 4 + ky) kd v f1 (x - f1)) (4 * (t + 1))
                      refine lv_sipush (v := nI 150) hx hb dX0_perform_134 (by decide) ?_
                      refine nb_le (tgt := 145) hx hb dX0_perform_137 (by decide) (by omega) (by omega) (fun c137 => ?_) (fun c137 => ?_)
                      · refine lv_iload hx hb dX0_perform_145 (lv_at hl 8 rfl) ?_
                        have hno : ¬ (2 ≤ kd ∧ held S (t * 4 + ky) f1 (x - f1) = 0) ∧ ¬ (kd = 1 ∧ 0 < held S (t * 4 + ky) f1 (x - f1)) := pc_no hq (by first | exact Or.inl (Nat.le_of_lt_succ c65) | exact Or.inr c70) (by first | exact Or.inl c78 | exact Or.inr c83)
                        exact hret (va, fi, _) hI dX0_perform_147 ⟨by rw [hn, ← pNE]; exact pret_0 (by rw [pcE, if_neg hno.1, if_neg hno.2, if_neg (by omega)]), hfr, frb.rf.upd (by omega) (by omega), fun _ => by rw [pSE]; exact ⟨hAb, hR3⟩⟩
                      · refine lv_bipush (v := (-3 : Int32)) hx hb dX0_perform_140 (by decide) ?_
                        refine lv_goto (tgt := 147) hx hb dX0_perform_142 (by decide) ?_
                        have hno : ¬ (2 ≤ kd ∧ held S (t * 4 + ky) f1 (x - f1) = 0) ∧ ¬ (kd = 1 ∧ 0 < held S (t * 4 + ky) f1 (x - f1)) := pc_no hq (by first | exact Or.inl (Nat.le_of_lt_succ c65) | exact Or.inr c70) (by first | exact Or.inl c78 | exact Or.inr c83)
                        exact hret (va, fi, _) hI dX0_perform_147 ⟨pret_2 (by rw [pcE, if_neg hno.1, if_neg hno.2, if_pos c137]), hfr, frb.rf.upd (by omega) (by omega), fun q9 => absurd q9 (by rw [pcE, if_neg hno.1, if_neg hno.2, if_pos c137]; decide)⟩
                    · refine lv_aload_n hx hb dX0_perform_103 rfl (lv_at hl 0 rfl) ?_
                      refine lv_iload_n hx hb dX0_perform_104 rfl (lv_at hl 1 rfl) ?_
                      refine lv_iload hx hb dX0_perform_105 (lv_at hl 6 rfl) ?_
                      refine lv_iload hx hb dX0_perform_107 (lv_at hl 9 rfl) ?_
                      refine lv_iload_n hx hb dX0_perform_109 rfl (lv_at hl 3 rfl) ?_
                      refine k_mu (run_v (As := [.int (nI kd), .int (nI (t * 4 + ky)), .int (nI x), .int (v)]) (rest := []) hF hK hI (c_X0_changeDay hAb ht (by omega) (by omega) (by omega) (chg_at' hx0)) cf_X0_changeDay k219 1 0 rfl rfl ⟨Nat.le_of_ble_eq_true rfl, Nat.le_of_ble_eq_true rfl⟩ ⟨rfl, rfl⟩ ⟨Nat.le_of_ble_eq_true rfl, Nat.le_of_ble_eq_true rfl⟩ rfl hl.1 rfl (Nat.le_of_ble_eq_true rfl) dX0_perform_110) hI (fun r110 u110 hp110 H locs hI => ?_)
                      obtain ⟨e110, ab110, fv110, ff110⟩ := hp110
                      subst e110
                      obtain ⟨va110, fi110⟩ := u110
                      have hI : wi D z (Ar z) (cw a cI va110 fi110 rb (nI t) wo cnt fn X) s H locs := hI
                      refine bz_eq (tgt := 119) hx hb dX0_perform_113 (by decide) (fun c113 => ?_) (fun c113 => ?_)
                      · refine lv_iinc (v := nI (x + 1)) (lv' := [(9, .int (nI (x + 1))), (0, .ref (a 1)), (1, .int (nI kd)), (2, .int (nI ky)), (3, .int (v)), (4, .int (nI f1)), (5, .int (nI t1)), (6, .int (nI (t * 4 + ky))), (7, .int (bi (q))), (8, .int (nI n8))]) hx hb dX0_perform_119 hl (k := 9) rfl (inc_n _ 1) (by decide) rfl (fun ls hl => ?_)
                        refine lv_goto (tgt := 96) hx hb dX0_perform_122 (by decide) ?_
                        exact ih96 (x + 1) n8 va110 fi110 (by omega) (by omega) (by rw [← chg_s' hx0]; exact ab110) (hfr.tr hky (by omega) fv110 ff110) (by rw [chgN_s' hx0, c113, hn]; rfl) (by omega) H locs hI ls (lv_sub hl [1, 2, 3, 4, 5, 6, 7, 8, 9, 0] rfl)
                      · refine lv_iinc (v := nI (n8 + 1)) (lv' := [(8, .int (nI (n8 + 1))), (0, .ref (a 1)), (1, .int (nI kd)), (2, .int (nI ky)), (3, .int (v)), (4, .int (nI f1)), (5, .int (nI t1)), (6, .int (nI (t * 4 + ky))), (7, .int (bi (q))), (9, .int (nI x))]) hx hb dX0_perform_116 hl (k := 8) rfl (inc_n _ 1) (by decide) rfl (fun ls hl => ?_)
                        refine lv_iinc (v := nI (x + 1)) (lv' := [(9, .int (nI (x + 1))), (8, .int (nI (n8 + 1))), (0, .ref (a 1)), (1, .int (nI kd)), (2, .int (nI ky)), (3, .int (v)), (4, .int (nI f1)), (5, .int (nI t1)), (6, .int (nI (t * 4 + ky))), (7, .int (bi (q)))]) hx hb dX0_perform_119 hl (k := 9) rfl (inc_n _ 1) (by decide) rfl (fun ls hl => ?_)
                        refine lv_goto (tgt := 96) hx hb dX0_perform_122 (by decide) ?_
                        exact ih96 (x + 1) (n8 + 1) va110 fi110 (by omega) (by omega) (by rw [← chg_s' hx0]; exact ab110) (hfr.tr hky (by omega) fv110 ff110) (by rw [chgN_s' hx0, c113, hn]; rfl) (by omega) H locs hI ls (lv_sub hl [2, 3, 4, 5, 6, 7, 8, 9, 1, 0] rfl)
                exact J96 (t1 + 1) f1 0 vals fil (by omega) (by omega) (by rw [Nat.sub_self, chg_0]; exact hA) fr2.rf (by rw [Nat.sub_self]; rfl) (by omega) H locs hI ls (lv_sub hl [3, 4, 5, 6, 7, 8, 9, 2, 1, 0] rfl)
              · refine lv_iload hx hb dX0_perform_81 (lv_at hl 0 rfl) ?_
                refine bz_eq (tgt := 89) hx hb dX0_perform_83 (by decide) (fun c83 => ?_) (fun c83 => ?_)
                · refine lv_iconst (v := nI 0) hx hb dX0_perform_89 (by decide) ?_
                  refine lv_istore (lv' := [(8, .int (nI 0)), (7, .int (bi (q))), (0, .ref (a 1)), (1, .int (nI kd)), (2, .int (nI ky)), (3, .int (v)), (4, .int (nI f1)), (5, .int (nI t1)), (6, .int (nI (t * 4 + ky)))]) hx hb dX0_perform_90 hl (by decide) rfl (fun ls hl => ?_)
                  refine lv_iload hx hb dX0_perform_92 (lv_at hl 6 rfl) ?_
                  refine lv_istore (lv' := [(9, .int (nI f1)), (8, .int (nI 0)), (7, .int (bi (q))), (0, .ref (a 1)), (1, .int (nI kd)), (2, .int (nI ky)), (3, .int (v)), (4, .int (nI f1)), (5, .int (nI t1)), (6, .int (nI (t * 4 + ky)))]) hx hb dX0_perform_94 hl (by decide) rfl (fun ls hl => ?_)
                  have J96 : ∀ (n96_ : Nat) (x : Nat) (n8 : Nat) (va : Nat → Int32) (fi : Nat → Int32) (hx1 : x ≤ t1) (hx0 : f1 ≤ x) (hAb : cAbs (chg S (t * 4 + ky) kd v f1 (x - f1)) va fi t) (hfr : fr2 t vals fil va fi) (hn : n8 = chgN S (t * 4 + ky) kd v f1 (x - f1)) (hm96 : t1 < x + n96_) (H : Heap) (locs : List Loc), wi D z (Ar z) (cw a cI va fi rb (nI t) wo cnt fn X) s H locs → ∀ ls : Array Slot, lv_has ls 10 [(0, .ref (a 1)), (1, .int (nI kd)), (2, .int (nI ky)), (3, .int (v)), (4, .int (nI f1)), (5, .int (nI t1)), (6, .int (nI (t * 4 + ky))), (7, .int (bi (q))), (8, .int (nI n8)), (9, .int (nI x))] → W p l e (rmv 5 115) s m args below meth c H locs 0 0 Q (F0 m 96 ls []) := by
                    intro n96_
                    induction n96_ with
                    | zero => intro x n8 va fi hx1 hx0 hAb hfr hn hm96; exact absurd hm96 (by omega)
                    | succ n96_ ih96 =>
                      intro x n8 va fi hx1 hx0 hAb hfr hn hm96 H locs hI ls hl
                      refine lv_iload hx hb dX0_perform_96 (lv_at hl 9 rfl) ?_
                      refine lv_iload hx hb dX0_perform_98 (lv_at hl 5 rfl) ?_
                      refine nb_ge (tgt := 125) hx hb dX0_perform_100 (by decide) (by omega) (by omega) (fun c100 => ?_) (fun c100 => ?_)
                      · have e5 : x = t1 := by omega
                        subst e5
                        have hR3 := rOk_chg (kd := kd) (v := v) (fr := f1) (n := x - f1) hR hky
                        refine lv_aload_n hx hb dX0_perform_125 rfl (lv_at hl 0 rfl) ?_
                        refine lv_iload_n hx hb dX0_perform_126 rfl (lv_at hl 2 rfl) ?_
                        refine k_mv (run_v (As := [.int (nI ky)]) (rest := []) hF hK hI (c_X0_recountRows hAb ht (by omega)) cf_X0_recountRows k224 1 0 rfl rfl ⟨Nat.le_of_ble_eq_true rfl, Nat.le_of_ble_eq_true rfl⟩ ⟨rfl, rfl⟩ ⟨Nat.le_of_ble_eq_true rfl, Nat.le_of_ble_eq_true rfl⟩ rfl hl.1 rfl (Nat.le_of_ble_eq_true rfl) dX0_perform_127) hI (fun u127 hp127 H locs hI => ?_)
                        have hI : wi D z (Ar z) (cw a cI va fi (upd rb (t * 4 + ky) (nI (rowsIn (chg S (t * 4 + ky) kd v f1 (x - f1)) (t * 4 + ky)))) (nI t) wo cnt fn X) s H locs := hI
                        refine lv_aload_n hx hb dX0_perform_130 rfl (lv_at hl 0 rfl) ?_
                        refine k_ro (run_v (As := []) (rest := []) hF hK hI (c_X0_countRows hAb ht hR3.1) cf_X0_countRows k252 1 0 rfl rfl ⟨Nat.le_of_ble_eq_true rfl, Nat.le_of_ble_eq_true rfl⟩ ⟨rfl, rfl⟩ ⟨Nat.le_of_ble_eq_true rfl, Nat.le_of_ble_eq_true rfl⟩ rfl hl.1 rfl (Nat.le_of_ble_eq_true rfl) dX0_perform_131) hI (fun H locs hI => ?_)
                        have g7 := rowsTo_le (S := chg S (t * 4 + ky) kd v f1 (x - f1)) (4 * (t + 1))
                        refine lv_sipush (v := nI 150) hx hb dX0_perform_134 (by decide) ?_
                        refine nb_le (tgt := 145) hx hb dX0_perform_137 (by decide) (by omega) (by omega) (fun c137 => ?_) (fun c137 => ?_)
                        · refine lv_iload hx hb dX0_perform_145 (lv_at hl 8 rfl) ?_
                          have hno : ¬ (2 ≤ kd ∧ held S (t * 4 + ky) f1 (x - f1) = 0) ∧ ¬ (kd = 1 ∧ 0 < held S (t * 4 + ky) f1 (x - f1)) := pc_no hq (by first | exact Or.inl (Nat.le_of_lt_succ c65) | exact Or.inr c70) (by first | exact Or.inl c78 | exact Or.inr c83)
                          exact hret (va, fi, _) hI dX0_perform_147 ⟨by rw [hn, ← pNE]; exact pret_0 (by rw [pcE, if_neg hno.1, if_neg hno.2, if_neg (by omega)]), hfr, frb.rf.upd (by omega) (by omega), fun _ => by rw [pSE]; exact ⟨hAb, hR3⟩⟩
                        · refine lv_bipush (v := (-3 : Int32)) hx hb dX0_perform_140 (by decide) ?_
                          refine lv_goto (tgt := 147) hx hb dX0_perform_142 (by decide) ?_
                          have hno : ¬ (2 ≤ kd ∧ held S (t * 4 + ky) f1 (x - f1) = 0) ∧ ¬ (kd = 1 ∧ 0 < held S (t * 4 + ky) f1 (x - f1)) := pc_no hq (by first | exact Or.inl (Nat.le_of_lt_succ c65) | exact Or.inr c70) (by first | exact Or.inl c78 | exact Or.inr c83)
                          exact hret (va, fi, _) hI dX0_perform_147 ⟨pret_2 (by rw [pcE, if_neg hno.1, if_neg hno.2, if_pos c137]), hfr, frb.rf.upd (by omega) (by omega), fun q9 => absurd q9 (by rw [pcE, if_neg hno.1, if_neg hno.2, if_pos c137]; decide)⟩
                      · refine lv_aload_n hx hb dX0_perform_103 rfl (lv_at hl 0 rfl) ?_
                        refine lv_iload_n hx hb dX0_perform_104 rfl (lv_at hl 1 rfl) ?_
                        refine lv_iload hx hb dX0_perform_105 (lv_at hl 6 rfl) ?_
                        refine lv_iload hx hb dX0_perform_107 (lv_at hl 9 rfl) ?_
                        refine lv_iload_n hx hb dX0_perform_109 rfl (lv_at hl 3 rfl) ?_
                        refine k_mu (run_v (As := [.int (nI kd), .int (nI (t * 4 + ky)), .int (nI x), .int (v)]) (rest := []) hF hK hI (c_X0_changeDay hAb ht (by omega) (by omega) (by omega) (chg_at' hx0)) cf_X0_changeDay k219 1 0 rfl rfl ⟨Nat.le_of_ble_eq_true rfl, Nat.le_of_ble_eq_true rfl⟩ ⟨rfl, rfl⟩ ⟨Nat.le_of_ble_eq_true rfl, Nat.le_of_ble_eq_true rfl⟩ rfl hl.1 rfl (Nat.le_of_ble_eq_true rfl) dX0_perform_110) hI (fun r110 u110 hp110 H locs hI => ?_)
                        obtain ⟨e110, ab110, fv110, ff110⟩ := hp110
                        subst e110
                        obtain ⟨va110, fi110⟩ := u110
                        have hI : wi D z (Ar z) (cw a cI va110 fi110 rb (nI t) wo cnt fn X) s H locs := hI
                        refine bz_eq (tgt := 119) hx hb dX0_perform_113 (by decide) (fun c113 => ?_) (fun c113 => ?_)
                        · refine lv_iinc (v := nI (x + 1)) (lv' := [(9, .int (nI (x + 1))), (0, .ref (a 1)), (1, .int (nI kd)), (2, .int (nI ky)), (3, .int (v)), (4, .int (nI f1)), (5, .int (nI t1)), (6, .int (nI (t * 4 + ky))), (7, .int (bi (q))), (8, .int (nI n8))]) hx hb dX0_perform_119 hl (k := 9) rfl (inc_n _ 1) (by decide) rfl (fun ls hl => ?_)
                          refine lv_goto (tgt := 96) hx hb dX0_perform_122 (by decide) ?_
                          exact ih96 (x + 1) n8 va110 fi110 (by omega) (by omega) (by rw [← chg_s' hx0]; exact ab110) (hfr.tr hky (by omega) fv110 ff110) (by rw [chgN_s' hx0, c113, hn]; rfl) (by omega) H locs hI ls (lv_sub hl [1, 2, 3, 4, 5, 6, 7, 8, 9, 0] rfl)
                        · refine lv_iinc (v := nI (n8 + 1)) (lv' := [(8, .int (nI (n8 + 1))), (0, .ref (a 1)), (1, .int (nI kd)), (2, .int (nI ky)), (3, .int (v)), (4, .int (nI f1)), (5, .int (nI t1)), (6, .int (nI (t * 4 + ky))), (7, .int (bi (q))), (9, .int (nI x))]) hx hb dX0_perform_116 hl (k := 8) rfl (inc_n _ 1) (by decide) rfl (fun ls hl => ?_)
                          refine lv_iinc (v := nI (x + 1)) (lv' := [(9, .int (nI (x + 1))), (8, .int (nI (n8 + 1))), (0, .ref (a 1)), (1, .int (nI kd)), (2, .int (nI ky)), (3, .int (v)), (4, .int (nI f1)), (5, .int (nI t1)), (6, .int (nI (t * 4 + ky))), (7, .int (bi (q)))]) hx hb dX0_perform_119 hl (k := 9) rfl (inc_n _ 1) (by decide) rfl (fun ls hl => ?_)
                          refine lv_goto (tgt := 96) hx hb dX0_perform_122 (by decide) ?_
                          exact ih96 (x + 1) (n8 + 1) va110 fi110 (by omega) (by omega) (by rw [← chg_s' hx0]; exact ab110) (hfr.tr hky (by omega) fv110 ff110) (by rw [chgN_s' hx0, c113, hn]; rfl) (by omega) H locs hI ls (lv_sub hl [2, 3, 4, 5, 6, 7, 8, 9, 1, 0] rfl)
                  exact J96 (t1 + 1) f1 0 vals fil (by omega) (by omega) (by rw [Nat.sub_self, chg_0]; exact hA) fr2.rf (by rw [Nat.sub_self]; rfl) (by omega) H locs hI ls (lv_sub hl [3, 4, 5, 6, 7, 8, 9, 2, 1, 0] rfl)
                · refine lv_bipush (v := (-3 : Int32)) hx hb dX0_perform_86 (by decide) ?_
                  exact hret (vals, fil, rb) hI dX0_perform_88 ⟨pret_2 (pc_2 pcE c78 (of_decide_eq_true (hq ▸ c83))), fr2.rf, frb.rf, fun q9 => absurd q9 (by rw [pc_2 pcE c78 (of_decide_eq_true (hq ▸ c83))]; decide)⟩
            · refine lv_iload hx hb dX0_perform_68 (lv_at hl 0 rfl) ?_
              refine bz_ne (tgt := 76) hx hb dX0_perform_70 (by decide) (fun c70 => ?_) (fun c70 => ?_)
              · refine lv_iload_n hx hb dX0_perform_76 rfl (lv_at hl 2 rfl) ?_
                refine lv_iconst (v := nI 1) hx hb dX0_perform_77 (by decide) ?_
                refine nb_ne (tgt := 89) hx hb dX0_perform_78 (by decide) (by omega) (by omega) (fun c78 => ?_) (fun c78 => ?_)
                · refine lv_iconst (v := nI 0) hx hb dX0_perform_89 (by decide) ?_
                  refine lv_istore (lv' := [(8, .int (nI 0)), (7, .int (bi (q))), (0, .ref (a 1)), (1, .int (nI kd)), (2, .int (nI ky)), (3, .int (v)), (4, .int (nI f1)), (5, .int (nI t1)), (6, .int (nI (t * 4 + ky)))]) hx hb dX0_perform_90 hl (by decide) rfl (fun ls hl => ?_)
                  refine lv_iload hx hb dX0_perform_92 (lv_at hl 6 rfl) ?_
                  refine lv_istore (lv' := [(9, .int (nI f1)), (8, .int (nI 0)), (7, .int (bi (q))), (0, .ref (a 1)), (1, .int (nI kd)), (2, .int (nI ky)), (3, .int (v)), (4, .int (nI f1)), (5, .int (nI t1)), (6, .int (nI (t * 4 + ky)))]) hx hb dX0_perform_94 hl (by decide) rfl (fun ls hl => ?_)
                  have J96 : ∀ (n96_ : Nat) (x : Nat) (n8 : Nat) (va : Nat → Int32) (fi : Nat → Int32) (hx1 : x ≤ t1) (hx0 : f1 ≤ x) (hAb : cAbs (chg S (t * 4 + ky) kd v f1 (x - f1)) va fi t) (hfr : fr2 t vals fil va fi) (hn : n8 = chgN S (t * 4 + ky) kd v f1 (x - f1)) (hm96 : t1 < x + n96_) (H : Heap) (locs : List Loc), wi D z (Ar z) (cw a cI va fi rb (nI t) wo cnt fn X) s H locs → ∀ ls : Array Slot, lv_has ls 10 [(0, .ref (a 1)), (1, .int (nI kd)), (2, .int (nI ky)), (3, .int (v)), (4, .int (nI f1)), (5, .int (nI t1)), (6, .int (nI (t * 4 + ky))), (7, .int (bi (q))), (8, .int (nI n8)), (9, .int (nI x))] → W p l e (rmv 5 115) s m args below meth c H locs 0 0 Q (F0 m 96 ls []) := by
                    intro n96_
                    induction n96_ with
                    | zero => intro x n8 va fi hx1 hx0 hAb hfr hn hm96; exact absurd hm96 (by omega)
                    | succ n96_ ih96 =>
                      intro x n8 va fi hx1 hx0 hAb hfr hn hm96 H locs hI ls hl
                      refine lv_iload hx hb dX0_perform_96 (lv_at hl 9 rfl) ?_
                      refine lv_iload hx hb dX0_perform_98 (lv_at hl 5 rfl) ?_
                      refine nb_ge (tgt := 125) hx hb dX0_perform_100 (by decide) (by omega) (by omega) (fun c100 => ?_) (fun c100 => ?_)
                      · have e5 : x = t1 := by omega
                        subst e5
                        have hR3 := rOk_chg (kd := kd) (v := v) (fr := f1) (n := x - f1) hR hky
                        refine lv_aload_n hx hb dX0_perform_125 rfl (lv_at hl 0 rfl) ?_
                        refine lv_iload_n hx hb dX0_perform_126 rfl (lv_at hl 2 rfl) ?_
                        refine k_mv (run_v (As := [.int (nI ky)]) (rest := []) hF hK hI (c_X0_recountRows hAb ht (by omega)) cf_X0_recountRows k224 1 0 rfl rfl ⟨Nat.le_of_ble_eq_true rfl, Nat.le_of_ble_eq_true rfl⟩ ⟨rfl, rfl⟩ ⟨Nat.le_of_ble_eq_true rfl, Nat.le_of_ble_eq_true rfl⟩ rfl hl.1 rfl (Nat.le_of_ble_eq_true rfl) dX0_perform_127) hI (fun u127 hp127 H locs hI => ?_)
                        have hI : wi D z (Ar z) (cw a cI va fi (upd rb (t * 4 + ky) (nI (rowsIn (chg S (t * 4 + ky) kd v f1 (x - f1)) (t * 4 + ky)))) (nI t) wo cnt fn X) s H locs := hI
                        refine lv_aload_n hx hb dX0_perform_130 rfl (lv_at hl 0 rfl) ?_
                        refine k_ro (run_v (As := []) (rest := []) hF hK hI (c_X0_countRows hAb ht hR3.1) cf_X0_countRows k252 1 0 rfl rfl ⟨Nat.le_of_ble_eq_true rfl, Nat.le_of_ble_eq_true rfl⟩ ⟨rfl, rfl⟩ ⟨Nat.le_of_ble_eq_true rfl, Nat.le_of_ble_eq_true rfl⟩ rfl hl.1 rfl (Nat.le_of_ble_eq_true rfl) dX0_perform_131) hI (fun H locs hI => ?_)
                        have g7 := rowsTo_le (S := chg S (t * 4 + ky) kd v f1 (x - f1)) (4 * (t + 1))
                        refine lv_sipush (v := nI 150) hx hb dX0_perform_134 (by decide) ?_
                        refine nb_le (tgt := 145) hx hb dX0_perform_137 (by decide) (by omega) (by omega) (fun c137 => ?_) (fun c137 => ?_)
                        · refine lv_iload hx hb dX0_perform_145 (lv_at hl 8 rfl) ?_
                          have hno : ¬ (2 ≤ kd ∧ held S (t * 4 + ky) f1 (x - f1) = 0) ∧ ¬ (kd = 1 ∧ 0 < held S (t * 4 + ky) f1 (x - f1)) := pc_no hq (by first | exact Or.inl (Nat.le_of_lt_succ c65) | exact Or.inr c70) (by first | exact Or.inl c78 | exact Or.inr c83)
                          exact hret (va, fi, _) hI dX0_perform_147 ⟨by rw [hn, ← pNE]; exact pret_0 (by rw [pcE, if_neg hno.1, if_neg hno.2, if_neg (by omega)]), hfr, frb.rf.upd (by omega) (by omega), fun _ => by rw [pSE]; exact ⟨hAb, hR3⟩⟩
                        · refine lv_bipush (v := (-3 : Int32)) hx hb dX0_perform_140 (by decide) ?_
                          refine lv_goto (tgt := 147) hx hb dX0_perform_142 (by decide) ?_
                          have hno : ¬ (2 ≤ kd ∧ held S (t * 4 + ky) f1 (x - f1) = 0) ∧ ¬ (kd = 1 ∧ 0 < held S (t * 4 + ky) f1 (x - f1)) := pc_no hq (by first | exact Or.inl (Nat.le_of_lt_succ c65) | exact Or.inr c70) (by first | exact Or.inl c78 | exact Or.inr c83)
                          exact hret (va, fi, _) hI dX0_perform_147 ⟨pret_2 (by rw [pcE, if_neg hno.1, if_neg hno.2, if_pos c137]), hfr, frb.rf.upd (by omega) (by omega), fun q9 => absurd q9 (by rw [pcE, if_neg hno.1, if_neg hno.2, if_pos c137]; decide)⟩
                      · refine lv_aload_n hx hb dX0_perform_103 rfl (lv_at hl 0 rfl) ?_
                        refine lv_iload_n hx hb dX0_perform_104 rfl (lv_at hl 1 rfl) ?_
                        refine lv_iload hx hb dX0_perform_105 (lv_at hl 6 rfl) ?_
                        refine lv_iload hx hb dX0_perform_107 (lv_at hl 9 rfl) ?_
                        refine lv_iload_n hx hb dX0_perform_109 rfl (lv_at hl 3 rfl) ?_
                        refine k_mu (run_v (As := [.int (nI kd), .int (nI (t * 4 + ky)), .int (nI x), .int (v)]) (rest := []) hF hK hI (c_X0_changeDay hAb ht (by omega) (by omega) (by omega) (chg_at' hx0)) cf_X0_changeDay k219 1 0 rfl rfl ⟨Nat.le_of_ble_eq_true rfl, Nat.le_of_ble_eq_true rfl⟩ ⟨rfl, rfl⟩ ⟨Nat.le_of_ble_eq_true rfl, Nat.le_of_ble_eq_true rfl⟩ rfl hl.1 rfl (Nat.le_of_ble_eq_true rfl) dX0_perform_110) hI (fun r110 u110 hp110 H locs hI => ?_)
                        obtain ⟨e110, ab110, fv110, ff110⟩ := hp110
                        subst e110
                        obtain ⟨va110, fi110⟩ := u110
                        have hI : wi D z (Ar z) (cw a cI va110 fi110 rb (nI t) wo cnt fn X) s H locs := hI
                        refine bz_eq (tgt := 119) hx hb dX0_perform_113 (by decide) (fun c113 => ?_) (fun c113 => ?_)
                        · refine lv_iinc (v := nI (x + 1)) (lv' := [(9, .int (nI (x + 1))), (0, .ref (a 1)), (1, .int (nI kd)), (2, .int (nI ky)), (3, .int (v)), (4, .int (nI f1)), (5, .int (nI t1)), (6, .int (nI (t * 4 + ky))), (7, .int (bi (q))), (8, .int (nI n8))]) hx hb dX0_perform_119 hl (k := 9) rfl (inc_n _ 1) (by decide) rfl (fun ls hl => ?_)
                          refine lv_goto (tgt := 96) hx hb dX0_perform_122 (by decide) ?_
                          exact ih96 (x + 1) n8 va110 fi110 (by omega) (by omega) (by rw [← chg_s' hx0]; exact ab110) (hfr.tr hky (by omega) fv110 ff110) (by rw [chgN_s' hx0, c113, hn]; rfl) (by omega) H locs hI ls (lv_sub hl [1, 2, 3, 4, 5, 6, 7, 8, 9, 0] rfl)
                        · refine lv_iinc (v := nI (n8 + 1)) (lv' := [(8, .int (nI (n8 + 1))), (0, .ref (a 1)), (1, .int (nI kd)), (2, .int (nI ky)), (3, .int (v)), (4, .int (nI f1)), (5, .int (nI t1)), (6, .int (nI (t * 4 + ky))), (7, .int (bi (q))), (9, .int (nI x))]) hx hb dX0_perform_116 hl (k := 8) rfl (inc_n _ 1) (by decide) rfl (fun ls hl => ?_)
                          refine lv_iinc (v := nI (x + 1)) (lv' := [(9, .int (nI (x + 1))), (8, .int (nI (n8 + 1))), (0, .ref (a 1)), (1, .int (nI kd)), (2, .int (nI ky)), (3, .int (v)), (4, .int (nI f1)), (5, .int (nI t1)), (6, .int (nI (t * 4 + ky))), (7, .int (bi (q)))]) hx hb dX0_perform_119 hl (k := 9) rfl (inc_n _ 1) (by decide) rfl (fun ls hl => ?_)
                          refine lv_goto (tgt := 96) hx hb dX0_perform_122 (by decide) ?_
                          exact ih96 (x + 1) (n8 + 1) va110 fi110 (by omega) (by omega) (by rw [← chg_s' hx0]; exact ab110) (hfr.tr hky (by omega) fv110 ff110) (by rw [chgN_s' hx0, c113, hn]; rfl) (by omega) H locs hI ls (lv_sub hl [2, 3, 4, 5, 6, 7, 8, 9, 1, 0] rfl)
                  exact J96 (t1 + 1) f1 0 vals fil (by omega) (by omega) (by rw [Nat.sub_self, chg_0]; exact hA) fr2.rf (by rw [Nat.sub_self]; rfl) (by omega) H locs hI ls (lv_sub hl [3, 4, 5, 6, 7, 8, 9, 2, 1, 0] rfl)
                · refine lv_iload hx hb dX0_perform_81 (lv_at hl 0 rfl) ?_
                  refine bz_eq (tgt := 89) hx hb dX0_perform_83 (by decide) (fun c83 => ?_) (fun c83 => ?_)
                  · refine lv_iconst (v := nI 0) hx hb dX0_perform_89 (by decide) ?_
                    refine lv_istore (lv' := [(8, .int (nI 0)), (7, .int (bi (q))), (0, .ref (a 1)), (1, .int (nI kd)), (2, .int (nI ky)), (3, .int (v)), (4, .int (nI f1)), (5, .int (nI t1)), (6, .int (nI (t * 4 + ky)))]) hx hb dX0_perform_90 hl (by decide) rfl (fun ls hl => ?_)
                    refine lv_iload hx hb dX0_perform_92 (lv_at hl 6 rfl) ?_
                    refine lv_istore (lv' := [(9, .int (nI f1)), (8, .int (nI 0)), (7, .int (bi (q))), (0, .ref (a 1)), (1, .int (nI kd)), (2, .int (nI ky)), (3, .int (v)), (4, .int (nI f1)), (5, .int (nI t1)), (6, .int (nI (t * 4 + ky)))]) hx hb dX0_perform_94 hl (by decide) rfl (fun ls hl => ?_)
                    have J96 : ∀ (n96_ : Nat) (x : Nat) (n8 : Nat) (va : Nat → Int32) (fi : Nat → Int32) (hx1 : x ≤ t1) (hx0 : f1 ≤ x) (hAb : cAbs (chg S (t * 4 + ky) kd v f1 (x - f1)) va fi t) (hfr : fr2 t vals fil va fi) (hn : n8 = chgN S (t * 4 + ky) kd v f1 (x - f1)) (hm96 : t1 < x + n96_) (H : Heap) (locs : List Loc), wi D z (Ar z) (cw a cI va fi rb (nI t) wo cnt fn X) s H locs → ∀ ls : Array Slot, lv_has ls 10 [(0, .ref (a 1)), (1, .int (nI kd)), (2, .int (nI ky)), (3, .int (v)), (4, .int (nI f1)), (5, .int (nI t1)), (6, .int (nI (t * 4 + ky))), (7, .int (bi (q))), (8, .int (nI n8)), (9, .int (nI x))] → W p l e (rmv 5 115) s m args below meth c H locs 0 0 Q (F0 m 96 ls []) := by
                      intro n96_
                      induction n96_ with
                      | zero => intro x n8 va fi hx1 hx0 hAb hfr hn hm96; exact absurd hm96 (by omega)
                      | succ n96_ ih96 =>
                        intro x n8 va fi hx1 hx0 hAb hfr hn hm96 H locs hI ls hl
                        refine lv_iload hx hb dX0_perform_96 (lv_at hl 9 rfl) ?_
                        refine lv_iload hx hb dX0_perform_98 (lv_at hl 5 rfl) ?_
                        refine nb_ge (tgt := 125) hx hb dX0_perform_100 (by decide) (by omega) (by omega) (fun c100 => ?_) (fun c100 => ?_)
                        · have e5 : x = t1 := by omega
                          subst e5
                          have hR3 := rOk_chg (kd := kd) (v := v) (fr := f1) (n := x - f1) hR hky
                          refine lv_aload_n hx hb dX0_perform_125 rfl (lv_at hl 0 rfl) ?_
                          refine lv_iload_n hx hb dX0_perform_126 rfl (lv_at hl 2 rfl) ?_
                          refine k_mv (run_v (As := [.int (nI ky)]) (rest := []) hF hK hI (c_X0_recountRows hAb ht (by omega)) cf_X0_recountRows k224 1 0 rfl rfl ⟨Nat.le_of_ble_eq_true rfl, Nat.le_of_ble_eq_true rfl⟩ ⟨rfl, rfl⟩ ⟨Nat.le_of_ble_eq_true rfl, Nat.le_of_ble_eq_true rfl⟩ rfl hl.1 rfl (Nat.le_of_ble_eq_true rfl) dX0_perform_127) hI (fun u127 hp127 H locs hI => ?_)
                          have hI : wi D z (Ar z) (cw a cI va fi (upd rb (t * 4 + ky) (nI (rowsIn (chg S (t * 4 + ky) kd v f1 (x - f1)) (t * 4 + ky)))) (nI t) wo cnt fn X) s H locs := hI
                          refine lv_aload_n hx hb dX0_perform_130 rfl (lv_at hl 0 rfl) ?_
                          refine k_ro (run_v (As := []) (rest := []) hF hK hI (c_X0_countRows hAb ht hR3.1) cf_X0_countRows k252 1 0 rfl rfl ⟨Nat.le_of_ble_eq_true rfl, Nat.le_of_ble_eq_true rfl⟩ ⟨rfl, rfl⟩ ⟨Nat.le_of_ble_eq_true rfl, Nat.le_of_ble_eq_true rfl⟩ rfl hl.1 rfl (Nat.le_of_ble_eq_true rfl) dX0_perform_131) hI (fun H locs hI => ?_)
                          have g7 := rowsTo_le (S := chg S (t * 4 + ky) kd v f1 (x - f1)) (4 * (t + 1))
                          refine lv_sipush (v := nI 150) hx hb dX0_perform_134 (by decide) ?_
                          refine nb_le (tgt := 145) hx hb dX0_perform_137 (by decide) (by omega) (by omega) (fun c137 => ?_) (fun c137 => ?_)
                          · refine lv_iload hx hb dX0_perform_145 (lv_at hl 8 rfl) ?_
                            have hno : ¬ (2 ≤ kd ∧ held S (t * 4 + ky) f1 (x - f1) = 0) ∧ ¬ (kd = 1 ∧ 0 < held S (t * 4 + ky) f1 (x - f1)) := pc_no hq (by first | exact Or.inl (Nat.le_of_lt_succ c65) | exact Or.inr c70) (by first | exact Or.inl c78 | exact Or.inr c83)
                            exact hret (va, fi, _) hI dX0_perform_147 ⟨by rw [hn, ← pNE]; exact pret_0 (by rw [pcE, if_neg hno.1, if_neg hno.2, if_neg (by omega)]), hfr, frb.rf.upd (by omega) (by omega), fun _ => by rw [pSE]; exact ⟨hAb, hR3⟩⟩
                          · refine lv_bipush (v := (-3 : Int32)) hx hb dX0_perform_140 (by decide) ?_
                            refine lv_goto (tgt := 147) hx hb dX0_perform_142 (by decide) ?_
                            have hno : ¬ (2 ≤ kd ∧ held S (t * 4 + ky) f1 (x - f1) = 0) ∧ ¬ (kd = 1 ∧ 0 < held S (t * 4 + ky) f1 (x - f1)) := pc_no hq (by first | exact Or.inl (Nat.le_of_lt_succ c65) | exact Or.inr c70) (by first | exact Or.inl c78 | exact Or.inr c83)
                            exact hret (va, fi, _) hI dX0_perform_147 ⟨pret_2 (by rw [pcE, if_neg hno.1, if_neg hno.2, if_pos c137]), hfr, frb.rf.upd (by omega) (by omega), fun q9 => absurd q9 (by rw [pcE, if_neg hno.1, if_neg hno.2, if_pos c137]; decide)⟩
                        · refine lv_aload_n hx hb dX0_perform_103 rfl (lv_at hl 0 rfl) ?_
                          refine lv_iload_n hx hb dX0_perform_104 rfl (lv_at hl 1 rfl) ?_
                          refine lv_iload hx hb dX0_perform_105 (lv_at hl 6 rfl) ?_
                          refine lv_iload hx hb dX0_perform_107 (lv_at hl 9 rfl) ?_
                          refine lv_iload_n hx hb dX0_perform_109 rfl (lv_at hl 3 rfl) ?_
                          refine k_mu (run_v (As := [.int (nI kd), .int (nI (t * 4 + ky)), .int (nI x), .int (v)]) (rest := []) hF hK hI (c_X0_changeDay hAb ht (by omega) (by omega) (by omega) (chg_at' hx0)) cf_X0_changeDay k219 1 0 rfl rfl ⟨Nat.le_of_ble_eq_true rfl, Nat.le_of_ble_eq_true rfl⟩ ⟨rfl, rfl⟩ ⟨Nat.le_of_ble_eq_true rfl, Nat.le_of_ble_eq_true rfl⟩ rfl hl.1 rfl (Nat.le_of_ble_eq_true rfl) dX0_perform_110) hI (fun r110 u110 hp110 H locs hI => ?_)
                          obtain ⟨e110, ab110, fv110, ff110⟩ := hp110
                          subst e110
                          obtain ⟨va110, fi110⟩ := u110
                          have hI : wi D z (Ar z) (cw a cI va110 fi110 rb (nI t) wo cnt fn X) s H locs := hI
                          refine bz_eq (tgt := 119) hx hb dX0_perform_113 (by decide) (fun c113 => ?_) (fun c113 => ?_)
                          · refine lv_iinc (v := nI (x + 1)) (lv' := [(9, .int (nI (x + 1))), (0, .ref (a 1)), (1, .int (nI kd)), (2, .int (nI ky)), (3, .int (v)), (4, .int (nI f1)), (5, .int (nI t1)), (6, .int (nI (t * 4 + ky))), (7, .int (bi (q))), (8, .int (nI n8))]) hx hb dX0_perform_119 hl (k := 9) rfl (inc_n _ 1) (by decide) rfl (fun ls hl => ?_)
                            refine lv_goto (tgt := 96) hx hb dX0_perform_122 (by decide) ?_
                            exact ih96 (x + 1) n8 va110 fi110 (by omega) (by omega) (by rw [← chg_s' hx0]; exact ab110) (hfr.tr hky (by omega) fv110 ff110) (by rw [chgN_s' hx0, c113, hn]; rfl) (by omega) H locs hI ls (lv_sub hl [1, 2, 3, 4, 5, 6, 7, 8, 9, 0] rfl)
                          · refine lv_iinc (v := nI (n8 + 1)) (lv' := [(8, .int (nI (n8 + 1))), (0, .ref (a 1)), (1, .int (nI kd)), (2, .int (nI ky)), (3, .int (v)), (4, .int (nI f1)), (5, .int (nI t1)), (6, .int (nI (t * 4 + ky))), (7, .int (bi (q))), (9, .int (nI x))]) hx hb dX0_perform_116 hl (k := 8) rfl (inc_n _ 1) (by decide) rfl (fun ls hl => ?_)
                            refine lv_iinc (v := nI (x + 1)) (lv' := [(9, .int (nI (x + 1))), (8, .int (nI (n8 + 1))), (0, .ref (a 1)), (1, .int (nI kd)), (2, .int (nI ky)), (3, .int (v)), (4, .int (nI f1)), (5, .int (nI t1)), (6, .int (nI (t * 4 + ky))), (7, .int (bi (q)))]) hx hb dX0_perform_119 hl (k := 9) rfl (inc_n _ 1) (by decide) rfl (fun ls hl => ?_)
                            refine lv_goto (tgt := 96) hx hb dX0_perform_122 (by decide) ?_
                            exact ih96 (x + 1) (n8 + 1) va110 fi110 (by omega) (by omega) (by rw [← chg_s' hx0]; exact ab110) (hfr.tr hky (by omega) fv110 ff110) (by rw [chgN_s' hx0, c113, hn]; rfl) (by omega) H locs hI ls (lv_sub hl [2, 3, 4, 5, 6, 7, 8, 9, 1, 0] rfl)
                    exact J96 (t1 + 1) f1 0 vals fil (by omega) (by omega) (by rw [Nat.sub_self, chg_0]; exact hA) fr2.rf (by rw [Nat.sub_self]; rfl) (by omega) H locs hI ls (lv_sub hl [3, 4, 5, 6, 7, 8, 9, 2, 1, 0] rfl)
                  · refine lv_bipush (v := (-3 : Int32)) hx hb dX0_perform_86 (by decide) ?_
                    exact hret (vals, fil, rb) hI dX0_perform_88 ⟨pret_2 (pc_2 pcE c78 (of_decide_eq_true (hq ▸ c83))), fr2.rf, frb.rf, fun q9 => absurd q9 (by rw [pc_2 pcE c78 (of_decide_eq_true (hq ▸ c83))]; decide)⟩
              · refine lv_bipush (v := (-2 : Int32)) hx hb dX0_perform_73 (by decide) ?_
                exact hret (vals, fil, rb) hI dX0_perform_75 ⟨pret_3 (by rw [pcE, if_pos ⟨by omega, by have := of_decide_eq_false (hq ▸ c70 : _ = _); omega⟩]), fr2.rf, frb.rf, fun q9 => absurd q9 (by rw [pcE, if_pos ⟨by omega, by have := of_decide_eq_false (hq ▸ c70 : _ = _); omega⟩]; decide)⟩
          refine lv_if_eq (tgt := 60) hx hb dX0_perform_53 (by decide) (fun c53 => ?_) (fun c53 => ?_)
          · refine lv_iconst (v := nI 0) hx hb dX0_perform_60 (by decide) ?_
            exact J61 false (by symm; rw [decide_eq_false_iff_not]; exact (mask_0 hA (by omega) hft ht1).mp c53) H locs hI ls (lv_sub hl [1, 2, 3, 4, 5, 6, 0] rfl)
          · refine lv_iconst (v := nI 1) hx hb dX0_perform_56 (by decide) ?_
            refine lv_goto (tgt := 61) hx hb dX0_perform_57 (by decide) ?_
            exact J61 true (by symm; rw [decide_eq_true_eq]; exact Decidable.byContradiction (fun q => c53 ((mask_0 hA (by omega) hft ht1).mpr q))) H locs hI ls (lv_sub hl [1, 2, 3, 4, 5, 6, 0] rfl)
        · refine lv_iconst (v := (-1 : Int32)) hx hb dX0_perform_26 (by decide) ?_
          exact hret (vals, fil, rb) hI dX0_perform_27 (bad_post (by first | exact okS_k1 c1 | exact okS_k2 c6 | exact okS_k3 c13 | exact okS_k4 c23))
