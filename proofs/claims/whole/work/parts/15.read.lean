set_option maxHeartbeats 4000000 in
set_option maxRecDepth 100000 in
theorem c_X2_slotOf {l : Launch} {tm ky : Nat}  : roM l yX2_slotOf cX2_slotOf 2 (some .int) 0 0 [.int (nI tm), .int (nI ky)] (fun _ => True) (nI (tm * 4 + ky)) := by
  refine bd_ro (by decide) (Nat.le_of_ble_eq_true rfl) ?_
  intro p e s m args below meth c Q hF hpw hret ls hl
  obtain ⟨hx, hb, hml, hown, hts, hr, hlocks⟩ := id hF
  have hI : va_S noA s.heap s.heap [] := va_S.rf
  have hl : lv_has ls 2 [(0, .int (nI tm)), (1, .int (nI ky))] := hl
  suffices hgo : ∀ (H : Heap) (locs : List Loc), va_S noA s.heap H locs → ∀ ls : Array Slot, lv_has ls 2 [(0, .int (nI tm)), (1, .int (nI ky))] → W p l e (rmv 0 0) s m args below meth c H locs 0 0 Q (F0 m 0 ls []) from hgo _ _ hI ls hl
  intro H locs hI ls hl
  refine lv_iload_n hx hb dX2_slotOf_0 rfl (lv_at hl 0 rfl) ?_
  refine lv_iconst (v := nI 4) hx hb dX2_slotOf_1 (by decide) ?_
  refine lv_imul hx hb dX2_slotOf_2 ?_
  refine tp (pk_mul _ _) ?_
  refine lv_iload_n hx hb dX2_slotOf_3 rfl (lv_at hl 1 rfl) ?_
  refine lv_iadd hx hb dX2_slotOf_4 ?_
  refine tp (nI_add _ _) ?_
  exact hret hI dX2_slotOf_5 (rfl)
set_option maxHeartbeats 4000000 in
set_option maxRecDepth 100000 in
theorem c_X0_isFilled {l : Launch} {D : va_G} {cI cZ cJ : ClassId} {z : Nat} {a : Nat → Nat} {X : va_W} {vals fil rb : Nat → Int32} {t : Nat} {wo : Nat → Int32} {cnt fn : Int32} {S : Sta} (hA : cAbs S vals fil t) (ht : t < 40) {sl dy : Nat} (h1 : sl < 4 * (t + 1)) (h2 : dy < 32) : roM l yX0_isFilled cX0_isFilled 3 (some .boolean) 0 0 [.ref (a 1), .int (nI sl), .int (nI dy)] (pw D cI cZ cJ z (cw a cI vals fil rb (nI t) wo cnt fn X)) (bi ((S sl dy).isSome)) := by
  refine bd_rz (by decide) (Nat.le_of_ble_eq_true rfl) ?_
  intro p e s m args below meth c Q hF hpw hret ls hl
  obtain ⟨hx, hb, hml, hown, hts, hr, hlocks⟩ := id hF
  have hK := hpw.2.2.2
  have hI : wi D z noA (cw a cI vals fil rb (nI t) wo cnt fn X) s s.heap [] := hpw.wi
  have hl : lv_has ls 3 [(0, .ref (a 1)), (1, .int (nI sl)), (2, .int (nI dy))] := hl
  suffices hgo : ∀ (H : Heap) (locs : List Loc), wi D z noA (cw a cI vals fil rb (nI t) wo cnt fn X) s H locs → ∀ ls : Array Slot, lv_has ls 3 [(0, .ref (a 1)), (1, .int (nI sl)), (2, .int (nI dy))] → W p l e (rmv 0 0) s m args below meth c H locs 0 0 Q (F0 m 0 ls []) from hgo _ _ hI ls hl
  intro H locs hI ls hl
  refine lv_aload_n hx hb dX0_isFilled_0 rfl (lv_at hl 0 rfl) ?_
  refine va_get (D := D) (ci := 0) (v := .ref (a 3)) (C := RX0) (T := TX0) (N := 4) hx hb hts inX0 hown hK.1 hI.2.1 1 rfl rfl 1 (by decide) (hts _ k28) (fun _ h9 => h9) rfl dX0_isFilled_1 ?_
  refine lv_iload_n hx hb dX0_isFilled_4 rfl (lv_at hl 1 rfl) ?_
  refine ia_ld (f := fil) (k := sl) hx hb hK hI 3 rfl dX0_isFilled_5 (by omega) (by decide) ?_
  refine lv_iload_n hx hb dX0_isFilled_6 rfl (lv_at hl 2 rfl) ?_
  refine lv_iushr (v := ((fil sl).toUInt32 >>> ((nI dy).toUInt32 &&& Int32.toUInt32 31)).toInt32) hx hb dX0_isFilled_7 rfl ?_
  refine lv_iconst (v := nI 1) hx hb dX0_isFilled_8 (by decide) ?_
  refine lv_iand hx hb dX0_isFilled_9 ?_
  refine lv_if_eq (tgt := 17) hx hb dX0_isFilled_10 (by decide) (fun c10 => ?_) (fun c10 => ?_)
  · refine lv_iconst (v := nI 0) hx hb dX0_isFilled_17 (by decide) ?_
    exact hret hI.2.2.2 dX0_isFilled_18 (bi_f (by rw [has_c hA h1 h2]; first | exact (bit1 _ h2).mp c10 | exact nf (fun q => c10 ((bit1 _ h2).mpr q)))).symm
  · refine lv_iconst (v := nI 1) hx hb dX0_isFilled_13 (by decide) ?_
    refine lv_goto (tgt := 18) hx hb dX0_isFilled_14 (by decide) ?_
    exact hret hI.2.2.2 dX0_isFilled_18 (bi_t (by rw [has_c hA h1 h2]; first | exact (bit1 _ h2).mp c10 | exact nf (fun q => c10 ((bit1 _ h2).mpr q)))).symm
set_option maxHeartbeats 4000000 in
set_option maxRecDepth 100000 in
theorem c_X0_valueOn {l : Launch} {D : va_G} {cI cZ cJ : ClassId} {z : Nat} {a : Nat → Nat} {X : va_W} {vals fil rb : Nat → Int32} {t : Nat} {wo : Nat → Int32} {cnt fn : Int32} (ht : t < 40) {sl dy : Nat} (h1 : sl < 4 * (t + 1)) (h2 : dy < 32) : roM l yX0_valueOn cX0_valueOn 3 (some .int) 0 0 [.ref (a 1), .int (nI sl), .int (nI dy)] (pw D cI cZ cJ z (cw a cI vals fil rb (nI t) wo cnt fn X)) (vals (sl * 32 + dy)) := by
  refine bd_ro (by decide) (Nat.le_of_ble_eq_true rfl) ?_
  intro p e s m args below meth c Q hF hpw hret ls hl
  obtain ⟨hx, hb, hml, hown, hts, hr, hlocks⟩ := id hF
  have hK := hpw.2.2.2
  have hI : wi D z noA (cw a cI vals fil rb (nI t) wo cnt fn X) s s.heap [] := hpw.wi
  have hl : lv_has ls 3 [(0, .ref (a 1)), (1, .int (nI sl)), (2, .int (nI dy))] := hl
  suffices hgo : ∀ (H : Heap) (locs : List Loc), wi D z noA (cw a cI vals fil rb (nI t) wo cnt fn X) s H locs → ∀ ls : Array Slot, lv_has ls 3 [(0, .ref (a 1)), (1, .int (nI sl)), (2, .int (nI dy))] → W p l e (rmv 0 0) s m args below meth c H locs 0 0 Q (F0 m 0 ls []) from hgo _ _ hI ls hl
  intro H locs hI ls hl
  refine lv_aload_n hx hb dX0_valueOn_0 rfl (lv_at hl 0 rfl) ?_
  refine va_get (D := D) (ci := 0) (v := .ref (a 2)) (C := RX0) (T := TX0) (N := 4) hx hb hts inX0 hown hK.1 hI.2.1 1 rfl rfl 0 (by decide) (hts _ k27) (fun _ h9 => h9) rfl dX0_valueOn_1 ?_
  refine lv_iload_n hx hb dX0_valueOn_4 rfl (lv_at hl 1 rfl) ?_
  refine lv_bipush (v := nI 32) hx hb dX0_valueOn_5 (by decide) ?_
  refine lv_imul hx hb dX0_valueOn_7 ?_
  refine tp (pk_mul _ _) ?_
  refine lv_iload_n hx hb dX0_valueOn_8 rfl (lv_at hl 2 rfl) ?_
  refine lv_iadd hx hb dX0_valueOn_9 ?_
  refine tp (nI_add _ _) ?_
  refine ia_ld (f := vals) (k := sl * 32 + dy) hx hb hK hI 2 rfl dX0_valueOn_10 (by omega) (by decide) ?_
  exact hret hI.2.2.2 dX0_valueOn_11 (rfl)
set_option maxHeartbeats 4000000 in
set_option maxRecDepth 100000 in
theorem c_X0_continuesRun {l : Launch} {D : va_G} {cI cZ cJ : ClassId} {z : Nat} {a : Nat → Nat} {X : va_W} {vals fil rb : Nat → Int32} {t : Nat} {wo : Nat → Int32} {cnt fn : Int32} {S : Sta} (hA : cAbs S vals fil t) (ht : t < 40) {sl dy : Nat} (h1 : sl < 4 * (t + 1)) (h2 : dy < 32) : roM l yX0_continuesRun cX0_continuesRun 4 (some .boolean) 0 0 [.ref (a 1), .int (nI sl), .int (nI dy)] (pw D cI cZ cJ z (cw a cI vals fil rb (nI t) wo cnt fn X)) (bi (con S sl dy)) := by
  refine bd_rz (by decide) (Nat.le_of_ble_eq_true rfl) ?_
  intro p e s m args below meth c Q hF hpw hret ls hl
  obtain ⟨hx, hb, hml, hown, hts, hr, hlocks⟩ := id hF
  have hK := hpw.2.2.2
  have hI : wi D z noA (cw a cI vals fil rb (nI t) wo cnt fn X) s s.heap [] := hpw.wi
  have hl : lv_has ls 4 [(0, .ref (a 1)), (1, .int (nI sl)), (2, .int (nI dy))] := hl
  suffices hgo : ∀ (H : Heap) (locs : List Loc), wi D z noA (cw a cI vals fil rb (nI t) wo cnt fn X) s H locs → ∀ ls : Array Slot, lv_has ls 4 [(0, .ref (a 1)), (1, .int (nI sl)), (2, .int (nI dy))] → W p l e (rmv 0 0) s m args below meth c H locs 0 0 Q (F0 m 0 ls []) from hgo _ _ hI ls hl
  intro H locs hI ls hl
  refine lv_iload_n hx hb dX0_continuesRun_0 rfl (lv_at hl 2 rfl) ?_
  refine nz_eq (tgt := 20) hx hb dX0_continuesRun_1 (by decide) (by omega) (fun c1 => ?_) (fun c1 => ?_)
  · refine lv_iconst (v := nI 0) hx hb dX0_continuesRun_20 (by decide) ?_
    exact hret hI.2.2.2 dX0_continuesRun_21 (bi_f (by first | exact con_f1 c1 | exact con_f2 hA h1 h2 c1 c17)).symm
  · refine lv_aload_n hx hb dX0_continuesRun_4 rfl (lv_at hl 0 rfl) ?_
    refine va_get (D := D) (ci := 0) (v := .ref (a 3)) (C := RX0) (T := TX0) (N := 4) hx hb hts inX0 hown hK.1 hI.2.1 1 rfl rfl 1 (by decide) (hts _ k28) (fun _ h9 => h9) rfl dX0_continuesRun_5 ?_
    refine lv_iload_n hx hb dX0_continuesRun_8 rfl (lv_at hl 1 rfl) ?_
    refine ia_ld (f := fil) (k := sl) hx hb hK hI 3 rfl dX0_continuesRun_9 (by omega) (by decide) ?_
    refine lv_iload_n hx hb dX0_continuesRun_10 rfl (lv_at hl 2 rfl) ?_
    refine lv_iconst (v := nI 1) hx hb dX0_continuesRun_11 (by decide) ?_
    refine lv_isub hx hb dX0_continuesRun_12 ?_
    refine tp (pk_sub (by omega)) ?_
    refine lv_iushr (v := ((fil sl).toUInt32 >>> ((nI (dy - 1)).toUInt32 &&& Int32.toUInt32 31)).toInt32) hx hb dX0_continuesRun_13 rfl ?_
    refine lv_iconst (v := nI 3) hx hb dX0_continuesRun_14 (by decide) ?_
    refine lv_iand hx hb dX0_continuesRun_15 ?_
    refine lv_iconst (v := nI 3) hx hb dX0_continuesRun_16 (by decide) ?_
    refine lv_icmp_eq (tgt := 22) hx hb dX0_continuesRun_17 (by decide) (fun c17 => ?_) (fun c17 => ?_)
    · refine lv_iload_n hx hb dX0_continuesRun_22 rfl (lv_at hl 1 rfl) ?_
      refine lv_bipush (v := nI 32) hx hb dX0_continuesRun_23 (by decide) ?_
      refine lv_imul hx hb dX0_continuesRun_25 ?_
      refine tp (pk_mul _ _) ?_
      refine lv_iload_n hx hb dX0_continuesRun_26 rfl (lv_at hl 2 rfl) ?_
      refine lv_iadd hx hb dX0_continuesRun_27 ?_
      refine tp (nI_add _ _) ?_
      refine lv_istore_n (lv' := [(3, .int (nI (sl * 32 + dy))), (0, .ref (a 1)), (1, .int (nI sl)), (2, .int (nI dy))]) hx hb dX0_continuesRun_28 rfl hl (by decide) rfl (fun ls hl => ?_)
      refine lv_aload_n hx hb dX0_continuesRun_29 rfl (lv_at hl 1 rfl) ?_
      refine va_get (D := D) (ci := 0) (v := .ref (a 2)) (C := RX0) (T := TX0) (N := 4) hx hb hts inX0 hown hK.1 hI.2.1 1 rfl rfl 0 (by decide) (hts _ k27) (fun _ h9 => h9) rfl dX0_continuesRun_30 ?_
      refine lv_iload_n hx hb dX0_continuesRun_33 rfl (lv_at hl 0 rfl) ?_
      refine ia_ld (f := vals) (k := sl * 32 + dy) hx hb hK hI 2 rfl dX0_continuesRun_34 (by omega) (by decide) ?_
      refine lv_aload_n hx hb dX0_continuesRun_35 rfl (lv_at hl 1 rfl) ?_
      refine va_get (D := D) (ci := 0) (v := .ref (a 2)) (C := RX0) (T := TX0) (N := 4) hx hb hts inX0 hown hK.1 hI.2.1 1 rfl rfl 0 (by decide) (hts _ k27) (fun _ h9 => h9) rfl dX0_continuesRun_36 ?_
      refine lv_iload_n hx hb dX0_continuesRun_39 rfl (lv_at hl 0 rfl) ?_
      refine lv_iconst (v := nI 1) hx hb dX0_continuesRun_40 (by decide) ?_
      refine lv_isub hx hb dX0_continuesRun_41 ?_
      refine tp (pk_sub (by omega)) ?_
      refine ia_ld (f := vals) (k := sl * 32 + dy - 1) hx hb hK hI 2 rfl dX0_continuesRun_42 (by omega) (by decide) ?_
      refine lv_icmp_ne (tgt := 50) hx hb dX0_continuesRun_43 (by decide) (fun c43 => ?_) (fun c43 => ?_)
      · refine lv_iconst (v := nI 0) hx hb dX0_continuesRun_50 (by decide) ?_
        exact hret hI.2.2.2 dX0_continuesRun_51 (bi_f (by rw [con_43 hA h1 h2 c1 c17]; simp [c43])).symm
      · refine lv_iconst (v := nI 1) hx hb dX0_continuesRun_46 (by decide) ?_
        refine lv_goto (tgt := 51) hx hb dX0_continuesRun_47 (by decide) ?_
        exact hret hI.2.2.2 dX0_continuesRun_51 (bi_t (by rw [con_43 hA h1 h2 c1 c17]; simp [c43])).symm
    · refine lv_iconst (v := nI 0) hx hb dX0_continuesRun_20 (by decide) ?_
      exact hret hI.2.2.2 dX0_continuesRun_21 (bi_f (by first | exact con_f1 c1 | exact con_f2 hA h1 h2 c1 c17)).symm
set_option maxHeartbeats 4000000 in
set_option maxRecDepth 100000 in
theorem c_X0_startsRun {l : Launch} {D : va_G} {cI cZ cJ : ClassId} {z : Nat} {a : Nat → Nat} {X : va_W} {vals fil rb : Nat → Int32} {t : Nat} {wo : Nat → Int32} {cnt fn : Int32} {S : Sta} (hA : cAbs S vals fil t) (ht : t < 40) {sl dy : Nat} (h1 : sl < 4 * (t + 1)) (h2 : dy < 32) : roM l yX0_startsRun cX0_startsRun 3 (some .boolean) 1 23 [.ref (a 1), .int (nI sl), .int (nI dy)] (pw D cI cZ cJ z (cw a cI vals fil rb (nI t) wo cnt fn X)) (bi (beg S sl dy)) := by
  refine bd_rz (by decide) (Nat.le_of_ble_eq_true rfl) ?_
  intro p e s m args below meth c Q hF hpw hret ls hl
  obtain ⟨hx, hb, hml, hown, hts, hr, hlocks⟩ := id hF
  have hK := hpw.2.2.2
  have hI : wi D z noA (cw a cI vals fil rb (nI t) wo cnt fn X) s s.heap [] := hpw.wi
  have hl : lv_has ls 3 [(0, .ref (a 1)), (1, .int (nI sl)), (2, .int (nI dy))] := hl
  suffices hgo : ∀ (H : Heap) (locs : List Loc), wi D z noA (cw a cI vals fil rb (nI t) wo cnt fn X) s H locs → ∀ ls : Array Slot, lv_has ls 3 [(0, .ref (a 1)), (1, .int (nI sl)), (2, .int (nI dy))] → W p l e (rmv 1 23) s m args below meth c H locs 0 0 Q (F0 m 0 ls []) from hgo _ _ hI ls hl
  intro H locs hI ls hl
  refine lv_aload_n hx hb dX0_startsRun_0 rfl (lv_at hl 0 rfl) ?_
  refine lv_iload_n hx hb dX0_startsRun_1 rfl (lv_at hl 1 rfl) ?_
  refine lv_iload_n hx hb dX0_startsRun_2 rfl (lv_at hl 2 rfl) ?_
  refine k_ro (run_v (As := [.int (nI sl), .int (nI dy)]) (rest := []) hF hK hI (c_X0_isFilled hA ht (by omega) (by omega)) cf_X0_isFilled k223 1 0 rfl rfl ⟨Nat.le_of_ble_eq_true rfl, Nat.le_of_ble_eq_true rfl⟩ ⟨rfl, rfl⟩ ⟨Nat.le_of_ble_eq_true rfl, Nat.le_of_ble_eq_true rfl⟩ rfl hl.1 rfl (Nat.le_of_ble_eq_true rfl) dX0_startsRun_3) hI (fun H locs hI => ?_)
  refine bz_eq (tgt := 22) hx hb dX0_startsRun_6 (by decide) (fun c6 => ?_) (fun c6 => ?_)
  · refine lv_iconst (v := nI 0) hx hb dX0_startsRun_22 (by decide) ?_
    exact hret hI.2.2.2 dX0_startsRun_23 (bi_f (by simp_all [beg])).symm
  · refine lv_aload_n hx hb dX0_startsRun_9 rfl (lv_at hl 0 rfl) ?_
    refine lv_iload_n hx hb dX0_startsRun_10 rfl (lv_at hl 1 rfl) ?_
    refine lv_iload_n hx hb dX0_startsRun_11 rfl (lv_at hl 2 rfl) ?_
    refine k_ro (run_v (As := [.int (nI sl), .int (nI dy)]) (rest := []) hF hK hI (c_X0_continuesRun hA ht (by omega) (by omega)) cf_X0_continuesRun k236 1 0 rfl rfl ⟨Nat.le_of_ble_eq_true rfl, Nat.le_of_ble_eq_true rfl⟩ ⟨rfl, rfl⟩ ⟨Nat.le_of_ble_eq_true rfl, Nat.le_of_ble_eq_true rfl⟩ rfl hl.1 rfl (Nat.le_of_ble_eq_true rfl) dX0_startsRun_12) hI (fun H locs hI => ?_)
    refine bz_ne (tgt := 22) hx hb dX0_startsRun_15 (by decide) (fun c15 => ?_) (fun c15 => ?_)
    · refine lv_iconst (v := nI 0) hx hb dX0_startsRun_22 (by decide) ?_
      exact hret hI.2.2.2 dX0_startsRun_23 (bi_f (by simp_all [beg])).symm
    · refine lv_iconst (v := nI 1) hx hb dX0_startsRun_18 (by decide) ?_
      refine lv_goto (tgt := 23) hx hb dX0_startsRun_19 (by decide) ?_
      exact hret hI.2.2.2 dX0_startsRun_23 (bi_t (by simp_all [beg])).symm
set_option maxHeartbeats 4000000 in
set_option maxRecDepth 100000 in
theorem c_X0_runEnd {l : Launch} {D : va_G} {cI cZ cJ : ClassId} {z : Nat} {a : Nat → Nat} {X : va_W} {vals fil rb : Nat → Int32} {t : Nat} {wo : Nat → Int32} {cnt fn : Int32} {S : Sta} (hA : cAbs S vals fil t) (ht : t < 40) {sl dy : Nat} (h1 : sl < 4 * (t + 1)) (h2 : dy < 32) : roM l yX0_runEnd cX0_runEnd 4 (some .int) 1 23 [.ref (a 1), .int (nI sl), .int (nI dy)] (pw D cI cZ cJ z (cw a cI vals fil rb (nI t) wo cnt fn X)) (nI (rend S sl dy)) := by
  refine bd_ro (by decide) (Nat.le_of_ble_eq_true rfl) ?_
  intro p e s m args below meth c Q hF hpw hret ls hl
  obtain ⟨hx, hb, hml, hown, hts, hr, hlocks⟩ := id hF
  have hK := hpw.2.2.2
  have hI : wi D z noA (cw a cI vals fil rb (nI t) wo cnt fn X) s s.heap [] := hpw.wi
  have hl : lv_has ls 4 [(0, .ref (a 1)), (1, .int (nI sl)), (2, .int (nI dy))] := hl
  suffices hgo : ∀ (H : Heap) (locs : List Loc), wi D z noA (cw a cI vals fil rb (nI t) wo cnt fn X) s H locs → ∀ ls : Array Slot, lv_has ls 4 [(0, .ref (a 1)), (1, .int (nI sl)), (2, .int (nI dy))] → W p l e (rmv 1 23) s m args below meth c H locs 0 0 Q (F0 m 0 ls []) from hgo _ _ hI ls hl
  intro H locs hI ls hl
  refine lv_iload_n hx hb dX0_runEnd_0 rfl (lv_at hl 2 rfl) ?_
  refine lv_iconst (v := nI 1) hx hb dX0_runEnd_1 (by decide) ?_
  refine lv_iadd hx hb dX0_runEnd_2 ?_
  refine tp (nI_add _ _) ?_
  refine lv_istore_n (lv' := [(3, .int (nI (dy + 1))), (0, .ref (a 1)), (1, .int (nI sl)), (2, .int (nI dy))]) hx hb dX0_runEnd_3 rfl hl (by decide) rfl (fun ls hl => ?_)
  have J4 : ∀ (n4_ : Nat) (x : Nat) (hx1 : x ≤ 32) (hxe : rend S sl dy = finF S sl (32 - x) x) (hm4 : 32 < x + n4_) (H : Heap) (locs : List Loc), wi D z noA (cw a cI vals fil rb (nI t) wo cnt fn X) s H locs → ∀ ls : Array Slot, lv_has ls 4 [(0, .ref (a 1)), (1, .int (nI sl)), (2, .int (nI dy)), (3, .int (nI x))] → W p l e (rmv 1 23) s m args below meth c H locs 0 0 Q (F0 m 4 ls []) := by
    intro n4_
    induction n4_ with
    | zero => intro x hx1 hxe hm4; exact absurd hm4 (by omega)
    | succ n4_ ih4 =>
      intro x hx1 hxe hm4 H locs hI ls hl
      refine lv_iload_n hx hb dX0_runEnd_4 rfl (lv_at hl 3 rfl) ?_
      refine lv_bipush (v := nI 32) hx hb dX0_runEnd_5 (by decide) ?_
      refine nb_ge (tgt := 25) hx hb dX0_runEnd_7 (by decide) (by omega) (by omega) (fun c7 => ?_) (fun c7 => ?_)
      · refine lv_iload_n hx hb dX0_runEnd_25 rfl (lv_at hl 3 rfl) ?_
        exact hret hI.2.2.2 dX0_runEnd_26 ((by rw [hxe]; first | (rw [show 32 - x = 0 by omega]; rfl) | rw [fin_no c16]))
      · refine lv_aload_n hx hb dX0_runEnd_10 rfl (lv_at hl 0 rfl) ?_
        refine lv_iload_n hx hb dX0_runEnd_11 rfl (lv_at hl 1 rfl) ?_
        refine lv_iload_n hx hb dX0_runEnd_12 rfl (lv_at hl 3 rfl) ?_
        refine k_ro (run_v (As := [.int (nI sl), .int (nI x)]) (rest := []) hF hK hI (c_X0_continuesRun hA ht (by omega) (by omega)) cf_X0_continuesRun k236 1 0 rfl rfl ⟨Nat.le_of_ble_eq_true rfl, Nat.le_of_ble_eq_true rfl⟩ ⟨rfl, rfl⟩ ⟨Nat.le_of_ble_eq_true rfl, Nat.le_of_ble_eq_true rfl⟩ rfl hl.1 rfl (Nat.le_of_ble_eq_true rfl) dX0_runEnd_13) hI (fun H locs hI => ?_)
        refine bz_eq (tgt := 25) hx hb dX0_runEnd_16 (by decide) (fun c16 => ?_) (fun c16 => ?_)
        · refine lv_iload_n hx hb dX0_runEnd_25 rfl (lv_at hl 3 rfl) ?_
          exact hret hI.2.2.2 dX0_runEnd_26 ((by rw [hxe]; first | (rw [show 32 - x = 0 by omega]; rfl) | rw [fin_no c16]))
        · refine lv_iinc (v := nI (x + 1)) (lv' := [(3, .int (nI (x + 1))), (0, .ref (a 1)), (1, .int (nI sl)), (2, .int (nI dy))]) hx hb dX0_runEnd_19 hl (k := 3) rfl (inc_n _ 1) (by decide) rfl (fun ls hl => ?_)
          refine lv_goto (tgt := 4) hx hb dX0_runEnd_22 (by decide) ?_
          exact ih4 (x + 1) (by omega) (hxe.trans (fin_go (by omega) c16)) (by omega) H locs hI ls (lv_sub hl [1, 2, 3, 0] rfl)
  exact J4 (32 + 1) (dy + 1) (by omega) (rend_eq h2) (by omega) H locs hI ls (lv_sub hl [1, 2, 3, 0] rfl)
set_option maxHeartbeats 4000000 in
set_option maxRecDepth 100000 in
theorem c_X0_countRuns {l : Launch} {D : va_G} {cI cZ cJ : ClassId} {z : Nat} {a : Nat → Nat} {X : va_W} {vals fil rb : Nat → Int32} {t : Nat} {wo : Nat → Int32} {cnt fn : Int32} {S : Sta} (hA : cAbs S vals fil t) (ht : t < 40) {sl : Nat} (h1 : sl < 4 * (t + 1)) : roM l yX0_countRuns cX0_countRuns 4 (some .int) 2 45 [.ref (a 1), .int (nI sl)] (pw D cI cZ cJ z (cw a cI vals fil rb (nI t) wo cnt fn X)) (nI (fb_ct (beg S sl) 32)) := by
  refine bd_ro (by decide) (Nat.le_of_ble_eq_true rfl) ?_
  intro p e s m args below meth c Q hF hpw hret ls hl
  obtain ⟨hx, hb, hml, hown, hts, hr, hlocks⟩ := id hF
  have hK := hpw.2.2.2
  have hI : wi D z noA (cw a cI vals fil rb (nI t) wo cnt fn X) s s.heap [] := hpw.wi
  have hl : lv_has ls 4 [(0, .ref (a 1)), (1, .int (nI sl))] := hl
  suffices hgo : ∀ (H : Heap) (locs : List Loc), wi D z noA (cw a cI vals fil rb (nI t) wo cnt fn X) s H locs → ∀ ls : Array Slot, lv_has ls 4 [(0, .ref (a 1)), (1, .int (nI sl))] → W p l e (rmv 2 45) s m args below meth c H locs 0 0 Q (F0 m 0 ls []) from hgo _ _ hI ls hl
  intro H locs hI ls hl
  refine lv_iconst (v := nI 0) hx hb dX0_countRuns_0 (by decide) ?_
  refine lv_istore_n (lv' := [(2, .int (nI 0)), (0, .ref (a 1)), (1, .int (nI sl))]) hx hb dX0_countRuns_1 rfl hl (by decide) rfl (fun ls hl => ?_)
  refine lv_iconst (v := nI 0) hx hb dX0_countRuns_2 (by decide) ?_
  refine lv_istore_n (lv' := [(3, .int (nI 0)), (2, .int (nI 0)), (0, .ref (a 1)), (1, .int (nI sl))]) hx hb dX0_countRuns_3 rfl hl (by decide) rfl (fun ls hl => ?_)
  have J4 : ∀ (n4_ : Nat) (dy : Nat) (n2 : Nat) (hd : dy ≤ 32) (hn : n2 = fb_ct (beg S sl) dy) (hm4 : 32 < dy + n4_) (H : Heap) (locs : List Loc), wi D z noA (cw a cI vals fil rb (nI t) wo cnt fn X) s H locs → ∀ ls : Array Slot, lv_has ls 4 [(0, .ref (a 1)), (1, .int (nI sl)), (2, .int (nI n2)), (3, .int (nI dy))] → W p l e (rmv 2 45) s m args below meth c H locs 0 0 Q (F0 m 4 ls []) := by
    intro n4_
    induction n4_ with
    | zero => intro dy n2 hd hn hm4; exact absurd hm4 (by omega)
    | succ n4_ ih4 =>
      intro dy n2 hd hn hm4 H locs hI ls hl
      refine lv_iload_n hx hb dX0_countRuns_4 rfl (lv_at hl 3 rfl) ?_
      refine lv_bipush (v := nI 32) hx hb dX0_countRuns_5 (by decide) ?_
      refine nb_ge (tgt := 28) hx hb dX0_countRuns_7 (by decide) (by omega) (by omega) (fun c7 => ?_) (fun c7 => ?_)
      · refine lv_iload_n hx hb dX0_countRuns_28 rfl (lv_at hl 2 rfl) ?_
        exact hret hI.2.2.2 dX0_countRuns_29 ((by rw [hn, show dy = 32 by omega]))
      · refine lv_aload_n hx hb dX0_countRuns_10 rfl (lv_at hl 0 rfl) ?_
        refine lv_iload_n hx hb dX0_countRuns_11 rfl (lv_at hl 1 rfl) ?_
        refine lv_iload_n hx hb dX0_countRuns_12 rfl (lv_at hl 3 rfl) ?_
        refine k_ro (run_v (As := [.int (nI sl), .int (nI dy)]) (rest := []) hF hK hI (c_X0_startsRun hA ht (by omega) (by omega)) cf_X0_startsRun k232 1 0 rfl rfl ⟨Nat.le_of_ble_eq_true rfl, Nat.le_of_ble_eq_true rfl⟩ ⟨rfl, rfl⟩ ⟨Nat.le_of_ble_eq_true rfl, Nat.le_of_ble_eq_true rfl⟩ rfl hl.1 rfl (Nat.le_of_ble_eq_true rfl) dX0_countRuns_13) hI (fun H locs hI => ?_)
        refine bz_eq (tgt := 22) hx hb dX0_countRuns_16 (by decide) (fun c16 => ?_) (fun c16 => ?_)
        · refine lv_iinc (v := nI (dy + 1)) (lv' := [(3, .int (nI (dy + 1))), (0, .ref (a 1)), (1, .int (nI sl)), (2, .int (nI n2))]) hx hb dX0_countRuns_22 hl (k := 3) rfl (inc_n _ 1) (by decide) rfl (fun ls hl => ?_)
          refine lv_goto (tgt := 4) hx hb dX0_countRuns_25 (by decide) ?_
          exact ih4 (dy + 1) n2 (by omega) (by rw [fb_ct_succ, hn, c16]; rfl) (by omega) H locs hI ls (lv_sub hl [1, 2, 3, 0] rfl)
        · refine lv_iinc (v := nI (n2 + 1)) (lv' := [(2, .int (nI (n2 + 1))), (0, .ref (a 1)), (1, .int (nI sl)), (3, .int (nI dy))]) hx hb dX0_countRuns_19 hl (k := 2) rfl (inc_n _ 1) (by decide) rfl (fun ls hl => ?_)
          refine lv_iinc (v := nI (dy + 1)) (lv' := [(3, .int (nI (dy + 1))), (2, .int (nI (n2 + 1))), (0, .ref (a 1)), (1, .int (nI sl))]) hx hb dX0_countRuns_22 hl (k := 3) rfl (inc_n _ 1) (by decide) rfl (fun ls hl => ?_)
          refine lv_goto (tgt := 4) hx hb dX0_countRuns_25 (by decide) ?_
          exact ih4 (dy + 1) (n2 + 1) (by omega) (by rw [fb_ct_succ, hn, c16]; rfl) (by omega) H locs hI ls (lv_sub hl [2, 3, 1, 0] rfl)
  exact J4 (32 + 1) 0 0 (by omega) rfl (by omega) H locs hI ls (lv_sub hl [2, 3, 1, 0] rfl)
