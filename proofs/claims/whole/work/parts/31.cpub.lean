set_option maxHeartbeats 4000000 in
set_option maxRecDepth 100000 in
theorem c_X1_word {l : Launch} {D : va_G} {cI cZ cJ : ClassId} {z : Nat} {a : Nat → Nat} {X : va_W} {vals fil rb : Nat → Int32} {t : Nat} {wo : Nat → Int32} {cnt fn : Int32} {w0 i0 pp : Nat} (hi : i0 < w0) (hw : w0 ≤ 8) (hpp : pp < 5) {q : Nat → Int32} (hq : qIs q w0 wo)  : roM l yX1_word cX1_word 3 (some .int) 0 0 [.ref (a 5), .int (nI i0), .int (nI pp)] (pw D cI cZ cJ z (cw a cI vals fil rb (nI t) wo cnt fn X)) (q (5 * i0 + pp)) := by
  refine bd_ro (by decide) (Nat.le_of_ble_eq_true rfl) ?_
  intro p e s m args below meth c Q hF hpw hret ls hl
  obtain ⟨hx, hb, hml, hown, hts, hr, hlocks⟩ := id hF
  have hK := hpw.2.2.2
  have hI : wi D z noA (cw a cI vals fil rb (nI t) wo cnt fn X) s s.heap [] := hpw.wi
  have hl : lv_has ls 3 [(0, .ref (a 5)), (1, .int (nI i0)), (2, .int (nI pp))] := hl
  suffices hgo : ∀ (H : Heap) (locs : List Loc), wi D z noA (cw a cI vals fil rb (nI t) wo cnt fn X) s H locs → ∀ ls : Array Slot, lv_has ls 3 [(0, .ref (a 5)), (1, .int (nI i0)), (2, .int (nI pp))] → W p l e (rmv 0 0) s m args below meth c H locs 0 0 Q (F0 m 0 ls []) from hgo _ _ hI ls hl
  intro H locs hI ls hl
  refine lv_aload_n hx hb dX1_word_0 rfl (lv_at hl 0 rfl) ?_
  refine va_get (D := D) (ci := 1) (v := .ref (a 6)) (C := RX1) (T := TX1) (N := 2) hx hb hts inX1 hown hK.1 hI.2.1 5 rfl rfl 0 (by decide) (hts _ k48) (fun _ h9 => h9) rfl dX1_word_1 ?_
  refine lv_iload_n hx hb dX1_word_4 rfl (lv_at hl 1 rfl) ?_
  refine lv_iconst (v := nI 5) hx hb dX1_word_5 (by decide) ?_
  refine lv_imul hx hb dX1_word_6 ?_
  refine tp (pk_mul _ _) ?_
  refine lv_iload_n hx hb dX1_word_7 rfl (lv_at hl 2 rfl) ?_
  refine lv_iadd hx hb dX1_word_8 ?_
  refine tp (nI_add _ _) ?_
  refine ia_ld (f := wo) (k := i0 * 5 + pp) hx hb hK hI 6 rfl dX1_word_9 (by omega) (by decide) ?_
  exact hret hI.2.2.2 dX1_word_10 ((by rw [hq (i0 * 5 + pp) (by omega), Nat.mul_comm]))
set_option maxHeartbeats 4000000 in
set_option maxRecDepth 100000 in
theorem c_X1_append {l : Launch} {D : va_G} {cI cZ cJ : ClassId} {z : Nat} {a : Nat → Nat} {X : va_W} {vals fil rb : Nat → Int32} {t : Nat} {wo : Nat → Int32} {fn : Int32} {w0 : Nat} {q : Nat → Int32} (hw : w0 ≤ 8) (hq : qIs q w0 wo) {kind key v fr to : Int32} : muM (S := Nat × (Nat → Int32)) l yX1_append cX1_append 7 (some .boolean) 0 0 [.ref (a 5), .int (kind), .int (key), .int (v), .int (fr), .int (to)] (pw D cI cZ cJ z (cw a cI vals fil rb (nI t) wo (nI w0) fn X)) D z (fun u => cw a cI vals fil rb (nI t) (u.2) (nI (u.1)) fn X) (fun r u => r = bi (decide (w0 < 8)) ∧ (w0 < 8 → u.1 = w0 + 1 ∧ qIs (qput q w0 kind key v fr to) (w0 + 1) u.2) ∧ (¬ w0 < 8 → u = (w0, wo))) := by
  refine bd_mz (by decide) (Nat.le_of_ble_eq_true rfl) ?_
  intro p e s m args below meth c Q hF hpw hret ls hl
  obtain ⟨hx, hb, hml, hown, hts, hr, hlocks⟩ := id hF
  have hK := hpw.2.2.2
  have hI : wi D z (Ar z) (cw a cI vals fil rb (nI t) wo (nI w0) fn X) s s.heap [] := hpw.wi
  have hl : lv_has ls 7 [(0, .ref (a 5)), (1, .int (kind)), (2, .int (key)), (3, .int (v)), (4, .int (fr)), (5, .int (to))] := hl
  suffices hgo : ∀ (H : Heap) (locs : List Loc), wi D z (Ar z) (cw a cI vals fil rb (nI t) wo (nI w0) fn X) s H locs → ∀ ls : Array Slot, lv_has ls 7 [(0, .ref (a 5)), (1, .int (kind)), (2, .int (key)), (3, .int (v)), (4, .int (fr)), (5, .int (to))] → W p l e (rmv 0 0) s m args below meth c H locs 0 0 Q (F0 m 0 ls []) from hgo _ _ hI ls hl
  intro H locs hI ls hl
  refine lv_aload_n hx hb dX1_append_0 rfl (lv_at hl 0 rfl) ?_
  refine va_get (D := D) (ci := 1) (v := .int (nI w0)) (C := RX1) (T := TX1) (N := 2) hx hb hts inX1 hown hK.1 hI.2.1 5 rfl rfl 1 (by decide) (hts _ k49) (fun _ h9 => h9) rfl dX1_append_1 ?_
  refine lv_bipush (v := nI 8) hx hb dX1_append_4 (by decide) ?_
  refine nb_lt (tgt := 11) hx hb dX1_append_6 (by decide) (by omega) (by omega) (fun c6 => ?_) (fun c6 => ?_)
  · refine lv_aload_n hx hb dX1_append_11 rfl (lv_at hl 0 rfl) ?_
    refine va_get (D := D) (ci := 1) (v := .int (nI w0)) (C := RX1) (T := TX1) (N := 2) hx hb hts inX1 hown hK.1 hI.2.1 5 rfl rfl 1 (by decide) (hts _ k49) (fun _ h9 => h9) rfl dX1_append_12 ?_
    refine lv_iconst (v := nI 5) hx hb dX1_append_15 (by decide) ?_
    refine lv_imul hx hb dX1_append_16 ?_
    refine tp (pk_mul _ _) ?_
    refine lv_istore (lv' := [(6, .int (nI (w0 * 5))), (0, .ref (a 5)), (1, .int (kind)), (2, .int (key)), (3, .int (v)), (4, .int (fr)), (5, .int (to))]) hx hb dX1_append_17 hl (by decide) rfl (fun ls hl => ?_)
    refine lv_aload_n hx hb dX1_append_19 rfl (lv_at hl 1 rfl) ?_
    refine va_get (D := D) (ci := 1) (v := .ref (a 6)) (C := RX1) (T := TX1) (N := 2) hx hb hts inX1 hown hK.1 hI.2.1 5 rfl rfl 0 (by decide) (hts _ k48) (fun _ h9 => h9) rfl dX1_append_20 ?_
    refine lv_iload hx hb dX1_append_23 (lv_at hl 0 rfl) ?_
    refine lv_iload_n hx hb dX1_append_25 rfl (lv_at hl 2 rfl) ?_
    refine ia_st (f := wo) (k := w0 * 5) hx hb hK hI 6 rfl dX1_append_26 (by omega) (by decide) (fun H locs hI => ?_)
    have hI : wi D z (Ar z) (cw a cI vals fil rb (nI t) (upd wo (w0 * 5) kind) (nI w0) fn X) s H locs := hI
    refine lv_aload_n hx hb dX1_append_27 rfl (lv_at hl 1 rfl) ?_
    refine va_get (D := D) (ci := 1) (v := .ref (a 6)) (C := RX1) (T := TX1) (N := 2) hx hb hts inX1 hown hK.1 hI.2.1 5 rfl rfl 0 (by decide) (hts _ k48) (fun _ h9 => h9) rfl dX1_append_28 ?_
    refine lv_iload hx hb dX1_append_31 (lv_at hl 0 rfl) ?_
    refine lv_iconst (v := nI 1) hx hb dX1_append_33 (by decide) ?_
    refine lv_iadd hx hb dX1_append_34 ?_
    refine tp (nI_add _ _) ?_
    refine lv_iload_n hx hb dX1_append_35 rfl (lv_at hl 3 rfl) ?_
    refine ia_st (f := upd wo (w0 * 5) kind) (k := w0 * 5 + 1) hx hb hK hI 6 rfl dX1_append_36 (by omega) (by decide) (fun H locs hI => ?_)
    have hI : wi D z (Ar z) (cw a cI vals fil rb (nI t) (upd (upd wo (w0 * 5) kind) (w0 * 5 + 1) key) (nI w0) fn X) s H locs := hI
    refine lv_aload_n hx hb dX1_append_37 rfl (lv_at hl 1 rfl) ?_
    refine va_get (D := D) (ci := 1) (v := .ref (a 6)) (C := RX1) (T := TX1) (N := 2) hx hb hts inX1 hown hK.1 hI.2.1 5 rfl rfl 0 (by decide) (hts _ k48) (fun _ h9 => h9) rfl dX1_append_38 ?_
    refine lv_iload hx hb dX1_append_41 (lv_at hl 0 rfl) ?_
    refine lv_iconst (v := nI 2) hx hb dX1_append_43 (by decide) ?_
    refine lv_iadd hx hb dX1_append_44 ?_
    refine tp (nI_add _ _) ?_
    refine lv_iload_n hx hb dX1_append_45 rfl (lv_at hl 4 rfl) ?_
    refine ia_st (f := upd (upd wo (w0 * 5) kind) (w0 * 5 + 1) key) (k := w0 * 5 + 2) hx hb hK hI 6 rfl dX1_append_46 (by omega) (by decide) (fun H locs hI => ?_)
    have hI : wi D z (Ar z) (cw a cI vals fil rb (nI t) (upd (upd (upd wo (w0 * 5) kind) (w0 * 5 + 1) key) (w0 * 5 + 2) v) (nI w0) fn X) s H locs := hI
    refine lv_aload_n hx hb dX1_append_47 rfl (lv_at hl 1 rfl) ?_
    refine va_get (D := D) (ci := 1) (v := .ref (a 6)) (C := RX1) (T := TX1) (N := 2) hx hb hts inX1 hown hK.1 hI.2.1 5 rfl rfl 0 (by decide) (hts _ k48) (fun _ h9 => h9) rfl dX1_append_48 ?_
    refine lv_iload hx hb dX1_append_51 (lv_at hl 0 rfl) ?_
    refine lv_iconst (v := nI 3) hx hb dX1_append_53 (by decide) ?_
    refine lv_iadd hx hb dX1_append_54 ?_
    refine tp (nI_add _ _) ?_
    refine lv_iload hx hb dX1_append_55 (lv_at hl 5 rfl) ?_
    refine ia_st (f := upd (upd (upd wo (w0 * 5) kind) (w0 * 5 + 1) key) (w0 * 5 + 2) v) (k := w0 * 5 + 3) hx hb hK hI 6 rfl dX1_append_57 (by omega) (by decide) (fun H locs hI => ?_)
    have hI : wi D z (Ar z) (cw a cI vals fil rb (nI t) (upd (upd (upd (upd wo (w0 * 5) kind) (w0 * 5 + 1) key) (w0 * 5 + 2) v) (w0 * 5 + 3) fr) (nI w0) fn X) s H locs := hI
    refine lv_aload_n hx hb dX1_append_58 rfl (lv_at hl 1 rfl) ?_
    refine va_get (D := D) (ci := 1) (v := .ref (a 6)) (C := RX1) (T := TX1) (N := 2) hx hb hts inX1 hown hK.1 hI.2.1 5 rfl rfl 0 (by decide) (hts _ k48) (fun _ h9 => h9) rfl dX1_append_59 ?_
    refine lv_iload hx hb dX1_append_62 (lv_at hl 0 rfl) ?_
    refine lv_iconst (v := nI 4) hx hb dX1_append_64 (by decide) ?_
    refine lv_iadd hx hb dX1_append_65 ?_
    refine tp (nI_add _ _) ?_
    refine lv_iload hx hb dX1_append_66 (lv_at hl 6 rfl) ?_
    refine ia_st (f := upd (upd (upd (upd wo (w0 * 5) kind) (w0 * 5 + 1) key) (w0 * 5 + 2) v) (w0 * 5 + 3) fr) (k := w0 * 5 + 4) hx hb hK hI 6 rfl dX1_append_68 (by omega) (by decide) (fun H locs hI => ?_)
    have hI : wi D z (Ar z) (cw a cI vals fil rb (nI t) (upd (upd (upd (upd (upd wo (w0 * 5) kind) (w0 * 5 + 1) key) (w0 * 5 + 2) v) (w0 * 5 + 3) fr) (w0 * 5 + 4) to) (nI w0) fn X) s H locs := hI
    refine lv_aload_n hx hb dX1_append_69 rfl (lv_at hl 1 rfl) ?_
    refine lv_dup hx hb dX1_append_70 rfl ?_
    refine va_get (D := D) (ci := 1) (v := .int (nI w0)) (C := RX1) (T := TX1) (N := 2) hx hb hts inX1 hown hK.1 hI.2.1 5 rfl rfl 1 (by decide) (hts _ k49) (fun _ h9 => h9) rfl dX1_append_71 ?_
    refine lv_iconst (v := nI 1) hx hb dX1_append_74 (by decide) ?_
    refine lv_iadd hx hb dX1_append_75 ?_
    refine tp (nI_add _ _) ?_
    refine va_put (D := D) (ci := 1) (v := .int (nI (w0 + 1))) (ty := .int) (C := RX1) (T := TX1) (N := 2) hx hb hts inX1 tyX1 tyX1_ok nmX1 hown hK.1 hI.2.1 hI.2.2.1 hI.2.2.2 5 rfl rfl 1 (by decide) (hts _ k49) (fun _ h9 => h9) rfl (by decide +kernel) rfl rfl (Nat.le_of_ble_eq_true rfl) dX1_append_76 (fun H locs hP hD hS => ?_)
    have hI : wi D z (Ar z) (cw a cI vals fil rb (nI t) (upd (upd (upd (upd (upd wo (w0 * 5) kind) (w0 * 5 + 1) key) (w0 * 5 + 2) v) (w0 * 5 + 3) fr) (w0 * 5 + 4) to) (nI (w0 + 1)) fn X) s H locs := ⟨hI.1, hP, hD, hS⟩
    refine lv_iconst (v := nI 1) hx hb dX1_append_79 (by decide) ?_
    exact hret (w0 + 1, upd (upd (upd (upd (upd wo (w0 * 5) kind) (w0 * 5 + 1) key) (w0 * 5 + 2) v) (w0 * 5 + 3) fr) (w0 * 5 + 4) to) true hI dX1_append_80 rfl ⟨by rw [decide_eq_true (by omega)], fun _ => ⟨rfl, by rw [show w0 * 5 = 5 * w0 by omega]; exact qIs_put hq⟩, fun q9 => absurd (show w0 < 8 by omega) q9⟩
  · refine lv_iconst (v := nI 0) hx hb dX1_append_9 (by decide) ?_
    exact hret (w0, wo) false hI dX1_append_10 rfl ⟨by rw [decide_eq_false (by omega)], fun q9 => absurd q9 (by omega), fun _ => rfl⟩
set_option maxHeartbeats 4000000 in
set_option maxRecDepth 100000 in
theorem c_X2_queue {l : Launch} {D : va_G} {cI cZ cJ : ClassId} {z : Nat} {a : Nat → Nat} {X : va_W} {vals fil rb : Nat → Int32} {t : Nat} {wo : Nat → Int32} {fn : Int32} {w0 : Nat} {q : Nat → Int32} (hw : w0 ≤ 8) (hq : qIs q w0 wo) {kind key v fr to : Int32} : muM (S := Nat × (Nat → Int32)) l yX2_queue cX2_queue 6 (some .boolean) 1 26 [.ref (a 0), .int (kind), .int (key), .int (v), .int (fr), .int (to)] (pw D cI cZ cJ z (cw a cI vals fil rb (nI t) wo (nI w0) fn X)) D z (fun u => cw a cI vals fil rb (nI t) (u.2) (nI (u.1)) fn X) (fun r u => r = bi (decide (w0 < 8)) ∧ (w0 < 8 → u.1 = w0 + 1 ∧ qIs (qput q w0 kind key v fr to) (w0 + 1) u.2) ∧ (¬ w0 < 8 → u = (w0, wo))) := by
  refine bd_mz (by decide) (Nat.le_of_ble_eq_true rfl) ?_
  intro p e s m args below meth c Q hF hpw hret ls hl
  obtain ⟨hx, hb, hml, hown, hts, hr, hlocks⟩ := id hF
  have hK := hpw.2.2.2
  have hI : wi D z (Ar z) (cw a cI vals fil rb (nI t) wo (nI w0) fn X) s s.heap [] := hpw.wi
  have hl : lv_has ls 6 [(0, .ref (a 0)), (1, .int (kind)), (2, .int (key)), (3, .int (v)), (4, .int (fr)), (5, .int (to))] := hl
  suffices hgo : ∀ (H : Heap) (locs : List Loc), wi D z (Ar z) (cw a cI vals fil rb (nI t) wo (nI w0) fn X) s H locs → ∀ ls : Array Slot, lv_has ls 6 [(0, .ref (a 0)), (1, .int (kind)), (2, .int (key)), (3, .int (v)), (4, .int (fr)), (5, .int (to))] → W p l e (rmv 1 26) s m args below meth c H locs 0 0 Q (F0 m 0 ls []) from hgo _ _ hI ls hl
  intro H locs hI ls hl
  refine lv_aload_n hx hb dX2_queue_0 rfl (lv_at hl 0 rfl) ?_
  refine va_get (D := D) (ci := 2) (v := .ref (a 5)) (C := RX2) (T := TX2) (N := 3) hx hb hts inX2 hown hK.1 hI.2.1 0 rfl rfl 1 (by decide) (hts _ k57) (fun _ h9 => h9) rfl dX2_queue_1 ?_
  refine lv_iload_n hx hb dX2_queue_4 rfl (lv_at hl 1 rfl) ?_
  refine lv_iload_n hx hb dX2_queue_5 rfl (lv_at hl 2 rfl) ?_
  refine lv_iload_n hx hb dX2_queue_6 rfl (lv_at hl 3 rfl) ?_
  refine lv_iload hx hb dX2_queue_7 (lv_at hl 4 rfl) ?_
  refine lv_iload hx hb dX2_queue_9 (lv_at hl 5 rfl) ?_
  refine k_mu (run_v (As := [.int (kind), .int (key), .int (v), .int (fr), .int (to)]) (rest := []) hF hK hI (c_X1_append hw hq) cf_X1_append k74 5 1 rfl rfl ⟨Nat.le_of_ble_eq_true rfl, Nat.le_of_ble_eq_true rfl⟩ ⟨rfl, rfl⟩ ⟨Nat.le_of_ble_eq_true rfl, Nat.le_of_ble_eq_true rfl⟩ rfl hl.1 rfl (Nat.le_of_ble_eq_true rfl) dX2_queue_11) hI (fun r11 u11 hp11 H locs hI => ?_)
  have hI : wi D z (Ar z) (cw a cI vals fil rb (nI t) (u11.2) (nI (u11.1)) fn X) s H locs := hI
  exact hret u11 (decide (w0 < 8)) hI dX2_queue_14 hp11.1 ⟨rfl, hp11.2⟩
set_option maxHeartbeats 4000000 in
set_option maxRecDepth 100000 in
theorem c_X2_clock {l : Launch} {D : va_G} {cI cZ cJ : ClassId} {z : Nat} {a : Nat → Nat} {X : va_W} {vals fil rb : Nat → Int32} {t : Nat} {wo : Nat → Int32} {cnt fn : Int32}   : roM l yX2_clock cX2_clock 1 (some .int) 0 0 [.ref (a 0)] (pw D cI cZ cJ z (cw a cI vals fil rb (nI t) wo cnt fn X)) (nI t) := by
  refine bd_ro (by decide) (Nat.le_of_ble_eq_true rfl) ?_
  intro p e s m args below meth c Q hF hpw hret ls hl
  obtain ⟨hx, hb, hml, hown, hts, hr, hlocks⟩ := id hF
  have hK := hpw.2.2.2
  have hI : wi D z noA (cw a cI vals fil rb (nI t) wo cnt fn X) s s.heap [] := hpw.wi
  have hl : lv_has ls 1 [(0, .ref (a 0))] := hl
  suffices hgo : ∀ (H : Heap) (locs : List Loc), wi D z noA (cw a cI vals fil rb (nI t) wo cnt fn X) s H locs → ∀ ls : Array Slot, lv_has ls 1 [(0, .ref (a 0))] → W p l e (rmv 0 0) s m args below meth c H locs 0 0 Q (F0 m 0 ls []) from hgo _ _ hI ls hl
  intro H locs hI ls hl
  refine lv_aload_n hx hb dX2_clock_0 rfl (lv_at hl 0 rfl) ?_
  refine va_get (D := D) (ci := 2) (v := .ref (a 1)) (C := RX2) (T := TX2) (N := 3) hx hb hts inX2 hown hK.1 hI.2.1 0 rfl rfl 0 (by decide) (hts _ k56) (fun _ h9 => h9) rfl dX2_clock_1 ?_
  refine va_getN (D := D) (ci := 0) (v := .int (nI t)) (C := RX0) (T := TX0) (N := 4) hx hb hts inX0 hown hK.1 hI.2.1 1 rfl rfl 3 (by decide) (va_Nw.use (w := nwP) rfl hK.2.1) (fun _ h9 => h9) rfl dX2_clock_4 ?_
  exact hret hI.2.2.2 dX2_clock_7 (rfl)
set_option maxHeartbeats 4000000 in
set_option maxRecDepth 100000 in
theorem c_X2_failed {l : Launch} {D : va_G} {cI cZ cJ : ClassId} {z : Nat} {a : Nat → Nat} {X : va_W} {vals fil rb : Nat → Int32} {t : Nat} {wo : Nat → Int32} {cnt fn : Int32}   : roM l yX2_failed cX2_failed 1 (some .int) 0 0 [.ref (a 0)] (pw D cI cZ cJ z (cw a cI vals fil rb (nI t) wo cnt fn X)) (fn) := by
  refine bd_ro (by decide) (Nat.le_of_ble_eq_true rfl) ?_
  intro p e s m args below meth c Q hF hpw hret ls hl
  obtain ⟨hx, hb, hml, hown, hts, hr, hlocks⟩ := id hF
  have hK := hpw.2.2.2
  have hI : wi D z noA (cw a cI vals fil rb (nI t) wo cnt fn X) s s.heap [] := hpw.wi
  have hl : lv_has ls 1 [(0, .ref (a 0))] := hl
  suffices hgo : ∀ (H : Heap) (locs : List Loc), wi D z noA (cw a cI vals fil rb (nI t) wo cnt fn X) s H locs → ∀ ls : Array Slot, lv_has ls 1 [(0, .ref (a 0))] → W p l e (rmv 0 0) s m args below meth c H locs 0 0 Q (F0 m 0 ls []) from hgo _ _ hI ls hl
  intro H locs hI ls hl
  refine lv_aload_n hx hb dX2_failed_0 rfl (lv_at hl 0 rfl) ?_
  refine va_get (D := D) (ci := 2) (v := .int (fn)) (C := RX2) (T := TX2) (N := 3) hx hb hts inX2 hown hK.1 hI.2.1 0 rfl rfl 2 (by decide) (hts _ k58) (fun _ h9 => h9) rfl dX2_failed_1 ?_
  exact hret hI.2.2.2 dX2_failed_4 (rfl)
set_option maxHeartbeats 4000000 in
set_option maxRecDepth 100000 in
theorem c_X2_rows {l : Launch} {D : va_G} {cI cZ cJ : ClassId} {z : Nat} {a : Nat → Nat} {X : va_W} {vals fil rb : Nat → Int32} {t : Nat} {wo : Nat → Int32} {cnt fn : Int32} {S : Sta} (hA : cAbs S vals fil t) (ht : t < 40) (hR : rOk S rb t) : roM l yX2_rows cX2_rows 1 (some .int) 1 22 [.ref (a 0)] (pw D cI cZ cJ z (cw a cI vals fil rb (nI t) wo cnt fn X)) (nI (rowsTo S (4 * (t + 1)))) := by
  refine bd_ro (by decide) (Nat.le_of_ble_eq_true rfl) ?_
  intro p e s m args below meth c Q hF hpw hret ls hl
  obtain ⟨hx, hb, hml, hown, hts, hr, hlocks⟩ := id hF
  have hK := hpw.2.2.2
  have hI : wi D z noA (cw a cI vals fil rb (nI t) wo cnt fn X) s s.heap [] := hpw.wi
  have hl : lv_has ls 1 [(0, .ref (a 0))] := hl
  suffices hgo : ∀ (H : Heap) (locs : List Loc), wi D z noA (cw a cI vals fil rb (nI t) wo cnt fn X) s H locs → ∀ ls : Array Slot, lv_has ls 1 [(0, .ref (a 0))] → W p l e (rmv 1 22) s m args below meth c H locs 0 0 Q (F0 m 0 ls []) from hgo _ _ hI ls hl
  intro H locs hI ls hl
  refine lv_aload_n hx hb dX2_rows_0 rfl (lv_at hl 0 rfl) ?_
  refine va_get (D := D) (ci := 2) (v := .ref (a 1)) (C := RX2) (T := TX2) (N := 3) hx hb hts inX2 hown hK.1 hI.2.1 0 rfl rfl 0 (by decide) (hts _ k56) (fun _ h9 => h9) rfl dX2_rows_1 ?_
  refine k_ro (run_v (As := []) (rest := []) hF hK hI (c_X0_countRows hA ht hR.1) cf_X0_countRows k107 1 0 rfl rfl ⟨Nat.le_of_ble_eq_true rfl, Nat.le_of_ble_eq_true rfl⟩ ⟨rfl, rfl⟩ ⟨Nat.le_of_ble_eq_true rfl, Nat.le_of_ble_eq_true rfl⟩ rfl hl.1 rfl (Nat.le_of_ble_eq_true rfl) dX2_rows_4) hI (fun H locs hI => ?_)
  exact hret hI.2.2.2 dX2_rows_7 (rfl)
set_option maxHeartbeats 4000000 in
set_option maxRecDepth 100000 in
theorem c_X2_has {l : Launch} {D : va_G} {cI cZ cJ : ClassId} {z : Nat} {a : Nat → Nat} {X : va_W} {vals fil rb : Nat → Int32} {t : Nat} {wo : Nat → Int32} {cnt fn : Int32} {S : Sta} (hA : cAbs S vals fil t) (ht : t < 40) {key day time : Int32} : roM l yX2_has cX2_has 4 (some .boolean) 1 22 [.ref (a 0), .int (key), .int (day), .int (time)] (pw D cI cZ cJ z (cw a cI vals fil rb (nI t) wo cnt fn X)) (bi (hVal S t key day time)) := by
  refine bd_rz (by decide) (Nat.le_of_ble_eq_true rfl) ?_
  intro p e s m args below meth c Q hF hpw hret ls hl
  obtain ⟨hx, hb, hml, hown, hts, hr, hlocks⟩ := id hF
  have hK := hpw.2.2.2
  have hI : wi D z noA (cw a cI vals fil rb (nI t) wo cnt fn X) s s.heap [] := hpw.wi
  have hl : lv_has ls 4 [(0, .ref (a 0)), (1, .int (key)), (2, .int (day)), (3, .int (time))] := hl
  suffices hgo : ∀ (H : Heap) (locs : List Loc), wi D z noA (cw a cI vals fil rb (nI t) wo cnt fn X) s H locs → ∀ ls : Array Slot, lv_has ls 4 [(0, .ref (a 0)), (1, .int (key)), (2, .int (day)), (3, .int (time))] → W p l e (rmv 1 22) s m args below meth c H locs 0 0 Q (F0 m 0 ls []) from hgo _ _ hI ls hl
  intro H locs hI ls hl
  refine lv_iload_n hx hb dX2_has_0 rfl (lv_at hl 1 rfl) ?_
  refine k_ro (run_s (As := [.int (key)]) (rest := []) hF (c_X2_isKey ) tt_blind (fun _ _ _ => trivial) cf_X2_isKey k86 ⟨Nat.le_of_ble_eq_true rfl, Nat.le_of_ble_eq_true rfl⟩ ⟨rfl, rfl⟩ ⟨Nat.le_of_ble_eq_true rfl, Nat.le_of_ble_eq_true rfl⟩ rfl hl.1 rfl (Nat.le_of_ble_eq_true rfl) dX2_has_1) hI (fun H locs hI => ?_)
  refine bz_eq (tgt := 42) hx hb dX2_has_4 (by decide) (fun c4 => ?_) (fun c4 => ?_)
  · refine lv_iconst (v := nI 0) hx hb dX2_has_42 (by decide) ?_
    exact hret hI.2.2.2 dX2_has_43 (bi_f (by first | (rw [hVal_n htm hky hdy ht]; exact c35) | (unfold hVal; first | (simp [c4]; done) | (simp [c11]; done) | (simp [c19]; done)))).symm
  · refine lv_iload_n hx hb dX2_has_7 rfl (lv_at hl 2 rfl) ?_
    refine k_ro (run_s (As := [.int (day)]) (rest := []) hF (c_X2_isDay ) tt_blind (fun _ _ _ => trivial) cf_X2_isDay k89 ⟨Nat.le_of_ble_eq_true rfl, Nat.le_of_ble_eq_true rfl⟩ ⟨rfl, rfl⟩ ⟨Nat.le_of_ble_eq_true rfl, Nat.le_of_ble_eq_true rfl⟩ rfl hl.1 rfl (Nat.le_of_ble_eq_true rfl) dX2_has_8) hI (fun H locs hI => ?_)
    refine bz_eq (tgt := 42) hx hb dX2_has_11 (by decide) (fun c11 => ?_) (fun c11 => ?_)
    · refine lv_iconst (v := nI 0) hx hb dX2_has_42 (by decide) ?_
      exact hret hI.2.2.2 dX2_has_43 (bi_f (by first | (rw [hVal_n htm hky hdy ht]; exact c35) | (unfold hVal; first | (simp [c4]; done) | (simp [c11]; done) | (simp [c19]; done)))).symm
    · refine lv_aload_n hx hb dX2_has_14 rfl (lv_at hl 0 rfl) ?_
      refine lv_iload_n hx hb dX2_has_15 rfl (lv_at hl 3 rfl) ?_
      refine k_ro (run_v (As := [.int (time)]) (rest := []) hF hK hI (c_X2_isTime ht) cf_X2_isTime k92 0 2 rfl rfl ⟨Nat.le_of_ble_eq_true rfl, Nat.le_of_ble_eq_true rfl⟩ ⟨rfl, rfl⟩ ⟨Nat.le_of_ble_eq_true rfl, Nat.le_of_ble_eq_true rfl⟩ rfl hl.1 rfl (Nat.le_of_ble_eq_true rfl) dX2_has_16) hI (fun H locs hI => ?_)
      refine bz_eq (tgt := 42) hx hb dX2_has_19 (by decide) (fun c19 => ?_) (fun c19 => ?_)
      · refine lv_iconst (v := nI 0) hx hb dX2_has_42 (by decide) ?_
        exact hret hI.2.2.2 dX2_has_43 (bi_f (by first | (rw [hVal_n htm hky hdy ht]; exact c35) | (unfold hVal; first | (simp [c4]; done) | (simp [c11]; done) | (simp [c19]; done)))).symm
      · obtain ⟨ky, hky, rfl⟩ := okK_n c4
        obtain ⟨dy, hdy, rfl⟩ := okD_n c11
        obtain ⟨tm, htm, rfl⟩ := okT_n c19
        refine lv_aload_n hx hb dX2_has_22 rfl (lv_at hl 0 rfl) ?_
        refine va_get (D := D) (ci := 2) (v := .ref (a 1)) (C := RX2) (T := TX2) (N := 3) hx hb hts inX2 hown hK.1 hI.2.1 0 rfl rfl 0 (by decide) (hts _ k56) (fun _ h9 => h9) rfl dX2_has_23 ?_
        refine lv_iload_n hx hb dX2_has_26 rfl (lv_at hl 3 rfl) ?_
        refine lv_iload_n hx hb dX2_has_27 rfl (lv_at hl 1 rfl) ?_
        refine k_ro (run_s (As := [.int (nI tm), .int (nI ky)]) (rest := [.ref (a 1)]) hF (c_X2_slotOf ) tt_blind (fun _ _ _ => trivial) cf_X2_slotOf k96 ⟨Nat.le_of_ble_eq_true rfl, Nat.le_of_ble_eq_true rfl⟩ ⟨rfl, rfl⟩ ⟨Nat.le_of_ble_eq_true rfl, Nat.le_of_ble_eq_true rfl⟩ rfl hl.1 rfl (Nat.le_of_ble_eq_true rfl) dX2_has_28) hI (fun H locs hI => ?_)
        refine lv_iload_n hx hb dX2_has_31 rfl (lv_at hl 2 rfl) ?_
        refine k_ro (run_v (As := [.int (nI (tm * 4 + ky)), .int (nI dy)]) (rest := []) hF hK hI (c_X0_isFilled hA ht (by omega) (by omega)) cf_X0_isFilled k99 1 0 rfl rfl ⟨Nat.le_of_ble_eq_true rfl, Nat.le_of_ble_eq_true rfl⟩ ⟨rfl, rfl⟩ ⟨Nat.le_of_ble_eq_true rfl, Nat.le_of_ble_eq_true rfl⟩ rfl hl.1 rfl (Nat.le_of_ble_eq_true rfl) dX2_has_32) hI (fun H locs hI => ?_)
        refine bz_eq (tgt := 42) hx hb dX2_has_35 (by decide) (fun c35 => ?_) (fun c35 => ?_)
        · refine lv_iconst (v := nI 0) hx hb dX2_has_42 (by decide) ?_
          exact hret hI.2.2.2 dX2_has_43 (bi_f (by first | (rw [hVal_n htm hky hdy ht]; exact c35) | (unfold hVal; first | (simp [c4]; done) | (simp [c11]; done) | (simp [c19]; done)))).symm
        · refine lv_iconst (v := nI 1) hx hb dX2_has_38 (by decide) ?_
          refine lv_goto (tgt := 43) hx hb dX2_has_39 (by decide) ?_
          exact hret hI.2.2.2 dX2_has_43 (bi_t (by first | (rw [hVal_n htm hky hdy ht]; exact c35) | (unfold hVal; first | (simp [c4]; done) | (simp [c11]; done) | (simp [c19]; done)))).symm
set_option maxHeartbeats 4000000 in
set_option maxRecDepth 100000 in
theorem c_X2_tick {l : Launch} {D : va_G} {cI cZ cJ : ClassId} {z : Nat} {a : Nat → Nat} {X : va_W} {vals fil rb : Nat → Int32} {t : Nat} {wo : Nat → Int32} {cnt fn : Int32} {S : Sta} (hA : cAbs S vals fil t) (ht : t < 40) (ht9 : t < 39) (hR : rOk S rb t) : muM (S := (Nat → Int32) × (Nat → Int32)) l yX2_tick cX2_tick 1 (some .int) 3 60 [.ref (a 0)] (pw D cI cZ cJ z (cw a cI vals fil rb (nI t) wo cnt fn X)) D z (fun u => cw a cI (u.1) (u.2) rb (nI (t + 1)) wo cnt fn X) (fun r u => r = nI (t + 1) ∧ cAbs (tkS S t) u.1 u.2 (t + 1) ∧ rOk (tkS S t) rb (t + 1)) := by
  refine bd_mu (by decide) (Nat.le_of_ble_eq_true rfl) ?_
  intro p e s m args below meth c Q hF hpw hret ls hl
  obtain ⟨hx, hb, hml, hown, hts, hr, hlocks⟩ := id hF
  have hK := hpw.2.2.2
  have hI : wi D z (Ar z) (cw a cI vals fil rb (nI t) wo cnt fn X) s s.heap [] := hpw.wi
  have hl : lv_has ls 1 [(0, .ref (a 0))] := hl
  suffices hgo : ∀ (H : Heap) (locs : List Loc), wi D z (Ar z) (cw a cI vals fil rb (nI t) wo cnt fn X) s H locs → ∀ ls : Array Slot, lv_has ls 1 [(0, .ref (a 0))] → W p l e (rmv 3 60) s m args below meth c H locs 0 0 Q (F0 m 0 ls []) from hgo _ _ hI ls hl
  intro H locs hI ls hl
  refine lv_aload_n hx hb dX2_tick_0 rfl (lv_at hl 0 rfl) ?_
  refine va_get (D := D) (ci := 2) (v := .ref (a 1)) (C := RX2) (T := TX2) (N := 3) hx hb hts inX2 hown hK.1 hI.2.1 0 rfl rfl 0 (by decide) (hts _ k56) (fun _ h9 => h9) rfl dX2_tick_1 ?_
  refine va_getN (D := D) (ci := 0) (v := .int (nI t)) (C := RX0) (T := TX0) (N := 4) hx hb hts inX0 hown hK.1 hI.2.1 1 rfl rfl 3 (by decide) (va_Nw.use (w := nwP) rfl hK.2.1) (fun _ h9 => h9) rfl dX2_tick_4 ?_
  refine lv_bipush (v := nI 39) hx hb dX2_tick_7 (by decide) ?_
  refine nb_lt (tgt := 20) hx hb dX2_tick_9 (by decide) (by omega) (by omega) (fun c9 => ?_) (fun c9 => ?_)
  · refine lv_aload_n hx hb dX2_tick_20 rfl (lv_at hl 0 rfl) ?_
    refine va_get (D := D) (ci := 2) (v := .ref (a 1)) (C := RX2) (T := TX2) (N := 3) hx hb hts inX2 hown hK.1 hI.2.1 0 rfl rfl 0 (by decide) (hts _ k56) (fun _ h9 => h9) rfl dX2_tick_21 ?_
    refine k_mv (run_v (As := []) (rest := []) hF hK hI (c_X0_goOn (by omega)) cf_X0_goOn k183 1 0 rfl rfl ⟨Nat.le_of_ble_eq_true rfl, Nat.le_of_ble_eq_true rfl⟩ ⟨rfl, rfl⟩ ⟨Nat.le_of_ble_eq_true rfl, Nat.le_of_ble_eq_true rfl⟩ rfl hl.1 rfl (Nat.le_of_ble_eq_true rfl) dX2_tick_24) hI (fun u24 hp24 H locs hI => ?_)
    have hI : wi D z (Ar z) (cw a cI (va_cpy vals vals (t * 4 * 32) ((t + 1) * 4 * 32) 128) (va_cpy fil fil (t * 4) ((t + 1) * 4) 4) rb (nI (t + 1)) wo cnt fn X) s H locs := hI
    refine lv_aload_n hx hb dX2_tick_27 rfl (lv_at hl 0 rfl) ?_
    refine va_get (D := D) (ci := 2) (v := .ref (a 1)) (C := RX2) (T := TX2) (N := 3) hx hb hts inX2 hown hK.1 hI.2.1 0 rfl rfl 0 (by decide) (hts _ k56) (fun _ h9 => h9) rfl dX2_tick_28 ?_
    refine va_getN (D := D) (ci := 0) (v := .int (nI (t + 1))) (C := RX0) (T := TX0) (N := 4) hx hb hts inX0 hown hK.1 hI.2.1 1 rfl rfl 3 (by decide) (va_Nw.use (w := nwP) rfl hK.2.1) (fun _ h9 => h9) rfl dX2_tick_31 ?_
    exact hret (va_cpy vals vals (t * 4 * 32) ((t + 1) * 4 * 32) 128, va_cpy fil fil (t * 4) ((t + 1) * 4) 4) hI dX2_tick_34 ⟨rfl, cAbs_tk ht9 hA, rOk_tk ht9 hR⟩
  · exact absurd c9 (by omega)
set_option maxHeartbeats 4000000 in
set_option maxRecDepth 100000 in
theorem c_X2_tick39 {l : Launch} {D : va_G} {cI cZ cJ : ClassId} {z : Nat} {a : Nat → Nat} {X : va_W} {vals fil rb : Nat → Int32} {t : Nat} {wo : Nat → Int32} {cnt fn : Int32} (hst : l.stackTraces = false) (ht9 : t = 39)  : vxI (S := Unit) l yX2_tick cX2_tick 1 (some .int) 6 89 [.ref (a 0)] (pz D cI cZ cJ z (cw a cI vals fil rb (nI t) wo cnt fn X)) D z (fun _ => cw a cI vals fil rb (nI t) wo cnt fn X) (fun _ _ => False) (fun E _ => E = xISE) := by
  refine bd_x hst (by decide) (Nat.le_of_ble_eq_true rfl) (by decide) (by decide) (fun s h => h.2) ?_
  intro p e s m args below meth c Q hQ hF hno hpw hthr ls hl
  obtain ⟨hx, hb, hml, hown, hts, hr, hlocks⟩ := id hF
  have hKx := hpw.2.1
  have hZ := hpw.2.2
  have hK := hpw.1.2.2.2
  have hI : wi D z (Ar z) (cw a cI vals fil rb (nI t) wo cnt fn X) s s.heap [] := hpw.1.wi
  have hret : ∀ {H : Heap} {locs : List Loc} {ls : Array Slot} {pc : Nat} {x : Int32} (u : Unit), wi D z (Ar z) ((fun _ => cw a cI vals fil rb (nI t) wo cnt fn X) u) s H locs → decode cX2_tick pc = .ok (.ireturn, 1) → (fun _ _ => False) x u → W p l e (rmx 6 89) s m args below meth c H locs 0 0 Q (F0 m pc ls [.int x]) := by subst hQ; exact fun u hI hd hp => r_xi hF u hI hd hp
  have hl : lv_has ls 1 [(0, .ref (a 0))] := hl
  suffices hgo : ∀ (H : Heap) (locs : List Loc), wi D z (Ar z) (cw a cI vals fil rb (nI t) wo cnt fn X) s H locs → ∀ ls : Array Slot, lv_has ls 1 [(0, .ref (a 0))] → W p l e (rmx 6 89) s m args below meth c H locs 0 0 Q (F0 m 0 ls []) from hgo _ _ hI ls hl
  intro H locs hI ls hl
  refine lv_aload_n hx hb dX2_tick_0 rfl (lv_at hl 0 rfl) ?_
  refine va_get (D := D) (ci := 2) (v := .ref (a 1)) (C := RX2) (T := TX2) (N := 3) hx hb hts inX2 hown hK.1 hI.2.1 0 rfl rfl 0 (by decide) (hts _ k56) (fun _ h9 => h9) rfl dX2_tick_1 ?_
  refine va_getN (D := D) (ci := 0) (v := .int (nI t)) (C := RX0) (T := TX0) (N := 4) hx hb hts inX0 hown hK.1 hI.2.1 1 rfl rfl 3 (by decide) (va_Nw.use (w := nwP) rfl hK.2.1) (fun _ h9 => h9) rfl dX2_tick_4 ?_
  refine lv_bipush (v := nI 39) hx hb dX2_tick_7 (by decide) ?_
  refine nb_lt (tgt := 20) hx hb dX2_tick_9 (by decide) (by omega) (by omega) (fun c9 => ?_) (fun c9 => ?_)
  · exact absurd c9 (by omega)
  · exact hthr () hI hl.1 thISE dX2_tick_12 dX2_tick_15 dX2_tick_16 dX2_tick_19 (Nat.le_of_ble_eq_true rfl) (rfl)
set_option maxHeartbeats 4000000 in
set_option maxRecDepth 100000 in
theorem c_X2_value {l : Launch} {D : va_G} {cI cZ cJ : ClassId} {z : Nat} {a : Nat → Nat} {X : va_W} {vals fil rb : Nat → Int32} {t : Nat} {wo : Nat → Int32} {cnt fn : Int32} (hst : l.stackTraces = false) {S : Sta} (hA : cAbs S vals fil t) (ht : t < 40) {key day time : Int32} : vxI (S := Unit) l yX2_value cX2_value 5 (some .int) 6 89 [.ref (a 0), .int (key), .int (day), .int (time)] (pz D cI cZ cJ z (cw a cI vals fil rb (nI t) wo cnt fn X)) D z (fun _ => cw a cI vals fil rb (nI t) wo cnt fn X) (fun r _ => vCode S t key day time = 0 ∧ r = vVal S key day time) (fun E _ => (E = xIAE ∧ vCode S t key day time = 1) ∨ (E = xNSE ∧ vCode S t key day time = 2)) := by
  refine bd_x hst (by decide) (Nat.le_of_ble_eq_true rfl) (by decide) (by decide) (fun s h => h.2) ?_
  intro p e s m args below meth c Q hQ hF hno hpw hthr ls hl
  obtain ⟨hx, hb, hml, hown, hts, hr, hlocks⟩ := id hF
  have hKx := hpw.2.1
  have hZ := hpw.2.2
  have hK := hpw.1.2.2.2
  have hI : wi D z (Ar z) (cw a cI vals fil rb (nI t) wo cnt fn X) s s.heap [] := hpw.1.wi
  have hret : ∀ {H : Heap} {locs : List Loc} {ls : Array Slot} {pc : Nat} {x : Int32} (u : Unit), wi D z (Ar z) ((fun _ => cw a cI vals fil rb (nI t) wo cnt fn X) u) s H locs → decode cX2_value pc = .ok (.ireturn, 1) → (fun r _ => vCode S t key day time = 0 ∧ r = vVal S key day time) x u → W p l e (rmx 6 89) s m args below meth c H locs 0 0 Q (F0 m pc ls [.int x]) := by subst hQ; exact fun u hI hd hp => r_xi hF u hI hd hp
  have hl : lv_has ls 5 [(0, .ref (a 0)), (1, .int (key)), (2, .int (day)), (3, .int (time))] := hl
  suffices hgo : ∀ (H : Heap) (locs : List Loc), wi D z (Ar z) (cw a cI vals fil rb (nI t) wo cnt fn X) s H locs → ∀ ls : Array Slot, lv_has ls 5 [(0, .ref (a 0)), (1, .int (key)), (2, .int (day)), (3, .int (time))] → W p l e (rmx 6 89) s m args below meth c H locs 0 0 Q (F0 m 0 ls []) from hgo _ _ hI ls hl
  intro H locs hI ls hl
  refine lv_iload_n hx hb dX2_value_0 rfl (lv_at hl 1 rfl) ?_
  refine k_ro (run_s (As := [.int (key)]) (rest := []) hF (c_X2_isKey ) tt_blind (fun _ _ _ => trivial) cf_X2_isKey k86 ⟨Nat.le_of_ble_eq_true rfl, Nat.le_of_ble_eq_true rfl⟩ ⟨rfl, rfl⟩ ⟨Nat.le_of_ble_eq_true rfl, Nat.le_of_ble_eq_true rfl⟩ rfl hl.1 rfl (Nat.le_of_ble_eq_true rfl) dX2_value_1) hI (fun H locs hI => ?_)
  refine bz_eq (tgt := 22) hx hb dX2_value_4 (by decide) (fun c4 => ?_) (fun c4 => ?_)
  · exact hthr () hI hl.1 thIAE dX2_value_22 dX2_value_25 dX2_value_26 dX2_value_29 (Nat.le_of_ble_eq_true rfl) (Or.inl ⟨rfl, by unfold vCode; first | (simp [c4]; done) | (simp [c11]; done) | (simp [c19]; done)⟩)
  · refine lv_iload_n hx hb dX2_value_7 rfl (lv_at hl 2 rfl) ?_
    refine k_ro (run_s (As := [.int (day)]) (rest := []) hF (c_X2_isDay ) tt_blind (fun _ _ _ => trivial) cf_X2_isDay k89 ⟨Nat.le_of_ble_eq_true rfl, Nat.le_of_ble_eq_true rfl⟩ ⟨rfl, rfl⟩ ⟨Nat.le_of_ble_eq_true rfl, Nat.le_of_ble_eq_true rfl⟩ rfl hl.1 rfl (Nat.le_of_ble_eq_true rfl) dX2_value_8) hI (fun H locs hI => ?_)
    refine bz_eq (tgt := 22) hx hb dX2_value_11 (by decide) (fun c11 => ?_) (fun c11 => ?_)
    · exact hthr () hI hl.1 thIAE dX2_value_22 dX2_value_25 dX2_value_26 dX2_value_29 (Nat.le_of_ble_eq_true rfl) (Or.inl ⟨rfl, by unfold vCode; first | (simp [c4]; done) | (simp [c11]; done) | (simp [c19]; done)⟩)
    · refine lv_aload_n hx hb dX2_value_14 rfl (lv_at hl 0 rfl) ?_
      refine lv_iload_n hx hb dX2_value_15 rfl (lv_at hl 3 rfl) ?_
      refine k_ro (run_v (As := [.int (time)]) (rest := []) hF hK hI (c_X2_isTime ht) cf_X2_isTime k92 0 2 rfl rfl ⟨Nat.le_of_ble_eq_true rfl, Nat.le_of_ble_eq_true rfl⟩ ⟨rfl, rfl⟩ ⟨Nat.le_of_ble_eq_true rfl, Nat.le_of_ble_eq_true rfl⟩ rfl hl.1 rfl (Nat.le_of_ble_eq_true rfl) dX2_value_16) hI (fun H locs hI => ?_)
      refine bz_ne (tgt := 30) hx hb dX2_value_19 (by decide) (fun c19 => ?_) (fun c19 => ?_)
      · obtain ⟨ky, hky, rfl⟩ := okK_n c4
        obtain ⟨dy, hdy, rfl⟩ := okD_n c11
        obtain ⟨tm, htm, rfl⟩ := okT_n c19
        refine lv_iload_n hx hb dX2_value_30 rfl (lv_at hl 3 rfl) ?_
        refine lv_iload_n hx hb dX2_value_31 rfl (lv_at hl 1 rfl) ?_
        refine k_ro (run_s (As := [.int (nI tm), .int (nI ky)]) (rest := []) hF (c_X2_slotOf ) tt_blind (fun _ _ _ => trivial) cf_X2_slotOf k96 ⟨Nat.le_of_ble_eq_true rfl, Nat.le_of_ble_eq_true rfl⟩ ⟨rfl, rfl⟩ ⟨Nat.le_of_ble_eq_true rfl, Nat.le_of_ble_eq_true rfl⟩ rfl hl.1 rfl (Nat.le_of_ble_eq_true rfl) dX2_value_32) hI (fun H locs hI => ?_)
        refine lv_istore (lv' := [(4, .int (nI (tm * 4 + ky))), (0, .ref (a 0)), (1, .int (nI ky)), (2, .int (nI dy)), (3, .int (nI tm))]) hx hb dX2_value_35 hl (by decide) rfl (fun ls hl => ?_)
        refine lv_aload_n hx hb dX2_value_37 rfl (lv_at hl 1 rfl) ?_
        refine va_get (D := D) (ci := 2) (v := .ref (a 1)) (C := RX2) (T := TX2) (N := 3) hx hb hts inX2 hown hK.1 hI.2.1 0 rfl rfl 0 (by decide) (hts _ k56) (fun _ h9 => h9) rfl dX2_value_38 ?_
        refine lv_iload hx hb dX2_value_41 (lv_at hl 0 rfl) ?_
        refine lv_iload_n hx hb dX2_value_43 rfl (lv_at hl 3 rfl) ?_
        refine k_ro (run_v (As := [.int (nI (tm * 4 + ky)), .int (nI dy)]) (rest := []) hF hK hI (c_X0_isFilled hA ht (by omega) (by omega)) cf_X0_isFilled k99 1 0 rfl rfl ⟨Nat.le_of_ble_eq_true rfl, Nat.le_of_ble_eq_true rfl⟩ ⟨rfl, rfl⟩ ⟨Nat.le_of_ble_eq_true rfl, Nat.le_of_ble_eq_true rfl⟩ rfl hl.1 rfl (Nat.le_of_ble_eq_true rfl) dX2_value_44) hI (fun H locs hI => ?_)
        refine bz_ne (tgt := 58) hx hb dX2_value_47 (by decide) (fun c47 => ?_) (fun c47 => ?_)
        · refine lv_aload_n hx hb dX2_value_58 rfl (lv_at hl 1 rfl) ?_
          refine va_get (D := D) (ci := 2) (v := .ref (a 1)) (C := RX2) (T := TX2) (N := 3) hx hb hts inX2 hown hK.1 hI.2.1 0 rfl rfl 0 (by decide) (hts _ k56) (fun _ h9 => h9) rfl dX2_value_59 ?_
          refine lv_iload hx hb dX2_value_62 (lv_at hl 0 rfl) ?_
          refine lv_iload_n hx hb dX2_value_64 rfl (lv_at hl 3 rfl) ?_
          refine k_ro (run_v (As := [.int (nI (tm * 4 + ky)), .int (nI dy)]) (rest := []) hF hK hI (c_X0_valueOn ht (by omega) (by omega)) cf_X0_valueOn k308 1 0 rfl rfl ⟨Nat.le_of_ble_eq_true rfl, Nat.le_of_ble_eq_true rfl⟩ ⟨rfl, rfl⟩ ⟨Nat.le_of_ble_eq_true rfl, Nat.le_of_ble_eq_true rfl⟩ rfl hl.1 rfl (Nat.le_of_ble_eq_true rfl) dX2_value_65) hI (fun H locs hI => ?_)
          exact hret () hI dX2_value_68 ⟨by rw [vCode_n htm hky hdy ht, c47]; rfl, by rw [vVal_n htm hky hdy ht, val_c hA (by omega) hdy c47]; rfl⟩
        · exact hthr () hI hl.1 thNSE dX2_value_50 dX2_value_53 dX2_value_54 dX2_value_57 (Nat.le_of_ble_eq_true rfl) (Or.inr ⟨rfl, by rw [vCode_n htm hky hdy ht, c47]; rfl⟩)
      · exact hthr () hI hl.1 thIAE dX2_value_22 dX2_value_25 dX2_value_26 dX2_value_29 (Nat.le_of_ble_eq_true rfl) (Or.inl ⟨rfl, by unfold vCode; first | (simp [c4]; done) | (simp [c11]; done) | (simp [c19]; done)⟩)
set_option maxHeartbeats 4000000 in
set_option maxRecDepth 100000 in
theorem c_X2_sum {l : Launch} {D : va_G} {cI cZ cJ : ClassId} {z : Nat} {a : Nat → Nat} {X : va_W} {vals fil rb : Nat → Int32} {t : Nat} {wo : Nat → Int32} {cnt fn : Int32} (hst : l.stackTraces = false) {S : Sta} (hA : cAbs S vals fil t) (ht : t < 40) {key fr to time : Int32} : vxL (S := Unit) l yX2_sum cX2_sum 9 (some .long) 6 89 [.ref (a 0), .int (key), .int (fr), .int (to), .int (time)] (pz D cI cZ cJ z (cw a cI vals fil rb (nI t) wo cnt fn X)) D z (fun _ => cw a cI vals fil rb (nI t) wo cnt fn X) (fun r _ => sCode t key fr to time = 0 ∧ r = sVal S key fr to time) (fun E _ => E = xIAE ∧ sCode t key fr to time = 1) := by
  refine bd_x hst (by decide) (Nat.le_of_ble_eq_true rfl) (by decide) (by decide) (fun s h => h.2) ?_
  intro p e s m args below meth c Q hQ hF hno hpw hthr ls hl
  obtain ⟨hx, hb, hml, hown, hts, hr, hlocks⟩ := id hF
  have hKx := hpw.2.1
  have hZ := hpw.2.2
  have hK := hpw.1.2.2.2
  have hI : wi D z (Ar z) (cw a cI vals fil rb (nI t) wo cnt fn X) s s.heap [] := hpw.1.wi
  have hret : ∀ {H : Heap} {locs : List Loc} {ls : Array Slot} {pc : Nat} {x : Int64} (u : Unit), wi D z (Ar z) ((fun _ => cw a cI vals fil rb (nI t) wo cnt fn X) u) s H locs → decode cX2_sum pc = .ok (.lreturn, 1) → (fun r _ => sCode t key fr to time = 0 ∧ r = sVal S key fr to time) x u → W p l e (rmx 6 89) s m args below meth c H locs 0 0 Q (F0 m pc ls [.long x]) := by subst hQ; exact fun u hI hd hp => r_xl hF u hI hd hp
  have hl : lv_has ls 9 [(0, .ref (a 0)), (1, .int (key)), (2, .int (fr)), (3, .int (to)), (4, .int (time))] := hl
  suffices hgo : ∀ (H : Heap) (locs : List Loc), wi D z (Ar z) (cw a cI vals fil rb (nI t) wo cnt fn X) s H locs → ∀ ls : Array Slot, lv_has ls 9 [(0, .ref (a 0)), (1, .int (key)), (2, .int (fr)), (3, .int (to)), (4, .int (time))] → W p l e (rmx 6 89) s m args below meth c H locs 0 0 Q (F0 m 0 ls []) from hgo _ _ hI ls hl
  intro H locs hI ls hl
  refine lv_iload_n hx hb dX2_sum_0 rfl (lv_at hl 1 rfl) ?_
  refine k_ro (run_s (As := [.int (key)]) (rest := []) hF (c_X2_isKey ) tt_blind (fun _ _ _ => trivial) cf_X2_isKey k86 ⟨Nat.le_of_ble_eq_true rfl, Nat.le_of_ble_eq_true rfl⟩ ⟨rfl, rfl⟩ ⟨Nat.le_of_ble_eq_true rfl, Nat.le_of_ble_eq_true rfl⟩ rfl hl.1 rfl (Nat.le_of_ble_eq_true rfl) dX2_sum_1) hI (fun H locs hI => ?_)
  refine bz_eq (tgt := 24) hx hb dX2_sum_4 (by decide) (fun c4 => ?_) (fun c4 => ?_)
  · exact hthr () hI hl.1 thIAE dX2_sum_24 dX2_sum_27 dX2_sum_28 dX2_sum_31 (Nat.le_of_ble_eq_true rfl) (⟨rfl, by unfold sCode; first | (simp [c4]; done) | (simp [c12]; done) | (simp [c21]; done)⟩)
  · refine lv_iload_n hx hb dX2_sum_7 rfl (lv_at hl 2 rfl) ?_
    refine lv_iload_n hx hb dX2_sum_8 rfl (lv_at hl 3 rfl) ?_
    refine k_ro (run_s (As := [.int (fr), .int (to)]) (rest := []) hF (c_X2_isPeriod ) tt_blind (fun _ _ _ => trivial) cf_X2_isPeriod k316 ⟨Nat.le_of_ble_eq_true rfl, Nat.le_of_ble_eq_true rfl⟩ ⟨rfl, rfl⟩ ⟨Nat.le_of_ble_eq_true rfl, Nat.le_of_ble_eq_true rfl⟩ rfl hl.1 rfl (Nat.le_of_ble_eq_true rfl) dX2_sum_9) hI (fun H locs hI => ?_)
    refine bz_eq (tgt := 24) hx hb dX2_sum_12 (by decide) (fun c12 => ?_) (fun c12 => ?_)
    · exact hthr () hI hl.1 thIAE dX2_sum_24 dX2_sum_27 dX2_sum_28 dX2_sum_31 (Nat.le_of_ble_eq_true rfl) (⟨rfl, by unfold sCode; first | (simp [c4]; done) | (simp [c12]; done) | (simp [c21]; done)⟩)
    · refine lv_aload_n hx hb dX2_sum_15 rfl (lv_at hl 0 rfl) ?_
      refine lv_iload hx hb dX2_sum_16 (lv_at hl 4 rfl) ?_
      refine k_ro (run_v (As := [.int (time)]) (rest := []) hF hK hI (c_X2_isTime ht) cf_X2_isTime k92 0 2 rfl rfl ⟨Nat.le_of_ble_eq_true rfl, Nat.le_of_ble_eq_true rfl⟩ ⟨rfl, rfl⟩ ⟨Nat.le_of_ble_eq_true rfl, Nat.le_of_ble_eq_true rfl⟩ rfl hl.1 rfl (Nat.le_of_ble_eq_true rfl) dX2_sum_18) hI (fun H locs hI => ?_)
      refine bz_ne (tgt := 32) hx hb dX2_sum_21 (by decide) (fun c21 => ?_) (fun c21 => ?_)
      · obtain ⟨ky, hky, rfl⟩ := okK_n c4
        obtain ⟨f1, t1, hft, ht1, rfl, rfl⟩ := okP_n c12
        obtain ⟨tm, htm, rfl⟩ := okT_n c21
        refine lv_iload hx hb dX2_sum_32 (lv_at hl 4 rfl) ?_
        refine lv_iload_n hx hb dX2_sum_34 rfl (lv_at hl 1 rfl) ?_
        refine k_ro (run_s (As := [.int (nI tm), .int (nI ky)]) (rest := []) hF (c_X2_slotOf ) tt_blind (fun _ _ _ => trivial) cf_X2_slotOf k96 ⟨Nat.le_of_ble_eq_true rfl, Nat.le_of_ble_eq_true rfl⟩ ⟨rfl, rfl⟩ ⟨Nat.le_of_ble_eq_true rfl, Nat.le_of_ble_eq_true rfl⟩ rfl hl.1 rfl (Nat.le_of_ble_eq_true rfl) dX2_sum_35) hI (fun H locs hI => ?_)
        refine lv_istore (lv' := [(5, .int (nI (tm * 4 + ky))), (0, .ref (a 0)), (1, .int (nI ky)), (2, .int (nI f1)), (3, .int (nI t1)), (4, .int (nI tm))]) hx hb dX2_sum_38 hl (by decide) rfl (fun ls hl => ?_)
        refine lv_lconst (v := 0) hx hb dX2_sum_40 (by decide) ?_
        refine lv_lstore (lv' := [(6, .long (0)), (5, .int (nI (tm * 4 + ky))), (0, .ref (a 0)), (1, .int (nI ky)), (2, .int (nI f1)), (3, .int (nI t1)), (4, .int (nI tm))]) hx hb dX2_sum_41 hl (by decide) rfl (fun ls hl => ?_)
        refine lv_iload_n hx hb dX2_sum_43 rfl (lv_at hl 4 rfl) ?_
        refine lv_istore (lv' := [(8, .int (nI f1)), (6, .long (0)), (5, .int (nI (tm * 4 + ky))), (0, .ref (a 0)), (1, .int (nI ky)), (2, .int (nI f1)), (3, .int (nI t1)), (4, .int (nI tm))]) hx hb dX2_sum_44 hl (by decide) rfl (fun ls hl => ?_)
        have J46 : ∀ (n46_ : Nat) (x : Nat) (l6 : Int64) (hx1 : x ≤ t1) (hx0 : f1 ≤ x) (hl6 : l6 = smL S (tm * 4 + ky) f1 (x - f1)) (hm46 : t1 < x + n46_) (H : Heap) (locs : List Loc), wi D z (Ar z) (cw a cI vals fil rb (nI t) wo cnt fn X) s H locs → ∀ ls : Array Slot, lv_has ls 9 [(0, .ref (a 0)), (1, .int (nI ky)), (2, .int (nI f1)), (3, .int (nI t1)), (4, .int (nI tm)), (5, .int (nI (tm * 4 + ky))), (6, .long (l6)), (8, .int (nI x))] → W p l e (rmx 6 89) s m args below meth c H locs 0 0 Q (F0 m 46 ls []) := by
          intro n46_
          induction n46_ with
          | zero => intro x l6 hx1 hx0 hl6 hm46; exact absurd hm46 (by omega)
          | succ n46_ ih46 =>
            intro x l6 hx1 hx0 hl6 hm46 H locs hI ls hl
            refine lv_iload hx hb dX2_sum_46 (lv_at hl 7 rfl) ?_
            refine lv_iload_n hx hb dX2_sum_48 rfl (lv_at hl 3 rfl) ?_
            refine nb_ge (tgt := 89) hx hb dX2_sum_49 (by decide) (by omega) (by omega) (fun c49 => ?_) (fun c49 => ?_)
            · refine lv_lload hx hb dX2_sum_89 (lv_at hl 6 rfl) ?_
              exact hret () hI dX2_sum_91 ⟨by rw [sCode_n htm hky hft ht1 ht], by rw [sVal_n htm hky hft ht1 ht, hl6, show x = t1 by omega]⟩
            · refine lv_aload_n hx hb dX2_sum_52 rfl (lv_at hl 0 rfl) ?_
              refine va_get (D := D) (ci := 2) (v := .ref (a 1)) (C := RX2) (T := TX2) (N := 3) hx hb hts inX2 hown hK.1 hI.2.1 0 rfl rfl 0 (by decide) (hts _ k56) (fun _ h9 => h9) rfl dX2_sum_53 ?_
              refine lv_iload hx hb dX2_sum_56 (lv_at hl 5 rfl) ?_
              refine lv_iload hx hb dX2_sum_58 (lv_at hl 7 rfl) ?_
              refine k_ro (run_v (As := [.int (nI (tm * 4 + ky)), .int (nI x)]) (rest := []) hF hK hI (c_X0_isFilled hA ht (by omega) (by omega)) cf_X0_isFilled k99 1 0 rfl rfl ⟨Nat.le_of_ble_eq_true rfl, Nat.le_of_ble_eq_true rfl⟩ ⟨rfl, rfl⟩ ⟨Nat.le_of_ble_eq_true rfl, Nat.le_of_ble_eq_true rfl⟩ rfl hl.1 rfl (Nat.le_of_ble_eq_true rfl) dX2_sum_60) hI (fun H locs hI => ?_)
              refine bz_eq (tgt := 83) hx hb dX2_sum_63 (by decide) (fun c63 => ?_) (fun c63 => ?_)
              · refine lv_iinc (v := nI (x + 1)) (lv' := [(8, .int (nI (x + 1))), (0, .ref (a 0)), (1, .int (nI ky)), (2, .int (nI f1)), (3, .int (nI t1)), (4, .int (nI tm)), (5, .int (nI (tm * 4 + ky))), (6, .long (l6))]) hx hb dX2_sum_83 hl (k := 7) rfl (inc_n _ 1) (by decide) rfl (fun ls hl => ?_)
                refine lv_goto (tgt := 46) hx hb dX2_sum_86 (by decide) ?_
                exact ih46 (x + 1) (l6) (by omega) (by omega) (by rw [show x + 1 - f1 = x - f1 + 1 by omega, smL, show f1 + (x - f1) = x by omega, ← hl6]; first | (rw [val_c hA (by omega) (by omega) c63]; rfl) | (have e9 : S (tm * 4 + ky) x = none := (by simpa using c63); rw [e9]; exact (Int64.add_zero l6).symm)) (by omega) H locs hI ls (lv_sub hl [1, 2, 3, 4, 5, 6, 7, 0] rfl)
              · refine lv_lload hx hb dX2_sum_66 (lv_at hl 6 rfl) ?_
                refine lv_aload_n hx hb dX2_sum_68 rfl (lv_at hl 0 rfl) ?_
                refine va_get (D := D) (ci := 2) (v := .ref (a 1)) (C := RX2) (T := TX2) (N := 3) hx hb hts inX2 hown hK.1 hI.2.1 0 rfl rfl 0 (by decide) (hts _ k56) (fun _ h9 => h9) rfl dX2_sum_69 ?_
                refine lv_iload hx hb dX2_sum_72 (lv_at hl 5 rfl) ?_
                refine lv_iload hx hb dX2_sum_74 (lv_at hl 7 rfl) ?_
                refine k_ro (run_v (As := [.int (nI (tm * 4 + ky)), .int (nI x)]) (rest := [.long (l6)]) hF hK hI (c_X0_valueOn ht (by omega) (by omega)) cf_X0_valueOn k308 1 0 rfl rfl ⟨Nat.le_of_ble_eq_true rfl, Nat.le_of_ble_eq_true rfl⟩ ⟨rfl, rfl⟩ ⟨Nat.le_of_ble_eq_true rfl, Nat.le_of_ble_eq_true rfl⟩ rfl hl.1 rfl (Nat.le_of_ble_eq_true rfl) dX2_sum_76) hI (fun H locs hI => ?_)
                refine lv_i2l (v := (vals ((tm * 4 + ky) * 32 + x)).toInt64) hx hb dX2_sum_79 rfl ?_
                refine lv_ladd hx hb dX2_sum_80 ?_
                refine lv_lstore (lv' := [(6, .long (l6 + ((vals ((tm * 4 + ky) * 32 + x)).toInt64))), (0, .ref (a 0)), (1, .int (nI ky)), (2, .int (nI f1)), (3, .int (nI t1)), (4, .int (nI tm)), (5, .int (nI (tm * 4 + ky))), (8, .int (nI x))]) hx hb dX2_sum_81 hl (by decide) rfl (fun ls hl => ?_)
                refine lv_iinc (v := nI (x + 1)) (lv' := [(8, .int (nI (x + 1))), (6, .long (l6 + ((vals ((tm * 4 + ky) * 32 + x)).toInt64))), (0, .ref (a 0)), (1, .int (nI ky)), (2, .int (nI f1)), (3, .int (nI t1)), (4, .int (nI tm)), (5, .int (nI (tm * 4 + ky)))]) hx hb dX2_sum_83 hl (k := 7) rfl (inc_n _ 1) (by decide) rfl (fun ls hl => ?_)
                refine lv_goto (tgt := 46) hx hb dX2_sum_86 (by decide) ?_
                exact ih46 (x + 1) (l6 + ((vals ((tm * 4 + ky) * 32 + x)).toInt64)) (by omega) (by omega) (by rw [show x + 1 - f1 = x - f1 + 1 by omega, smL, show f1 + (x - f1) = x by omega, ← hl6]; first | (rw [val_c hA (by omega) (by omega) c63]; rfl) | (have e9 : S (tm * 4 + ky) x = none := (by simpa using c63); rw [e9]; exact (Int64.add_zero l6).symm)) (by omega) H locs hI ls (lv_sub hl [2, 3, 4, 5, 6, 7, 1, 0] rfl)
        exact J46 (t1 + 1) f1 0 (by omega) (by omega) (by rw [Nat.sub_self]; rfl) (by omega) H locs hI ls (lv_sub hl [3, 4, 5, 6, 7, 2, 1, 0] rfl)
      · exact hthr () hI hl.1 thIAE dX2_sum_24 dX2_sum_27 dX2_sum_28 dX2_sum_31 (Nat.le_of_ble_eq_true rfl) (⟨rfl, by unfold sCode; first | (simp [c4]; done) | (simp [c12]; done) | (simp [c21]; done)⟩)
set_option maxHeartbeats 4000000 in
set_option maxRecDepth 100000 in
theorem c_X2_runs {l : Launch} {D : va_G} {cI cZ cJ : ClassId} {z : Nat} {a : Nat → Nat} {X : va_W} {vals fil rb : Nat → Int32} {t : Nat} {wo : Nat → Int32} {cnt fn : Int32} (hst : l.stackTraces = false) {S : Sta} (hA : cAbs S vals fil t) (ht : t < 40) {key time : Int32} : vxI (S := Unit) l yX2_runs cX2_runs 3 (some .int) 6 89 [.ref (a 0), .int (key), .int (time)] (pz D cI cZ cJ z (cw a cI vals fil rb (nI t) wo cnt fn X)) D z (fun _ => cw a cI vals fil rb (nI t) wo cnt fn X) (fun r _ => rsCode t key time = 0 ∧ r = nI (rsVal S key time)) (fun E _ => E = xIAE ∧ rsCode t key time = 1) := by
  refine bd_x hst (by decide) (Nat.le_of_ble_eq_true rfl) (by decide) (by decide) (fun s h => h.2) ?_
  intro p e s m args below meth c Q hQ hF hno hpw hthr ls hl
  obtain ⟨hx, hb, hml, hown, hts, hr, hlocks⟩ := id hF
  have hKx := hpw.2.1
  have hZ := hpw.2.2
  have hK := hpw.1.2.2.2
  have hI : wi D z (Ar z) (cw a cI vals fil rb (nI t) wo cnt fn X) s s.heap [] := hpw.1.wi
  have hret : ∀ {H : Heap} {locs : List Loc} {ls : Array Slot} {pc : Nat} {x : Int32} (u : Unit), wi D z (Ar z) ((fun _ => cw a cI vals fil rb (nI t) wo cnt fn X) u) s H locs → decode cX2_runs pc = .ok (.ireturn, 1) → (fun r _ => rsCode t key time = 0 ∧ r = nI (rsVal S key time)) x u → W p l e (rmx 6 89) s m args below meth c H locs 0 0 Q (F0 m pc ls [.int x]) := by subst hQ; exact fun u hI hd hp => r_xi hF u hI hd hp
  have hl : lv_has ls 3 [(0, .ref (a 0)), (1, .int (key)), (2, .int (time))] := hl
  suffices hgo : ∀ (H : Heap) (locs : List Loc), wi D z (Ar z) (cw a cI vals fil rb (nI t) wo cnt fn X) s H locs → ∀ ls : Array Slot, lv_has ls 3 [(0, .ref (a 0)), (1, .int (key)), (2, .int (time))] → W p l e (rmx 6 89) s m args below meth c H locs 0 0 Q (F0 m 0 ls []) from hgo _ _ hI ls hl
  intro H locs hI ls hl
  refine lv_iload_n hx hb dX2_runs_0 rfl (lv_at hl 1 rfl) ?_
  refine k_ro (run_s (As := [.int (key)]) (rest := []) hF (c_X2_isKey ) tt_blind (fun _ _ _ => trivial) cf_X2_isKey k86 ⟨Nat.le_of_ble_eq_true rfl, Nat.le_of_ble_eq_true rfl⟩ ⟨rfl, rfl⟩ ⟨Nat.le_of_ble_eq_true rfl, Nat.le_of_ble_eq_true rfl⟩ rfl hl.1 rfl (Nat.le_of_ble_eq_true rfl) dX2_runs_1) hI (fun H locs hI => ?_)
  refine bz_eq (tgt := 15) hx hb dX2_runs_4 (by decide) (fun c4 => ?_) (fun c4 => ?_)
  · exact hthr () hI hl.1 thIAE dX2_runs_15 dX2_runs_18 dX2_runs_19 dX2_runs_22 (Nat.le_of_ble_eq_true rfl) (⟨rfl, by unfold rsCode; first | (simp [c4]; done) | (simp [c12]; done)⟩)
  · refine lv_aload_n hx hb dX2_runs_7 rfl (lv_at hl 0 rfl) ?_
    refine lv_iload_n hx hb dX2_runs_8 rfl (lv_at hl 2 rfl) ?_
    refine k_ro (run_v (As := [.int (time)]) (rest := []) hF hK hI (c_X2_isTime ht) cf_X2_isTime k92 0 2 rfl rfl ⟨Nat.le_of_ble_eq_true rfl, Nat.le_of_ble_eq_true rfl⟩ ⟨rfl, rfl⟩ ⟨Nat.le_of_ble_eq_true rfl, Nat.le_of_ble_eq_true rfl⟩ rfl hl.1 rfl (Nat.le_of_ble_eq_true rfl) dX2_runs_9) hI (fun H locs hI => ?_)
    refine bz_ne (tgt := 23) hx hb dX2_runs_12 (by decide) (fun c12 => ?_) (fun c12 => ?_)
    · obtain ⟨ky, hky, rfl⟩ := okK_n c4
      obtain ⟨tm, htm, rfl⟩ := okT_n c12
      refine lv_aload_n hx hb dX2_runs_23 rfl (lv_at hl 0 rfl) ?_
      refine va_get (D := D) (ci := 2) (v := .ref (a 1)) (C := RX2) (T := TX2) (N := 3) hx hb hts inX2 hown hK.1 hI.2.1 0 rfl rfl 0 (by decide) (hts _ k56) (fun _ h9 => h9) rfl dX2_runs_24 ?_
      refine lv_iload_n hx hb dX2_runs_27 rfl (lv_at hl 2 rfl) ?_
      refine lv_iload_n hx hb dX2_runs_28 rfl (lv_at hl 1 rfl) ?_
      refine k_ro (run_s (As := [.int (nI tm), .int (nI ky)]) (rest := [.ref (a 1)]) hF (c_X2_slotOf ) tt_blind (fun _ _ _ => trivial) cf_X2_slotOf k96 ⟨Nat.le_of_ble_eq_true rfl, Nat.le_of_ble_eq_true rfl⟩ ⟨rfl, rfl⟩ ⟨Nat.le_of_ble_eq_true rfl, Nat.le_of_ble_eq_true rfl⟩ rfl hl.1 rfl (Nat.le_of_ble_eq_true rfl) dX2_runs_29) hI (fun H locs hI => ?_)
      refine k_ro (run_v (As := [.int (nI (tm * 4 + ky))]) (rest := []) hF hK hI (c_X0_countRuns hA ht (by omega)) cf_X0_countRuns k324 1 0 rfl rfl ⟨Nat.le_of_ble_eq_true rfl, Nat.le_of_ble_eq_true rfl⟩ ⟨rfl, rfl⟩ ⟨Nat.le_of_ble_eq_true rfl, Nat.le_of_ble_eq_true rfl⟩ rfl hl.1 rfl (Nat.le_of_ble_eq_true rfl) dX2_runs_32) hI (fun H locs hI => ?_)
      exact hret () hI dX2_runs_35 ⟨by rw [rsCode_n htm hky ht], by rw [rsVal_n htm hky ht]⟩
    · exact hthr () hI hl.1 thIAE dX2_runs_15 dX2_runs_18 dX2_runs_19 dX2_runs_22 (Nat.le_of_ble_eq_true rfl) (⟨rfl, by unfold rsCode; first | (simp [c4]; done) | (simp [c12]; done)⟩)
set_option maxHeartbeats 4000000 in
set_option maxRecDepth 100000 in
theorem c_X2_run {l : Launch} {D : va_G} {cI cZ cJ : ClassId} {z : Nat} {a : Nat → Nat} {X : va_W} {vals fil rb : Nat → Int32} {t : Nat} {wo : Nat → Int32} {cnt fn : Int32} (hst : l.stackTraces = false) {S : Sta} (hA : cAbs S vals fil t) (ht : t < 40) {key time k part : Int32} {i : Nat} (hg : rnCode S t key time k part = 0 → i < 32 ∧ beg S (nn time * 4 + nn key) i = true ∧ fb_ct (beg S (nn time * 4 + nn key)) i = nn k) : vxI (S := Unit) l yX2_run cX2_run 7 (some .int) 6 89 [.ref (a 0), .int (key), .int (time), .int (k), .int (part)] (pz D cI cZ cJ z (cw a cI vals fil rb (nI t) wo cnt fn X)) D z (fun _ => cw a cI vals fil rb (nI t) wo cnt fn X) (fun r _ => rnCode S t key time k part = 0 ∧ r = rnVal S (nn time * 4 + nn key) i (nn part)) (fun E _ => (E = xIAE ∧ rnCode S t key time k part = 1) ∨ (E = xIOB ∧ rnCode S t key time k part = 2)) := by
  refine bd_x hst (by decide) (Nat.le_of_ble_eq_true rfl) (by decide) (by decide) (fun s h => h.2) ?_
  intro p e s m args below meth c Q hQ hF hno hpw hthr ls hl
  obtain ⟨hx, hb, hml, hown, hts, hr, hlocks⟩ := id hF
  have hKx := hpw.2.1
  have hZ := hpw.2.2
  have hK := hpw.1.2.2.2
  have hI : wi D z (Ar z) (cw a cI vals fil rb (nI t) wo cnt fn X) s s.heap [] := hpw.1.wi
  have hret : ∀ {H : Heap} {locs : List Loc} {ls : Array Slot} {pc : Nat} {x : Int32} (u : Unit), wi D z (Ar z) ((fun _ => cw a cI vals fil rb (nI t) wo cnt fn X) u) s H locs → decode cX2_run pc = .ok (.ireturn, 1) → (fun r _ => rnCode S t key time k part = 0 ∧ r = rnVal S (nn time * 4 + nn key) i (nn part)) x u → W p l e (rmx 6 89) s m args below meth c H locs 0 0 Q (F0 m pc ls [.int x]) := by subst hQ; exact fun u hI hd hp => r_xi hF u hI hd hp
  have hl : lv_has ls 7 [(0, .ref (a 0)), (1, .int (key)), (2, .int (time)), (3, .int (k)), (4, .int (part))] := hl
  suffices hgo : ∀ (H : Heap) (locs : List Loc), wi D z (Ar z) (cw a cI vals fil rb (nI t) wo cnt fn X) s H locs → ∀ ls : Array Slot, lv_has ls 7 [(0, .ref (a 0)), (1, .int (key)), (2, .int (time)), (3, .int (k)), (4, .int (part))] → W p l e (rmx 6 89) s m args below meth c H locs 0 0 Q (F0 m 0 ls []) from hgo _ _ hI ls hl
  intro H locs hI ls hl
  refine lv_iload_n hx hb dX2_run_0 rfl (lv_at hl 1 rfl) ?_
  refine k_ro (run_s (As := [.int (key)]) (rest := []) hF (c_X2_isKey ) tt_blind (fun _ _ _ => trivial) cf_X2_isKey k86 ⟨Nat.le_of_ble_eq_true rfl, Nat.le_of_ble_eq_true rfl⟩ ⟨rfl, rfl⟩ ⟨Nat.le_of_ble_eq_true rfl, Nat.le_of_ble_eq_true rfl⟩ rfl hl.1 rfl (Nat.le_of_ble_eq_true rfl) dX2_run_1) hI (fun H locs hI => ?_)
  refine bz_eq (tgt := 26) hx hb dX2_run_4 (by decide) (fun c4 => ?_) (fun c4 => ?_)
  · exact hthr () hI hl.1 thIAE dX2_run_26 dX2_run_29 dX2_run_30 dX2_run_33 (Nat.le_of_ble_eq_true rfl) (Or.inl ⟨rfl, by unfold rnCode; first | (simp [c4]; done) | (simp [c12]; done) | (simp [okN_f1 (n := 2) c17]; done) | (simp [okN_f2 (n := 2) c23 (by decide)]; done)⟩)
  · refine lv_aload_n hx hb dX2_run_7 rfl (lv_at hl 0 rfl) ?_
    refine lv_iload_n hx hb dX2_run_8 rfl (lv_at hl 2 rfl) ?_
    refine k_ro (run_v (As := [.int (time)]) (rest := []) hF hK hI (c_X2_isTime ht) cf_X2_isTime k92 0 2 rfl rfl ⟨Nat.le_of_ble_eq_true rfl, Nat.le_of_ble_eq_true rfl⟩ ⟨rfl, rfl⟩ ⟨Nat.le_of_ble_eq_true rfl, Nat.le_of_ble_eq_true rfl⟩ rfl hl.1 rfl (Nat.le_of_ble_eq_true rfl) dX2_run_9) hI (fun H locs hI => ?_)
    refine bz_eq (tgt := 26) hx hb dX2_run_12 (by decide) (fun c12 => ?_) (fun c12 => ?_)
    · exact hthr () hI hl.1 thIAE dX2_run_26 dX2_run_29 dX2_run_30 dX2_run_33 (Nat.le_of_ble_eq_true rfl) (Or.inl ⟨rfl, by unfold rnCode; first | (simp [c4]; done) | (simp [c12]; done) | (simp [okN_f1 (n := 2) c17]; done) | (simp [okN_f2 (n := 2) c23 (by decide)]; done)⟩)
    · refine lv_iload hx hb dX2_run_15 (lv_at hl 4 rfl) ?_
      refine lv_if_lt (tgt := 26) hx hb dX2_run_17 (by decide) (fun c17 => ?_) (fun c17 => ?_)
      · exact hthr () hI hl.1 thIAE dX2_run_26 dX2_run_29 dX2_run_30 dX2_run_33 (Nat.le_of_ble_eq_true rfl) (Or.inl ⟨rfl, by unfold rnCode; first | (simp [c4]; done) | (simp [c12]; done) | (simp [okN_f1 (n := 2) c17]; done) | (simp [okN_f2 (n := 2) c23 (by decide)]; done)⟩)
      · refine lv_iload hx hb dX2_run_20 (lv_at hl 4 rfl) ?_
        refine lv_iconst (v := nI 2) hx hb dX2_run_22 (by decide) ?_
        refine lv_icmp_le (tgt := 34) hx hb dX2_run_23 (by decide) (fun c23 => ?_) (fun c23 => ?_)
        · obtain ⟨ky, hky, rfl⟩ := okK_n c4
          obtain ⟨tm, htm, rfl⟩ := okT_n c12
          obtain ⟨pt, hpt, rfl⟩ := okN_n (okN_raw c17 c23 (by decide))
          have g3 := fb_ct_le (beg S (tm * 4 + ky)) 32
          refine lv_iload_n hx hb dX2_run_34 rfl (lv_at hl 2 rfl) ?_
          refine lv_iload_n hx hb dX2_run_35 rfl (lv_at hl 1 rfl) ?_
          refine k_ro (run_s (As := [.int (nI tm), .int (nI ky)]) (rest := []) hF (c_X2_slotOf ) tt_blind (fun _ _ _ => trivial) cf_X2_slotOf k96 ⟨Nat.le_of_ble_eq_true rfl, Nat.le_of_ble_eq_true rfl⟩ ⟨rfl, rfl⟩ ⟨Nat.le_of_ble_eq_true rfl, Nat.le_of_ble_eq_true rfl⟩ rfl hl.1 rfl (Nat.le_of_ble_eq_true rfl) dX2_run_36) hI (fun H locs hI => ?_)
          refine lv_istore (lv' := [(5, .int (nI (tm * 4 + ky))), (0, .ref (a 0)), (1, .int (nI ky)), (2, .int (nI tm)), (3, .int (k)), (4, .int (nI pt))]) hx hb dX2_run_39 hl (by decide) rfl (fun ls hl => ?_)
          refine lv_aload_n hx hb dX2_run_41 rfl (lv_at hl 1 rfl) ?_
          refine va_get (D := D) (ci := 2) (v := .ref (a 1)) (C := RX2) (T := TX2) (N := 3) hx hb hts inX2 hown hK.1 hI.2.1 0 rfl rfl 0 (by decide) (hts _ k56) (fun _ h9 => h9) rfl dX2_run_42 ?_
          refine lv_iload hx hb dX2_run_45 (lv_at hl 0 rfl) ?_
          refine lv_iload_n hx hb dX2_run_47 rfl (lv_at hl 4 rfl) ?_
          refine k_ro (run_v (As := [.int (nI (tm * 4 + ky)), .int (k)]) (rest := []) hF hK hI (c_X0_runStart hA ht (by omega)) cf_X0_runStart k336 1 0 rfl rfl ⟨Nat.le_of_ble_eq_true rfl, Nat.le_of_ble_eq_true rfl⟩ ⟨rfl, rfl⟩ ⟨Nat.le_of_ble_eq_true rfl, Nat.le_of_ble_eq_true rfl⟩ rfl hl.1 rfl (Nat.le_of_ble_eq_true rfl) dX2_run_48) hI (fun H locs hI => ?_)
          rcases Bool.eq_false_or_eq_true (inN (fb_ct (beg S (tm * 4 + ky)) 32) k) with q0 | q0
          · obtain ⟨k1, hk1, rfl⟩ := inN_n q0
            have e8 : rnCode S t (nI ky) (nI tm) (nI k1) (nI pt) = 0 := by rw [rnCode_n htm hky hpt ht, q0]; rfl
            have g5 := hg e8
            rw [nn_nI (by omega), nn_nI (by omega), nn_nI (by omega)] at g5
            have g6 := g5.1
            refine tp (fsI_k g5.1 g5.2.1 g5.2.2) ?_
            refine lv_istore (lv' := [(6, .int (nI i)), (5, .int (nI (tm * 4 + ky))), (0, .ref (a 0)), (1, .int (nI ky)), (2, .int (nI tm)), (3, .int (nI k1)), (4, .int (nI pt))]) hx hb dX2_run_51 hl (by decide) rfl (fun ls hl => ?_)
            refine lv_iload hx hb dX2_run_53 (lv_at hl 0 rfl) ?_
            refine lv_iconst (v := (-1 : Int32)) hx hb dX2_run_55 (by decide) ?_
            refine lv_icmp_ne (tgt := 67) hx hb dX2_run_56 (by decide) (fun c56 => ?_) (fun c56 => ?_)
            · refine lv_iload hx hb dX2_run_67 (lv_at hl 6 rfl) ?_
              refine nz_ne (tgt := 75) hx hb dX2_run_69 (by decide) (by omega) (fun c69 => ?_) (fun c69 => ?_)
              · refine lv_iload hx hb dX2_run_75 (lv_at hl 6 rfl) ?_
                refine lv_iconst (v := nI 1) hx hb dX2_run_77 (by decide) ?_
                refine nb_ne (tgt := 95) hx hb dX2_run_78 (by decide) (by omega) (by omega) (fun c78 => ?_) (fun c78 => ?_)
                · refine lv_aload_n hx hb dX2_run_95 rfl (lv_at hl 2 rfl) ?_
                  refine va_get (D := D) (ci := 2) (v := .ref (a 1)) (C := RX2) (T := TX2) (N := 3) hx hb hts inX2 hown hK.1 hI.2.1 0 rfl rfl 0 (by decide) (hts _ k56) (fun _ h9 => h9) rfl dX2_run_96 ?_
                  refine lv_iload hx hb dX2_run_99 (lv_at hl 1 rfl) ?_
                  refine lv_iload hx hb dX2_run_101 (lv_at hl 0 rfl) ?_
                  refine k_ro (run_v (As := [.int (nI (tm * 4 + ky)), .int (nI i)]) (rest := []) hF hK hI (c_X0_valueOn ht (by omega) (by omega)) cf_X0_valueOn k308 1 0 rfl rfl ⟨Nat.le_of_ble_eq_true rfl, Nat.le_of_ble_eq_true rfl⟩ ⟨rfl, rfl⟩ ⟨Nat.le_of_ble_eq_true rfl, Nat.le_of_ble_eq_true rfl⟩ rfl hl.1 rfl (Nat.le_of_ble_eq_true rfl) dX2_run_103) hI (fun H locs hI => ?_)
                  exact hret () hI dX2_run_106 ⟨e8, by rw [nn_nI (by omega), nn_nI (by omega), nn_nI (by omega)]; unfold rnVal; first | rw [if_pos c69] | rw [if_neg c69, if_pos c78] | (rw [if_neg c69, if_neg c78, val_c hA (by omega) g5.1 (beg_some g5.2.1)]; rfl)⟩
                · refine lv_aload_n hx hb dX2_run_81 rfl (lv_at hl 2 rfl) ?_
                  refine va_get (D := D) (ci := 2) (v := .ref (a 1)) (C := RX2) (T := TX2) (N := 3) hx hb hts inX2 hown hK.1 hI.2.1 0 rfl rfl 0 (by decide) (hts _ k56) (fun _ h9 => h9) rfl dX2_run_82 ?_
                  refine lv_iload hx hb dX2_run_85 (lv_at hl 1 rfl) ?_
                  refine lv_iload hx hb dX2_run_87 (lv_at hl 0 rfl) ?_
                  refine k_ro (run_v (As := [.int (nI (tm * 4 + ky)), .int (nI i)]) (rest := []) hF hK hI (c_X0_runEnd hA ht (by omega) (by omega)) cf_X0_runEnd k355 1 0 rfl rfl ⟨Nat.le_of_ble_eq_true rfl, Nat.le_of_ble_eq_true rfl⟩ ⟨rfl, rfl⟩ ⟨Nat.le_of_ble_eq_true rfl, Nat.le_of_ble_eq_true rfl⟩ rfl hl.1 rfl (Nat.le_of_ble_eq_true rfl) dX2_run_89) hI (fun H locs hI => ?_)
                  refine lv_goto (tgt := 106) hx hb dX2_run_92 (by decide) ?_
                  exact hret () hI dX2_run_106 ⟨e8, by rw [nn_nI (by omega), nn_nI (by omega), nn_nI (by omega)]; unfold rnVal; first | rw [if_pos c69] | rw [if_neg c69, if_pos c78] | (rw [if_neg c69, if_neg c78, val_c hA (by omega) g5.1 (beg_some g5.2.1)]; rfl)⟩
              · refine lv_iload hx hb dX2_run_72 (lv_at hl 0 rfl) ?_
                exact hret () hI dX2_run_74 ⟨e8, by rw [nn_nI (by omega), nn_nI (by omega), nn_nI (by omega)]; unfold rnVal; first | rw [if_pos c69] | rw [if_neg c69, if_pos c78] | (rw [if_neg c69, if_neg c78, val_c hA (by omega) g5.1 (beg_some g5.2.1)]; rfl)⟩
            · exact absurd c56 (nI_nm (by omega))
          · have e8 : rnCode S t (nI ky) (nI tm) k (nI pt) = 2 := by rw [rnCode_n htm hky hpt ht, q0]; rfl
            refine tp (fs_no q0) ?_
            refine lv_istore (lv' := [(6, .int ((-1 : Int32))), (5, .int (nI (tm * 4 + ky))), (0, .ref (a 0)), (1, .int (nI ky)), (2, .int (nI tm)), (3, .int (k)), (4, .int (nI pt))]) hx hb dX2_run_51 hl (by decide) rfl (fun ls hl => ?_)
            refine lv_iload hx hb dX2_run_53 (lv_at hl 0 rfl) ?_
            refine lv_iconst (v := (-1 : Int32)) hx hb dX2_run_55 (by decide) ?_
            refine lv_icmp_ne (tgt := 67) hx hb dX2_run_56 (by decide) (fun c56 => ?_) (fun c56 => ?_)
            · exact absurd rfl c56
            · exact hthr () hI hl.1 thIOB dX2_run_59 dX2_run_62 dX2_run_63 dX2_run_66 (Nat.le_of_ble_eq_true rfl) (Or.inr ⟨rfl, e8⟩)
        · exact hthr () hI hl.1 thIAE dX2_run_26 dX2_run_29 dX2_run_30 dX2_run_33 (Nat.le_of_ble_eq_true rfl) (Or.inl ⟨rfl, by unfold rnCode; first | (simp [c4]; done) | (simp [c12]; done) | (simp [okN_f1 (n := 2) c17]; done) | (simp [okN_f2 (n := 2) c23 (by decide)]; done)⟩)
set_option maxHeartbeats 4000000 in
set_option maxRecDepth 100000 in
theorem c_X2_row {l : Launch} {D : va_G} {cI cZ cJ : ClassId} {z : Nat} {a : Nat → Nat} {X : va_W} {vals fil rb : Nat → Int32} {t : Nat} {wo : Nat → Int32} {cnt fn : Int32} (hst : l.stackTraces = false) {S : Sta} (hA : cAbs S vals fil t) (ht : t < 40) (hR : rOk S rb t) {k part : Int32} {ky tm i : Nat} (hg : rwCode S t k part = 0 → ky < 4 ∧ tm ≤ t ∧ i < 32 ∧ isRw S (tm * 4 + ky) i = true ∧ nn k = rowAt S t ky tm i) : vxI (S := Unit) l yX2_row cX2_row 3 (some .int) 6 145 [.ref (a 0), .int (k), .int (part)] (pz D cI cZ cJ z (cw a cI vals fil rb (nI t) wo cnt fn X)) D z (fun _ => cw a cI vals fil rb (nI t) wo cnt fn X) (fun r _ => rwCode S t k part = 0 ∧ r = rowV S t tm ky i (nn part)) (fun E _ => (E = xIAE ∧ rwCode S t k part = 1) ∨ (E = xIOB ∧ rwCode S t k part = 2)) := by
  refine bd_x hst (by decide) (Nat.le_of_ble_eq_true rfl) (by decide) (by decide) (fun s h => h.2) ?_
  intro p e s m args below meth c Q hQ hF hno hpw hthr ls hl
  obtain ⟨hx, hb, hml, hown, hts, hr, hlocks⟩ := id hF
  have hKx := hpw.2.1
  have hZ := hpw.2.2
  have hK := hpw.1.2.2.2
  have hI : wi D z (Ar z) (cw a cI vals fil rb (nI t) wo cnt fn X) s s.heap [] := hpw.1.wi
  have hret : ∀ {H : Heap} {locs : List Loc} {ls : Array Slot} {pc : Nat} {x : Int32} (u : Unit), wi D z (Ar z) ((fun _ => cw a cI vals fil rb (nI t) wo cnt fn X) u) s H locs → decode cX2_row pc = .ok (.ireturn, 1) → (fun r _ => rwCode S t k part = 0 ∧ r = rowV S t tm ky i (nn part)) x u → W p l e (rmx 6 145) s m args below meth c H locs 0 0 Q (F0 m pc ls [.int x]) := by subst hQ; exact fun u hI hd hp => r_xi hF u hI hd hp
  have hl : lv_has ls 3 [(0, .ref (a 0)), (1, .int (k)), (2, .int (part))] := hl
  suffices hgo : ∀ (H : Heap) (locs : List Loc), wi D z (Ar z) (cw a cI vals fil rb (nI t) wo cnt fn X) s H locs → ∀ ls : Array Slot, lv_has ls 3 [(0, .ref (a 0)), (1, .int (k)), (2, .int (part))] → W p l e (rmx 6 145) s m args below meth c H locs 0 0 Q (F0 m 0 ls []) from hgo _ _ hI ls hl
  intro H locs hI ls hl
  refine lv_iload_n hx hb dX2_row_0 rfl (lv_at hl 2 rfl) ?_
  refine lv_if_lt (tgt := 9) hx hb dX2_row_1 (by decide) (fun c1 => ?_) (fun c1 => ?_)
  · exact hthr () hI hl.1 thIAE dX2_row_9 dX2_row_12 dX2_row_13 dX2_row_16 (Nat.le_of_ble_eq_true rfl) (Or.inl ⟨rfl, by unfold rwCode; first | (simp [okN_f1 (n := 5) c1]; done) | (simp [okN_f2 (n := 5) c6 (by decide)]; done)⟩)
  · refine lv_iload_n hx hb dX2_row_4 rfl (lv_at hl 2 rfl) ?_
    refine lv_iconst (v := nI 5) hx hb dX2_row_5 (by decide) ?_
    refine lv_icmp_le (tgt := 17) hx hb dX2_row_6 (by decide) (fun c6 => ?_) (fun c6 => ?_)
    · obtain ⟨pt, hpt, rfl⟩ := okN_n (okN_raw c1 c6 (by decide))
      have g3 := rowsTo_le (S := S) (4 * (t + 1))
      refine lv_iload_n hx hb dX2_row_17 rfl (lv_at hl 1 rfl) ?_
      refine lv_if_lt (tgt := 32) hx hb dX2_row_18 (by decide) (fun c18 => ?_) (fun c18 => ?_)
      · exact hthr () hI hl.1 thIOB dX2_row_32 dX2_row_35 dX2_row_36 dX2_row_39 (Nat.le_of_ble_eq_true rfl) (Or.inr ⟨rfl, by rw [rwCode_n hpt]; first | (rw [in_f1 c18]; rfl) | (rw [in_f2 (by omega) c29]; rfl)⟩)
      · refine lv_iload_n hx hb dX2_row_21 rfl (lv_at hl 1 rfl) ?_
        refine lv_aload_n hx hb dX2_row_22 rfl (lv_at hl 0 rfl) ?_
        refine va_get (D := D) (ci := 2) (v := .ref (a 1)) (C := RX2) (T := TX2) (N := 3) hx hb hts inX2 hown hK.1 hI.2.1 0 rfl rfl 0 (by decide) (hts _ k56) (fun _ h9 => h9) rfl dX2_row_23 ?_
        refine k_ro (run_v (As := []) (rest := [.int (k)]) hF hK hI (c_X0_countRows hA ht hR.1) cf_X0_countRows k107 1 0 rfl rfl ⟨Nat.le_of_ble_eq_true rfl, Nat.le_of_ble_eq_true rfl⟩ ⟨rfl, rfl⟩ ⟨Nat.le_of_ble_eq_true rfl, Nat.le_of_ble_eq_true rfl⟩ rfl hl.1 rfl (Nat.le_of_ble_eq_true rfl) dX2_row_26) hI (fun H locs hI => ?_)
        refine lv_icmp_lt (tgt := 40) hx hb dX2_row_29 (by decide) (fun c29 => ?_) (fun c29 => ?_)
        · obtain ⟨k1, hk1, rfl⟩ := inN_n (in_raw (by omega) c18 c29)
          have e8 : rwCode S t (nI k1) (nI pt) = 0 := by rw [rwCode_n hpt, inN_t hk1 (by omega)]; rfl
          obtain ⟨b3, b4, b5, br, bk⟩ := hg e8
          rw [nn_nI (by omega)] at bk
          refine lv_aload_n hx hb dX2_row_40 rfl (lv_at hl 0 rfl) ?_
          refine va_get (D := D) (ci := 2) (v := .ref (a 1)) (C := RX2) (T := TX2) (N := 3) hx hb hts inX2 hown hK.1 hI.2.1 0 rfl rfl 0 (by decide) (hts _ k56) (fun _ h9 => h9) rfl dX2_row_41 ?_
          refine lv_iload_n hx hb dX2_row_44 rfl (lv_at hl 1 rfl) ?_
          refine lv_iload_n hx hb dX2_row_45 rfl (lv_at hl 2 rfl) ?_
          refine k_ro (run_v (As := [.int (nI k1), .int (nI pt)]) (rest := []) hF hK hI (c_X0_rowPart hA ht hR.1 b3 b4 b5 (by omega) br bk) cf_X0_rowPart k363 1 0 rfl rfl ⟨Nat.le_of_ble_eq_true rfl, Nat.le_of_ble_eq_true rfl⟩ ⟨rfl, rfl⟩ ⟨Nat.le_of_ble_eq_true rfl, Nat.le_of_ble_eq_true rfl⟩ rfl hl.1 rfl (Nat.le_of_ble_eq_true rfl) dX2_row_46) hI (fun H locs hI => ?_)
          exact hret () hI dX2_row_49 ⟨e8, by rw [nn_nI (by omega)]⟩
        · exact hthr () hI hl.1 thIOB dX2_row_32 dX2_row_35 dX2_row_36 dX2_row_39 (Nat.le_of_ble_eq_true rfl) (Or.inr ⟨rfl, by rw [rwCode_n hpt]; first | (rw [in_f1 c18]; rfl) | (rw [in_f2 (by omega) c29]; rfl)⟩)
    · exact hthr () hI hl.1 thIAE dX2_row_9 dX2_row_12 dX2_row_13 dX2_row_16 (Nat.le_of_ble_eq_true rfl) (Or.inl ⟨rfl, by unfold rwCode; first | (simp [okN_f1 (n := 5) c1]; done) | (simp [okN_f2 (n := 5) c6 (by decide)]; done)⟩)
set_option maxHeartbeats 4000000 in
set_option maxRecDepth 100000 in
theorem c_X2_changes {l : Launch} {D : va_G} {cI cZ cJ : ClassId} {z : Nat} {a : Nat → Nat} {X : va_W} {vals fil rb : Nat → Int32} {t : Nat} {wo : Nat → Int32} {cnt fn : Int32} (hst : l.stackTraces = false) {S : Sta} (hA : cAbs S vals fil t) (ht : t < 40) {key day : Int32} : vxI (S := Unit) l yX2_changes cX2_changes 5 (some .int) 6 89 [.ref (a 0), .int (key), .int (day)] (pz D cI cZ cJ z (cw a cI vals fil rb (nI t) wo cnt fn X)) D z (fun _ => cw a cI vals fil rb (nI t) wo cnt fn X) (fun r _ => chCode key day = 0 ∧ r = nI (chVal S (nn key) (nn day) t)) (fun E _ => E = xIAE ∧ chCode key day = 1) := by
  refine bd_x hst (by decide) (Nat.le_of_ble_eq_true rfl) (by decide) (by decide) (fun s h => h.2) ?_
  intro p e s m args below meth c Q hQ hF hno hpw hthr ls hl
  obtain ⟨hx, hb, hml, hown, hts, hr, hlocks⟩ := id hF
  have hKx := hpw.2.1
  have hZ := hpw.2.2
  have hK := hpw.1.2.2.2
  have hI : wi D z (Ar z) (cw a cI vals fil rb (nI t) wo cnt fn X) s s.heap [] := hpw.1.wi
  have hret : ∀ {H : Heap} {locs : List Loc} {ls : Array Slot} {pc : Nat} {x : Int32} (u : Unit), wi D z (Ar z) ((fun _ => cw a cI vals fil rb (nI t) wo cnt fn X) u) s H locs → decode cX2_changes pc = .ok (.ireturn, 1) → (fun r _ => chCode key day = 0 ∧ r = nI (chVal S (nn key) (nn day) t)) x u → W p l e (rmx 6 89) s m args below meth c H locs 0 0 Q (F0 m pc ls [.int x]) := by subst hQ; exact fun u hI hd hp => r_xi hF u hI hd hp
  have hl : lv_has ls 5 [(0, .ref (a 0)), (1, .int (key)), (2, .int (day))] := hl
  suffices hgo : ∀ (H : Heap) (locs : List Loc), wi D z (Ar z) (cw a cI vals fil rb (nI t) wo cnt fn X) s H locs → ∀ ls : Array Slot, lv_has ls 5 [(0, .ref (a 0)), (1, .int (key)), (2, .int (day))] → W p l e (rmx 6 89) s m args below meth c H locs 0 0 Q (F0 m 0 ls []) from hgo _ _ hI ls hl
  intro H locs hI ls hl
  refine lv_iload_n hx hb dX2_changes_0 rfl (lv_at hl 1 rfl) ?_
  refine k_ro (run_s (As := [.int (key)]) (rest := []) hF (c_X2_isKey ) tt_blind (fun _ _ _ => trivial) cf_X2_isKey k86 ⟨Nat.le_of_ble_eq_true rfl, Nat.le_of_ble_eq_true rfl⟩ ⟨rfl, rfl⟩ ⟨Nat.le_of_ble_eq_true rfl, Nat.le_of_ble_eq_true rfl⟩ rfl hl.1 rfl (Nat.le_of_ble_eq_true rfl) dX2_changes_1) hI (fun H locs hI => ?_)
  refine bz_eq (tgt := 14) hx hb dX2_changes_4 (by decide) (fun c4 => ?_) (fun c4 => ?_)
  · exact hthr () hI hl.1 thIAE dX2_changes_14 dX2_changes_17 dX2_changes_18 dX2_changes_21 (Nat.le_of_ble_eq_true rfl) (⟨rfl, by unfold chCode; first | (simp [c4]; done) | (simp [c11]; done)⟩)
  · refine lv_iload_n hx hb dX2_changes_7 rfl (lv_at hl 2 rfl) ?_
    refine k_ro (run_s (As := [.int (day)]) (rest := []) hF (c_X2_isDay ) tt_blind (fun _ _ _ => trivial) cf_X2_isDay k89 ⟨Nat.le_of_ble_eq_true rfl, Nat.le_of_ble_eq_true rfl⟩ ⟨rfl, rfl⟩ ⟨Nat.le_of_ble_eq_true rfl, Nat.le_of_ble_eq_true rfl⟩ rfl hl.1 rfl (Nat.le_of_ble_eq_true rfl) dX2_changes_8) hI (fun H locs hI => ?_)
    refine bz_ne (tgt := 22) hx hb dX2_changes_11 (by decide) (fun c11 => ?_) (fun c11 => ?_)
    · obtain ⟨ky, hky, rfl⟩ := okK_n c4
      obtain ⟨dy, hdy, rfl⟩ := okD_n c11
      refine lv_iconst (v := nI 0) hx hb dX2_changes_22 (by decide) ?_
      refine lv_istore_n (lv' := [(3, .int (nI 0)), (0, .ref (a 0)), (1, .int (nI ky)), (2, .int (nI dy))]) hx hb dX2_changes_23 rfl hl (by decide) rfl (fun ls hl => ?_)
      refine lv_iconst (v := nI 1) hx hb dX2_changes_24 (by decide) ?_
      refine lv_istore (lv' := [(4, .int (nI 1)), (3, .int (nI 0)), (0, .ref (a 0)), (1, .int (nI ky)), (2, .int (nI dy))]) hx hb dX2_changes_25 hl (by decide) rfl (fun ls hl => ?_)
      have J27 : ∀ (n27_ : Nat) (x : Nat) (n3 : Nat) (hx1 : x ≤ t + 1) (hx0 : 0 < x) (hn : n3 = chVal S ky dy (x - 1)) (hm27 : t + 1 < x + n27_) (H : Heap) (locs : List Loc), wi D z (Ar z) (cw a cI vals fil rb (nI t) wo cnt fn X) s H locs → ∀ ls : Array Slot, lv_has ls 5 [(0, .ref (a 0)), (1, .int (nI ky)), (2, .int (nI dy)), (3, .int (nI n3)), (4, .int (nI x))] → W p l e (rmx 6 89) s m args below meth c H locs 0 0 Q (F0 m 27 ls []) := by
        intro n27_
        induction n27_ with
        | zero => intro x n3 hx1 hx0 hn hm27; exact absurd hm27 (by omega)
        | succ n27_ ih27 =>
          intro x n3 hx1 hx0 hn hm27 H locs hI ls hl
          refine lv_iload hx hb dX2_changes_27 (lv_at hl 4 rfl) ?_
          refine lv_aload_n hx hb dX2_changes_29 rfl (lv_at hl 0 rfl) ?_
          refine va_get (D := D) (ci := 2) (v := .ref (a 1)) (C := RX2) (T := TX2) (N := 3) hx hb hts inX2 hown hK.1 hI.2.1 0 rfl rfl 0 (by decide) (hts _ k56) (fun _ h9 => h9) rfl dX2_changes_30 ?_
          refine va_getN (D := D) (ci := 0) (v := .int (nI t)) (C := RX0) (T := TX0) (N := 4) hx hb hts inX0 hown hK.1 hI.2.1 1 rfl rfl 3 (by decide) (va_Nw.use (w := nwP) rfl hK.2.1) (fun _ h9 => h9) rfl dX2_changes_33 ?_
          refine nb_gt (tgt := 73) hx hb dX2_changes_36 (by decide) (by omega) (by omega) (fun c36 => ?_) (fun c36 => ?_)
          · refine lv_iload_n hx hb dX2_changes_73 rfl (lv_at hl 3 rfl) ?_
            exact hret () hI dX2_changes_74 ⟨by rw [chCode_n hky hdy], by rw [nn_nI (by omega), nn_nI (by omega), hn, show x - 1 = t by omega]⟩
          · refine lv_aload_n hx hb dX2_changes_39 rfl (lv_at hl 0 rfl) ?_
            refine va_get (D := D) (ci := 2) (v := .ref (a 1)) (C := RX2) (T := TX2) (N := 3) hx hb hts inX2 hown hK.1 hI.2.1 0 rfl rfl 0 (by decide) (hts _ k56) (fun _ h9 => h9) rfl dX2_changes_40 ?_
            refine lv_iload hx hb dX2_changes_43 (lv_at hl 4 rfl) ?_
            refine lv_iconst (v := nI 1) hx hb dX2_changes_45 (by decide) ?_
            refine lv_isub hx hb dX2_changes_46 ?_
            refine tp (pk_sub (by omega)) ?_
            refine lv_iload_n hx hb dX2_changes_47 rfl (lv_at hl 1 rfl) ?_
            refine k_ro (run_s (As := [.int (nI (x - 1)), .int (nI ky)]) (rest := [.ref (a 1)]) hF (c_X2_slotOf ) tt_blind (fun _ _ _ => trivial) cf_X2_slotOf k96 ⟨Nat.le_of_ble_eq_true rfl, Nat.le_of_ble_eq_true rfl⟩ ⟨rfl, rfl⟩ ⟨Nat.le_of_ble_eq_true rfl, Nat.le_of_ble_eq_true rfl⟩ rfl hl.1 rfl (Nat.le_of_ble_eq_true rfl) dX2_changes_48) hI (fun H locs hI => ?_)
            refine lv_iload hx hb dX2_changes_51 (lv_at hl 4 rfl) ?_
            refine lv_iload_n hx hb dX2_changes_53 rfl (lv_at hl 1 rfl) ?_
            refine k_ro (run_s (As := [.int (nI x), .int (nI ky)]) (rest := [.int (nI ((x - 1) * 4 + ky)), .ref (a 1)]) hF (c_X2_slotOf ) tt_blind (fun _ _ _ => trivial) cf_X2_slotOf k96 ⟨Nat.le_of_ble_eq_true rfl, Nat.le_of_ble_eq_true rfl⟩ ⟨rfl, rfl⟩ ⟨Nat.le_of_ble_eq_true rfl, Nat.le_of_ble_eq_true rfl⟩ rfl hl.1 rfl (Nat.le_of_ble_eq_true rfl) dX2_changes_54) hI (fun H locs hI => ?_)
            refine lv_iload_n hx hb dX2_changes_57 rfl (lv_at hl 2 rfl) ?_
            refine k_ro (run_v (As := [.int (nI ((x - 1) * 4 + ky)), .int (nI (x * 4 + ky)), .int (nI dy)]) (rest := []) hF hK hI (c_X0_differ hA ht (by omega) (by omega) (by omega)) cf_X0_differ k386 1 0 rfl rfl ⟨Nat.le_of_ble_eq_true rfl, Nat.le_of_ble_eq_true rfl⟩ ⟨rfl, rfl⟩ ⟨Nat.le_of_ble_eq_true rfl, Nat.le_of_ble_eq_true rfl⟩ rfl hl.1 rfl (Nat.le_of_ble_eq_true rfl) dX2_changes_58) hI (fun H locs hI => ?_)
            refine bz_eq (tgt := 67) hx hb dX2_changes_61 (by decide) (fun c61 => ?_) (fun c61 => ?_)
            · refine lv_iinc (v := nI (x + 1)) (lv' := [(4, .int (nI (x + 1))), (0, .ref (a 0)), (1, .int (nI ky)), (2, .int (nI dy)), (3, .int (nI n3))]) hx hb dX2_changes_67 hl (k := 4) rfl (inc_n _ 1) (by decide) rfl (fun ls hl => ?_)
              refine lv_goto (tgt := 27) hx hb dX2_changes_70 (by decide) ?_
              exact ih27 (x + 1) n3 (by omega) (by omega) (by rw [chV_s (by omega), hn, c61]; rfl) (by omega) H locs hI ls (lv_sub hl [1, 2, 3, 4, 0] rfl)
            · refine lv_iinc (v := nI (n3 + 1)) (lv' := [(3, .int (nI (n3 + 1))), (0, .ref (a 0)), (1, .int (nI ky)), (2, .int (nI dy)), (4, .int (nI x))]) hx hb dX2_changes_64 hl (k := 3) rfl (inc_n _ 1) (by decide) rfl (fun ls hl => ?_)
              refine lv_iinc (v := nI (x + 1)) (lv' := [(4, .int (nI (x + 1))), (3, .int (nI (n3 + 1))), (0, .ref (a 0)), (1, .int (nI ky)), (2, .int (nI dy))]) hx hb dX2_changes_67 hl (k := 4) rfl (inc_n _ 1) (by decide) rfl (fun ls hl => ?_)
              refine lv_goto (tgt := 27) hx hb dX2_changes_70 (by decide) ?_
              exact ih27 (x + 1) (n3 + 1) (by omega) (by omega) (by rw [chV_s (by omega), hn, c61]; rfl) (by omega) H locs hI ls (lv_sub hl [2, 3, 4, 1, 0] rfl)
      exact J27 (t + 1 + 1) 1 0 (by omega) (by omega) rfl (by omega) H locs hI ls (lv_sub hl [2, 3, 4, 1, 0] rfl)
    · exact hthr () hI hl.1 thIAE dX2_changes_14 dX2_changes_17 dX2_changes_18 dX2_changes_21 (Nat.le_of_ble_eq_true rfl) (⟨rfl, by unfold chCode; first | (simp [c4]; done) | (simp [c11]; done)⟩)
set_option maxHeartbeats 4000000 in
set_option maxRecDepth 100000 in
theorem c_X2_relation {l : Launch} {D : va_G} {cI cZ cJ : ClassId} {z : Nat} {a : Nat → Nat} {X : va_W} {vals fil rb : Nat → Int32} {t : Nat} {wo : Nat → Int32} {cnt fn : Int32} (hst : l.stackTraces = false)  {ra rb0 rc rd : Int32} : vxI (S := Unit) l yX2_relation cX2_relation 5 (some .int) 6 89 [.ref (a 0), .int (ra), .int (rb0), .int (rc), .int (rd)] (pz D cI cZ cJ z (cw a cI vals fil rb (nI t) wo cnt fn X)) D z (fun _ => cw a cI vals fil rb (nI t) wo cnt fn X) (fun r _ => rlCode ra rb0 rc rd = 0 ∧ r = nI (rel (nn ra) (nn rb0) (nn rc) (nn rd))) (fun E _ => E = xIAE ∧ rlCode ra rb0 rc rd = 1) := by
  refine bd_x hst (by decide) (Nat.le_of_ble_eq_true rfl) (by decide) (by decide) (fun s h => h.2) ?_
  intro p e s m args below meth c Q hQ hF hno hpw hthr ls hl
  obtain ⟨hx, hb, hml, hown, hts, hr, hlocks⟩ := id hF
  have hKx := hpw.2.1
  have hZ := hpw.2.2
  have hK := hpw.1.2.2.2
  have hI : wi D z (Ar z) (cw a cI vals fil rb (nI t) wo cnt fn X) s s.heap [] := hpw.1.wi
  have hret : ∀ {H : Heap} {locs : List Loc} {ls : Array Slot} {pc : Nat} {x : Int32} (u : Unit), wi D z (Ar z) ((fun _ => cw a cI vals fil rb (nI t) wo cnt fn X) u) s H locs → decode cX2_relation pc = .ok (.ireturn, 1) → (fun r _ => rlCode ra rb0 rc rd = 0 ∧ r = nI (rel (nn ra) (nn rb0) (nn rc) (nn rd))) x u → W p l e (rmx 6 89) s m args below meth c H locs 0 0 Q (F0 m pc ls [.int x]) := by subst hQ; exact fun u hI hd hp => r_xi hF u hI hd hp
  have hl : lv_has ls 5 [(0, .ref (a 0)), (1, .int (ra)), (2, .int (rb0)), (3, .int (rc)), (4, .int (rd))] := hl
  suffices hgo : ∀ (H : Heap) (locs : List Loc), wi D z (Ar z) (cw a cI vals fil rb (nI t) wo cnt fn X) s H locs → ∀ ls : Array Slot, lv_has ls 5 [(0, .ref (a 0)), (1, .int (ra)), (2, .int (rb0)), (3, .int (rc)), (4, .int (rd))] → W p l e (rmx 6 89) s m args below meth c H locs 0 0 Q (F0 m 0 ls []) from hgo _ _ hI ls hl
  intro H locs hI ls hl
  refine lv_iload_n hx hb dX2_relation_0 rfl (lv_at hl 1 rfl) ?_
  refine lv_iload_n hx hb dX2_relation_1 rfl (lv_at hl 2 rfl) ?_
  refine k_ro (run_s (As := [.int (ra), .int (rb0)]) (rest := []) hF (c_X2_isPeriod ) tt_blind (fun _ _ _ => trivial) cf_X2_isPeriod k316 ⟨Nat.le_of_ble_eq_true rfl, Nat.le_of_ble_eq_true rfl⟩ ⟨rfl, rfl⟩ ⟨Nat.le_of_ble_eq_true rfl, Nat.le_of_ble_eq_true rfl⟩ rfl hl.1 rfl (Nat.le_of_ble_eq_true rfl) dX2_relation_2) hI (fun H locs hI => ?_)
  refine bz_eq (tgt := 17) hx hb dX2_relation_5 (by decide) (fun c5 => ?_) (fun c5 => ?_)
  · exact hthr () hI hl.1 thIAE dX2_relation_17 dX2_relation_20 dX2_relation_21 dX2_relation_24 (Nat.le_of_ble_eq_true rfl) (⟨rfl, by unfold rlCode; first | (simp [c5]; done) | (simp [c14]; done)⟩)
  · refine lv_iload_n hx hb dX2_relation_8 rfl (lv_at hl 3 rfl) ?_
    refine lv_iload hx hb dX2_relation_9 (lv_at hl 4 rfl) ?_
    refine k_ro (run_s (As := [.int (rc), .int (rd)]) (rest := []) hF (c_X2_isPeriod ) tt_blind (fun _ _ _ => trivial) cf_X2_isPeriod k316 ⟨Nat.le_of_ble_eq_true rfl, Nat.le_of_ble_eq_true rfl⟩ ⟨rfl, rfl⟩ ⟨Nat.le_of_ble_eq_true rfl, Nat.le_of_ble_eq_true rfl⟩ rfl hl.1 rfl (Nat.le_of_ble_eq_true rfl) dX2_relation_11) hI (fun H locs hI => ?_)
    refine bz_ne (tgt := 25) hx hb dX2_relation_14 (by decide) (fun c14 => ?_) (fun c14 => ?_)
    · obtain ⟨fa, fb, hab, hb1, rfl, rfl⟩ := okP_n c5
      obtain ⟨fc, fd, hcd, hd1, rfl, rfl⟩ := okP_n c14
      refine lv_iload_n hx hb dX2_relation_25 rfl (lv_at hl 1 rfl) ?_
      refine lv_iload_n hx hb dX2_relation_26 rfl (lv_at hl 2 rfl) ?_
      refine lv_iload_n hx hb dX2_relation_27 rfl (lv_at hl 3 rfl) ?_
      refine lv_iload hx hb dX2_relation_28 (lv_at hl 4 rfl) ?_
      refine k_ro (run_s (As := [.int (nI fa), .int (nI fb), .int (nI fc), .int (nI fd)]) (rest := []) hF (c_X2_relationOf (by omega) (by omega) (by omega) (by omega) (by omega) (by omega)) tt_blind (fun _ _ _ => trivial) cf_X2_relationOf k397 ⟨Nat.le_of_ble_eq_true rfl, Nat.le_of_ble_eq_true rfl⟩ ⟨rfl, rfl⟩ ⟨Nat.le_of_ble_eq_true rfl, Nat.le_of_ble_eq_true rfl⟩ rfl hl.1 rfl (Nat.le_of_ble_eq_true rfl) dX2_relation_30) hI (fun H locs hI => ?_)
      exact hret () hI dX2_relation_33 ⟨by unfold rlCode; rw [okP_nI hab hb1, okP_nI hcd hd1]; rfl, by rw [nn_nI (by omega), nn_nI (by omega), nn_nI (by omega), nn_nI (by omega)]⟩
    · exact hthr () hI hl.1 thIAE dX2_relation_17 dX2_relation_20 dX2_relation_21 dX2_relation_24 (Nat.le_of_ble_eq_true rfl) (⟨rfl, by unfold rlCode; first | (simp [c5]; done) | (simp [c14]; done)⟩)
set_option maxHeartbeats 4000000 in
set_option maxRecDepth 100000 in
theorem c_X2_join {l : Launch} {D : va_G} {cI cZ cJ : ClassId} {z : Nat} {a : Nat → Nat} {X : va_W} {vals fil rb : Nat → Int32} {t : Nat} {wo : Nat → Int32} {cnt fn : Int32} (hst : l.stackTraces = false) {S : Sta} (hA : cAbs S vals fil t) (ht : t < 40) {key other time r0 : Int32} : vxI (S := Unit) l yX2_join cX2_join 8 (some .int) 6 89 [.ref (a 0), .int (key), .int (other), .int (time), .int (r0)] (pz D cI cZ cJ z (cw a cI vals fil rb (nI t) wo cnt fn X)) D z (fun _ => cw a cI vals fil rb (nI t) wo cnt fn X) (fun r _ => jnCode t key other time r0 = 0 ∧ r = nI (jnVal S (nn time * 4 + nn key) (nn time * 4 + nn other) (nn r0))) (fun E _ => E = xIAE ∧ jnCode t key other time r0 = 1) := by
  refine bd_x hst (by decide) (Nat.le_of_ble_eq_true rfl) (by decide) (by decide) (fun s h => h.2) ?_
  intro p e s m args below meth c Q hQ hF hno hpw hthr ls hl
  obtain ⟨hx, hb, hml, hown, hts, hr, hlocks⟩ := id hF
  have hKx := hpw.2.1
  have hZ := hpw.2.2
  have hK := hpw.1.2.2.2
  have hI : wi D z (Ar z) (cw a cI vals fil rb (nI t) wo cnt fn X) s s.heap [] := hpw.1.wi
  have hret : ∀ {H : Heap} {locs : List Loc} {ls : Array Slot} {pc : Nat} {x : Int32} (u : Unit), wi D z (Ar z) ((fun _ => cw a cI vals fil rb (nI t) wo cnt fn X) u) s H locs → decode cX2_join pc = .ok (.ireturn, 1) → (fun r _ => jnCode t key other time r0 = 0 ∧ r = nI (jnVal S (nn time * 4 + nn key) (nn time * 4 + nn other) (nn r0))) x u → W p l e (rmx 6 89) s m args below meth c H locs 0 0 Q (F0 m pc ls [.int x]) := by subst hQ; exact fun u hI hd hp => r_xi hF u hI hd hp
  have hl : lv_has ls 8 [(0, .ref (a 0)), (1, .int (key)), (2, .int (other)), (3, .int (time)), (4, .int (r0))] := hl
  suffices hgo : ∀ (H : Heap) (locs : List Loc), wi D z (Ar z) (cw a cI vals fil rb (nI t) wo cnt fn X) s H locs → ∀ ls : Array Slot, lv_has ls 8 [(0, .ref (a 0)), (1, .int (key)), (2, .int (other)), (3, .int (time)), (4, .int (r0))] → W p l e (rmx 6 89) s m args below meth c H locs 0 0 Q (F0 m 0 ls []) from hgo _ _ hI ls hl
  intro H locs hI ls hl
  refine lv_iload_n hx hb dX2_join_0 rfl (lv_at hl 1 rfl) ?_
  refine k_ro (run_s (As := [.int (key)]) (rest := []) hF (c_X2_isKey ) tt_blind (fun _ _ _ => trivial) cf_X2_isKey k86 ⟨Nat.le_of_ble_eq_true rfl, Nat.le_of_ble_eq_true rfl⟩ ⟨rfl, rfl⟩ ⟨Nat.le_of_ble_eq_true rfl, Nat.le_of_ble_eq_true rfl⟩ rfl hl.1 rfl (Nat.le_of_ble_eq_true rfl) dX2_join_1) hI (fun H locs hI => ?_)
  refine bz_eq (tgt := 34) hx hb dX2_join_4 (by decide) (fun c4 => ?_) (fun c4 => ?_)
  · exact hthr () hI hl.1 thIAE dX2_join_34 dX2_join_37 dX2_join_38 dX2_join_41 (Nat.le_of_ble_eq_true rfl) (⟨rfl, by unfold jnCode; first | (simp [c4]; done) | (simp [c11]; done) | (simp [c19]; done) | (simp [okN_f1 (n := 12) c24]; done) | (simp [okN_f2 (n := 12) c31 (by decide)]; done)⟩)
  · refine lv_iload_n hx hb dX2_join_7 rfl (lv_at hl 2 rfl) ?_
    refine k_ro (run_s (As := [.int (other)]) (rest := []) hF (c_X2_isKey ) tt_blind (fun _ _ _ => trivial) cf_X2_isKey k86 ⟨Nat.le_of_ble_eq_true rfl, Nat.le_of_ble_eq_true rfl⟩ ⟨rfl, rfl⟩ ⟨Nat.le_of_ble_eq_true rfl, Nat.le_of_ble_eq_true rfl⟩ rfl hl.1 rfl (Nat.le_of_ble_eq_true rfl) dX2_join_8) hI (fun H locs hI => ?_)
    refine bz_eq (tgt := 34) hx hb dX2_join_11 (by decide) (fun c11 => ?_) (fun c11 => ?_)
    · exact hthr () hI hl.1 thIAE dX2_join_34 dX2_join_37 dX2_join_38 dX2_join_41 (Nat.le_of_ble_eq_true rfl) (⟨rfl, by unfold jnCode; first | (simp [c4]; done) | (simp [c11]; done) | (simp [c19]; done) | (simp [okN_f1 (n := 12) c24]; done) | (simp [okN_f2 (n := 12) c31 (by decide)]; done)⟩)
    · refine lv_aload_n hx hb dX2_join_14 rfl (lv_at hl 0 rfl) ?_
      refine lv_iload_n hx hb dX2_join_15 rfl (lv_at hl 3 rfl) ?_
      refine k_ro (run_v (As := [.int (time)]) (rest := []) hF hK hI (c_X2_isTime ht) cf_X2_isTime k92 0 2 rfl rfl ⟨Nat.le_of_ble_eq_true rfl, Nat.le_of_ble_eq_true rfl⟩ ⟨rfl, rfl⟩ ⟨Nat.le_of_ble_eq_true rfl, Nat.le_of_ble_eq_true rfl⟩ rfl hl.1 rfl (Nat.le_of_ble_eq_true rfl) dX2_join_16) hI (fun H locs hI => ?_)
      refine bz_eq (tgt := 34) hx hb dX2_join_19 (by decide) (fun c19 => ?_) (fun c19 => ?_)
      · exact hthr () hI hl.1 thIAE dX2_join_34 dX2_join_37 dX2_join_38 dX2_join_41 (Nat.le_of_ble_eq_true rfl) (⟨rfl, by unfold jnCode; first | (simp [c4]; done) | (simp [c11]; done) | (simp [c19]; done) | (simp [okN_f1 (n := 12) c24]; done) | (simp [okN_f2 (n := 12) c31 (by decide)]; done)⟩)
      · refine lv_iload hx hb dX2_join_22 (lv_at hl 4 rfl) ?_
        refine lv_if_lt (tgt := 34) hx hb dX2_join_24 (by decide) (fun c24 => ?_) (fun c24 => ?_)
        · exact hthr () hI hl.1 thIAE dX2_join_34 dX2_join_37 dX2_join_38 dX2_join_41 (Nat.le_of_ble_eq_true rfl) (⟨rfl, by unfold jnCode; first | (simp [c4]; done) | (simp [c11]; done) | (simp [c19]; done) | (simp [okN_f1 (n := 12) c24]; done) | (simp [okN_f2 (n := 12) c31 (by decide)]; done)⟩)
        · refine lv_iload hx hb dX2_join_27 (lv_at hl 4 rfl) ?_
          refine lv_bipush (v := nI 12) hx hb dX2_join_29 (by decide) ?_
          refine lv_icmp_le (tgt := 42) hx hb dX2_join_31 (by decide) (fun c31 => ?_) (fun c31 => ?_)
          · obtain ⟨ky, hky, rfl⟩ := okK_n c4
            obtain ⟨ko, hko, rfl⟩ := okK_n c11
            obtain ⟨tm, htm, rfl⟩ := okT_n c19
            obtain ⟨rr, hrr, rfl⟩ := okN_n (okN_raw c24 c31 (by decide))
            refine lv_iload_n hx hb dX2_join_42 rfl (lv_at hl 3 rfl) ?_
            refine lv_iload_n hx hb dX2_join_43 rfl (lv_at hl 1 rfl) ?_
            refine k_ro (run_s (As := [.int (nI tm), .int (nI ky)]) (rest := []) hF (c_X2_slotOf ) tt_blind (fun _ _ _ => trivial) cf_X2_slotOf k96 ⟨Nat.le_of_ble_eq_true rfl, Nat.le_of_ble_eq_true rfl⟩ ⟨rfl, rfl⟩ ⟨Nat.le_of_ble_eq_true rfl, Nat.le_of_ble_eq_true rfl⟩ rfl hl.1 rfl (Nat.le_of_ble_eq_true rfl) dX2_join_44) hI (fun H locs hI => ?_)
            refine lv_istore (lv' := [(5, .int (nI (tm * 4 + ky))), (0, .ref (a 0)), (1, .int (nI ky)), (2, .int (nI ko)), (3, .int (nI tm)), (4, .int (nI rr))]) hx hb dX2_join_47 hl (by decide) rfl (fun ls hl => ?_)
            refine lv_iconst (v := nI 0) hx hb dX2_join_49 (by decide) ?_
            refine lv_istore (lv' := [(6, .int (nI 0)), (5, .int (nI (tm * 4 + ky))), (0, .ref (a 0)), (1, .int (nI ky)), (2, .int (nI ko)), (3, .int (nI tm)), (4, .int (nI rr))]) hx hb dX2_join_50 hl (by decide) rfl (fun ls hl => ?_)
            refine lv_iconst (v := nI 0) hx hb dX2_join_52 (by decide) ?_
            refine lv_istore (lv' := [(7, .int (nI 0)), (6, .int (nI 0)), (5, .int (nI (tm * 4 + ky))), (0, .ref (a 0)), (1, .int (nI ky)), (2, .int (nI ko)), (3, .int (nI tm)), (4, .int (nI rr))]) hx hb dX2_join_53 hl (by decide) rfl (fun ls hl => ?_)
            have J55 : ∀ (n55_ : Nat) (x : Nat) (n6 : Nat) (hx1 : x ≤ 32) (hn : n6 = fb_sm (jnOne S (tm * 4 + ky) (tm * 4 + ko) rr) x) (hm55 : 32 < x + n55_) (H : Heap) (locs : List Loc), wi D z (Ar z) (cw a cI vals fil rb (nI t) wo cnt fn X) s H locs → ∀ ls : Array Slot, lv_has ls 8 [(0, .ref (a 0)), (1, .int (nI ky)), (2, .int (nI ko)), (3, .int (nI tm)), (4, .int (nI rr)), (5, .int (nI (tm * 4 + ky))), (6, .int (nI n6)), (7, .int (nI x))] → W p l e (rmx 6 89) s m args below meth c H locs 0 0 Q (F0 m 55 ls []) := by
              intro n55_
              induction n55_ with
              | zero => intro x n6 hx1 hn hm55; exact absurd hm55 (by omega)
              | succ n55_ ih55 =>
                intro x n6 hx1 hn hm55 H locs hI ls hl
                refine lv_iload hx hb dX2_join_55 (lv_at hl 7 rfl) ?_
                refine lv_bipush (v := nI 32) hx hb dX2_join_57 (by decide) ?_
                refine nb_ge (tgt := 114) hx hb dX2_join_59 (by decide) (by omega) (by omega) (fun c59 => ?_) (fun c59 => ?_)
                · refine lv_iload hx hb dX2_join_114 (lv_at hl 6 rfl) ?_
                  exact hret () hI dX2_join_116 ⟨by rw [jnCode_n htm hky hko hrr ht], by rw [nn_nI (by omega), nn_nI (by omega), nn_nI (by omega), nn_nI (by omega), hn, show x = 32 by omega]; rfl⟩
                · refine lv_aload_n hx hb dX2_join_62 rfl (lv_at hl 0 rfl) ?_
                  refine va_get (D := D) (ci := 2) (v := .ref (a 1)) (C := RX2) (T := TX2) (N := 3) hx hb hts inX2 hown hK.1 hI.2.1 0 rfl rfl 0 (by decide) (hts _ k56) (fun _ h9 => h9) rfl dX2_join_63 ?_
                  refine lv_iload hx hb dX2_join_66 (lv_at hl 5 rfl) ?_
                  refine lv_iload hx hb dX2_join_68 (lv_at hl 7 rfl) ?_
                  refine k_ro (run_v (As := [.int (nI (tm * 4 + ky)), .int (nI x)]) (rest := []) hF hK hI (c_X0_startsRun hA ht (by omega) (by omega)) cf_X0_startsRun k410 1 0 rfl rfl ⟨Nat.le_of_ble_eq_true rfl, Nat.le_of_ble_eq_true rfl⟩ ⟨rfl, rfl⟩ ⟨Nat.le_of_ble_eq_true rfl, Nat.le_of_ble_eq_true rfl⟩ rfl hl.1 rfl (Nat.le_of_ble_eq_true rfl) dX2_join_70) hI (fun H locs hI => ?_)
                  refine bz_eq (tgt := 108) hx hb dX2_join_73 (by decide) (fun c73 => ?_) (fun c73 => ?_)
                  · refine lv_iinc (v := nI (x + 1)) (lv' := [(7, .int (nI (x + 1))), (0, .ref (a 0)), (1, .int (nI ky)), (2, .int (nI ko)), (3, .int (nI tm)), (4, .int (nI rr)), (5, .int (nI (tm * 4 + ky))), (6, .int (nI n6))]) hx hb dX2_join_108 hl (k := 7) rfl (inc_n _ 1) (by decide) rfl (fun ls hl => ?_)
                    refine lv_goto (tgt := 55) hx hb dX2_join_111 (by decide) ?_
                    exact ih55 (x + 1) n6 (by omega) (by rw [fb_sm_succ, hn, jnOne, c73]; rfl) (by omega) H locs hI ls (lv_sub hl [1, 2, 3, 4, 5, 6, 7, 0] rfl)
                  · refine lv_iload hx hb dX2_join_76 (lv_at hl 6 rfl) ?_
                    refine lv_aload_n hx hb dX2_join_78 rfl (lv_at hl 0 rfl) ?_
                    refine va_get (D := D) (ci := 2) (v := .ref (a 1)) (C := RX2) (T := TX2) (N := 3) hx hb hts inX2 hown hK.1 hI.2.1 0 rfl rfl 0 (by decide) (hts _ k56) (fun _ h9 => h9) rfl dX2_join_79 ?_
                    refine lv_iload hx hb dX2_join_82 (lv_at hl 7 rfl) ?_
                    refine lv_aload_n hx hb dX2_join_84 rfl (lv_at hl 0 rfl) ?_
                    refine va_get (D := D) (ci := 2) (v := .ref (a 1)) (C := RX2) (T := TX2) (N := 3) hx hb hts inX2 hown hK.1 hI.2.1 0 rfl rfl 0 (by decide) (hts _ k56) (fun _ h9 => h9) rfl dX2_join_85 ?_
                    refine lv_iload hx hb dX2_join_88 (lv_at hl 5 rfl) ?_
                    refine lv_iload hx hb dX2_join_90 (lv_at hl 7 rfl) ?_
                    refine k_ro (run_v (As := [.int (nI (tm * 4 + ky)), .int (nI x)]) (rest := [.int (nI x), .ref (a 1), .int (nI n6)]) hF hK hI (c_X0_runEnd hA ht (by omega) (by omega)) cf_X0_runEnd k355 1 0 rfl rfl ⟨Nat.le_of_ble_eq_true rfl, Nat.le_of_ble_eq_true rfl⟩ ⟨rfl, rfl⟩ ⟨Nat.le_of_ble_eq_true rfl, Nat.le_of_ble_eq_true rfl⟩ rfl hl.1 rfl (Nat.le_of_ble_eq_true rfl) dX2_join_92) hI (fun H locs hI => ?_)
                    have g1 := rend_in (S := S) (sl := tm * 4 + ky) (dy := x) (by omega)
                    refine lv_iload_n hx hb dX2_join_95 rfl (lv_at hl 3 rfl) ?_
                    refine lv_iload_n hx hb dX2_join_96 rfl (lv_at hl 2 rfl) ?_
                    refine k_ro (run_s (As := [.int (nI tm), .int (nI ko)]) (rest := [.int (nI (rend S (tm * 4 + ky) x)), .int (nI x), .ref (a 1), .int (nI n6)]) hF (c_X2_slotOf ) tt_blind (fun _ _ _ => trivial) cf_X2_slotOf k96 ⟨Nat.le_of_ble_eq_true rfl, Nat.le_of_ble_eq_true rfl⟩ ⟨rfl, rfl⟩ ⟨Nat.le_of_ble_eq_true rfl, Nat.le_of_ble_eq_true rfl⟩ rfl hl.1 rfl (Nat.le_of_ble_eq_true rfl) dX2_join_97) hI (fun H locs hI => ?_)
                    refine lv_iload hx hb dX2_join_100 (lv_at hl 4 rfl) ?_
                    refine k_ro (run_v (As := [.int (nI x), .int (nI (rend S (tm * 4 + ky) x)), .int (nI (tm * 4 + ko)), .int (nI rr)]) (rest := [.int (nI n6)]) hF hK hI (c_X0_countRelated hA ht (by omega) (by omega) (by omega) (by omega)) cf_X0_countRelated k411 1 0 rfl rfl ⟨Nat.le_of_ble_eq_true rfl, Nat.le_of_ble_eq_true rfl⟩ ⟨rfl, rfl⟩ ⟨Nat.le_of_ble_eq_true rfl, Nat.le_of_ble_eq_true rfl⟩ rfl hl.1 rfl (Nat.le_of_ble_eq_true rfl) dX2_join_102) hI (fun H locs hI => ?_)
                    refine lv_iadd hx hb dX2_join_105 ?_
                    refine tp (nI_add _ _) ?_
                    refine lv_istore (lv' := [(6, .int (nI (n6 + (fb_ct (fun y => beg S (tm * 4 + ko) y && decide (rel x (rend S (tm * 4 + ky) x) y (rend S (tm * 4 + ko) y) = rr)) 32)))), (0, .ref (a 0)), (1, .int (nI ky)), (2, .int (nI ko)), (3, .int (nI tm)), (4, .int (nI rr)), (5, .int (nI (tm * 4 + ky))), (7, .int (nI x))]) hx hb dX2_join_106 hl (by decide) rfl (fun ls hl => ?_)
                    refine lv_iinc (v := nI (x + 1)) (lv' := [(7, .int (nI (x + 1))), (6, .int (nI (n6 + (fb_ct (fun y => beg S (tm * 4 + ko) y && decide (rel x (rend S (tm * 4 + ky) x) y (rend S (tm * 4 + ko) y) = rr)) 32)))), (0, .ref (a 0)), (1, .int (nI ky)), (2, .int (nI ko)), (3, .int (nI tm)), (4, .int (nI rr)), (5, .int (nI (tm * 4 + ky)))]) hx hb dX2_join_108 hl (k := 7) rfl (inc_n _ 1) (by decide) rfl (fun ls hl => ?_)
                    refine lv_goto (tgt := 55) hx hb dX2_join_111 (by decide) ?_
                    exact ih55 (x + 1) (n6 + (fb_ct (fun y => beg S (tm * 4 + ko) y && decide (rel x (rend S (tm * 4 + ky) x) y (rend S (tm * 4 + ko) y) = rr)) 32)) (by omega) (by rw [fb_sm_succ, hn, jnOne, c73]; rfl) (by omega) H locs hI ls (lv_sub hl [2, 3, 4, 5, 6, 7, 1, 0] rfl)
            exact J55 (32 + 1) 0 0 (by omega) rfl (by omega) H locs hI ls (lv_sub hl [3, 4, 5, 6, 7, 2, 1, 0] rfl)
          · exact hthr () hI hl.1 thIAE dX2_join_34 dX2_join_37 dX2_join_38 dX2_join_41 (Nat.le_of_ble_eq_true rfl) (⟨rfl, by unfold jnCode; first | (simp [c4]; done) | (simp [c11]; done) | (simp [c19]; done) | (simp [okN_f1 (n := 12) c24]; done) | (simp [okN_f2 (n := 12) c31 (by decide)]; done)⟩)
set_option maxHeartbeats 4000000 in
set_option maxRecDepth 100000 in
theorem c_X2_refuse {l : Launch} {D : va_G} {cI cZ cJ : ClassId} {z : Nat} {Wx : va_W} (hst : l.stackTraces = false)  {f : Int32} : vxV (S := Unit) l yX2_refuse cX2_refuse 1 6 89 [.int (f)] (pz D cI cZ cJ z (Wx)) D z (fun _ => Wx) (fun _ => False) (fun E _ => (f = (-1 : Int32) ∧ E = xIAE) ∨ (¬ f = (-1 : Int32) ∧ f = (-2 : Int32) ∧ E = xNSE) ∨ (¬ f = (-1 : Int32) ∧ ¬ f = (-2 : Int32) ∧ E = xISE)) := by
  refine bd_x hst (by decide) (Nat.le_of_ble_eq_true rfl) (by decide) (by decide) (fun s h => h.2) ?_
  intro p e s m args below meth c Q hQ hF hno hpw hthr ls hl
  obtain ⟨hx, hb, hml, hown, hts, hr, hlocks⟩ := id hF
  have hKx := hpw.2.1
  have hZ := hpw.2.2
  have hK := hpw.1.2.2.2
  have hI : wi D z (Ar z) (Wx) s s.heap [] := hpw.1.wi
  have hl : lv_has ls 1 [(0, .int (f))] := hl
  suffices hgo : ∀ (H : Heap) (locs : List Loc), wi D z (Ar z) (Wx) s H locs → ∀ ls : Array Slot, lv_has ls 1 [(0, .int (f))] → W p l e (rmx 6 89) s m args below meth c H locs 0 0 Q (F0 m 0 ls []) from hgo _ _ hI ls hl
  intro H locs hI ls hl
  refine lv_iload_n hx hb dX2_refuse_0 rfl (lv_at hl 0 rfl) ?_
  refine lv_iconst (v := (-1 : Int32)) hx hb dX2_refuse_1 (by decide) ?_
  refine lv_icmp_ne (tgt := 13) hx hb dX2_refuse_2 (by decide) (fun c2 => ?_) (fun c2 => ?_)
  · refine lv_iload_n hx hb dX2_refuse_13 rfl (lv_at hl 0 rfl) ?_
    refine lv_bipush (v := (-2 : Int32)) hx hb dX2_refuse_14 (by decide) ?_
    refine lv_icmp_ne (tgt := 27) hx hb dX2_refuse_16 (by decide) (fun c16 => ?_) (fun c16 => ?_)
    · exact hthr () hI hl.1 thISE dX2_refuse_27 dX2_refuse_30 dX2_refuse_31 dX2_refuse_34 (Nat.le_of_ble_eq_true rfl) (Or.inr (Or.inr ⟨c2, c16, rfl⟩))
    · exact hthr () hI hl.1 thNSE dX2_refuse_19 dX2_refuse_22 dX2_refuse_23 dX2_refuse_26 (Nat.le_of_ble_eq_true rfl) (Or.inr (Or.inl ⟨c2, c16, rfl⟩))
  · exact hthr () hI hl.1 thIAE dX2_refuse_5 dX2_refuse_8 dX2_refuse_9 dX2_refuse_12 (Nat.le_of_ble_eq_true rfl) (Or.inl ⟨c2, rfl⟩)
set_option maxHeartbeats 4000000 in
set_option maxRecDepth 100000 in
theorem c_X2_state {l : Launch} {D : va_G} {cI cZ cJ : ClassId} {z : Nat} {a : Nat → Nat} {X : va_W} {vals fil rb : Nat → Int32} {t : Nat} {wo : Nat → Int32} {cnt fn : Int32} (hst : l.stackTraces = false) {S : Sta} (hA : cAbs S vals fil t) (ht : t < 40) (hR : rOk S rb t) {kind key v fr to : Int32} : vxI (S := (Nat → Int32) × (Nat → Int32) × (Nat → Int32)) l yX2_state cX2_state 7 (some .int) 7 144 [.ref (a 0), .int (kind), .int (key), .int (v), .int (fr), .int (to)] (pz D cI cZ cJ z (cw a cI vals fil rb (nI t) wo cnt fn X)) D z (fun u => cw a cI (u.1) (u.2.1) (u.2.2) (nI t) wo cnt fn X) (fun r u => pcode S t kind key v fr to = 0 ∧ r = nI (pN S t kind key v fr to) ∧ cAbs (pS S t kind key v fr to) u.1 u.2.1 t ∧ rOk (pS S t kind key v fr to) u.2.2 t) (fun E u => xOf (pcode S t kind key v fr to) E ∧ cAbs S u.1 u.2.1 t ∧ rOk S u.2.2 t) := by
  refine bd_x hst (by decide) (Nat.le_of_ble_eq_true rfl) (by decide) (by decide) (fun s h => h.2) ?_
  intro p e s m args below meth c Q hQ hF hno hpw hthr ls hl
  obtain ⟨hx, hb, hml, hown, hts, hr, hlocks⟩ := id hF
  have hKx := hpw.2.1
  have hZ := hpw.2.2
  have hK := hpw.1.2.2.2
  have hI : wi D z (Ar z) (cw a cI vals fil rb (nI t) wo cnt fn X) s s.heap [] := hpw.1.wi
  have hret : ∀ {H : Heap} {locs : List Loc} {ls : Array Slot} {pc : Nat} {x : Int32} (u : (Nat → Int32) × (Nat → Int32) × (Nat → Int32)), wi D z (Ar z) ((fun u => cw a cI (u.1) (u.2.1) (u.2.2) (nI t) wo cnt fn X) u) s H locs → decode cX2_state pc = .ok (.ireturn, 1) → (fun r u => pcode S t kind key v fr to = 0 ∧ r = nI (pN S t kind key v fr to) ∧ cAbs (pS S t kind key v fr to) u.1 u.2.1 t ∧ rOk (pS S t kind key v fr to) u.2.2 t) x u → W p l e (rmx 7 144) s m args below meth c H locs 0 0 Q (F0 m pc ls [.int x]) := by subst hQ; exact fun u hI hd hp => r_xi hF u hI hd hp
  have hl : lv_has ls 7 [(0, .ref (a 0)), (1, .int (kind)), (2, .int (key)), (3, .int (v)), (4, .int (fr)), (5, .int (to))] := hl
  suffices hgo : ∀ (H : Heap) (locs : List Loc), wi D z (Ar z) (cw a cI vals fil rb (nI t) wo cnt fn X) s H locs → ∀ ls : Array Slot, lv_has ls 7 [(0, .ref (a 0)), (1, .int (kind)), (2, .int (key)), (3, .int (v)), (4, .int (fr)), (5, .int (to))] → W p l e (rmx 7 144) s m args below meth c H locs 0 0 Q (F0 m 0 ls []) from hgo _ _ hI ls hl
  intro H locs hI ls hl
  refine lv_aload_n hx hb dX2_state_0 rfl (lv_at hl 0 rfl) ?_
  refine va_get (D := D) (ci := 2) (v := .ref (a 1)) (C := RX2) (T := TX2) (N := 3) hx hb hts inX2 hown hK.1 hI.2.1 0 rfl rfl 0 (by decide) (hts _ k56) (fun _ h9 => h9) rfl dX2_state_1 ?_
  refine k_mv (run_v (As := []) (rest := []) hF hK hI (c_X0_save (by omega)) cf_X0_save k203 1 0 rfl rfl ⟨Nat.le_of_ble_eq_true rfl, Nat.le_of_ble_eq_true rfl⟩ ⟨rfl, rfl⟩ ⟨Nat.le_of_ble_eq_true rfl, Nat.le_of_ble_eq_true rfl⟩ rfl hl.1 rfl (Nat.le_of_ble_eq_true rfl) dX2_state_4) hI (fun u4 hp4 H locs hI => ?_)
  have hI : wi D z (Ar z) (cw a cI (va_cpy vals vals (t * 4 * 32) (40 * 4 * 32) 128) (va_cpy fil fil (t * 4) (40 * 4) 4) rb (nI t) wo cnt fn X) s H locs := hI
  have hA1 := cAbs_save ht hA
  have sv1 := sv_1 (vals := vals) ht
  have sv2 := sv_2 (fil := fil) ht
  generalize va_cpy vals vals (t * 4 * 32) (40 * 4 * 32) 128 = v1 at hI hA1 sv1
  generalize va_cpy fil fil (t * 4) (40 * 4) 4 = f1 at hI hA1 sv2
  refine lv_aload_n hx hb dX2_state_7 rfl (lv_at hl 0 rfl) ?_
  refine va_get (D := D) (ci := 2) (v := .ref (a 1)) (C := RX2) (T := TX2) (N := 3) hx hb hts inX2 hown hK.1 hI.2.1 0 rfl rfl 0 (by decide) (hts _ k56) (fun _ h9 => h9) rfl dX2_state_8 ?_
  refine lv_iload_n hx hb dX2_state_11 rfl (lv_at hl 1 rfl) ?_
  refine lv_iload_n hx hb dX2_state_12 rfl (lv_at hl 2 rfl) ?_
  refine lv_iload_n hx hb dX2_state_13 rfl (lv_at hl 3 rfl) ?_
  refine lv_iload hx hb dX2_state_14 (lv_at hl 4 rfl) ?_
  refine lv_iload hx hb dX2_state_16 (lv_at hl 5 rfl) ?_
  refine k_mu (run_v (As := [.int (kind), .int (key), .int (v), .int (fr), .int (to)]) (rest := []) hF hK hI (c_X0_perform hA1 ht hR) cf_X0_perform k207 1 0 rfl rfl ⟨Nat.le_of_ble_eq_true rfl, Nat.le_of_ble_eq_true rfl⟩ ⟨rfl, rfl⟩ ⟨Nat.le_of_ble_eq_true rfl, Nat.le_of_ble_eq_true rfl⟩ rfl hl.1 rfl (Nat.le_of_ble_eq_true rfl) dX2_state_18) hI (fun r18 u18 hp18 H locs hI => ?_)
  obtain ⟨e18, fr18, fb18, im18⟩ := hp18
  subst e18
  obtain ⟨v18, f18, r218⟩ := u18
  have hI : wi D z (Ar z) (cw a cI v18 f18 r218 (nI t) wo cnt fn X) s H locs := hI
  refine lv_istore (lv' := [(6, .int (pret S t kind key v fr to)), (0, .ref (a 0)), (1, .int (kind)), (2, .int (key)), (3, .int (v)), (4, .int (fr)), (5, .int (to))]) hx hb dX2_state_21 hl (by decide) rfl (fun ls hl => ?_)
  refine lv_iload hx hb dX2_state_23 (lv_at hl 0 rfl) ?_
  refine lv_if_ge (tgt := 40) hx hb dX2_state_25 (by decide) (fun c25 => ?_) (fun c25 => ?_)
  · refine lv_iload hx hb dX2_state_40 (lv_at hl 0 rfl) ?_
    exact hret (v18, f18, r218) hI dX2_state_42 ⟨pret_ge c25, (pret_0 (pret_ge c25)).symm, im18 (pret_ge c25)⟩
  · refine lv_aload_n hx hb dX2_state_28 rfl (lv_at hl 1 rfl) ?_
    refine va_get (D := D) (ci := 2) (v := .ref (a 1)) (C := RX2) (T := TX2) (N := 3) hx hb hts inX2 hown hK.1 hI.2.1 0 rfl rfl 0 (by decide) (hts _ k56) (fun _ h9 => h9) rfl dX2_state_29 ?_
    refine k_mv (run_v (As := []) (rest := []) hF hK hI (c_X0_restore ht hA1 fr18 (sv_f1 ht fr18 sv1) (sv_f2 ht fr18 sv2) hR fb18) cf_X0_restore k253 1 0 rfl rfl ⟨Nat.le_of_ble_eq_true rfl, Nat.le_of_ble_eq_true rfl⟩ ⟨rfl, rfl⟩ ⟨Nat.le_of_ble_eq_true rfl, Nat.le_of_ble_eq_true rfl⟩ rfl hl.1 rfl (Nat.le_of_ble_eq_true rfl) dX2_state_32) hI (fun u32 hp32 H locs hI => ?_)
    obtain ⟨v32, f32, r232⟩ := u32
    have hI : wi D z (Ar z) (cw a cI v32 f32 r232 (nI t) wo cnt fn X) s H locs := hI
    refine lv_iload hx hb dX2_state_35 (lv_at hl 0 rfl) ?_
    subst hQ
    exact k_thru (run_xs (As := [.int (pret S t kind key v fr to)]) (rest := []) hF hK hKx hZ hI (c_X2_refuse hst) cf_X2_refuse k257 ⟨Nat.le_of_ble_eq_true rfl, Nat.le_of_ble_eq_true rfl⟩ ⟨rfl, rfl⟩ ⟨Nat.le_of_ble_eq_true rfl, Nat.le_of_ble_eq_true rfl⟩ rfl hl.1 rfl (Nat.le_of_ble_eq_true rfl) dX2_state_37) hI hno hlocks (v32, f32, r232) rfl (fun E hE => ⟨xOf_f (pret_lt c25).1 (pcode_le _ _ _ _ _ _ _) (by rw [← (pret_lt c25).2]; exact hE), hp32⟩)
set_option maxHeartbeats 4000000 in
set_option maxRecDepth 100000 in
theorem c_X2_commit {l : Launch} {D : va_G} {cI cZ cJ : ClassId} {z : Nat} {a : Nat → Nat} {X : va_W} {vals fil rb : Nat → Int32} {t : Nat} {wo : Nat → Int32} {fn : Int32} (hst : l.stackTraces = false) {S : Sta} (hA : cAbs S vals fil t) (ht : t < 40) (hR : rOk S rb t) {w0 : Nat} {q : Nat → Int32} (hw : w0 ≤ 8) (hq : qIs q w0 wo) : vxI (S := (Nat → Int32) × (Nat → Int32) × (Nat → Int32)) l yX2_commit cX2_commit 5 (some .int) 7 144 [.ref (a 0)] (pz D cI cZ cJ z (cw a cI vals fil rb (nI t) wo (nI w0) fn X)) D z (fun u => cw a cI (u.1) (u.2.1) (u.2.2) (nI t) wo (nI 0) (if (cmt t q w0 0 S 0).1 = 0 then (-1 : Int32) else nI (cmt t q w0 0 S 0).2.1) X) (fun r u => (cmt t q w0 0 S 0).1 = 0 ∧ r = nI (cmt t q w0 0 S 0).2.2.2 ∧ cAbs (cmt t q w0 0 S 0).2.2.1 u.1 u.2.1 t ∧ rOk (cmt t q w0 0 S 0).2.2.1 u.2.2 t) (fun E u => xOf (cmt t q w0 0 S 0).1 E ∧ cAbs S u.1 u.2.1 t ∧ rOk S u.2.2 t) := by
  refine bd_x hst (by decide) (Nat.le_of_ble_eq_true rfl) (by decide) (by decide) (fun s h => h.2) ?_
  intro p e s m args below meth c Q hQ hF hno hpw hthr ls hl
  obtain ⟨hx, hb, hml, hown, hts, hr, hlocks⟩ := id hF
  have hKx := hpw.2.1
  have hZ := hpw.2.2
  have hK := hpw.1.2.2.2
  have hI : wi D z (Ar z) (cw a cI vals fil rb (nI t) wo (nI w0) fn X) s s.heap [] := hpw.1.wi
  have hret : ∀ {H : Heap} {locs : List Loc} {ls : Array Slot} {pc : Nat} {x : Int32} (u : (Nat → Int32) × (Nat → Int32) × (Nat → Int32)), wi D z (Ar z) ((fun u => cw a cI (u.1) (u.2.1) (u.2.2) (nI t) wo (nI 0) (if (cmt t q w0 0 S 0).1 = 0 then (-1 : Int32) else nI (cmt t q w0 0 S 0).2.1) X) u) s H locs → decode cX2_commit pc = .ok (.ireturn, 1) → (fun r u => (cmt t q w0 0 S 0).1 = 0 ∧ r = nI (cmt t q w0 0 S 0).2.2.2 ∧ cAbs (cmt t q w0 0 S 0).2.2.1 u.1 u.2.1 t ∧ rOk (cmt t q w0 0 S 0).2.2.1 u.2.2 t) x u → W p l e (rmx 7 144) s m args below meth c H locs 0 0 Q (F0 m pc ls [.int x]) := by subst hQ; exact fun u hI hd hp => r_xi hF u hI hd hp
  have hl : lv_has ls 5 [(0, .ref (a 0))] := hl
  suffices hgo : ∀ (H : Heap) (locs : List Loc), wi D z (Ar z) (cw a cI vals fil rb (nI t) wo (nI w0) fn X) s H locs → ∀ ls : Array Slot, lv_has ls 5 [(0, .ref (a 0))] → W p l e (rmx 7 144) s m args below meth c H locs 0 0 Q (F0 m 0 ls []) from hgo _ _ hI ls hl
  intro H locs hI ls hl
  refine lv_aload_n hx hb dX2_commit_0 rfl (lv_at hl 0 rfl) ?_
  refine va_get (D := D) (ci := 2) (v := .ref (a 1)) (C := RX2) (T := TX2) (N := 3) hx hb hts inX2 hown hK.1 hI.2.1 0 rfl rfl 0 (by decide) (hts _ k56) (fun _ h9 => h9) rfl dX2_commit_1 ?_
  refine k_mv (run_v (As := []) (rest := []) hF hK hI (c_X0_save (by omega)) cf_X0_save k203 1 0 rfl rfl ⟨Nat.le_of_ble_eq_true rfl, Nat.le_of_ble_eq_true rfl⟩ ⟨rfl, rfl⟩ ⟨Nat.le_of_ble_eq_true rfl, Nat.le_of_ble_eq_true rfl⟩ rfl hl.1 rfl (Nat.le_of_ble_eq_true rfl) dX2_commit_4) hI (fun u4 hp4 H locs hI => ?_)
  have hI : wi D z (Ar z) (cw a cI (va_cpy vals vals (t * 4 * 32) (40 * 4 * 32) 128) (va_cpy fil fil (t * 4) (40 * 4) 4) rb (nI t) wo (nI w0) fn X) s H locs := hI
  have hA1 := cAbs_save ht hA
  have sv1 := sv_1 (vals := vals) ht
  have sv2 := sv_2 (fil := fil) ht
  generalize va_cpy vals vals (t * 4 * 32) (40 * 4 * 32) 128 = v1 at hI hA1 sv1
  generalize va_cpy fil fil (t * 4) (40 * 4) 4 = f1 at hI hA1 sv2
  refine lv_aload_n hx hb dX2_commit_7 rfl (lv_at hl 0 rfl) ?_
  refine lv_iconst (v := (-1 : Int32)) hx hb dX2_commit_8 (by decide) ?_
  refine va_put (D := D) (ci := 2) (v := .int ((-1 : Int32))) (ty := .int) (C := RX2) (T := TX2) (N := 3) hx hb hts inX2 tyX2 tyX2_ok nmX2 hown hK.1 hI.2.1 hI.2.2.1 hI.2.2.2 0 rfl rfl 2 (by decide) (hts _ k58) (fun _ h9 => h9) rfl (by decide +kernel) rfl rfl (Nat.le_of_ble_eq_true rfl) dX2_commit_9 (fun H locs hP hD hS => ?_)
  have hI : wi D z (Ar z) (cw a cI v1 f1 rb (nI t) wo (nI w0) ((-1 : Int32)) X) s H locs := ⟨hI.1, hP, hD, hS⟩
  refine lv_iconst (v := nI 0) hx hb dX2_commit_12 (by decide) ?_
  refine lv_istore_n (lv' := [(1, .int (nI 0)), (0, .ref (a 0))]) hx hb dX2_commit_13 rfl hl (by decide) rfl (fun ls hl => ?_)
  refine lv_iconst (v := nI 0) hx hb dX2_commit_14 (by decide) ?_
  refine lv_istore_n (lv' := [(2, .int (nI 0)), (1, .int (nI 0)), (0, .ref (a 0))]) hx hb dX2_commit_15 rfl hl (by decide) rfl (fun ls hl => ?_)
  refine lv_iconst (v := nI 0) hx hb dX2_commit_16 (by decide) ?_
  refine lv_istore_n (lv' := [(3, .int (nI 0)), (2, .int (nI 0)), (1, .int (nI 0)), (0, .ref (a 0))]) hx hb dX2_commit_17 rfl hl (by decide) rfl (fun ls hl => ?_)
  have J18 : ∀ (n18_ : Nat) (x : Nat) (m1 : Int32) (g2 : Int32) (fn2 : Int32) (Sk : Sta) (va : Nat → Int32) (fi : Nat → Int32) (r2 : Nat → Int32) (hx1 : x ≤ w0) (hinv : (fn2 = (-1 : Int32) ∧ cAbs Sk va fi t ∧ rOk Sk r2 t ∧ ∃ mm, m1 = nI mm ∧ (cmt t q w0 0 S 0) = cmt t q (w0 - x) x Sk mm) ∨ (fn2 = nI (cmt t q w0 0 S 0).2.1 ∧ (cmt t q w0 0 S 0).2.1 < 8 ∧ ¬ (cmt t q w0 0 S 0).1 = 0 ∧ (cmt t q w0 0 S 0).1 ≤ 3 ∧ g2 = fcode (cmt t q w0 0 S 0).1)) (hfr : fr2 t v1 f1 va fi) (hfb : frb t rb r2) (hm18 : w0 < x + n18_) (H : Heap) (locs : List Loc), wi D z (Ar z) (cw a cI va fi r2 (nI t) wo (nI w0) fn2 X) s H locs → ∀ ls : Array Slot, lv_has ls 5 [(0, .ref (a 0)), (1, .int (m1)), (2, .int (g2)), (3, .int (nI x))] → W p l e (rmx 7 144) s m args below meth c H locs 0 0 Q (F0 m 18 ls []) := by
    intro n18_
    induction n18_ with
    | zero => intro x m1 g2 fn2 Sk va fi r2 hx1 hinv hfr hfb hm18; exact absurd hm18 (by omega)
    | succ n18_ ih18 =>
      intro x m1 g2 fn2 Sk va fi r2 hx1 hinv hfr hfb hm18 H locs hI ls hl
      refine lv_iload_n hx hb dX2_commit_18 rfl (lv_at hl 3 rfl) ?_
      refine lv_aload_n hx hb dX2_commit_19 rfl (lv_at hl 0 rfl) ?_
      refine va_get (D := D) (ci := 2) (v := .ref (a 5)) (C := RX2) (T := TX2) (N := 3) hx hb hts inX2 hown hK.1 hI.2.1 0 rfl rfl 1 (by decide) (hts _ k57) (fun _ h9 => h9) rfl dX2_commit_20 ?_
      refine va_getN (D := D) (ci := 1) (v := .int (nI w0)) (C := RX1) (T := TX1) (N := 2) hx hb hts inX1 hown hK.1 hI.2.1 5 rfl rfl 1 (by decide) (va_Nw.use (w := nwC) rfl hK.2.2.1) (fun _ h9 => h9) rfl dX2_commit_23 ?_
      refine nb_ge (tgt := 118) hx hb dX2_commit_26 (by decide) (by omega) (by omega) (fun c26 => ?_) (fun c26 => ?_)
      · refine lv_aload_n hx hb dX2_commit_118 rfl (lv_at hl 0 rfl) ?_
        refine va_get (D := D) (ci := 2) (v := .ref (a 5)) (C := RX2) (T := TX2) (N := 3) hx hb hts inX2 hown hK.1 hI.2.1 0 rfl rfl 1 (by decide) (hts _ k57) (fun _ h9 => h9) rfl dX2_commit_119 ?_
        refine lv_iconst (v := nI 0) hx hb dX2_commit_122 (by decide) ?_
        refine va_putN (D := D) (ci := 1) (v := .int (nI 0)) (ty := .int) (C := RX1) (T := TX1) (N := 2) hx hb hts inX1 tyX1 tyX1_ok nmX1 hown hK.1 hI.2.1 hI.2.2.1 hI.2.2.2 5 rfl rfl 1 (by decide) (va_Nw.use (w := nwC) rfl hK.2.2.1) (fun _ h9 => h9) rfl (by decide +kernel) rfl rfl (Nat.le_of_ble_eq_true rfl) dX2_commit_123 (fun H locs hP hD hS => ?_)
        have hI : wi D z (Ar z) (cw a cI va fi r2 (nI t) wo (nI 0) fn2 X) s H locs := ⟨hI.1, hP, hD, hS⟩
        refine lv_aload_n hx hb dX2_commit_126 rfl (lv_at hl 0 rfl) ?_
        refine va_get (D := D) (ci := 2) (v := .int (fn2)) (C := RX2) (T := TX2) (N := 3) hx hb hts inX2 hown hK.1 hI.2.1 0 rfl rfl 2 (by decide) (hts _ k58) (fun _ h9 => h9) rfl dX2_commit_127 ?_
        refine lv_iconst (v := (-1 : Int32)) hx hb dX2_commit_130 (by decide) ?_
        refine lv_icmp_eq (tgt := 145) hx hb dX2_commit_131 (by decide) (fun c131 => ?_) (fun c131 => ?_)
        · refine lv_iload_n hx hb dX2_commit_145 rfl (lv_at hl 1 rfl) ?_
          obtain ⟨e1, hAk, hRk, mm, e2, e3⟩ := run_on hinv c131
          have e4 : w0 - x = 0 := run_end hinv c131 (by first | exact Or.inl c26 | exact Or.inr c34)
          rw [e4] at e3
          have e5 : (cmt t q w0 0 S 0) = (0, x, Sk, mm) := e3
          exact hret (va, fi, r2) (by rw [e5, if_pos rfl, ← e1]; exact hI) dX2_commit_146 (by rw [e5]; exact ⟨rfl, e2, hAk, hRk⟩)
        · refine lv_aload_n hx hb dX2_commit_134 rfl (lv_at hl 0 rfl) ?_
          refine va_get (D := D) (ci := 2) (v := .ref (a 1)) (C := RX2) (T := TX2) (N := 3) hx hb hts inX2 hown hK.1 hI.2.1 0 rfl rfl 0 (by decide) (hts _ k56) (fun _ h9 => h9) rfl dX2_commit_135 ?_
          refine k_mv (run_v (As := []) (rest := []) hF hK hI (c_X0_restore ht hA1 hfr (sv_f1 ht hfr sv1) (sv_f2 ht hfr sv2) hR hfb) cf_X0_restore k253 1 0 rfl rfl ⟨Nat.le_of_ble_eq_true rfl, Nat.le_of_ble_eq_true rfl⟩ ⟨rfl, rfl⟩ ⟨Nat.le_of_ble_eq_true rfl, Nat.le_of_ble_eq_true rfl⟩ rfl hl.1 rfl (Nat.le_of_ble_eq_true rfl) dX2_commit_138) hI (fun u138 hp138 H locs hI => ?_)
          obtain ⟨v138, f138, r2138⟩ := u138
          have hI : wi D z (Ar z) (cw a cI v138 f138 r2138 (nI t) wo (nI 0) fn2 X) s H locs := hI
          refine lv_iload_n hx hb dX2_commit_141 rfl (lv_at hl 2 rfl) ?_
          obtain ⟨d1, d2, d3, d4, d5⟩ := run_off hinv c131
          subst hQ
          have hI : wi D z (Ar z) ((fun u : (Nat → Int32) × (Nat → Int32) × (Nat → Int32) => cw a cI (u.1) (u.2.1) (u.2.2) (nI t) wo (nI 0) (if (cmt t q w0 0 S 0).1 = 0 then (-1 : Int32) else nI (cmt t q w0 0 S 0).2.1) X) (v138, f138, r2138)) s H locs := by rw [show (if (cmt t q w0 0 S 0).1 = 0 then (-1 : Int32) else nI (cmt t q w0 0 S 0).2.1) = fn2 from by rw [if_neg d3, d1]]; exact hI
          exact k_thru (ws := cw a cI v138 f138 r2138 (nI t) wo (nI 0) (if (cmt t q w0 0 S 0).1 = 0 then (-1 : Int32) else nI (cmt t q w0 0 S 0).2.1) X) (run_xs (As := [.int (g2)]) (rest := []) hF hK hKx hZ hI (c_X2_refuse hst) cf_X2_refuse k257 ⟨Nat.le_of_ble_eq_true rfl, Nat.le_of_ble_eq_true rfl⟩ ⟨rfl, rfl⟩ ⟨Nat.le_of_ble_eq_true rfl, Nat.le_of_ble_eq_true rfl⟩ rfl hl.1 rfl (Nat.le_of_ble_eq_true rfl) dX2_commit_142) hI hno hlocks (v138, f138, r2138) rfl (fun E hE => ⟨xOf_f d3 d4 (by rw [← d5]; exact hE), hp138⟩)
      · refine lv_aload_n hx hb dX2_commit_29 rfl (lv_at hl 0 rfl) ?_
        refine va_get (D := D) (ci := 2) (v := .int (fn2)) (C := RX2) (T := TX2) (N := 3) hx hb hts inX2 hown hK.1 hI.2.1 0 rfl rfl 2 (by decide) (hts _ k58) (fun _ h9 => h9) rfl dX2_commit_30 ?_
        refine lv_iconst (v := (-1 : Int32)) hx hb dX2_commit_33 (by decide) ?_
        refine lv_icmp_ne (tgt := 118) hx hb dX2_commit_34 (by decide) (fun c34 => ?_) (fun c34 => ?_)
        · refine lv_aload_n hx hb dX2_commit_118 rfl (lv_at hl 0 rfl) ?_
          refine va_get (D := D) (ci := 2) (v := .ref (a 5)) (C := RX2) (T := TX2) (N := 3) hx hb hts inX2 hown hK.1 hI.2.1 0 rfl rfl 1 (by decide) (hts _ k57) (fun _ h9 => h9) rfl dX2_commit_119 ?_
          refine lv_iconst (v := nI 0) hx hb dX2_commit_122 (by decide) ?_
          refine va_putN (D := D) (ci := 1) (v := .int (nI 0)) (ty := .int) (C := RX1) (T := TX1) (N := 2) hx hb hts inX1 tyX1 tyX1_ok nmX1 hown hK.1 hI.2.1 hI.2.2.1 hI.2.2.2 5 rfl rfl 1 (by decide) (va_Nw.use (w := nwC) rfl hK.2.2.1) (fun _ h9 => h9) rfl (by decide +kernel) rfl rfl (Nat.le_of_ble_eq_true rfl) dX2_commit_123 (fun H locs hP hD hS => ?_)
          have hI : wi D z (Ar z) (cw a cI va fi r2 (nI t) wo (nI 0) fn2 X) s H locs := ⟨hI.1, hP, hD, hS⟩
          refine lv_aload_n hx hb dX2_commit_126 rfl (lv_at hl 0 rfl) ?_
          refine va_get (D := D) (ci := 2) (v := .int (fn2)) (C := RX2) (T := TX2) (N := 3) hx hb hts inX2 hown hK.1 hI.2.1 0 rfl rfl 2 (by decide) (hts _ k58) (fun _ h9 => h9) rfl dX2_commit_127 ?_
          refine lv_iconst (v := (-1 : Int32)) hx hb dX2_commit_130 (by decide) ?_
          refine lv_icmp_eq (tgt := 145) hx hb dX2_commit_131 (by decide) (fun c131 => ?_) (fun c131 => ?_)
          · refine lv_iload_n hx hb dX2_commit_145 rfl (lv_at hl 1 rfl) ?_
            obtain ⟨e1, hAk, hRk, mm, e2, e3⟩ := run_on hinv c131
            have e4 : w0 - x = 0 := run_end hinv c131 (by first | exact Or.inl c26 | exact Or.inr c34)
            rw [e4] at e3
            have e5 : (cmt t q w0 0 S 0) = (0, x, Sk, mm) := e3
            exact hret (va, fi, r2) (by rw [e5, if_pos rfl, ← e1]; exact hI) dX2_commit_146 (by rw [e5]; exact ⟨rfl, e2, hAk, hRk⟩)
          · refine lv_aload_n hx hb dX2_commit_134 rfl (lv_at hl 0 rfl) ?_
            refine va_get (D := D) (ci := 2) (v := .ref (a 1)) (C := RX2) (T := TX2) (N := 3) hx hb hts inX2 hown hK.1 hI.2.1 0 rfl rfl 0 (by decide) (hts _ k56) (fun _ h9 => h9) rfl dX2_commit_135 ?_
            refine k_mv (run_v (As := []) (rest := []) hF hK hI (c_X0_restore ht hA1 hfr (sv_f1 ht hfr sv1) (sv_f2 ht hfr sv2) hR hfb) cf_X0_restore k253 1 0 rfl rfl ⟨Nat.le_of_ble_eq_true rfl, Nat.le_of_ble_eq_true rfl⟩ ⟨rfl, rfl⟩ ⟨Nat.le_of_ble_eq_true rfl, Nat.le_of_ble_eq_true rfl⟩ rfl hl.1 rfl (Nat.le_of_ble_eq_true rfl) dX2_commit_138) hI (fun u138 hp138 H locs hI => ?_)
            obtain ⟨v138, f138, r2138⟩ := u138
            have hI : wi D z (Ar z) (cw a cI v138 f138 r2138 (nI t) wo (nI 0) fn2 X) s H locs := hI
            refine lv_iload_n hx hb dX2_commit_141 rfl (lv_at hl 2 rfl) ?_
            obtain ⟨d1, d2, d3, d4, d5⟩ := run_off hinv c131
            subst hQ
            have hI : wi D z (Ar z) ((fun u : (Nat → Int32) × (Nat → Int32) × (Nat → Int32) => cw a cI (u.1) (u.2.1) (u.2.2) (nI t) wo (nI 0) (if (cmt t q w0 0 S 0).1 = 0 then (-1 : Int32) else nI (cmt t q w0 0 S 0).2.1) X) (v138, f138, r2138)) s H locs := by rw [show (if (cmt t q w0 0 S 0).1 = 0 then (-1 : Int32) else nI (cmt t q w0 0 S 0).2.1) = fn2 from by rw [if_neg d3, d1]]; exact hI
            exact k_thru (ws := cw a cI v138 f138 r2138 (nI t) wo (nI 0) (if (cmt t q w0 0 S 0).1 = 0 then (-1 : Int32) else nI (cmt t q w0 0 S 0).2.1) X) (run_xs (As := [.int (g2)]) (rest := []) hF hK hKx hZ hI (c_X2_refuse hst) cf_X2_refuse k257 ⟨Nat.le_of_ble_eq_true rfl, Nat.le_of_ble_eq_true rfl⟩ ⟨rfl, rfl⟩ ⟨Nat.le_of_ble_eq_true rfl, Nat.le_of_ble_eq_true rfl⟩ rfl hl.1 rfl (Nat.le_of_ble_eq_true rfl) dX2_commit_142) hI hno hlocks (v138, f138, r2138) rfl (fun E hE => ⟨xOf_f d3 d4 (by rw [← d5]; exact hE), hp138⟩)
        · obtain ⟨e1, hAk, hRk, mm, e2, e3⟩ := run_on hinv c34
          subst e1
          refine lv_aload_n hx hb dX2_commit_37 rfl (lv_at hl 0 rfl) ?_
          refine va_get (D := D) (ci := 2) (v := .ref (a 1)) (C := RX2) (T := TX2) (N := 3) hx hb hts inX2 hown hK.1 hI.2.1 0 rfl rfl 0 (by decide) (hts _ k56) (fun _ h9 => h9) rfl dX2_commit_38 ?_
          refine lv_aload_n hx hb dX2_commit_41 rfl (lv_at hl 0 rfl) ?_
          refine va_get (D := D) (ci := 2) (v := .ref (a 5)) (C := RX2) (T := TX2) (N := 3) hx hb hts inX2 hown hK.1 hI.2.1 0 rfl rfl 1 (by decide) (hts _ k57) (fun _ h9 => h9) rfl dX2_commit_42 ?_
          refine lv_iload_n hx hb dX2_commit_45 rfl (lv_at hl 3 rfl) ?_
          refine lv_iconst (v := nI 0) hx hb dX2_commit_46 (by decide) ?_
          refine k_ro (run_v (As := [.int (nI x), .int (nI 0)]) (rest := [.ref (a 1)]) hF hK hI (c_X1_word (by omega) hw (by omega) hq) cf_X1_word k297 5 1 rfl rfl ⟨Nat.le_of_ble_eq_true rfl, Nat.le_of_ble_eq_true rfl⟩ ⟨rfl, rfl⟩ ⟨Nat.le_of_ble_eq_true rfl, Nat.le_of_ble_eq_true rfl⟩ rfl hl.1 rfl (Nat.le_of_ble_eq_true rfl) dX2_commit_47) hI (fun H locs hI => ?_)
          refine lv_aload_n hx hb dX2_commit_50 rfl (lv_at hl 0 rfl) ?_
          refine va_get (D := D) (ci := 2) (v := .ref (a 5)) (C := RX2) (T := TX2) (N := 3) hx hb hts inX2 hown hK.1 hI.2.1 0 rfl rfl 1 (by decide) (hts _ k57) (fun _ h9 => h9) rfl dX2_commit_51 ?_
          refine lv_iload_n hx hb dX2_commit_54 rfl (lv_at hl 3 rfl) ?_
          refine lv_iconst (v := nI 1) hx hb dX2_commit_55 (by decide) ?_
          refine k_ro (run_v (As := [.int (nI x), .int (nI 1)]) (rest := [.int (q (5 * x + 0)), .ref (a 1)]) hF hK hI (c_X1_word (by omega) hw (by omega) hq) cf_X1_word k297 5 1 rfl rfl ⟨Nat.le_of_ble_eq_true rfl, Nat.le_of_ble_eq_true rfl⟩ ⟨rfl, rfl⟩ ⟨Nat.le_of_ble_eq_true rfl, Nat.le_of_ble_eq_true rfl⟩ rfl hl.1 rfl (Nat.le_of_ble_eq_true rfl) dX2_commit_56) hI (fun H locs hI => ?_)
          refine lv_aload_n hx hb dX2_commit_59 rfl (lv_at hl 0 rfl) ?_
          refine va_get (D := D) (ci := 2) (v := .ref (a 5)) (C := RX2) (T := TX2) (N := 3) hx hb hts inX2 hown hK.1 hI.2.1 0 rfl rfl 1 (by decide) (hts _ k57) (fun _ h9 => h9) rfl dX2_commit_60 ?_
          refine lv_iload_n hx hb dX2_commit_63 rfl (lv_at hl 3 rfl) ?_
          refine lv_iconst (v := nI 2) hx hb dX2_commit_64 (by decide) ?_
          refine k_ro (run_v (As := [.int (nI x), .int (nI 2)]) (rest := [.int (q (5 * x + 1)), .int (q (5 * x + 0)), .ref (a 1)]) hF hK hI (c_X1_word (by omega) hw (by omega) hq) cf_X1_word k297 5 1 rfl rfl ⟨Nat.le_of_ble_eq_true rfl, Nat.le_of_ble_eq_true rfl⟩ ⟨rfl, rfl⟩ ⟨Nat.le_of_ble_eq_true rfl, Nat.le_of_ble_eq_true rfl⟩ rfl hl.1 rfl (Nat.le_of_ble_eq_true rfl) dX2_commit_65) hI (fun H locs hI => ?_)
          refine lv_aload_n hx hb dX2_commit_68 rfl (lv_at hl 0 rfl) ?_
          refine va_get (D := D) (ci := 2) (v := .ref (a 5)) (C := RX2) (T := TX2) (N := 3) hx hb hts inX2 hown hK.1 hI.2.1 0 rfl rfl 1 (by decide) (hts _ k57) (fun _ h9 => h9) rfl dX2_commit_69 ?_
          refine lv_iload_n hx hb dX2_commit_72 rfl (lv_at hl 3 rfl) ?_
          refine lv_iconst (v := nI 3) hx hb dX2_commit_73 (by decide) ?_
          refine k_ro (run_v (As := [.int (nI x), .int (nI 3)]) (rest := [.int (q (5 * x + 2)), .int (q (5 * x + 1)), .int (q (5 * x + 0)), .ref (a 1)]) hF hK hI (c_X1_word (by omega) hw (by omega) hq) cf_X1_word k297 5 1 rfl rfl ⟨Nat.le_of_ble_eq_true rfl, Nat.le_of_ble_eq_true rfl⟩ ⟨rfl, rfl⟩ ⟨Nat.le_of_ble_eq_true rfl, Nat.le_of_ble_eq_true rfl⟩ rfl hl.1 rfl (Nat.le_of_ble_eq_true rfl) dX2_commit_74) hI (fun H locs hI => ?_)
          refine lv_aload_n hx hb dX2_commit_77 rfl (lv_at hl 0 rfl) ?_
          refine va_get (D := D) (ci := 2) (v := .ref (a 5)) (C := RX2) (T := TX2) (N := 3) hx hb hts inX2 hown hK.1 hI.2.1 0 rfl rfl 1 (by decide) (hts _ k57) (fun _ h9 => h9) rfl dX2_commit_78 ?_
          refine lv_iload_n hx hb dX2_commit_81 rfl (lv_at hl 3 rfl) ?_
          refine lv_iconst (v := nI 4) hx hb dX2_commit_82 (by decide) ?_
          refine k_ro (run_v (As := [.int (nI x), .int (nI 4)]) (rest := [.int (q (5 * x + 3)), .int (q (5 * x + 2)), .int (q (5 * x + 1)), .int (q (5 * x + 0)), .ref (a 1)]) hF hK hI (c_X1_word (by omega) hw (by omega) hq) cf_X1_word k297 5 1 rfl rfl ⟨Nat.le_of_ble_eq_true rfl, Nat.le_of_ble_eq_true rfl⟩ ⟨rfl, rfl⟩ ⟨Nat.le_of_ble_eq_true rfl, Nat.le_of_ble_eq_true rfl⟩ rfl hl.1 rfl (Nat.le_of_ble_eq_true rfl) dX2_commit_83) hI (fun H locs hI => ?_)
          rw [show 5 * x + 0 = 5 * x from rfl]
          refine k_mu (run_v (As := [.int (q (5 * x)), .int (q (5 * x + 1)), .int (q (5 * x + 2)), .int (q (5 * x + 3)), .int (q (5 * x + 4))]) (rest := []) hF hK hI (c_X0_perform hAk ht hRk) cf_X0_perform k207 1 0 rfl rfl ⟨Nat.le_of_ble_eq_true rfl, Nat.le_of_ble_eq_true rfl⟩ ⟨rfl, rfl⟩ ⟨Nat.le_of_ble_eq_true rfl, Nat.le_of_ble_eq_true rfl⟩ rfl hl.1 rfl (Nat.le_of_ble_eq_true rfl) dX2_commit_86) hI (fun r86 u86 hp86 H locs hI => ?_)
          obtain ⟨e86, fr86, fb86, im86⟩ := hp86
          subst e86
          obtain ⟨v86, f86, r286⟩ := u86
          have hI : wi D z (Ar z) (cw a cI v86 f86 r286 (nI t) wo (nI w0) ((-1 : Int32)) X) s H locs := hI
          refine lv_istore (lv' := [(4, .int (pret Sk t (q (5 * x)) (q (5 * x + 1)) (q (5 * x + 2)) (q (5 * x + 3)) (q (5 * x + 4)))), (0, .ref (a 0)), (1, .int (m1)), (2, .int (g2)), (3, .int (nI x))]) hx hb dX2_commit_89 hl (by decide) rfl (fun ls hl => ?_)
          refine lv_iload hx hb dX2_commit_91 (lv_at hl 0 rfl) ?_
          refine lv_if_ge (tgt := 107) hx hb dX2_commit_93 (by decide) (fun c93 => ?_) (fun c93 => ?_)
          · refine lv_iload_n hx hb dX2_commit_107 rfl (lv_at hl 2 rfl) ?_
            refine lv_iload hx hb dX2_commit_108 (lv_at hl 0 rfl) ?_
            refine lv_iadd hx hb dX2_commit_110 ?_
            refine lv_istore_n (lv' := [(1, .int (m1 + (pret Sk t (q (5 * x)) (q (5 * x + 1)) (q (5 * x + 2)) (q (5 * x + 3)) (q (5 * x + 4))))), (4, .int (pret Sk t (q (5 * x)) (q (5 * x + 1)) (q (5 * x + 2)) (q (5 * x + 3)) (q (5 * x + 4)))), (0, .ref (a 0)), (2, .int (g2)), (3, .int (nI x))]) hx hb dX2_commit_111 rfl hl (by decide) rfl (fun ls hl => ?_)
            refine lv_iinc (v := nI (x + 1)) (lv' := [(3, .int (nI (x + 1))), (1, .int (m1 + (pret Sk t (q (5 * x)) (q (5 * x + 1)) (q (5 * x + 2)) (q (5 * x + 3)) (q (5 * x + 4))))), (4, .int (pret Sk t (q (5 * x)) (q (5 * x + 1)) (q (5 * x + 2)) (q (5 * x + 3)) (q (5 * x + 4)))), (0, .ref (a 0)), (2, .int (g2))]) hx hb dX2_commit_112 hl (k := 4) rfl (inc_n _ 1) (by decide) rfl (fun ls hl => ?_)
            refine lv_goto (tgt := 18) hx hb dX2_commit_115 (by decide) ?_
            exact ih18 (x + 1) (m1 + (pret Sk t (q (5 * x)) (q (5 * x + 1)) (q (5 * x + 2)) (q (5 * x + 3)) (q (5 * x + 4)))) (g2) ((-1 : Int32)) _ _ _ _ (by omega) (Or.inl ⟨rfl, (im86 (pret_ge c93)).1, (im86 (pret_ge c93)).2, _, by rw [← pret_0 (pret_ge c93), e2, nI_add], e3.trans (cmt_go (by omega) (pret_ge c93))⟩) (hfr.tr2 fr86) (hfb.tr2 fb86) (by omega) H locs hI ls (lv_sub hl [3, 1, 4, 0] rfl)
          · refine lv_aload_n hx hb dX2_commit_96 rfl (lv_at hl 1 rfl) ?_
            refine lv_iload_n hx hb dX2_commit_97 rfl (lv_at hl 4 rfl) ?_
            refine va_put (D := D) (ci := 2) (v := .int (nI x)) (ty := .int) (C := RX2) (T := TX2) (N := 3) hx hb hts inX2 tyX2 tyX2_ok nmX2 hown hK.1 hI.2.1 hI.2.2.1 hI.2.2.2 0 rfl rfl 2 (by decide) (hts _ k58) (fun _ h9 => h9) rfl (by decide +kernel) rfl rfl (Nat.le_of_ble_eq_true rfl) dX2_commit_98 (fun H locs hP hD hS => ?_)
            have hI : wi D z (Ar z) (cw a cI v86 f86 r286 (nI t) wo (nI w0) (nI x) X) s H locs := ⟨hI.1, hP, hD, hS⟩
            refine lv_iload hx hb dX2_commit_101 (lv_at hl 0 rfl) ?_
            refine lv_istore_n (lv' := [(2, .int (pret Sk t (q (5 * x)) (q (5 * x + 1)) (q (5 * x + 2)) (q (5 * x + 3)) (q (5 * x + 4)))), (4, .int (pret Sk t (q (5 * x)) (q (5 * x + 1)) (q (5 * x + 2)) (q (5 * x + 3)) (q (5 * x + 4)))), (0, .ref (a 0)), (1, .int (m1)), (3, .int (nI x))]) hx hb dX2_commit_103 rfl hl (by decide) rfl (fun ls hl => ?_)
            refine lv_goto (tgt := 112) hx hb dX2_commit_104 (by decide) ?_
            refine lv_iinc (v := nI (x + 1)) (lv' := [(3, .int (nI (x + 1))), (2, .int (pret Sk t (q (5 * x)) (q (5 * x + 1)) (q (5 * x + 2)) (q (5 * x + 3)) (q (5 * x + 4)))), (4, .int (pret Sk t (q (5 * x)) (q (5 * x + 1)) (q (5 * x + 2)) (q (5 * x + 3)) (q (5 * x + 4)))), (0, .ref (a 0)), (1, .int (m1))]) hx hb dX2_commit_112 hl (k := 4) rfl (inc_n _ 1) (by decide) rfl (fun ls hl => ?_)
            refine lv_goto (tgt := 18) hx hb dX2_commit_115 (by decide) ?_
            exact ih18 (x + 1) (m1) (pret Sk t (q (5 * x)) (q (5 * x + 1)) (q (5 * x + 2)) (q (5 * x + 3)) (q (5 * x + 4))) (nI x) Sk _ _ _ (by omega) (Or.inr (by rw [e3, cmt_no (by omega) (pret_lt c93).1]; exact ⟨rfl, by show x < 8; omega, (pret_lt c93).1, pcode_le _ _ _ _ _ _ _, (pret_lt c93).2⟩)) (hfr.tr2 fr86) (hfb.tr2 fb86) (by omega) H locs hI ls (lv_sub hl [3, 4, 1, 0] rfl)
  exact J18 (w0 + 1) 0 (nI 0) (nI 0) (-1 : Int32) S v1 f1 rb (by omega) (Or.inl ⟨rfl, hA1, hR, 0, rfl, rfl⟩) fr2.rf frb.rf (by omega) H locs hI ls (lv_sub hl [3, 2, 1, 0] rfl)
