set_option maxHeartbeats 4000000 in
set_option maxRecDepth 100000 in
theorem c_X0_rowPart {l : Launch} {D : va_G} {cI cZ cJ : ClassId} {z : Nat} {a : Nat → Nat} {X : va_W} {vals fil rb : Nat → Int32} {t : Nat} {wo : Nat → Int32} {cnt fn : Int32} {S : Sta} (hA : cAbs S vals fil t) (ht : t < 40) (hR : ∀ x, x < 4 * (t + 1) → rb x = nI (rowsIn S x)) {ky tm i k pt : Nat} (h3 : ky < 4) (h4 : tm ≤ t) (h5 : i < 32) (h6 : pt ≤ 5) (hrw : isRw S (tm * 4 + ky) i = true) (hk : k = rowAt S t ky tm i) : roM l yX0_rowPart cX0_rowPart 7 (some .int) 5 119 [.ref (a 1), .int (nI k), .int (nI pt)] (pw D cI cZ cJ z (cw a cI vals fil rb (nI t) wo cnt fn X)) (rowV S t tm ky i pt) := by
  refine bd_ro (by decide) (Nat.le_of_ble_eq_true rfl) ?_
  intro p e s m args below meth c Q hF hpw hret ls hl
  obtain ⟨hx, hb, hml, hown, hts, hr, hlocks⟩ := id hF
  have hK := hpw.2.2.2
  have hI : wi D z noA (cw a cI vals fil rb (nI t) wo cnt fn X) s s.heap [] := hpw.wi
  have hl : lv_has ls 7 [(0, .ref (a 1)), (1, .int (nI k)), (2, .int (nI pt))] := hl
  suffices hgo : ∀ (H : Heap) (locs : List Loc), wi D z noA (cw a cI vals fil rb (nI t) wo cnt fn X) s H locs → ∀ ls : Array Slot, lv_has ls 7 [(0, .ref (a 1)), (1, .int (nI k)), (2, .int (nI pt))] → W p l e (rmv 5 119) s m args below meth c H locs 0 0 Q (F0 m 0 ls []) from hgo _ _ hI ls hl
  intro H locs hI ls hl
  refine lv_iload_n hx hb dX0_rowPart_0 rfl (lv_at hl 1 rfl) ?_
  refine lv_istore_n (lv' := [(3, .int (nI k)), (0, .ref (a 1)), (1, .int (nI k)), (2, .int (nI pt))]) hx hb dX0_rowPart_1 rfl hl (by decide) rfl (fun ls hl => ?_)
  refine lv_iconst (v := nI 0) hx hb dX0_rowPart_2 (by decide) ?_
  refine lv_istore (lv' := [(4, .int (nI 0)), (3, .int (nI k)), (0, .ref (a 1)), (1, .int (nI k)), (2, .int (nI pt))]) hx hb dX0_rowPart_3 hl (by decide) rfl (fun ls hl => ?_)
  have J5 : ∀ (n5_ : Nat) (y : Nat) (n3 : Nat) (hy : y ≤ ky) (hn5 : n3 + fb_sm (rowsK S t) y = k) (hm5 : 3 < y + n5_) (H : Heap) (locs : List Loc), wi D z noA (cw a cI vals fil rb (nI t) wo cnt fn X) s H locs → ∀ ls : Array Slot, lv_has ls 7 [(0, .ref (a 1)), (1, .int (nI k)), (2, .int (nI pt)), (3, .int (nI n3)), (4, .int (nI y))] → W p l e (rmv 5 119) s m args below meth c H locs 0 0 Q (F0 m 5 ls []) := by
    intro n5_
    induction n5_ with
    | zero => intro y n3 hy hn5 hm5; exact absurd hm5 (by omega)
    | succ n5_ ih5 =>
      intro y n3 hy hn5 hm5 H locs hI ls hl
      refine lv_iload hx hb dX0_rowPart_5 (lv_at hl 4 rfl) ?_
      refine lv_iconst (v := nI 4) hx hb dX0_rowPart_7 (by decide) ?_
      refine nb_ge (tgt := 82) hx hb dX0_rowPart_8 (by decide) (by omega) (by omega) (fun c8 => ?_) (fun c8 => ?_)
      · refine lv_iconst (v := (-1 : Int32)) hx hb dX0_rowPart_82 (by decide) ?_
        exact hret hI.2.2.2 dX0_rowPart_83 ((absurd hy (by omega)))
      · refine lv_iconst (v := nI 0) hx hb dX0_rowPart_11 (by decide) ?_
        refine lv_istore (lv' := [(5, .int (nI 0)), (0, .ref (a 1)), (1, .int (nI k)), (2, .int (nI pt)), (3, .int (nI n3)), (4, .int (nI y))]) hx hb dX0_rowPart_12 hl (by decide) rfl (fun ls hl => ?_)
        have J14 : ∀ (n14_ : Nat) (x : Nat) (n3 : Nat) (hx1 : x ≤ t + 1) (hn : n3 + fb_sm (rowsK S t) y + fb_sm (fun w => rowsIn S (w * 4 + y)) x = k) (hlex : y < ky ∨ (y = ky ∧ x ≤ tm)) (hm14 : t + 1 < x + n14_) (H : Heap) (locs : List Loc), wi D z noA (cw a cI vals fil rb (nI t) wo cnt fn X) s H locs → ∀ ls : Array Slot, lv_has ls 7 [(0, .ref (a 1)), (1, .int (nI k)), (2, .int (nI pt)), (3, .int (nI n3)), (4, .int (nI y)), (5, .int (nI x))] → W p l e (rmv 5 119) s m args below meth c H locs 0 0 Q (F0 m 14 ls []) := by
          intro n14_
          induction n14_ with
          | zero => intro x n3 hx1 hn hlex hm14; exact absurd hm14 (by omega)
          | succ n14_ ih14 =>
            intro x n3 hx1 hn hlex hm14 H locs hI ls hl
            refine lv_iload hx hb dX0_rowPart_14 (lv_at hl 5 rfl) ?_
            refine lv_aload_n hx hb dX0_rowPart_16 rfl (lv_at hl 0 rfl) ?_
            refine va_get (D := D) (ci := 0) (v := .int (nI t)) (C := RX0) (T := TX0) (N := 4) hx hb hts inX0 hown hK.1 hI.2.1 1 rfl rfl 3 (by decide) (hts _ k30) (fun _ h9 => h9) rfl dX0_rowPart_17 ?_
            refine nb_gt (tgt := 76) hx hb dX0_rowPart_20 (by decide) (by omega) (by omega) (fun c20 => ?_) (fun c20 => ?_)
            · refine lv_iinc (v := nI (y + 1)) (lv' := [(4, .int (nI (y + 1))), (0, .ref (a 1)), (1, .int (nI k)), (2, .int (nI pt)), (3, .int (nI n3)), (5, .int (nI x))]) hx hb dX0_rowPart_76 hl (k := 4) rfl (inc_n _ 1) (by decide) rfl (fun ls hl => ?_)
              refine lv_goto (tgt := 5) hx hb dX0_rowPart_79 (by decide) ?_
              exact ih5 (y + 1) n3 (by omega) (by have e9 : rowsK S t y = fb_sm (fun w => rowsIn S (w * 4 + y)) x := (by unfold rowsK; rw [show t + 1 = x by omega]); rw [fb_sm_succ]; omega) (by omega) H locs hI ls (lv_sub hl [1, 2, 3, 4, 0] rfl)
            · have g0 : rowsIn S (x * 4 + y) ≤ 32 := rowsIn_le
              have g1 := rowAt_le (S := S) h3 h4 h5
              have g2 : k < 2 ^ 30 := by omega
              refine lv_aload_n hx hb dX0_rowPart_23 rfl (lv_at hl 0 rfl) ?_
              refine va_get (D := D) (ci := 0) (v := .ref (a 4)) (C := RX0) (T := TX0) (N := 4) hx hb hts inX0 hown hK.1 hI.2.1 1 rfl rfl 2 (by decide) (hts _ k29) (fun _ h9 => h9) rfl dX0_rowPart_24 ?_
              refine lv_iload hx hb dX0_rowPart_27 (lv_at hl 5 rfl) ?_
              refine lv_iload hx hb dX0_rowPart_29 (lv_at hl 4 rfl) ?_
              refine k_ro (run_n (As := [.int (nI x), .int (nI y)]) (rest := [.ref (a 4)]) hF (c_X2_slotOf ) tt_blind (fun _ _ _ => trivial) cf_X2_slotOf hK.2.2.2.2.2.1 ⟨Nat.le_of_ble_eq_true rfl, Nat.le_of_ble_eq_true rfl⟩ ⟨rfl, rfl⟩ ⟨Nat.le_of_ble_eq_true rfl, Nat.le_of_ble_eq_true rfl⟩ rfl hl.1 rfl (Nat.le_of_ble_eq_true rfl) dX0_rowPart_31) hI (fun H locs hI => ?_)
              refine ia_ld (f := rb) (k := x * 4 + y) hx hb hK hI 4 rfl dX0_rowPart_34 (by omega) (by decide) ?_
              have e6 : rb (x * 4 + y) = nI (rowsIn S (x * 4 + y)) := hR _ (by omega)
              refine tp e6 ?_
              refine lv_istore (lv' := [(6, .int (nI (rowsIn S (x * 4 + y)))), (0, .ref (a 1)), (1, .int (nI k)), (2, .int (nI pt)), (3, .int (nI n3)), (4, .int (nI y)), (5, .int (nI x))]) hx hb dX0_rowPart_35 hl (by decide) rfl (fun ls hl => ?_)
              refine lv_iload_n hx hb dX0_rowPart_37 rfl (lv_at hl 4 rfl) ?_
              refine lv_iload hx hb dX0_rowPart_38 (lv_at hl 0 rfl) ?_
              refine nb_ge (tgt := 65) hx hb dX0_rowPart_40 (by decide) (by omega) (by omega) (fun c40 => ?_) (fun c40 => ?_)
              · have g3 : ¬ (y = ky ∧ x = tm) := row_past h5 hrw hn hk c40
                refine lv_iload_n hx hb dX0_rowPart_65 rfl (lv_at hl 4 rfl) ?_
                refine lv_iload hx hb dX0_rowPart_66 (lv_at hl 0 rfl) ?_
                refine lv_isub hx hb dX0_rowPart_68 ?_
                refine tp (pk_sub (by omega)) ?_
                refine lv_istore_n (lv' := [(3, .int (nI (n3 - (rowsIn S (x * 4 + y))))), (6, .int (nI (rowsIn S (x * 4 + y)))), (0, .ref (a 1)), (1, .int (nI k)), (2, .int (nI pt)), (4, .int (nI y)), (5, .int (nI x))]) hx hb dX0_rowPart_69 rfl hl (by decide) rfl (fun ls hl => ?_)
                refine lv_iinc (v := nI (x + 1)) (lv' := [(5, .int (nI (x + 1))), (3, .int (nI (n3 - (rowsIn S (x * 4 + y))))), (6, .int (nI (rowsIn S (x * 4 + y)))), (0, .ref (a 1)), (1, .int (nI k)), (2, .int (nI pt)), (4, .int (nI y))]) hx hb dX0_rowPart_70 hl (k := 6) rfl (inc_n _ 1) (by decide) rfl (fun ls hl => ?_)
                refine lv_goto (tgt := 14) hx hb dX0_rowPart_73 (by decide) ?_
                exact ih14 (x + 1) (n3 - (rowsIn S (x * 4 + y))) (by omega) (by rw [fb_sm_succ]; omega) (by omega) (by omega) H locs hI ls (lv_sub hl [3, 4, 5, 1, 6, 0] rfl)
              · obtain ⟨e1, e2⟩ : y = ky ∧ x = tm := row_here h4 hlex hn hk c40
                subst e1 e2
                have hs := beg_some (isRw_beg hrw)
                have e3 : fb_ct (isRw S (x * 4 + y)) i = n3 := by unfold rowAt at hk; omega
                refine lv_aload_n hx hb dX0_rowPart_43 rfl (lv_at hl 1 rfl) ?_
                refine lv_iload hx hb dX0_rowPart_44 (lv_at hl 6 rfl) ?_
                refine lv_iload hx hb dX0_rowPart_46 (lv_at hl 5 rfl) ?_
                refine lv_aload_n hx hb dX0_rowPart_48 rfl (lv_at hl 1 rfl) ?_
                refine lv_iload hx hb dX0_rowPart_49 (lv_at hl 6 rfl) ?_
                refine lv_iload hx hb dX0_rowPart_51 (lv_at hl 5 rfl) ?_
                refine k_ro (run_n (As := [.int (nI x), .int (nI y)]) (rest := [.ref (a 1), .int (nI y), .int (nI x), .ref (a 1)]) hF (c_X2_slotOf ) tt_blind (fun _ _ _ => trivial) cf_X2_slotOf hK.2.2.2.2.2.1 ⟨Nat.le_of_ble_eq_true rfl, Nat.le_of_ble_eq_true rfl⟩ ⟨rfl, rfl⟩ ⟨Nat.le_of_ble_eq_true rfl, Nat.le_of_ble_eq_true rfl⟩ rfl hl.1 rfl (Nat.le_of_ble_eq_true rfl) dX0_rowPart_53) hI (fun H locs hI => ?_)
                refine lv_iload_n hx hb dX0_rowPart_56 rfl (lv_at hl 4 rfl) ?_
                refine k_ro (run_v (As := [.int (nI (x * 4 + y)), .int (nI n3)]) (rest := [.int (nI y), .int (nI x), .ref (a 1)]) hF hK hI (c_X0_rowStart hA ht (by omega) h5 hrw e3) cf_X0_rowStart k367 1 0 rfl rfl ⟨Nat.le_of_ble_eq_true rfl, Nat.le_of_ble_eq_true rfl⟩ ⟨rfl, rfl⟩ ⟨Nat.le_of_ble_eq_true rfl, Nat.le_of_ble_eq_true rfl⟩ rfl hl.1 rfl (Nat.le_of_ble_eq_true rfl) dX0_rowPart_57) hI (fun H locs hI => ?_)
                refine lv_iload_n hx hb dX0_rowPart_60 rfl (lv_at hl 3 rfl) ?_
                refine k_ro (run_v (As := [.int (nI x), .int (nI y), .int (nI i), .int (nI pt)]) (rest := []) hF hK hI (c_X0_partOfRow hA ht (by omega) (by omega) (by omega) hs (by omega)) cf_X0_partOfRow k371 1 0 rfl rfl ⟨Nat.le_of_ble_eq_true rfl, Nat.le_of_ble_eq_true rfl⟩ ⟨rfl, rfl⟩ ⟨Nat.le_of_ble_eq_true rfl, Nat.le_of_ble_eq_true rfl⟩ rfl hl.1 rfl (Nat.le_of_ble_eq_true rfl) dX0_rowPart_61) hI (fun H locs hI => ?_)
                exact hret hI.2.2.2 dX0_rowPart_64 (rfl)
        exact J14 (t + 1 + 1) 0 n3 (by omega) (by rw [fb_sm]; omega) (by omega) (by omega) H locs hI ls (lv_sub hl [1, 2, 3, 4, 5, 0] rfl)
  exact J5 (3 + 1) 0 k (by omega) (by rw [fb_sm]; omega) (by omega) H locs hI ls (lv_sub hl [2, 3, 4, 1, 0] rfl)
