set_option maxHeartbeats 4000000 in
set_option maxRecDepth 100000 in
theorem c_X3_perform {l : Launch} {D : va_G} {cI cZ cJ : ClassId} {z : Nat} {b : Nat → Nat} {X : va_W} {t : Nat} {th : Nat → Bool} {vs : Nat → Int32} {kt : Nat → Bool} {kv : Nat → Int32} {wt : Int32} {wa : Nat → Int32} {fl tr ch : Int32} {S : Sta} (hM : mAbs S th vs t) (ht : t < 40) {kind key v fr to : Int32} : muM (S := (Nat → Bool) × (Nat → Int32) × Int32) l yX3_perform cX3_perform 8 (some .int) 6 144 [.ref (b 0), .int (kind), .int (key), .int (v), .int (fr), .int (to)] (pw D cI cZ cJ z (mw b cI cZ (nI t) th vs kt kv wt wa fl tr ch X)) D z (fun u => mw b cI cZ (nI t) (u.1) (u.2.1) kt kv wt wa fl tr (u.2.2) X) (fun r u => r = nI (pcode S t kind key v fr to) ∧ fm t th vs u.1 u.2.1 ∧ (pcode S t kind key v fr to = 0 → mAbs (pS S t kind key v fr to) u.1 u.2.1 t ∧ u.2.2 = nI (pN S t kind key v fr to))) := by
  refine bd_mu (by decide) (Nat.le_of_ble_eq_true rfl) ?_
  intro p e s m args below meth c Q hF hpw hret ls hl
  obtain ⟨hx, hb, hml, hown, hts, hr, hlocks⟩ := id hF
  have hK := hpw.2.2.2
  have hI : wi D z (Ar z) (mw b cI cZ (nI t) th vs kt kv wt wa fl tr ch X) s s.heap [] := hpw.wi
  have hl : lv_has ls 8 [(0, .ref (b 0)), (1, .int (kind)), (2, .int (key)), (3, .int (v)), (4, .int (fr)), (5, .int (to))] := hl
  suffices hgo : ∀ (H : Heap) (locs : List Loc), wi D z (Ar z) (mw b cI cZ (nI t) th vs kt kv wt wa fl tr ch X) s H locs → ∀ ls : Array Slot, lv_has ls 8 [(0, .ref (b 0)), (1, .int (kind)), (2, .int (key)), (3, .int (v)), (4, .int (fr)), (5, .int (to))] → W p l e (rmv 6 144) s m args below meth c H locs 0 0 Q (F0 m 0 ls []) from hgo _ _ hI ls hl
  intro H locs hI ls hl
  refine lv_aload_n hx hb dX3_perform_0 rfl (lv_at hl 0 rfl) ?_
  refine lv_iconst (v := nI 0) hx hb dX3_perform_1 (by decide) ?_
  refine va_put (D := D) (ci := 3) (v := .int (nI 0)) (ty := .int) (C := RX3) (T := TX3) (N := 10) hx hb hts inX3 tyX3 tyX3_ok nmX3 hown hK.1 hI.2.1 hI.2.2.1 hI.2.2.2 0 rfl rfl 9 (by decide) (hts _ k431) (fun _ h9 => h9) rfl (by decide +kernel) rfl rfl (Nat.le_of_ble_eq_true rfl) dX3_perform_2 (fun H locs hP hD hS => ?_)
  have hI : wi D z (Ar z) (mw b cI cZ (nI t) th vs kt kv wt wa fl tr (nI 0) X) s H locs := ⟨hI.1, hP, hD, hS⟩
  refine lv_iload_n hx hb dX3_perform_5 rfl (lv_at hl 1 rfl) ?_
  refine lv_if_lt (tgt := 31) hx hb dX3_perform_6 (by decide) (fun c6 => ?_) (fun c6 => ?_)
  · refine lv_iconst (v := nI 1) hx hb dX3_perform_31 (by decide) ?_
    exact hret (th, vs, nI 0) hI dX3_perform_32 ⟨by rw [pcode_bad (by first | exact okS_k1 c6 | exact okS_k2 c11 | exact okS_k3 c18 | exact okS_k4 c28)], fm.rf, fun q9 => absurd q9 (by rw [pcode_bad (by first | exact okS_k1 c6 | exact okS_k2 c11 | exact okS_k3 c18 | exact okS_k4 c28)]; decide)⟩
  · refine lv_iload_n hx hb dX3_perform_9 rfl (lv_at hl 1 rfl) ?_
    refine lv_iconst (v := nI 4) hx hb dX3_perform_10 (by decide) ?_
    refine lv_icmp_gt (tgt := 31) hx hb dX3_perform_11 (by decide) (fun c11 => ?_) (fun c11 => ?_)
    · refine lv_iconst (v := nI 1) hx hb dX3_perform_31 (by decide) ?_
      exact hret (th, vs, nI 0) hI dX3_perform_32 ⟨by rw [pcode_bad (by first | exact okS_k1 c6 | exact okS_k2 c11 | exact okS_k3 c18 | exact okS_k4 c28)], fm.rf, fun q9 => absurd q9 (by rw [pcode_bad (by first | exact okS_k1 c6 | exact okS_k2 c11 | exact okS_k3 c18 | exact okS_k4 c28)]; decide)⟩
    · refine lv_iload_n hx hb dX3_perform_14 rfl (lv_at hl 2 rfl) ?_
      refine k_ro (run_s (As := [.int (key)]) (rest := []) hF (c_X3_isKey ) tt_blind (fun _ _ _ => trivial) cf_X3_isKey k482 ⟨Nat.le_of_ble_eq_true rfl, Nat.le_of_ble_eq_true rfl⟩ ⟨rfl, rfl⟩ ⟨Nat.le_of_ble_eq_true rfl, Nat.le_of_ble_eq_true rfl⟩ rfl hl.1 rfl (Nat.le_of_ble_eq_true rfl) dX3_perform_15) hI (fun H locs hI => ?_)
      refine bz_eq (tgt := 31) hx hb dX3_perform_18 (by decide) (fun c18 => ?_) (fun c18 => ?_)
      · refine lv_iconst (v := nI 1) hx hb dX3_perform_31 (by decide) ?_
        exact hret (th, vs, nI 0) hI dX3_perform_32 ⟨by rw [pcode_bad (by first | exact okS_k1 c6 | exact okS_k2 c11 | exact okS_k3 c18 | exact okS_k4 c28)], fm.rf, fun q9 => absurd q9 (by rw [pcode_bad (by first | exact okS_k1 c6 | exact okS_k2 c11 | exact okS_k3 c18 | exact okS_k4 c28)]; decide)⟩
      · refine lv_iload hx hb dX3_perform_21 (lv_at hl 4 rfl) ?_
        refine lv_iload hx hb dX3_perform_23 (lv_at hl 5 rfl) ?_
        refine k_ro (run_s (As := [.int (fr), .int (to)]) (rest := []) hF (c_X3_isPeriod ) tt_blind (fun _ _ _ => trivial) cf_X3_isPeriod k485 ⟨Nat.le_of_ble_eq_true rfl, Nat.le_of_ble_eq_true rfl⟩ ⟨rfl, rfl⟩ ⟨Nat.le_of_ble_eq_true rfl, Nat.le_of_ble_eq_true rfl⟩ rfl hl.1 rfl (Nat.le_of_ble_eq_true rfl) dX3_perform_25) hI (fun H locs hI => ?_)
        refine bz_ne (tgt := 33) hx hb dX3_perform_28 (by decide) (fun c28 => ?_) (fun c28 => ?_)
        · obtain ⟨kd, hkd, rfl⟩ := kind_n c6 c11
          obtain ⟨ky, hky, rfl⟩ := okK_n c18
          obtain ⟨f1, t1, hft, ht1, rfl, rfl⟩ := okP_n c28
          have pcE := pcode_n (S := S) (t := t) (v := v) hkd hky hft ht1
          have pSE := pS_n (S := S) (t := t) (v := v) hkd hky hft ht1
          have pNE := pN_n (S := S) (t := t) (v := v) hkd hky hft ht1
          have g1 : held S (t * 4 + ky) f1 (t1 - f1) ≤ t1 - f1 := fb_ct_le _ _
          refine lv_aload_n hx hb dX3_perform_33 rfl (lv_at hl 0 rfl) ?_
          refine lv_iload_n hx hb dX3_perform_34 rfl (lv_at hl 2 rfl) ?_
          refine lv_iload hx hb dX3_perform_35 (lv_at hl 4 rfl) ?_
          refine lv_iload hx hb dX3_perform_37 (lv_at hl 5 rfl) ?_
          refine k_ro (run_v (As := [.int (nI ky), .int (nI f1), .int (nI t1)]) (rest := []) hF hK hI (c_X3_heldIn hM ht (by omega) (by omega) (by omega)) cf_X3_heldIn k488 0 3 rfl rfl ⟨Nat.le_of_ble_eq_true rfl, Nat.le_of_ble_eq_true rfl⟩ ⟨rfl, rfl⟩ ⟨Nat.le_of_ble_eq_true rfl, Nat.le_of_ble_eq_true rfl⟩ rfl hl.1 rfl (Nat.le_of_ble_eq_true rfl) dX3_perform_39) hI (fun H locs hI => ?_)
          refine lv_istore (lv' := [(6, .int (nI (held S (t * 4 + ky) f1 (t1 - f1)))), (0, .ref (b 0)), (1, .int (nI kd)), (2, .int (nI ky)), (3, .int (v)), (4, .int (nI f1)), (5, .int (nI t1))]) hx hb dX3_perform_42 hl (by decide) rfl (fun ls hl => ?_)
          have J68 : ∀  (hno : ¬ (2 ≤ kd ∧ held S (t * 4 + ky) f1 (t1 - f1) = 0) ∧ ¬ (kd = 1 ∧ 0 < held S (t * 4 + ky) f1 (t1 - f1))) (H : Heap) (locs : List Loc), wi D z (Ar z) (mw b cI cZ (nI t) th vs kt kv wt wa fl tr (nI 0) X) s H locs → ∀ ls : Array Slot, lv_has ls 8 [(0, .ref (b 0)), (1, .int (nI kd)), (2, .int (nI ky)), (3, .int (v)), (4, .int (nI f1)), (5, .int (nI t1)), (6, .int (nI (held S (t * 4 + ky) f1 (t1 - f1))))] → W p l e (rmv 6 144) s m args below meth c H locs 0 0 Q (F0 m 68 ls []) := by
            intro hno H locs hI ls hl
            refine lv_iload hx hb dX3_perform_68 (lv_at hl 4 rfl) ?_
            refine lv_istore (lv' := [(7, .int (nI f1)), (0, .ref (b 0)), (1, .int (nI kd)), (2, .int (nI ky)), (3, .int (v)), (4, .int (nI f1)), (5, .int (nI t1)), (6, .int (nI (held S (t * 4 + ky) f1 (t1 - f1))))]) hx hb dX3_perform_70 hl (by decide) rfl (fun ls hl => ?_)
            have J72 : ∀ (n72_ : Nat) (x : Nat) (tb : Nat → Bool) (vb : Nat → Int32) (n1 : Nat) (hx1 : x ≤ t1) (hx0 : f1 ≤ x) (hMb : mAbs (chg S (t * 4 + ky) kd v f1 (x - f1)) tb vb t) (hfm : fm t th vs tb vb) (hn : n1 = chgN S (t * 4 + ky) kd v f1 (x - f1)) (hm72 : t1 < x + n72_) (H : Heap) (locs : List Loc), wi D z (Ar z) (mw b cI cZ (nI t) tb vb kt kv wt wa fl tr (nI n1) X) s H locs → ∀ ls : Array Slot, lv_has ls 8 [(0, .ref (b 0)), (1, .int (nI kd)), (2, .int (nI ky)), (3, .int (v)), (4, .int (nI f1)), (5, .int (nI t1)), (6, .int (nI (held S (t * 4 + ky) f1 (t1 - f1)))), (7, .int (nI x))] → W p l e (rmv 6 144) s m args below meth c H locs 0 0 Q (F0 m 72 ls []) := by
              intro n72_
              induction n72_ with
              | zero => intro x tb vb n1 hx1 hx0 hMb hfm hn hm72; exact absurd hm72 (by omega)
              | succ n72_ ih72 =>
                intro x tb vb n1 hx1 hx0 hMb hfm hn hm72 H locs hI ls hl
                refine lv_iload hx hb dX3_perform_72 (lv_at hl 7 rfl) ?_
                refine lv_iload hx hb dX3_perform_74 (lv_at hl 5 rfl) ?_
                refine nb_ge (tgt := 101) hx hb dX3_perform_76 (by decide) (by omega) (by omega) (fun c76 => ?_) (fun c76 => ?_)
                · refine lv_aload_n hx hb dX3_perform_101 rfl (lv_at hl 0 rfl) ?_
                  refine k_ro (run_v (As := []) (rest := []) hF hK hI (c_X3_countRows hMb ht) cf_X3_countRows k499 0 3 rfl rfl ⟨Nat.le_of_ble_eq_true rfl, Nat.le_of_ble_eq_true rfl⟩ ⟨rfl, rfl⟩ ⟨Nat.le_of_ble_eq_true rfl, Nat.le_of_ble_eq_true rfl⟩ rfl hl.1 rfl (Nat.le_of_ble_eq_true rfl) dX3_perform_102) hI (fun H locs hI => ?_)
                  refine lv_sipush (v := nI 150) hx hb dX3_perform_105 (by decide) ?_
                  have g7 := rowsTo_le (S := (chg S (t * 4 + ky) kd v f1 (x - f1))) (4 * (t + 1))
                  refine nb_le (tgt := 115) hx hb dX3_perform_108 (by decide) (by omega) (by omega) (fun c108 => ?_) (fun c108 => ?_)
                  · refine lv_iconst (v := nI 0) hx hb dX3_perform_115 (by decide) ?_
                    have e5 : x = t1 := by omega
                    subst e5
                    exact hret (tb, vb, nI n1) hI dX3_perform_116 ⟨by rw [pcE, if_neg hno.1, if_neg hno.2, if_neg (by omega)], hfm, fun _ => by rw [pSE, pNE]; exact ⟨hMb, by rw [hn]⟩⟩
                  · refine lv_iconst (v := nI 2) hx hb dX3_perform_111 (by decide) ?_
                    refine lv_goto (tgt := 116) hx hb dX3_perform_112 (by decide) ?_
                    have e5 : x = t1 := by omega
                    subst e5
                    exact hret (tb, vb, nI n1) hI dX3_perform_116 ⟨by rw [pcE, if_neg hno.1, if_neg hno.2, if_pos c108], hfm, fun q9 => absurd q9 (by rw [pcE, if_neg hno.1, if_neg hno.2, if_pos c108]; decide)⟩
                · refine lv_aload_n hx hb dX3_perform_79 rfl (lv_at hl 0 rfl) ?_
                  refine lv_iload_n hx hb dX3_perform_80 rfl (lv_at hl 1 rfl) ?_
                  refine lv_aload_n hx hb dX3_perform_81 rfl (lv_at hl 0 rfl) ?_
                  refine va_get (D := D) (ci := 3) (v := .int (nI t)) (C := RX3) (T := TX3) (N := 10) hx hb hts inX3 hown hK.1 hI.2.1 0 rfl rfl 0 (by decide) (hts _ k422) (fun _ h9 => h9) rfl dX3_perform_82 ?_
                  refine lv_iload_n hx hb dX3_perform_85 rfl (lv_at hl 2 rfl) ?_
                  refine lv_iload hx hb dX3_perform_86 (lv_at hl 7 rfl) ?_
                  refine k_ro (run_s (As := [.int (nI t), .int (nI ky), .int (nI x)]) (rest := [.int (nI kd), .ref (b 0)]) hF (c_X3_place ) tt_blind (fun _ _ _ => trivial) cf_X3_place k492 ⟨Nat.le_of_ble_eq_true rfl, Nat.le_of_ble_eq_true rfl⟩ ⟨rfl, rfl⟩ ⟨Nat.le_of_ble_eq_true rfl, Nat.le_of_ble_eq_true rfl⟩ rfl hl.1 rfl (Nat.le_of_ble_eq_true rfl) dX3_perform_88) hI (fun H locs hI => ?_)
                  refine lv_iload_n hx hb dX3_perform_91 rfl (lv_at hl 3 rfl) ?_
                  have g8 := chgN_le S (t * 4 + ky) kd v f1 (x - f1)
                  refine k_mv (run_v (As := [.int (nI kd), .int (nI (128 * t + 32 * ky + x)), .int (v)]) (rest := []) hF hK hI (c_X3_change (by omega) (by omega) (by omega) ((hMb t ky x (Nat.le_refl t) hky (by omega)).symm.trans (chg_at' hx0))) cf_X3_change k495 0 3 rfl rfl ⟨Nat.le_of_ble_eq_true rfl, Nat.le_of_ble_eq_true rfl⟩ ⟨rfl, rfl⟩ ⟨Nat.le_of_ble_eq_true rfl, Nat.le_of_ble_eq_true rfl⟩ rfl hl.1 rfl (Nat.le_of_ble_eq_true rfl) dX3_perform_92) hI (fun u92 hp92 H locs hI => ?_)
                  have hI : wi D z (Ar z) (mw b cI cZ (nI t) (updB tb (128 * t + 32 * ky + x) (nw kd v (S (t * 4 + ky) x)).isSome) (upd vb (128 * t + 32 * ky + x) ((nw kd v (S (t * 4 + ky) x)).getD 0)) kt kv wt wa fl tr (nI (n1 + (if (!(decide (nw kd v (S (t * 4 + ky) x) = (S (t * 4 + ky) x)))) = true then 1 else 0))) X) s H locs := hI
                  refine lv_iinc (v := nI (x + 1)) (lv' := [(7, .int (nI (x + 1))), (0, .ref (b 0)), (1, .int (nI kd)), (2, .int (nI ky)), (3, .int (v)), (4, .int (nI f1)), (5, .int (nI t1)), (6, .int (nI (held S (t * 4 + ky) f1 (t1 - f1))))]) hx hb dX3_perform_95 hl (k := 7) rfl (inc_n _ 1) (by decide) rfl (fun ls hl => ?_)
                  refine lv_goto (tgt := 72) hx hb dX3_perform_98 (by decide) ?_
                  exact ih72 (x + 1) _ _ _ (by omega) (by omega) (by rw [← chg_s' hx0]; have m9 := mAbs_put (kd := kd) (v := v) hMb hky (show x < 32 by omega); rw [chg_at' hx0] at m9; exact m9) (hfm.tr hky (by omega)) (by rw [chgN_s' hx0, ← hn]) (by omega) H locs hI ls (lv_sub hl [1, 2, 3, 4, 5, 6, 7, 0] rfl)
            exact J72 (t1 + 1) f1 th vs 0 (by omega) (by omega) (by rw [Nat.sub_self, chg_0]; exact hM) fm.rf (by rw [Nat.sub_self]; rfl) (by omega) H locs hI ls (lv_sub hl [1, 2, 3, 4, 5, 6, 7, 0] rfl)
          refine lv_iload_n hx hb dX3_perform_44 rfl (lv_at hl 2 rfl) ?_
          refine lv_iconst (v := nI 2) hx hb dX3_perform_45 (by decide) ?_
          refine nb_lt (tgt := 56) hx hb dX3_perform_46 (by decide) (by omega) (by omega) (fun c46 => ?_) (fun c46 => ?_)
          · refine lv_iload_n hx hb dX3_perform_56 rfl (lv_at hl 2 rfl) ?_
            refine lv_iconst (v := nI 1) hx hb dX3_perform_57 (by decide) ?_
            refine nb_ne (tgt := 68) hx hb dX3_perform_58 (by decide) (by omega) (by omega) (fun c58 => ?_) (fun c58 => ?_)
            · exact J68 ⟨by omega, by omega⟩ H locs hI ls (lv_sub hl [1, 2, 3, 4, 5, 6, 0] rfl)
            · refine lv_iload hx hb dX3_perform_61 (lv_at hl 0 rfl) ?_
              refine nz_le (tgt := 68) hx hb dX3_perform_63 (by decide) (by omega) (fun c63 => ?_) (fun c63 => ?_)
              · exact J68 ⟨by omega, by omega⟩ H locs hI ls (lv_sub hl [1, 2, 3, 4, 5, 6, 0] rfl)
              · refine lv_iconst (v := nI 2) hx hb dX3_perform_66 (by decide) ?_
                exact hret (th, vs, nI 0) hI dX3_perform_67 ⟨by rw [pc_2 pcE c58 c63], fm.rf, fun q9 => absurd q9 (by rw [pc_2 pcE c58 c63]; decide)⟩
          · refine lv_iload hx hb dX3_perform_49 (lv_at hl 0 rfl) ?_
            refine nz_ne (tgt := 56) hx hb dX3_perform_51 (by decide) (by omega) (fun c51 => ?_) (fun c51 => ?_)
            · refine lv_iload_n hx hb dX3_perform_56 rfl (lv_at hl 2 rfl) ?_
              refine lv_iconst (v := nI 1) hx hb dX3_perform_57 (by decide) ?_
              refine nb_ne (tgt := 68) hx hb dX3_perform_58 (by decide) (by omega) (by omega) (fun c58 => ?_) (fun c58 => ?_)
              · exact J68 ⟨by omega, by omega⟩ H locs hI ls (lv_sub hl [1, 2, 3, 4, 5, 6, 0] rfl)
              · refine lv_iload hx hb dX3_perform_61 (lv_at hl 0 rfl) ?_
                refine nz_le (tgt := 68) hx hb dX3_perform_63 (by decide) (by omega) (fun c63 => ?_) (fun c63 => ?_)
                · exact J68 ⟨by omega, by omega⟩ H locs hI ls (lv_sub hl [1, 2, 3, 4, 5, 6, 0] rfl)
                · refine lv_iconst (v := nI 2) hx hb dX3_perform_66 (by decide) ?_
                  exact hret (th, vs, nI 0) hI dX3_perform_67 ⟨by rw [pc_2 pcE c58 c63], fm.rf, fun q9 => absurd q9 (by rw [pc_2 pcE c58 c63]; decide)⟩
            · refine lv_iconst (v := nI 3) hx hb dX3_perform_54 (by decide) ?_
              exact hret (th, vs, nI 0) hI dX3_perform_55 ⟨by rw [pcE, if_pos ⟨c46, c51⟩], fm.rf, fun q9 => absurd q9 (by rw [pcE, if_pos ⟨c46, c51⟩]; decide)⟩
        · refine lv_iconst (v := nI 1) hx hb dX3_perform_31 (by decide) ?_
          exact hret (th, vs, nI 0) hI dX3_perform_32 ⟨by rw [pcode_bad (by first | exact okS_k1 c6 | exact okS_k2 c11 | exact okS_k3 c18 | exact okS_k4 c28)], fm.rf, fun q9 => absurd q9 (by rw [pcode_bad (by first | exact okS_k1 c6 | exact okS_k2 c11 | exact okS_k3 c18 | exact okS_k4 c28)]; decide)⟩
set_option maxHeartbeats 4000000 in
set_option maxRecDepth 100000 in
theorem c_X3_state {l : Launch} {D : va_G} {cI cZ cJ : ClassId} {z : Nat} {b : Nat → Nat} {X : va_W} {t : Nat} {th : Nat → Bool} {vs : Nat → Int32} {kt : Nat → Bool} {kv : Nat → Int32} {wt : Int32} {wa : Nat → Int32} {fl tr ch : Int32} {S : Sta} (hM : mAbs S th vs t) (ht : t < 40) {kind key v fr to : Int32} : muM (S := (Nat → Bool) × (Nat → Int32) × (Nat → Bool) × (Nat → Int32) × Int32) l yX3_state cX3_state 7 (some .int) 7 171 [.ref (b 0), .int (kind), .int (key), .int (v), .int (fr), .int (to)] (pw D cI cZ cJ z (mw b cI cZ (nI t) th vs kt kv wt wa fl tr ch X)) D z (fun u => mw b cI cZ (nI t) (u.1) (u.2.1) (u.2.2.1) (u.2.2.2.1) wt wa fl (nI (pcode S t kind key v fr to)) (u.2.2.2.2) X) (fun r u => mAbs (if pcode S t kind key v fr to = 0 then pS S t kind key v fr to else S) u.1 u.2.1 t ∧ (pcode S t kind key v fr to = 0 → r = nI (pN S t kind key v fr to))) := by
  refine bd_mu (by decide) (Nat.le_of_ble_eq_true rfl) ?_
  intro p e s m args below meth c Q hF hpw hret ls hl
  obtain ⟨hx, hb, hml, hown, hts, hr, hlocks⟩ := id hF
  have hK := hpw.2.2.2
  have hI : wi D z (Ar z) (mw b cI cZ (nI t) th vs kt kv wt wa fl tr ch X) s s.heap [] := hpw.wi
  have hl : lv_has ls 7 [(0, .ref (b 0)), (1, .int (kind)), (2, .int (key)), (3, .int (v)), (4, .int (fr)), (5, .int (to))] := hl
  suffices hgo : ∀ (H : Heap) (locs : List Loc), wi D z (Ar z) (mw b cI cZ (nI t) th vs kt kv wt wa fl tr ch X) s H locs → ∀ ls : Array Slot, lv_has ls 7 [(0, .ref (b 0)), (1, .int (kind)), (2, .int (key)), (3, .int (v)), (4, .int (fr)), (5, .int (to))] → W p l e (rmv 7 171) s m args below meth c H locs 0 0 Q (F0 m 0 ls []) from hgo _ _ hI ls hl
  intro H locs hI ls hl
  refine lv_aload_n hx hb dX3_state_0 rfl (lv_at hl 0 rfl) ?_
  refine lv_iconst (v := nI 0) hx hb dX3_state_1 (by decide) ?_
  refine va_put (D := D) (ci := 3) (v := .int (nI 0)) (ty := .int) (C := RX3) (T := TX3) (N := 10) hx hb hts inX3 tyX3 tyX3_ok nmX3 hown hK.1 hI.2.1 hI.2.2.1 hI.2.2.2 0 rfl rfl 8 (by decide) (hts _ k430) (fun _ h9 => h9) rfl (by decide +kernel) rfl rfl (Nat.le_of_ble_eq_true rfl) dX3_state_2 (fun H locs hP hD hS => ?_)
  have hI : wi D z (Ar z) (mw b cI cZ (nI t) th vs kt kv wt wa fl (nI 0) ch X) s H locs := ⟨hI.1, hP, hD, hS⟩
  refine lv_aload_n hx hb dX3_state_5 rfl (lv_at hl 0 rfl) ?_
  refine k_mv (run_v (As := []) (rest := []) hF hK hI (c_X3_keep ht) cf_X3_keep k474 0 3 rfl rfl ⟨Nat.le_of_ble_eq_true rfl, Nat.le_of_ble_eq_true rfl⟩ ⟨rfl, rfl⟩ ⟨Nat.le_of_ble_eq_true rfl, Nat.le_of_ble_eq_true rfl⟩ rfl hl.1 rfl (Nat.le_of_ble_eq_true rfl) dX3_state_6) hI (fun u6 hp6 H locs hI => ?_)
  obtain ⟨kt6, kv6⟩ := u6
  have hI : wi D z (Ar z) (mw b cI cZ (nI t) th vs kt6 kv6 wt wa fl (nI 0) ch X) s H locs := hI
  refine lv_aload_n hx hb dX3_state_9 rfl (lv_at hl 0 rfl) ?_
  refine lv_iload_n hx hb dX3_state_10 rfl (lv_at hl 1 rfl) ?_
  refine lv_iload_n hx hb dX3_state_11 rfl (lv_at hl 2 rfl) ?_
  refine lv_iload_n hx hb dX3_state_12 rfl (lv_at hl 3 rfl) ?_
  refine lv_iload hx hb dX3_state_13 (lv_at hl 4 rfl) ?_
  refine lv_iload hx hb dX3_state_15 (lv_at hl 5 rfl) ?_
  refine k_mu (run_v (As := [.int (kind), .int (key), .int (v), .int (fr), .int (to)]) (rest := []) hF hK hI (c_X3_perform hM ht) cf_X3_perform k478 0 3 rfl rfl ⟨Nat.le_of_ble_eq_true rfl, Nat.le_of_ble_eq_true rfl⟩ ⟨rfl, rfl⟩ ⟨Nat.le_of_ble_eq_true rfl, Nat.le_of_ble_eq_true rfl⟩ rfl hl.1 rfl (Nat.le_of_ble_eq_true rfl) dX3_state_17) hI (fun r17 u17 hp17 H locs hI => ?_)
  obtain ⟨e17, fm17, pm17⟩ := hp17
  subst e17
  obtain ⟨th17, vs17, ch17⟩ := u17
  have hI : wi D z (Ar z) (mw b cI cZ (nI t) th17 vs17 kt6 kv6 wt wa fl (nI 0) ch17 X) s H locs := hI
  refine lv_istore (lv' := [(6, .int (nI (pcode S t kind key v fr to))), (0, .ref (b 0)), (1, .int (kind)), (2, .int (key)), (3, .int (v)), (4, .int (fr)), (5, .int (to))]) hx hb dX3_state_20 hl (by decide) rfl (fun ls hl => ?_)
  refine lv_iload hx hb dX3_state_22 (lv_at hl 0 rfl) ?_
  have g1 := pcode_le S t kind key v fr to
  refine nz_le (tgt := 38) hx hb dX3_state_24 (by decide) (by omega) (fun c24 => ?_) (fun c24 => ?_)
  · refine lv_aload_n hx hb dX3_state_38 rfl (lv_at hl 1 rfl) ?_
    refine va_get (D := D) (ci := 3) (v := .int (ch17)) (C := RX3) (T := TX3) (N := 10) hx hb hts inX3 hown hK.1 hI.2.1 0 rfl rfl 9 (by decide) (hts _ k431) (fun _ h9 => h9) rfl dX3_state_39 ?_
    exact hret (th17, vs17, kt6, kv6, ch17) (by rw [c24]; exact hI) dX3_state_42 ⟨by rw [if_pos c24]; exact (pm17 c24).1, fun _ => (pm17 c24).2⟩
  · refine lv_aload_n hx hb dX3_state_27 rfl (lv_at hl 1 rfl) ?_
    refine k_mv (run_v (As := []) (rest := []) hF hK hI (c_X3_goBack ht) cf_X3_goBack k523 0 3 rfl rfl ⟨Nat.le_of_ble_eq_true rfl, Nat.le_of_ble_eq_true rfl⟩ ⟨rfl, rfl⟩ ⟨Nat.le_of_ble_eq_true rfl, Nat.le_of_ble_eq_true rfl⟩ rfl hl.1 rfl (Nat.le_of_ble_eq_true rfl) dX3_state_28) hI (fun u28 hp28 H locs hI => ?_)
    obtain ⟨th28, vs28⟩ := u28
    have hI : wi D z (Ar z) (mw b cI cZ (nI t) th28 vs28 kt6 kv6 wt wa fl (nI 0) ch17 X) s H locs := hI
    refine lv_aload_n hx hb dX3_state_31 rfl (lv_at hl 1 rfl) ?_
    refine lv_iload hx hb dX3_state_32 (lv_at hl 0 rfl) ?_
    refine k_mu (run_v (As := [.int (nI (pcode S t kind key v fr to))]) (rest := []) hF hK hI (c_X3_fail ) cf_X3_fail k462 0 3 rfl rfl ⟨Nat.le_of_ble_eq_true rfl, Nat.le_of_ble_eq_true rfl⟩ ⟨rfl, rfl⟩ ⟨Nat.le_of_ble_eq_true rfl, Nat.le_of_ble_eq_true rfl⟩ rfl hl.1 rfl (Nat.le_of_ble_eq_true rfl) dX3_state_34) hI (fun r34 u34 hp34 H locs hI => ?_)
    subst hp34
    have hI : wi D z (Ar z) (mw b cI cZ (nI t) th28 vs28 kt6 kv6 wt wa fl (nI (pcode S t kind key v fr to)) ch17 X) s H locs := hI
    exact hret (th28, vs28, kt6, kv6, ch17) hI dX3_state_37 ⟨by rw [if_neg (by omega)]; exact mAbs_back hM hp6.1 hp6.2 fm17.1 fm17.2 hp28.1 hp28.2, fun q9 => absurd q9 (by omega)⟩
set_option maxHeartbeats 4000000 in
set_option maxRecDepth 100000 in
theorem c_X3_queue {l : Launch} {D : va_G} {cI cZ cJ : ClassId} {z : Nat} {b : Nat → Nat} {X : va_W} {t : Nat} {th : Nat → Bool} {vs : Nat → Int32} {kt : Nat → Bool} {kv : Nat → Int32} {wa : Nat → Int32} {fl tr ch : Int32} {w0 : Nat} {q : Nat → Int32} (hw : w0 ≤ 8) (hq : qIs q w0 wa) {kind key v fr to : Int32} : muM (S := Nat × (Nat → Int32)) l yX3_queue cX3_queue 6 (some .boolean) 0 0 [.ref (b 0), .int (kind), .int (key), .int (v), .int (fr), .int (to)] (pw D cI cZ cJ z (mw b cI cZ (nI t) th vs kt kv (nI w0) wa fl tr ch X)) D z (fun u => mw b cI cZ (nI t) th vs kt kv (nI (u.1)) (u.2) fl (nI 0) ch X) (fun r u => r = bi (decide (w0 < 8)) ∧ (w0 < 8 → u.1 = w0 + 1 ∧ qIs (qput q w0 kind key v fr to) (w0 + 1) u.2) ∧ (¬ w0 < 8 → u = (w0, wa))) := by
  refine bd_mz (by decide) (Nat.le_of_ble_eq_true rfl) ?_
  intro p e s m args below meth c Q hF hpw hret ls hl
  obtain ⟨hx, hb, hml, hown, hts, hr, hlocks⟩ := id hF
  have hK := hpw.2.2.2
  have hI : wi D z (Ar z) (mw b cI cZ (nI t) th vs kt kv (nI w0) wa fl tr ch X) s s.heap [] := hpw.wi
  have hl : lv_has ls 6 [(0, .ref (b 0)), (1, .int (kind)), (2, .int (key)), (3, .int (v)), (4, .int (fr)), (5, .int (to))] := hl
  suffices hgo : ∀ (H : Heap) (locs : List Loc), wi D z (Ar z) (mw b cI cZ (nI t) th vs kt kv (nI w0) wa fl tr ch X) s H locs → ∀ ls : Array Slot, lv_has ls 6 [(0, .ref (b 0)), (1, .int (kind)), (2, .int (key)), (3, .int (v)), (4, .int (fr)), (5, .int (to))] → W p l e (rmv 0 0) s m args below meth c H locs 0 0 Q (F0 m 0 ls []) from hgo _ _ hI ls hl
  intro H locs hI ls hl
  refine lv_aload_n hx hb dX3_queue_0 rfl (lv_at hl 0 rfl) ?_
  refine lv_iconst (v := nI 0) hx hb dX3_queue_1 (by decide) ?_
  refine va_put (D := D) (ci := 3) (v := .int (nI 0)) (ty := .int) (C := RX3) (T := TX3) (N := 10) hx hb hts inX3 tyX3 tyX3_ok nmX3 hown hK.1 hI.2.1 hI.2.2.1 hI.2.2.2 0 rfl rfl 8 (by decide) (hts _ k430) (fun _ h9 => h9) rfl (by decide +kernel) rfl rfl (Nat.le_of_ble_eq_true rfl) dX3_queue_2 (fun H locs hP hD hS => ?_)
  have hI : wi D z (Ar z) (mw b cI cZ (nI t) th vs kt kv (nI w0) wa fl (nI 0) ch X) s H locs := ⟨hI.1, hP, hD, hS⟩
  refine lv_aload_n hx hb dX3_queue_5 rfl (lv_at hl 0 rfl) ?_
  refine va_get (D := D) (ci := 3) (v := .int (nI w0)) (C := RX3) (T := TX3) (N := 10) hx hb hts inX3 hown hK.1 hI.2.1 0 rfl rfl 5 (by decide) (hts _ k427) (fun _ h9 => h9) rfl dX3_queue_6 ?_
  refine lv_bipush (v := nI 8) hx hb dX3_queue_9 (by decide) ?_
  refine nb_ne (tgt := 16) hx hb dX3_queue_11 (by decide) (by omega) (by omega) (fun c11 => ?_) (fun c11 => ?_)
  · refine lv_aload_n hx hb dX3_queue_16 rfl (lv_at hl 0 rfl) ?_
    refine va_get (D := D) (ci := 3) (v := .ref (b 5)) (C := RX3) (T := TX3) (N := 10) hx hb hts inX3 hown hK.1 hI.2.1 0 rfl rfl 6 (by decide) (hts _ k428) (fun _ h9 => h9) rfl dX3_queue_17 ?_
    refine lv_iconst (v := nI 5) hx hb dX3_queue_20 (by decide) ?_
    refine lv_aload_n hx hb dX3_queue_21 rfl (lv_at hl 0 rfl) ?_
    refine va_get (D := D) (ci := 3) (v := .int (nI w0)) (C := RX3) (T := TX3) (N := 10) hx hb hts inX3 hown hK.1 hI.2.1 0 rfl rfl 5 (by decide) (hts _ k427) (fun _ h9 => h9) rfl dX3_queue_22 ?_
    refine lv_imul hx hb dX3_queue_25 ?_
    refine tp (pk_mul _ _) ?_
    refine lv_iload_n hx hb dX3_queue_26 rfl (lv_at hl 1 rfl) ?_
    refine ia_st (f := wa) (k := 5 * w0) hx hb hK hI 5 rfl dX3_queue_27 (by omega) (by decide) (fun H locs hI => ?_)
    have hI : wi D z (Ar z) (mw b cI cZ (nI t) th vs kt kv (nI w0) (upd wa (5 * w0) kind) fl (nI 0) ch X) s H locs := hI
    refine lv_aload_n hx hb dX3_queue_28 rfl (lv_at hl 0 rfl) ?_
    refine va_get (D := D) (ci := 3) (v := .ref (b 5)) (C := RX3) (T := TX3) (N := 10) hx hb hts inX3 hown hK.1 hI.2.1 0 rfl rfl 6 (by decide) (hts _ k428) (fun _ h9 => h9) rfl dX3_queue_29 ?_
    refine lv_iconst (v := nI 5) hx hb dX3_queue_32 (by decide) ?_
    refine lv_aload_n hx hb dX3_queue_33 rfl (lv_at hl 0 rfl) ?_
    refine va_get (D := D) (ci := 3) (v := .int (nI w0)) (C := RX3) (T := TX3) (N := 10) hx hb hts inX3 hown hK.1 hI.2.1 0 rfl rfl 5 (by decide) (hts _ k427) (fun _ h9 => h9) rfl dX3_queue_34 ?_
    refine lv_imul hx hb dX3_queue_37 ?_
    refine tp (pk_mul _ _) ?_
    refine lv_iconst (v := nI 1) hx hb dX3_queue_38 (by decide) ?_
    refine lv_iadd hx hb dX3_queue_39 ?_
    refine tp (nI_add _ _) ?_
    refine lv_iload_n hx hb dX3_queue_40 rfl (lv_at hl 2 rfl) ?_
    refine ia_st (f := upd wa (5 * w0) kind) (k := 5 * w0 + 1) hx hb hK hI 5 rfl dX3_queue_41 (by omega) (by decide) (fun H locs hI => ?_)
    have hI : wi D z (Ar z) (mw b cI cZ (nI t) th vs kt kv (nI w0) (upd (upd wa (5 * w0) kind) (5 * w0 + 1) key) fl (nI 0) ch X) s H locs := hI
    refine lv_aload_n hx hb dX3_queue_42 rfl (lv_at hl 0 rfl) ?_
    refine va_get (D := D) (ci := 3) (v := .ref (b 5)) (C := RX3) (T := TX3) (N := 10) hx hb hts inX3 hown hK.1 hI.2.1 0 rfl rfl 6 (by decide) (hts _ k428) (fun _ h9 => h9) rfl dX3_queue_43 ?_
    refine lv_iconst (v := nI 5) hx hb dX3_queue_46 (by decide) ?_
    refine lv_aload_n hx hb dX3_queue_47 rfl (lv_at hl 0 rfl) ?_
    refine va_get (D := D) (ci := 3) (v := .int (nI w0)) (C := RX3) (T := TX3) (N := 10) hx hb hts inX3 hown hK.1 hI.2.1 0 rfl rfl 5 (by decide) (hts _ k427) (fun _ h9 => h9) rfl dX3_queue_48 ?_
    refine lv_imul hx hb dX3_queue_51 ?_
    refine tp (pk_mul _ _) ?_
    refine lv_iconst (v := nI 2) hx hb dX3_queue_52 (by decide) ?_
    refine lv_iadd hx hb dX3_queue_53 ?_
    refine tp (nI_add _ _) ?_
    refine lv_iload_n hx hb dX3_queue_54 rfl (lv_at hl 3 rfl) ?_
    refine ia_st (f := upd (upd wa (5 * w0) kind) (5 * w0 + 1) key) (k := 5 * w0 + 2) hx hb hK hI 5 rfl dX3_queue_55 (by omega) (by decide) (fun H locs hI => ?_)
    have hI : wi D z (Ar z) (mw b cI cZ (nI t) th vs kt kv (nI w0) (upd (upd (upd wa (5 * w0) kind) (5 * w0 + 1) key) (5 * w0 + 2) v) fl (nI 0) ch X) s H locs := hI
    refine lv_aload_n hx hb dX3_queue_56 rfl (lv_at hl 0 rfl) ?_
    refine va_get (D := D) (ci := 3) (v := .ref (b 5)) (C := RX3) (T := TX3) (N := 10) hx hb hts inX3 hown hK.1 hI.2.1 0 rfl rfl 6 (by decide) (hts _ k428) (fun _ h9 => h9) rfl dX3_queue_57 ?_
    refine lv_iconst (v := nI 5) hx hb dX3_queue_60 (by decide) ?_
    refine lv_aload_n hx hb dX3_queue_61 rfl (lv_at hl 0 rfl) ?_
    refine va_get (D := D) (ci := 3) (v := .int (nI w0)) (C := RX3) (T := TX3) (N := 10) hx hb hts inX3 hown hK.1 hI.2.1 0 rfl rfl 5 (by decide) (hts _ k427) (fun _ h9 => h9) rfl dX3_queue_62 ?_
    refine lv_imul hx hb dX3_queue_65 ?_
    refine tp (pk_mul _ _) ?_
    refine lv_iconst (v := nI 3) hx hb dX3_queue_66 (by decide) ?_
    refine lv_iadd hx hb dX3_queue_67 ?_
    refine tp (nI_add _ _) ?_
    refine lv_iload hx hb dX3_queue_68 (lv_at hl 4 rfl) ?_
    refine ia_st (f := upd (upd (upd wa (5 * w0) kind) (5 * w0 + 1) key) (5 * w0 + 2) v) (k := 5 * w0 + 3) hx hb hK hI 5 rfl dX3_queue_70 (by omega) (by decide) (fun H locs hI => ?_)
    have hI : wi D z (Ar z) (mw b cI cZ (nI t) th vs kt kv (nI w0) (upd (upd (upd (upd wa (5 * w0) kind) (5 * w0 + 1) key) (5 * w0 + 2) v) (5 * w0 + 3) fr) fl (nI 0) ch X) s H locs := hI
    refine lv_aload_n hx hb dX3_queue_71 rfl (lv_at hl 0 rfl) ?_
    refine va_get (D := D) (ci := 3) (v := .ref (b 5)) (C := RX3) (T := TX3) (N := 10) hx hb hts inX3 hown hK.1 hI.2.1 0 rfl rfl 6 (by decide) (hts _ k428) (fun _ h9 => h9) rfl dX3_queue_72 ?_
    refine lv_iconst (v := nI 5) hx hb dX3_queue_75 (by decide) ?_
    refine lv_aload_n hx hb dX3_queue_76 rfl (lv_at hl 0 rfl) ?_
    refine va_get (D := D) (ci := 3) (v := .int (nI w0)) (C := RX3) (T := TX3) (N := 10) hx hb hts inX3 hown hK.1 hI.2.1 0 rfl rfl 5 (by decide) (hts _ k427) (fun _ h9 => h9) rfl dX3_queue_77 ?_
    refine lv_imul hx hb dX3_queue_80 ?_
    refine tp (pk_mul _ _) ?_
    refine lv_iconst (v := nI 4) hx hb dX3_queue_81 (by decide) ?_
    refine lv_iadd hx hb dX3_queue_82 ?_
    refine tp (nI_add _ _) ?_
    refine lv_iload hx hb dX3_queue_83 (lv_at hl 5 rfl) ?_
    refine ia_st (f := upd (upd (upd (upd wa (5 * w0) kind) (5 * w0 + 1) key) (5 * w0 + 2) v) (5 * w0 + 3) fr) (k := 5 * w0 + 4) hx hb hK hI 5 rfl dX3_queue_85 (by omega) (by decide) (fun H locs hI => ?_)
    have hI : wi D z (Ar z) (mw b cI cZ (nI t) th vs kt kv (nI w0) (upd (upd (upd (upd (upd wa (5 * w0) kind) (5 * w0 + 1) key) (5 * w0 + 2) v) (5 * w0 + 3) fr) (5 * w0 + 4) to) fl (nI 0) ch X) s H locs := hI
    refine lv_aload_n hx hb dX3_queue_86 rfl (lv_at hl 0 rfl) ?_
    refine lv_dup hx hb dX3_queue_87 rfl ?_
    refine va_get (D := D) (ci := 3) (v := .int (nI w0)) (C := RX3) (T := TX3) (N := 10) hx hb hts inX3 hown hK.1 hI.2.1 0 rfl rfl 5 (by decide) (hts _ k427) (fun _ h9 => h9) rfl dX3_queue_88 ?_
    refine lv_iconst (v := nI 1) hx hb dX3_queue_91 (by decide) ?_
    refine lv_iadd hx hb dX3_queue_92 ?_
    refine tp (nI_add _ _) ?_
    refine va_put (D := D) (ci := 3) (v := .int (nI (w0 + 1))) (ty := .int) (C := RX3) (T := TX3) (N := 10) hx hb hts inX3 tyX3 tyX3_ok nmX3 hown hK.1 hI.2.1 hI.2.2.1 hI.2.2.2 0 rfl rfl 5 (by decide) (hts _ k427) (fun _ h9 => h9) rfl (by decide +kernel) rfl rfl (Nat.le_of_ble_eq_true rfl) dX3_queue_93 (fun H locs hP hD hS => ?_)
    have hI : wi D z (Ar z) (mw b cI cZ (nI t) th vs kt kv (nI (w0 + 1)) (upd (upd (upd (upd (upd wa (5 * w0) kind) (5 * w0 + 1) key) (5 * w0 + 2) v) (5 * w0 + 3) fr) (5 * w0 + 4) to) fl (nI 0) ch X) s H locs := ⟨hI.1, hP, hD, hS⟩
    refine lv_iconst (v := nI 1) hx hb dX3_queue_96 (by decide) ?_
    exact hret (w0 + 1, upd (upd (upd (upd (upd wa (5 * w0) kind) (5 * w0 + 1) key) (5 * w0 + 2) v) (5 * w0 + 3) fr) (5 * w0 + 4) to) true hI dX3_queue_97 rfl ⟨by rw [decide_eq_true (by omega)], fun _ => ⟨rfl, qIs_put hq⟩, fun q9 => absurd (show w0 < 8 by omega) q9⟩
  · refine lv_iconst (v := nI 0) hx hb dX3_queue_14 (by decide) ?_
    exact hret (w0, wa) false hI dX3_queue_15 rfl ⟨by rw [decide_eq_false (by omega)], fun q9 => absurd q9 (by omega), fun _ => rfl⟩
set_option maxHeartbeats 4000000 in
set_option maxRecDepth 100000 in
theorem c_X3_commit {l : Launch} {D : va_G} {cI cZ cJ : ClassId} {z : Nat} {b : Nat → Nat} {X : va_W} {t : Nat} {th : Nat → Bool} {vs : Nat → Int32} {kt : Nat → Bool} {kv : Nat → Int32} {wa : Nat → Int32} {fl tr ch : Int32} {S : Sta} (hM : mAbs S th vs t) (ht : t < 40) {w0 : Nat} {q : Nat → Int32} (hw : w0 ≤ 8) (hq : qIs q w0 wa) : muM (S := (Nat → Bool) × (Nat → Int32) × (Nat → Bool) × (Nat → Int32) × Int32) l yX3_commit cX3_commit 5 (some .int) 7 171 [.ref (b 0)] (pw D cI cZ cJ z (mw b cI cZ (nI t) th vs kt kv (nI w0) wa fl tr ch X)) D z (fun u => mw b cI cZ (nI t) (u.1) (u.2.1) (u.2.2.1) (u.2.2.2.1) (nI 0) wa (if (cmt t q w0 0 S 0).1 = 0 then (-1 : Int32) else nI (cmt t q w0 0 S 0).2.1) (nI ((cmt t q w0 0 S 0).1)) (u.2.2.2.2) X) (fun r u => mAbs (if (cmt t q w0 0 S 0).1 = 0 then (cmt t q w0 0 S 0).2.2.1 else S) u.1 u.2.1 t ∧ ((cmt t q w0 0 S 0).1 = 0 → r = nI (cmt t q w0 0 S 0).2.2.2)) := by
  refine bd_mu (by decide) (Nat.le_of_ble_eq_true rfl) ?_
  intro p e s m args below meth c Q hF hpw hret ls hl
  obtain ⟨hx, hb, hml, hown, hts, hr, hlocks⟩ := id hF
  have hK := hpw.2.2.2
  have hI : wi D z (Ar z) (mw b cI cZ (nI t) th vs kt kv (nI w0) wa fl tr ch X) s s.heap [] := hpw.wi
  have hl : lv_has ls 5 [(0, .ref (b 0))] := hl
  suffices hgo : ∀ (H : Heap) (locs : List Loc), wi D z (Ar z) (mw b cI cZ (nI t) th vs kt kv (nI w0) wa fl tr ch X) s H locs → ∀ ls : Array Slot, lv_has ls 5 [(0, .ref (b 0))] → W p l e (rmv 7 171) s m args below meth c H locs 0 0 Q (F0 m 0 ls []) from hgo _ _ hI ls hl
  intro H locs hI ls hl
  refine lv_aload_n hx hb dX3_commit_0 rfl (lv_at hl 0 rfl) ?_
  refine lv_iconst (v := nI 0) hx hb dX3_commit_1 (by decide) ?_
  refine va_put (D := D) (ci := 3) (v := .int (nI 0)) (ty := .int) (C := RX3) (T := TX3) (N := 10) hx hb hts inX3 tyX3 tyX3_ok nmX3 hown hK.1 hI.2.1 hI.2.2.1 hI.2.2.2 0 rfl rfl 8 (by decide) (hts _ k430) (fun _ h9 => h9) rfl (by decide +kernel) rfl rfl (Nat.le_of_ble_eq_true rfl) dX3_commit_2 (fun H locs hP hD hS => ?_)
  have hI : wi D z (Ar z) (mw b cI cZ (nI t) th vs kt kv (nI w0) wa fl (nI 0) ch X) s H locs := ⟨hI.1, hP, hD, hS⟩
  refine lv_aload_n hx hb dX3_commit_5 rfl (lv_at hl 0 rfl) ?_
  refine k_mv (run_v (As := []) (rest := []) hF hK hI (c_X3_keep ht) cf_X3_keep k474 0 3 rfl rfl ⟨Nat.le_of_ble_eq_true rfl, Nat.le_of_ble_eq_true rfl⟩ ⟨rfl, rfl⟩ ⟨Nat.le_of_ble_eq_true rfl, Nat.le_of_ble_eq_true rfl⟩ rfl hl.1 rfl (Nat.le_of_ble_eq_true rfl) dX3_commit_6) hI (fun u6 hp6 H locs hI => ?_)
  obtain ⟨kt6, kv6⟩ := u6
  have hI : wi D z (Ar z) (mw b cI cZ (nI t) th vs kt6 kv6 (nI w0) wa fl (nI 0) ch X) s H locs := hI
  refine lv_aload_n hx hb dX3_commit_9 rfl (lv_at hl 0 rfl) ?_
  refine va_get (D := D) (ci := 3) (v := .int (nI w0)) (C := RX3) (T := TX3) (N := 10) hx hb hts inX3 hown hK.1 hI.2.1 0 rfl rfl 5 (by decide) (hts _ k427) (fun _ h9 => h9) rfl dX3_commit_10 ?_
  refine lv_istore_n (lv' := [(1, .int (nI w0)), (0, .ref (b 0))]) hx hb dX3_commit_13 rfl hl (by decide) rfl (fun ls hl => ?_)
  refine lv_iconst (v := nI 0) hx hb dX3_commit_14 (by decide) ?_
  refine lv_istore_n (lv' := [(2, .int (nI 0)), (1, .int (nI w0)), (0, .ref (b 0))]) hx hb dX3_commit_15 rfl hl (by decide) rfl (fun ls hl => ?_)
  refine lv_aload_n hx hb dX3_commit_16 rfl (lv_at hl 2 rfl) ?_
  refine lv_iconst (v := nI 0) hx hb dX3_commit_17 (by decide) ?_
  refine va_put (D := D) (ci := 3) (v := .int (nI 0)) (ty := .int) (C := RX3) (T := TX3) (N := 10) hx hb hts inX3 tyX3 tyX3_ok nmX3 hown hK.1 hI.2.1 hI.2.2.1 hI.2.2.2 0 rfl rfl 5 (by decide) (hts _ k427) (fun _ h9 => h9) rfl (by decide +kernel) rfl rfl (Nat.le_of_ble_eq_true rfl) dX3_commit_18 (fun H locs hP hD hS => ?_)
  have hI : wi D z (Ar z) (mw b cI cZ (nI t) th vs kt6 kv6 (nI 0) wa fl (nI 0) ch X) s H locs := ⟨hI.1, hP, hD, hS⟩
  refine lv_aload_n hx hb dX3_commit_21 rfl (lv_at hl 2 rfl) ?_
  refine lv_iconst (v := (-1 : Int32)) hx hb dX3_commit_22 (by decide) ?_
  refine va_put (D := D) (ci := 3) (v := .int ((-1 : Int32))) (ty := .int) (C := RX3) (T := TX3) (N := 10) hx hb hts inX3 tyX3 tyX3_ok nmX3 hown hK.1 hI.2.1 hI.2.2.1 hI.2.2.2 0 rfl rfl 7 (by decide) (hts _ k429) (fun _ h9 => h9) rfl (by decide +kernel) rfl rfl (Nat.le_of_ble_eq_true rfl) dX3_commit_23 (fun H locs hP hD hS => ?_)
  have hI : wi D z (Ar z) (mw b cI cZ (nI t) th vs kt6 kv6 (nI 0) wa ((-1 : Int32)) (nI 0) ch X) s H locs := ⟨hI.1, hP, hD, hS⟩
  refine lv_iconst (v := nI 0) hx hb dX3_commit_26 (by decide) ?_
  refine lv_istore_n (lv' := [(3, .int (nI 0)), (2, .int (nI 0)), (1, .int (nI w0)), (0, .ref (b 0))]) hx hb dX3_commit_27 rfl hl (by decide) rfl (fun ls hl => ?_)
  have J28 : ∀ (n28_ : Nat) (x : Nat) (m2 : Nat) (Sk : Sta) (tb : Nat → Bool) (vb : Nat → Int32) (cb : Int32) (hx1 : x ≤ w0) (hMb : mAbs Sk tb vb t) (hfm : fm t th vs tb vb) (hc : cmt t q w0 0 S 0 = cmt t q (w0 - x) x Sk m2) (hm2 : m2 ≤ 32 * x) (hm28 : w0 < x + n28_) (H : Heap) (locs : List Loc), wi D z (Ar z) (mw b cI cZ (nI t) tb vb kt6 kv6 (nI 0) wa ((-1 : Int32)) (nI 0) cb X) s H locs → ∀ ls : Array Slot, lv_has ls 5 [(0, .ref (b 0)), (1, .int (nI w0)), (2, .int (nI m2)), (3, .int (nI x))] → W p l e (rmv 7 171) s m args below meth c H locs 0 0 Q (F0 m 28 ls []) := by
    intro n28_
    induction n28_ with
    | zero => intro x m2 Sk tb vb cb hx1 hMb hfm hc hm2 hm28; exact absurd hm28 (by omega)
    | succ n28_ ih28 =>
      intro x m2 Sk tb vb cb hx1 hMb hfm hc hm2 hm28 H locs hI ls hl
      refine lv_iload_n hx hb dX3_commit_28 rfl (lv_at hl 3 rfl) ?_
      refine lv_iload_n hx hb dX3_commit_29 rfl (lv_at hl 1 rfl) ?_
      refine nb_ge (tgt := 121) hx hb dX3_commit_30 (by decide) (by omega) (by omega) (fun c30 => ?_) (fun c30 => ?_)
      · refine lv_iload_n hx hb dX3_commit_121 rfl (lv_at hl 2 rfl) ?_
        exact hret (tb, vb, kt6, kv6, cb) (by rw [hc, show w0 - x = 0 by omega]; exact hI) dX3_commit_122 ⟨by rw [hc, show w0 - x = 0 by omega]; exact hMb, fun _ => by rw [hc, show w0 - x = 0 by omega]; rfl⟩
      · refine lv_aload_n hx hb dX3_commit_33 rfl (lv_at hl 0 rfl) ?_
        refine lv_aload_n hx hb dX3_commit_34 rfl (lv_at hl 0 rfl) ?_
        refine va_get (D := D) (ci := 3) (v := .ref (b 5)) (C := RX3) (T := TX3) (N := 10) hx hb hts inX3 hown hK.1 hI.2.1 0 rfl rfl 6 (by decide) (hts _ k428) (fun _ h9 => h9) rfl dX3_commit_35 ?_
        refine lv_iconst (v := nI 5) hx hb dX3_commit_38 (by decide) ?_
        refine lv_iload_n hx hb dX3_commit_39 rfl (lv_at hl 3 rfl) ?_
        refine lv_imul hx hb dX3_commit_40 ?_
        refine tp (pk_mul _ _) ?_
        refine ia_ld (f := wa) (k := 5 * x) hx hb hK hI 5 rfl dX3_commit_41 (by omega) (by decide) ?_
        refine lv_aload_n hx hb dX3_commit_42 rfl (lv_at hl 0 rfl) ?_
        refine va_get (D := D) (ci := 3) (v := .ref (b 5)) (C := RX3) (T := TX3) (N := 10) hx hb hts inX3 hown hK.1 hI.2.1 0 rfl rfl 6 (by decide) (hts _ k428) (fun _ h9 => h9) rfl dX3_commit_43 ?_
        refine lv_iconst (v := nI 5) hx hb dX3_commit_46 (by decide) ?_
        refine lv_iload_n hx hb dX3_commit_47 rfl (lv_at hl 3 rfl) ?_
        refine lv_imul hx hb dX3_commit_48 ?_
        refine tp (pk_mul _ _) ?_
        refine lv_iconst (v := nI 1) hx hb dX3_commit_49 (by decide) ?_
        refine lv_iadd hx hb dX3_commit_50 ?_
        refine tp (nI_add _ _) ?_
        refine ia_ld (f := wa) (k := 5 * x + 1) hx hb hK hI 5 rfl dX3_commit_51 (by omega) (by decide) ?_
        refine lv_aload_n hx hb dX3_commit_52 rfl (lv_at hl 0 rfl) ?_
        refine va_get (D := D) (ci := 3) (v := .ref (b 5)) (C := RX3) (T := TX3) (N := 10) hx hb hts inX3 hown hK.1 hI.2.1 0 rfl rfl 6 (by decide) (hts _ k428) (fun _ h9 => h9) rfl dX3_commit_53 ?_
        refine lv_iconst (v := nI 5) hx hb dX3_commit_56 (by decide) ?_
        refine lv_iload_n hx hb dX3_commit_57 rfl (lv_at hl 3 rfl) ?_
        refine lv_imul hx hb dX3_commit_58 ?_
        refine tp (pk_mul _ _) ?_
        refine lv_iconst (v := nI 2) hx hb dX3_commit_59 (by decide) ?_
        refine lv_iadd hx hb dX3_commit_60 ?_
        refine tp (nI_add _ _) ?_
        refine ia_ld (f := wa) (k := 5 * x + 2) hx hb hK hI 5 rfl dX3_commit_61 (by omega) (by decide) ?_
        refine lv_aload_n hx hb dX3_commit_62 rfl (lv_at hl 0 rfl) ?_
        refine va_get (D := D) (ci := 3) (v := .ref (b 5)) (C := RX3) (T := TX3) (N := 10) hx hb hts inX3 hown hK.1 hI.2.1 0 rfl rfl 6 (by decide) (hts _ k428) (fun _ h9 => h9) rfl dX3_commit_63 ?_
        refine lv_iconst (v := nI 5) hx hb dX3_commit_66 (by decide) ?_
        refine lv_iload_n hx hb dX3_commit_67 rfl (lv_at hl 3 rfl) ?_
        refine lv_imul hx hb dX3_commit_68 ?_
        refine tp (pk_mul _ _) ?_
        refine lv_iconst (v := nI 3) hx hb dX3_commit_69 (by decide) ?_
        refine lv_iadd hx hb dX3_commit_70 ?_
        refine tp (nI_add _ _) ?_
        refine ia_ld (f := wa) (k := 5 * x + 3) hx hb hK hI 5 rfl dX3_commit_71 (by omega) (by decide) ?_
        refine lv_aload_n hx hb dX3_commit_72 rfl (lv_at hl 0 rfl) ?_
        refine va_get (D := D) (ci := 3) (v := .ref (b 5)) (C := RX3) (T := TX3) (N := 10) hx hb hts inX3 hown hK.1 hI.2.1 0 rfl rfl 6 (by decide) (hts _ k428) (fun _ h9 => h9) rfl dX3_commit_73 ?_
        refine lv_iconst (v := nI 5) hx hb dX3_commit_76 (by decide) ?_
        refine lv_iload_n hx hb dX3_commit_77 rfl (lv_at hl 3 rfl) ?_
        refine lv_imul hx hb dX3_commit_78 ?_
        refine tp (pk_mul _ _) ?_
        refine lv_iconst (v := nI 4) hx hb dX3_commit_79 (by decide) ?_
        refine lv_iadd hx hb dX3_commit_80 ?_
        refine tp (nI_add _ _) ?_
        refine ia_ld (f := wa) (k := 5 * x + 4) hx hb hK hI 5 rfl dX3_commit_81 (by omega) (by decide) ?_
        have ww0 : wa (5 * x) = q (5 * x) := hq _ (by omega)
        have ww1 : wa (5 * x + 1) = q (5 * x + 1) := hq _ (by omega)
        have ww2 : wa (5 * x + 2) = q (5 * x + 2) := hq _ (by omega)
        have ww3 : wa (5 * x + 3) = q (5 * x + 3) := hq _ (by omega)
        have ww4 : wa (5 * x + 4) = q (5 * x + 4) := hq _ (by omega)
        rw [ww0, ww1, ww2, ww3, ww4]
        refine k_mu (run_v (As := [.int (q (5 * x)), .int (q (5 * x + 1)), .int (q (5 * x + 2)), .int (q (5 * x + 3)), .int (q (5 * x + 4))]) (rest := []) hF hK hI (c_X3_perform hMb ht) cf_X3_perform k478 0 3 rfl rfl ⟨Nat.le_of_ble_eq_true rfl, Nat.le_of_ble_eq_true rfl⟩ ⟨rfl, rfl⟩ ⟨Nat.le_of_ble_eq_true rfl, Nat.le_of_ble_eq_true rfl⟩ rfl hl.1 rfl (Nat.le_of_ble_eq_true rfl) dX3_commit_82) hI (fun r82 u82 hp82 H locs hI => ?_)
        obtain ⟨e82, fm82, pm82⟩ := hp82
        subst e82
        obtain ⟨th82, vs82, ch82⟩ := u82
        have hI : wi D z (Ar z) (mw b cI cZ (nI t) th82 vs82 kt6 kv6 (nI 0) wa ((-1 : Int32)) (nI 0) ch82 X) s H locs := hI
        refine lv_istore (lv' := [(4, .int (nI (pcode Sk t (q (5 * x)) (q (5 * x + 1)) (q (5 * x + 2)) (q (5 * x + 3)) (q (5 * x + 4))))), (0, .ref (b 0)), (1, .int (nI w0)), (2, .int (nI m2)), (3, .int (nI x))]) hx hb dX3_commit_85 hl (by decide) rfl (fun ls hl => ?_)
        refine lv_iload hx hb dX3_commit_87 (lv_at hl 0 rfl) ?_
        have g1 := pcode_le Sk t (q (5 * x)) (q (5 * x + 1)) (q (5 * x + 2)) (q (5 * x + 3)) (q (5 * x + 4))
        refine nz_le (tgt := 108) hx hb dX3_commit_89 (by decide) (by omega) (fun c89 => ?_) (fun c89 => ?_)
        · refine lv_iload_n hx hb dX3_commit_108 rfl (lv_at hl 3 rfl) ?_
          refine lv_aload_n hx hb dX3_commit_109 rfl (lv_at hl 1 rfl) ?_
          refine va_get (D := D) (ci := 3) (v := .int (ch82)) (C := RX3) (T := TX3) (N := 10) hx hb hts inX3 hown hK.1 hI.2.1 0 rfl rfl 9 (by decide) (hts _ k431) (fun _ h9 => h9) rfl dX3_commit_110 ?_
          refine tp (pm82 c89).2 ?_
          refine lv_iadd hx hb dX3_commit_113 ?_
          refine tp (nI_add _ _) ?_
          refine lv_istore_n (lv' := [(2, .int (nI (m2 + (pN Sk t (q (5 * x)) (q (5 * x + 1)) (q (5 * x + 2)) (q (5 * x + 3)) (q (5 * x + 4)))))), (4, .int (nI (pcode Sk t (q (5 * x)) (q (5 * x + 1)) (q (5 * x + 2)) (q (5 * x + 3)) (q (5 * x + 4))))), (0, .ref (b 0)), (1, .int (nI w0)), (3, .int (nI x))]) hx hb dX3_commit_114 rfl hl (by decide) rfl (fun ls hl => ?_)
          refine lv_iinc (v := nI (x + 1)) (lv' := [(3, .int (nI (x + 1))), (2, .int (nI (m2 + (pN Sk t (q (5 * x)) (q (5 * x + 1)) (q (5 * x + 2)) (q (5 * x + 3)) (q (5 * x + 4)))))), (4, .int (nI (pcode Sk t (q (5 * x)) (q (5 * x + 1)) (q (5 * x + 2)) (q (5 * x + 3)) (q (5 * x + 4))))), (0, .ref (b 0)), (1, .int (nI w0))]) hx hb dX3_commit_115 hl (k := 4) rfl (inc_n _ 1) (by decide) rfl (fun ls hl => ?_)
          refine lv_goto (tgt := 28) hx hb dX3_commit_118 (by decide) ?_
          exact ih28 (x + 1) (m2 + (pN Sk t (q (5 * x)) (q (5 * x + 1)) (q (5 * x + 2)) (q (5 * x + 3)) (q (5 * x + 4)))) _ _ _ _ (by omega) (pm82 c89).1 (fm.tr2 hfm fm82) (hc.trans (cmt_go (by omega) c89)) (by have g5 := pN_le Sk t (q (5 * x)) (q (5 * x + 1)) (q (5 * x + 2)) (q (5 * x + 3)) (q (5 * x + 4)) c89; omega) (by omega) H locs hI ls (lv_sub hl [3, 4, 1, 0] rfl)
        · refine lv_aload_n hx hb dX3_commit_92 rfl (lv_at hl 1 rfl) ?_
          refine k_mv (run_v (As := []) (rest := []) hF hK hI (c_X3_goBack ht) cf_X3_goBack k523 0 3 rfl rfl ⟨Nat.le_of_ble_eq_true rfl, Nat.le_of_ble_eq_true rfl⟩ ⟨rfl, rfl⟩ ⟨Nat.le_of_ble_eq_true rfl, Nat.le_of_ble_eq_true rfl⟩ rfl hl.1 rfl (Nat.le_of_ble_eq_true rfl) dX3_commit_93) hI (fun u93 hp93 H locs hI => ?_)
          obtain ⟨th93, vs93⟩ := u93
          have hI : wi D z (Ar z) (mw b cI cZ (nI t) th93 vs93 kt6 kv6 (nI 0) wa ((-1 : Int32)) (nI 0) ch82 X) s H locs := hI
          refine lv_aload_n hx hb dX3_commit_96 rfl (lv_at hl 1 rfl) ?_
          refine lv_iload_n hx hb dX3_commit_97 rfl (lv_at hl 4 rfl) ?_
          refine va_put (D := D) (ci := 3) (v := .int (nI x)) (ty := .int) (C := RX3) (T := TX3) (N := 10) hx hb hts inX3 tyX3 tyX3_ok nmX3 hown hK.1 hI.2.1 hI.2.2.1 hI.2.2.2 0 rfl rfl 7 (by decide) (hts _ k429) (fun _ h9 => h9) rfl (by decide +kernel) rfl rfl (Nat.le_of_ble_eq_true rfl) dX3_commit_98 (fun H locs hP hD hS => ?_)
          have hI : wi D z (Ar z) (mw b cI cZ (nI t) th93 vs93 kt6 kv6 (nI 0) wa (nI x) (nI 0) ch82 X) s H locs := ⟨hI.1, hP, hD, hS⟩
          refine lv_aload_n hx hb dX3_commit_101 rfl (lv_at hl 1 rfl) ?_
          refine lv_iload hx hb dX3_commit_102 (lv_at hl 0 rfl) ?_
          refine k_mu (run_v (As := [.int (nI (pcode Sk t (q (5 * x)) (q (5 * x + 1)) (q (5 * x + 2)) (q (5 * x + 3)) (q (5 * x + 4))))]) (rest := []) hF hK hI (c_X3_fail ) cf_X3_fail k462 0 3 rfl rfl ⟨Nat.le_of_ble_eq_true rfl, Nat.le_of_ble_eq_true rfl⟩ ⟨rfl, rfl⟩ ⟨Nat.le_of_ble_eq_true rfl, Nat.le_of_ble_eq_true rfl⟩ rfl hl.1 rfl (Nat.le_of_ble_eq_true rfl) dX3_commit_104) hI (fun r104 u104 hp104 H locs hI => ?_)
          subst hp104
          have hI : wi D z (Ar z) (mw b cI cZ (nI t) th93 vs93 kt6 kv6 (nI 0) wa (nI x) (nI (pcode Sk t (q (5 * x)) (q (5 * x + 1)) (q (5 * x + 2)) (q (5 * x + 3)) (q (5 * x + 4)))) ch82 X) s H locs := hI
          exact hret (th93, vs93, kt6, kv6, ch82) (by rw [hc, cmt_no (by omega) (by omega), if_neg (by show ¬ pcode _ _ _ _ _ _ _ = 0; omega)]; exact hI) dX3_commit_107 ⟨by rw [hc, cmt_no (by omega) (by omega), if_neg (by show ¬ pcode _ _ _ _ _ _ _ = 0; omega)]; exact mAbs_back hM hp6.1 hp6.2 (fm.tr2 hfm fm82).1 (fm.tr2 hfm fm82).2 hp93.1 hp93.2, fun q9 => absurd q9 (by rw [hc, cmt_no (by omega) (by omega)]; show ¬ pcode _ _ _ _ _ _ _ = 0; omega)⟩
  exact J28 (w0 + 1) 0 0 S th vs ch (by omega) hM fm.rf rfl (by omega) (by omega) H locs hI ls (lv_sub hl [3, 2, 1, 0] rfl)
