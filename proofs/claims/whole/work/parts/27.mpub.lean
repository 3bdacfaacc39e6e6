set_option maxHeartbeats 4000000 in
set_option maxRecDepth 100000 in
theorem c_X3_value {l : Launch} {D : va_G} {cI cZ cJ : ClassId} {z : Nat} {b : Nat → Nat} {X : va_W} {t : Nat} {th : Nat → Bool} {vs : Nat → Int32} {kt : Nat → Bool} {kv : Nat → Int32} {wt : Int32} {wa : Nat → Int32} {fl tr ch : Int32} {S : Sta} (hM : mAbs S th vs t) (ht : t < 40) {key day time : Int32} : muM (S := Nat) l yX3_value cX3_value 5 (some .int) 1 22 [.ref (b 0), .int (key), .int (day), .int (time)] (pw D cI cZ cJ z (mw b cI cZ (nI t) th vs kt kv wt wa fl tr ch X)) D z (fun u => mw b cI cZ (nI t) th vs kt kv wt wa fl (nI u) ch X) (fun r u => u = vCode S t key day time ∧ (u = 0 → r = vVal S key day time)) := by
  refine bd_mu (by decide) (Nat.le_of_ble_eq_true rfl) ?_
  intro p e s m args below meth c Q hF hpw hret ls hl
  obtain ⟨hx, hb, hml, hown, hts, hr, hlocks⟩ := id hF
  have hK := hpw.2.2.2
  have hI : wi D z (Ar z) (mw b cI cZ (nI t) th vs kt kv wt wa fl tr ch X) s s.heap [] := hpw.wi
  have hl : lv_has ls 5 [(0, .ref (b 0)), (1, .int (key)), (2, .int (day)), (3, .int (time))] := hl
  suffices hgo : ∀ (H : Heap) (locs : List Loc), wi D z (Ar z) (mw b cI cZ (nI t) th vs kt kv wt wa fl tr ch X) s H locs → ∀ ls : Array Slot, lv_has ls 5 [(0, .ref (b 0)), (1, .int (key)), (2, .int (day)), (3, .int (time))] → W p l e (rmv 1 22) s m args below meth c H locs 0 0 Q (F0 m 0 ls []) from hgo _ _ hI ls hl
  intro H locs hI ls hl
  refine lv_aload_n hx hb dX3_value_0 rfl (lv_at hl 0 rfl) ?_
  refine lv_iconst (v := nI 0) hx hb dX3_value_1 (by decide) ?_
  refine va_put (D := D) (ci := 3) (v := .int (nI 0)) (ty := .int) (C := RX3) (T := TX3) (N := 10) hx hb hts inX3 tyX3 tyX3_ok nmX3 hown hK.1 hI.2.1 hI.2.2.1 hI.2.2.2 0 rfl rfl 8 (by decide) (hts _ k430) (fun _ h9 => h9) rfl (by decide +kernel) rfl rfl (Nat.le_of_ble_eq_true rfl) dX3_value_2 (fun H locs hP hD hS => ?_)
  have hI : wi D z (Ar z) (mw b cI cZ (nI t) th vs kt kv wt wa fl (nI 0) ch X) s H locs := ⟨hI.1, hP, hD, hS⟩
  refine lv_iload_n hx hb dX3_value_5 rfl (lv_at hl 1 rfl) ?_
  refine k_ro (run_s (As := [.int (key)]) (rest := []) hF (c_X3_isKey ) tt_blind (fun _ _ _ => trivial) cf_X3_isKey k482 ⟨Nat.le_of_ble_eq_true rfl, Nat.le_of_ble_eq_true rfl⟩ ⟨rfl, rfl⟩ ⟨Nat.le_of_ble_eq_true rfl, Nat.le_of_ble_eq_true rfl⟩ rfl hl.1 rfl (Nat.le_of_ble_eq_true rfl) dX3_value_6) hI (fun H locs hI => ?_)
  refine bz_eq (tgt := 27) hx hb dX3_value_9 (by decide) (fun c9 => ?_) (fun c9 => ?_)
  · refine lv_aload_n hx hb dX3_value_27 rfl (lv_at hl 0 rfl) ?_
    refine lv_iconst (v := nI 1) hx hb dX3_value_28 (by decide) ?_
    refine k_mu (run_v (As := [.int (nI 1)]) (rest := []) hF hK hI (c_X3_fail ) cf_X3_fail k462 0 3 rfl rfl ⟨Nat.le_of_ble_eq_true rfl, Nat.le_of_ble_eq_true rfl⟩ ⟨rfl, rfl⟩ ⟨Nat.le_of_ble_eq_true rfl, Nat.le_of_ble_eq_true rfl⟩ rfl hl.1 rfl (Nat.le_of_ble_eq_true rfl) dX3_value_29) hI (fun r29 u29 hp29 H locs hI => ?_)
    subst hp29
    have hI : wi D z (Ar z) (mw b cI cZ (nI t) th vs kt kv wt wa fl (nI 1) ch X) s H locs := hI
    exact hret 1 hI dX3_value_32 ⟨by unfold vCode; first | (simp [c9]; done) | (simp [c16]; done) | (simp [c24]; done), fun q9 => absurd q9 (by decide)⟩
  · refine lv_iload_n hx hb dX3_value_12 rfl (lv_at hl 2 rfl) ?_
    refine k_ro (run_s (As := [.int (day)]) (rest := []) hF (c_X3_isDay ) tt_blind (fun _ _ _ => trivial) cf_X3_isDay k543 ⟨Nat.le_of_ble_eq_true rfl, Nat.le_of_ble_eq_true rfl⟩ ⟨rfl, rfl⟩ ⟨Nat.le_of_ble_eq_true rfl, Nat.le_of_ble_eq_true rfl⟩ rfl hl.1 rfl (Nat.le_of_ble_eq_true rfl) dX3_value_13) hI (fun H locs hI => ?_)
    refine bz_eq (tgt := 27) hx hb dX3_value_16 (by decide) (fun c16 => ?_) (fun c16 => ?_)
    · refine lv_aload_n hx hb dX3_value_27 rfl (lv_at hl 0 rfl) ?_
      refine lv_iconst (v := nI 1) hx hb dX3_value_28 (by decide) ?_
      refine k_mu (run_v (As := [.int (nI 1)]) (rest := []) hF hK hI (c_X3_fail ) cf_X3_fail k462 0 3 rfl rfl ⟨Nat.le_of_ble_eq_true rfl, Nat.le_of_ble_eq_true rfl⟩ ⟨rfl, rfl⟩ ⟨Nat.le_of_ble_eq_true rfl, Nat.le_of_ble_eq_true rfl⟩ rfl hl.1 rfl (Nat.le_of_ble_eq_true rfl) dX3_value_29) hI (fun r29 u29 hp29 H locs hI => ?_)
      subst hp29
      have hI : wi D z (Ar z) (mw b cI cZ (nI t) th vs kt kv wt wa fl (nI 1) ch X) s H locs := hI
      exact hret 1 hI dX3_value_32 ⟨by unfold vCode; first | (simp [c9]; done) | (simp [c16]; done) | (simp [c24]; done), fun q9 => absurd q9 (by decide)⟩
    · refine lv_aload_n hx hb dX3_value_19 rfl (lv_at hl 0 rfl) ?_
      refine lv_iload_n hx hb dX3_value_20 rfl (lv_at hl 3 rfl) ?_
      refine k_ro (run_v (As := [.int (time)]) (rest := []) hF hK hI (c_X3_isTime ht) cf_X3_isTime k546 0 3 rfl rfl ⟨Nat.le_of_ble_eq_true rfl, Nat.le_of_ble_eq_true rfl⟩ ⟨rfl, rfl⟩ ⟨Nat.le_of_ble_eq_true rfl, Nat.le_of_ble_eq_true rfl⟩ rfl hl.1 rfl (Nat.le_of_ble_eq_true rfl) dX3_value_21) hI (fun H locs hI => ?_)
      refine bz_ne (tgt := 33) hx hb dX3_value_24 (by decide) (fun c24 => ?_) (fun c24 => ?_)
      · obtain ⟨ky, hky, rfl⟩ := okK_n c9
        obtain ⟨dy, hdy, rfl⟩ := okD_n c16
        obtain ⟨tm, htm, rfl⟩ := okT_n c24
        refine lv_iload_n hx hb dX3_value_33 rfl (lv_at hl 3 rfl) ?_
        refine lv_iload_n hx hb dX3_value_34 rfl (lv_at hl 1 rfl) ?_
        refine lv_iload_n hx hb dX3_value_35 rfl (lv_at hl 2 rfl) ?_
        refine k_ro (run_s (As := [.int (nI tm), .int (nI ky), .int (nI dy)]) (rest := []) hF (c_X3_place ) tt_blind (fun _ _ _ => trivial) cf_X3_place k492 ⟨Nat.le_of_ble_eq_true rfl, Nat.le_of_ble_eq_true rfl⟩ ⟨rfl, rfl⟩ ⟨Nat.le_of_ble_eq_true rfl, Nat.le_of_ble_eq_true rfl⟩ rfl hl.1 rfl (Nat.le_of_ble_eq_true rfl) dX3_value_36) hI (fun H locs hI => ?_)
        refine lv_istore (lv' := [(4, .int (nI (128 * tm + 32 * ky + dy))), (0, .ref (b 0)), (1, .int (nI ky)), (2, .int (nI dy)), (3, .int (nI tm))]) hx hb dX3_value_39 hl (by decide) rfl (fun ls hl => ?_)
        refine lv_aload_n hx hb dX3_value_41 rfl (lv_at hl 1 rfl) ?_
        refine va_get (D := D) (ci := 3) (v := .ref (b 1)) (C := RX3) (T := TX3) (N := 10) hx hb hts inX3 hown hK.1 hI.2.1 0 rfl rfl 1 (by decide) (hts _ k423) (fun _ h9 => h9) rfl dX3_value_42 ?_
        refine lv_iload hx hb dX3_value_45 (lv_at hl 0 rfl) ?_
        refine zb_ld (f := th) (k := 128 * tm + 32 * ky + dy) hx hb hK hI 1 rfl dX3_value_47 (by omega) (by decide) ?_
        refine bz_eq (tgt := 61) hx hb dX3_value_48 (by decide) (fun c48 => ?_) (fun c48 => ?_)
        · refine lv_aload_n hx hb dX3_value_61 rfl (lv_at hl 1 rfl) ?_
          refine lv_iconst (v := nI 2) hx hb dX3_value_62 (by decide) ?_
          refine k_mu (run_v (As := [.int (nI 2)]) (rest := []) hF hK hI (c_X3_fail ) cf_X3_fail k462 0 3 rfl rfl ⟨Nat.le_of_ble_eq_true rfl, Nat.le_of_ble_eq_true rfl⟩ ⟨rfl, rfl⟩ ⟨Nat.le_of_ble_eq_true rfl, Nat.le_of_ble_eq_true rfl⟩ rfl hl.1 rfl (Nat.le_of_ble_eq_true rfl) dX3_value_63) hI (fun r63 u63 hp63 H locs hI => ?_)
          subst hp63
          have hI : wi D z (Ar z) (mw b cI cZ (nI t) th vs kt kv wt wa fl (nI 2) ch X) s H locs := hI
          exact hret 2 hI dX3_value_66 ⟨by rw [vCode_n htm hky hdy ht, has_m hM htm hky hdy, c48]; rfl, fun q9 => absurd q9 (by decide)⟩
        · refine lv_aload_n hx hb dX3_value_51 rfl (lv_at hl 1 rfl) ?_
          refine va_get (D := D) (ci := 3) (v := .ref (b 2)) (C := RX3) (T := TX3) (N := 10) hx hb hts inX3 hown hK.1 hI.2.1 0 rfl rfl 2 (by decide) (hts _ k424) (fun _ h9 => h9) rfl dX3_value_52 ?_
          refine lv_iload hx hb dX3_value_55 (lv_at hl 0 rfl) ?_
          refine ia_ld (f := vs) (k := 128 * tm + 32 * ky + dy) hx hb hK hI 2 rfl dX3_value_57 (by omega) (by decide) ?_
          refine lv_goto (tgt := 66) hx hb dX3_value_58 (by decide) ?_
          exact hret 0 hI dX3_value_66 ⟨by rw [vCode_n htm hky hdy ht, has_m hM htm hky hdy, c48]; rfl, fun _ => by rw [vVal_n htm hky hdy ht, val_m hM htm hky hdy (by rw [has_m hM htm hky hdy, c48])]; rfl⟩
      · refine lv_aload_n hx hb dX3_value_27 rfl (lv_at hl 0 rfl) ?_
        refine lv_iconst (v := nI 1) hx hb dX3_value_28 (by decide) ?_
        refine k_mu (run_v (As := [.int (nI 1)]) (rest := []) hF hK hI (c_X3_fail ) cf_X3_fail k462 0 3 rfl rfl ⟨Nat.le_of_ble_eq_true rfl, Nat.le_of_ble_eq_true rfl⟩ ⟨rfl, rfl⟩ ⟨Nat.le_of_ble_eq_true rfl, Nat.le_of_ble_eq_true rfl⟩ rfl hl.1 rfl (Nat.le_of_ble_eq_true rfl) dX3_value_29) hI (fun r29 u29 hp29 H locs hI => ?_)
        subst hp29
        have hI : wi D z (Ar z) (mw b cI cZ (nI t) th vs kt kv wt wa fl (nI 1) ch X) s H locs := hI
        exact hret 1 hI dX3_value_32 ⟨by unfold vCode; first | (simp [c9]; done) | (simp [c16]; done) | (simp [c24]; done), fun q9 => absurd q9 (by decide)⟩
set_option maxHeartbeats 4000000 in
set_option maxRecDepth 100000 in
theorem c_X3_has {l : Launch} {D : va_G} {cI cZ cJ : ClassId} {z : Nat} {b : Nat → Nat} {X : va_W} {t : Nat} {th : Nat → Bool} {vs : Nat → Int32} {kt : Nat → Bool} {kv : Nat → Int32} {wt : Int32} {wa : Nat → Int32} {fl tr ch : Int32} {S : Sta} (hM : mAbs S th vs t) (ht : t < 40) {key day time : Int32} : muM (S := Unit) l yX3_has cX3_has 4 (some .boolean) 1 22 [.ref (b 0), .int (key), .int (day), .int (time)] (pw D cI cZ cJ z (mw b cI cZ (nI t) th vs kt kv wt wa fl tr ch X)) D z (fun _ => mw b cI cZ (nI t) th vs kt kv wt wa fl (nI 0) ch X) (fun r _ => r = bi (hVal S t key day time)) := by
  refine bd_mz (by decide) (Nat.le_of_ble_eq_true rfl) ?_
  intro p e s m args below meth c Q hF hpw hret ls hl
  obtain ⟨hx, hb, hml, hown, hts, hr, hlocks⟩ := id hF
  have hK := hpw.2.2.2
  have hI : wi D z (Ar z) (mw b cI cZ (nI t) th vs kt kv wt wa fl tr ch X) s s.heap [] := hpw.wi
  have hl : lv_has ls 4 [(0, .ref (b 0)), (1, .int (key)), (2, .int (day)), (3, .int (time))] := hl
  suffices hgo : ∀ (H : Heap) (locs : List Loc), wi D z (Ar z) (mw b cI cZ (nI t) th vs kt kv wt wa fl tr ch X) s H locs → ∀ ls : Array Slot, lv_has ls 4 [(0, .ref (b 0)), (1, .int (key)), (2, .int (day)), (3, .int (time))] → W p l e (rmv 1 22) s m args below meth c H locs 0 0 Q (F0 m 0 ls []) from hgo _ _ hI ls hl
  intro H locs hI ls hl
  refine lv_aload_n hx hb dX3_has_0 rfl (lv_at hl 0 rfl) ?_
  refine lv_iconst (v := nI 0) hx hb dX3_has_1 (by decide) ?_
  refine va_put (D := D) (ci := 3) (v := .int (nI 0)) (ty := .int) (C := RX3) (T := TX3) (N := 10) hx hb hts inX3 tyX3 tyX3_ok nmX3 hown hK.1 hI.2.1 hI.2.2.1 hI.2.2.2 0 rfl rfl 8 (by decide) (hts _ k430) (fun _ h9 => h9) rfl (by decide +kernel) rfl rfl (Nat.le_of_ble_eq_true rfl) dX3_has_2 (fun H locs hP hD hS => ?_)
  have hI : wi D z (Ar z) (mw b cI cZ (nI t) th vs kt kv wt wa fl (nI 0) ch X) s H locs := ⟨hI.1, hP, hD, hS⟩
  refine lv_iload_n hx hb dX3_has_5 rfl (lv_at hl 1 rfl) ?_
  refine k_ro (run_s (As := [.int (key)]) (rest := []) hF (c_X3_isKey ) tt_blind (fun _ _ _ => trivial) cf_X3_isKey k482 ⟨Nat.le_of_ble_eq_true rfl, Nat.le_of_ble_eq_true rfl⟩ ⟨rfl, rfl⟩ ⟨Nat.le_of_ble_eq_true rfl, Nat.le_of_ble_eq_true rfl⟩ rfl hl.1 rfl (Nat.le_of_ble_eq_true rfl) dX3_has_6) hI (fun H locs hI => ?_)
  refine bz_eq (tgt := 45) hx hb dX3_has_9 (by decide) (fun c9 => ?_) (fun c9 => ?_)
  · refine lv_iconst (v := nI 0) hx hb dX3_has_45 (by decide) ?_
    exact hret () (hVal S t key day time) hI dX3_has_46 ((bi_f (by first | (rw [hVal_n htm hky hdy ht, has_m hM htm hky hdy, c38]; done) | (unfold hVal; first | (simp [c9]; done) | (simp [c16]; done) | (simp [c24]; done)))).symm) rfl
  · refine lv_iload_n hx hb dX3_has_12 rfl (lv_at hl 2 rfl) ?_
    refine k_ro (run_s (As := [.int (day)]) (rest := []) hF (c_X3_isDay ) tt_blind (fun _ _ _ => trivial) cf_X3_isDay k543 ⟨Nat.le_of_ble_eq_true rfl, Nat.le_of_ble_eq_true rfl⟩ ⟨rfl, rfl⟩ ⟨Nat.le_of_ble_eq_true rfl, Nat.le_of_ble_eq_true rfl⟩ rfl hl.1 rfl (Nat.le_of_ble_eq_true rfl) dX3_has_13) hI (fun H locs hI => ?_)
    refine bz_eq (tgt := 45) hx hb dX3_has_16 (by decide) (fun c16 => ?_) (fun c16 => ?_)
    · refine lv_iconst (v := nI 0) hx hb dX3_has_45 (by decide) ?_
      exact hret () (hVal S t key day time) hI dX3_has_46 ((bi_f (by first | (rw [hVal_n htm hky hdy ht, has_m hM htm hky hdy, c38]; done) | (unfold hVal; first | (simp [c9]; done) | (simp [c16]; done) | (simp [c24]; done)))).symm) rfl
    · refine lv_aload_n hx hb dX3_has_19 rfl (lv_at hl 0 rfl) ?_
      refine lv_iload_n hx hb dX3_has_20 rfl (lv_at hl 3 rfl) ?_
      refine k_ro (run_v (As := [.int (time)]) (rest := []) hF hK hI (c_X3_isTime ht) cf_X3_isTime k546 0 3 rfl rfl ⟨Nat.le_of_ble_eq_true rfl, Nat.le_of_ble_eq_true rfl⟩ ⟨rfl, rfl⟩ ⟨Nat.le_of_ble_eq_true rfl, Nat.le_of_ble_eq_true rfl⟩ rfl hl.1 rfl (Nat.le_of_ble_eq_true rfl) dX3_has_21) hI (fun H locs hI => ?_)
      refine bz_eq (tgt := 45) hx hb dX3_has_24 (by decide) (fun c24 => ?_) (fun c24 => ?_)
      · refine lv_iconst (v := nI 0) hx hb dX3_has_45 (by decide) ?_
        exact hret () (hVal S t key day time) hI dX3_has_46 ((bi_f (by first | (rw [hVal_n htm hky hdy ht, has_m hM htm hky hdy, c38]; done) | (unfold hVal; first | (simp [c9]; done) | (simp [c16]; done) | (simp [c24]; done)))).symm) rfl
      · obtain ⟨ky, hky, rfl⟩ := okK_n c9
        obtain ⟨dy, hdy, rfl⟩ := okD_n c16
        obtain ⟨tm, htm, rfl⟩ := okT_n c24
        refine lv_aload_n hx hb dX3_has_27 rfl (lv_at hl 0 rfl) ?_
        refine va_get (D := D) (ci := 3) (v := .ref (b 1)) (C := RX3) (T := TX3) (N := 10) hx hb hts inX3 hown hK.1 hI.2.1 0 rfl rfl 1 (by decide) (hts _ k423) (fun _ h9 => h9) rfl dX3_has_28 ?_
        refine lv_iload_n hx hb dX3_has_31 rfl (lv_at hl 3 rfl) ?_
        refine lv_iload_n hx hb dX3_has_32 rfl (lv_at hl 1 rfl) ?_
        refine lv_iload_n hx hb dX3_has_33 rfl (lv_at hl 2 rfl) ?_
        refine k_ro (run_s (As := [.int (nI tm), .int (nI ky), .int (nI dy)]) (rest := [.ref (b 1)]) hF (c_X3_place ) tt_blind (fun _ _ _ => trivial) cf_X3_place k492 ⟨Nat.le_of_ble_eq_true rfl, Nat.le_of_ble_eq_true rfl⟩ ⟨rfl, rfl⟩ ⟨Nat.le_of_ble_eq_true rfl, Nat.le_of_ble_eq_true rfl⟩ rfl hl.1 rfl (Nat.le_of_ble_eq_true rfl) dX3_has_34) hI (fun H locs hI => ?_)
        refine zb_ld (f := th) (k := 128 * tm + 32 * ky + dy) hx hb hK hI 1 rfl dX3_has_37 (by omega) (by decide) ?_
        refine bz_eq (tgt := 45) hx hb dX3_has_38 (by decide) (fun c38 => ?_) (fun c38 => ?_)
        · refine lv_iconst (v := nI 0) hx hb dX3_has_45 (by decide) ?_
          exact hret () (hVal S t (nI ky) (nI dy) (nI tm)) hI dX3_has_46 ((bi_f (by first | (rw [hVal_n htm hky hdy ht, has_m hM htm hky hdy, c38]; done) | (unfold hVal; first | (simp [c9]; done) | (simp [c16]; done) | (simp [c24]; done)))).symm) rfl
        · refine lv_iconst (v := nI 1) hx hb dX3_has_41 (by decide) ?_
          refine lv_goto (tgt := 46) hx hb dX3_has_42 (by decide) ?_
          exact hret () (hVal S t (nI ky) (nI dy) (nI tm)) hI dX3_has_46 ((bi_t (by rw [hVal_n htm hky hdy ht, has_m hM htm hky hdy, c38])).symm) rfl
set_option maxHeartbeats 4000000 in
set_option maxRecDepth 100000 in
theorem c_X3_sum {l : Launch} {D : va_G} {cI cZ cJ : ClassId} {z : Nat} {b : Nat → Nat} {X : va_W} {t : Nat} {th : Nat → Bool} {vs : Nat → Int32} {kt : Nat → Bool} {kv : Nat → Int32} {wt : Int32} {wa : Nat → Int32} {fl tr ch : Int32} {S : Sta} (hM : mAbs S th vs t) (ht : t < 40) {key fr to time : Int32} : mlM (S := Nat) l yX3_sum cX3_sum 8 (some .long) 1 22 [.ref (b 0), .int (key), .int (fr), .int (to), .int (time)] (pw D cI cZ cJ z (mw b cI cZ (nI t) th vs kt kv wt wa fl tr ch X)) D z (fun u => mw b cI cZ (nI t) th vs kt kv wt wa fl (nI u) ch X) (fun r u => u = sCode t key fr to time ∧ (u = 0 → r = sVal S key fr to time)) := by
  refine bd_ml (by decide) (Nat.le_of_ble_eq_true rfl) ?_
  intro p e s m args below meth c Q hF hpw hret ls hl
  obtain ⟨hx, hb, hml, hown, hts, hr, hlocks⟩ := id hF
  have hK := hpw.2.2.2
  have hI : wi D z (Ar z) (mw b cI cZ (nI t) th vs kt kv wt wa fl tr ch X) s s.heap [] := hpw.wi
  have hl : lv_has ls 8 [(0, .ref (b 0)), (1, .int (key)), (2, .int (fr)), (3, .int (to)), (4, .int (time))] := hl
  suffices hgo : ∀ (H : Heap) (locs : List Loc), wi D z (Ar z) (mw b cI cZ (nI t) th vs kt kv wt wa fl tr ch X) s H locs → ∀ ls : Array Slot, lv_has ls 8 [(0, .ref (b 0)), (1, .int (key)), (2, .int (fr)), (3, .int (to)), (4, .int (time))] → W p l e (rmv 1 22) s m args below meth c H locs 0 0 Q (F0 m 0 ls []) from hgo _ _ hI ls hl
  intro H locs hI ls hl
  refine lv_aload_n hx hb dX3_sum_0 rfl (lv_at hl 0 rfl) ?_
  refine lv_iconst (v := nI 0) hx hb dX3_sum_1 (by decide) ?_
  refine va_put (D := D) (ci := 3) (v := .int (nI 0)) (ty := .int) (C := RX3) (T := TX3) (N := 10) hx hb hts inX3 tyX3 tyX3_ok nmX3 hown hK.1 hI.2.1 hI.2.2.1 hI.2.2.2 0 rfl rfl 8 (by decide) (hts _ k430) (fun _ h9 => h9) rfl (by decide +kernel) rfl rfl (Nat.le_of_ble_eq_true rfl) dX3_sum_2 (fun H locs hP hD hS => ?_)
  have hI : wi D z (Ar z) (mw b cI cZ (nI t) th vs kt kv wt wa fl (nI 0) ch X) s H locs := ⟨hI.1, hP, hD, hS⟩
  refine lv_iload_n hx hb dX3_sum_5 rfl (lv_at hl 1 rfl) ?_
  refine k_ro (run_s (As := [.int (key)]) (rest := []) hF (c_X3_isKey ) tt_blind (fun _ _ _ => trivial) cf_X3_isKey k482 ⟨Nat.le_of_ble_eq_true rfl, Nat.le_of_ble_eq_true rfl⟩ ⟨rfl, rfl⟩ ⟨Nat.le_of_ble_eq_true rfl, Nat.le_of_ble_eq_true rfl⟩ rfl hl.1 rfl (Nat.le_of_ble_eq_true rfl) dX3_sum_6) hI (fun H locs hI => ?_)
  refine bz_eq (tgt := 29) hx hb dX3_sum_9 (by decide) (fun c9 => ?_) (fun c9 => ?_)
  · refine lv_aload_n hx hb dX3_sum_29 rfl (lv_at hl 0 rfl) ?_
    refine lv_iconst (v := nI 1) hx hb dX3_sum_30 (by decide) ?_
    refine k_mu (run_v (As := [.int (nI 1)]) (rest := []) hF hK hI (c_X3_fail ) cf_X3_fail k462 0 3 rfl rfl ⟨Nat.le_of_ble_eq_true rfl, Nat.le_of_ble_eq_true rfl⟩ ⟨rfl, rfl⟩ ⟨Nat.le_of_ble_eq_true rfl, Nat.le_of_ble_eq_true rfl⟩ rfl hl.1 rfl (Nat.le_of_ble_eq_true rfl) dX3_sum_31) hI (fun r31 u31 hp31 H locs hI => ?_)
    subst hp31
    have hI : wi D z (Ar z) (mw b cI cZ (nI t) th vs kt kv wt wa fl (nI 1) ch X) s H locs := hI
    refine lv_i2l (v := (nI 0).toInt64) hx hb dX3_sum_34 rfl ?_
    exact hret 1 hI dX3_sum_35 ⟨by unfold sCode; first | (simp [c9]; done) | (simp [c17]; done) | (simp [c26]; done), fun q9 => absurd q9 (by decide)⟩
  · refine lv_iload_n hx hb dX3_sum_12 rfl (lv_at hl 2 rfl) ?_
    refine lv_iload_n hx hb dX3_sum_13 rfl (lv_at hl 3 rfl) ?_
    refine k_ro (run_s (As := [.int (fr), .int (to)]) (rest := []) hF (c_X3_isPeriod ) tt_blind (fun _ _ _ => trivial) cf_X3_isPeriod k485 ⟨Nat.le_of_ble_eq_true rfl, Nat.le_of_ble_eq_true rfl⟩ ⟨rfl, rfl⟩ ⟨Nat.le_of_ble_eq_true rfl, Nat.le_of_ble_eq_true rfl⟩ rfl hl.1 rfl (Nat.le_of_ble_eq_true rfl) dX3_sum_14) hI (fun H locs hI => ?_)
    refine bz_eq (tgt := 29) hx hb dX3_sum_17 (by decide) (fun c17 => ?_) (fun c17 => ?_)
    · refine lv_aload_n hx hb dX3_sum_29 rfl (lv_at hl 0 rfl) ?_
      refine lv_iconst (v := nI 1) hx hb dX3_sum_30 (by decide) ?_
      refine k_mu (run_v (As := [.int (nI 1)]) (rest := []) hF hK hI (c_X3_fail ) cf_X3_fail k462 0 3 rfl rfl ⟨Nat.le_of_ble_eq_true rfl, Nat.le_of_ble_eq_true rfl⟩ ⟨rfl, rfl⟩ ⟨Nat.le_of_ble_eq_true rfl, Nat.le_of_ble_eq_true rfl⟩ rfl hl.1 rfl (Nat.le_of_ble_eq_true rfl) dX3_sum_31) hI (fun r31 u31 hp31 H locs hI => ?_)
      subst hp31
      have hI : wi D z (Ar z) (mw b cI cZ (nI t) th vs kt kv wt wa fl (nI 1) ch X) s H locs := hI
      refine lv_i2l (v := (nI 0).toInt64) hx hb dX3_sum_34 rfl ?_
      exact hret 1 hI dX3_sum_35 ⟨by unfold sCode; first | (simp [c9]; done) | (simp [c17]; done) | (simp [c26]; done), fun q9 => absurd q9 (by decide)⟩
    · refine lv_aload_n hx hb dX3_sum_20 rfl (lv_at hl 0 rfl) ?_
      refine lv_iload hx hb dX3_sum_21 (lv_at hl 4 rfl) ?_
      refine k_ro (run_v (As := [.int (time)]) (rest := []) hF hK hI (c_X3_isTime ht) cf_X3_isTime k546 0 3 rfl rfl ⟨Nat.le_of_ble_eq_true rfl, Nat.le_of_ble_eq_true rfl⟩ ⟨rfl, rfl⟩ ⟨Nat.le_of_ble_eq_true rfl, Nat.le_of_ble_eq_true rfl⟩ rfl hl.1 rfl (Nat.le_of_ble_eq_true rfl) dX3_sum_23) hI (fun H locs hI => ?_)
      refine bz_ne (tgt := 36) hx hb dX3_sum_26 (by decide) (fun c26 => ?_) (fun c26 => ?_)
      · obtain ⟨ky, hky, rfl⟩ := okK_n c9
        obtain ⟨f1, t1, hft, ht1, rfl, rfl⟩ := okP_n c17
        obtain ⟨tm, htm, rfl⟩ := okT_n c26
        refine lv_lconst (v := 0) hx hb dX3_sum_36 (by decide) ?_
        refine lv_lstore (lv' := [(5, .long (0)), (0, .ref (b 0)), (1, .int (nI ky)), (2, .int (nI f1)), (3, .int (nI t1)), (4, .int (nI tm))]) hx hb dX3_sum_37 hl (by decide) rfl (fun ls hl => ?_)
        refine lv_iload_n hx hb dX3_sum_39 rfl (lv_at hl 3 rfl) ?_
        refine lv_istore (lv' := [(7, .int (nI f1)), (5, .long (0)), (0, .ref (b 0)), (1, .int (nI ky)), (2, .int (nI f1)), (3, .int (nI t1)), (4, .int (nI tm))]) hx hb dX3_sum_40 hl (by decide) rfl (fun ls hl => ?_)
        have J42 : ∀ (n42_ : Nat) (x : Nat) (l5 : Int64) (hx1 : x ≤ t1) (hx0 : f1 ≤ x) (hl5 : l5 = smL S (tm * 4 + ky) f1 (x - f1)) (hm42 : t1 < x + n42_) (H : Heap) (locs : List Loc), wi D z (Ar z) (mw b cI cZ (nI t) th vs kt kv wt wa fl (nI 0) ch X) s H locs → ∀ ls : Array Slot, lv_has ls 8 [(0, .ref (b 0)), (1, .int (nI ky)), (2, .int (nI f1)), (3, .int (nI t1)), (4, .int (nI tm)), (5, .long (l5)), (7, .int (nI x))] → W p l e (rmv 1 22) s m args below meth c H locs 0 0 Q (F0 m 42 ls []) := by
          intro n42_
          induction n42_ with
          | zero => intro x l5 hx1 hx0 hl5 hm42; exact absurd hm42 (by omega)
          | succ n42_ ih42 =>
            intro x l5 hx1 hx0 hl5 hm42 H locs hI ls hl
            refine lv_iload hx hb dX3_sum_42 (lv_at hl 6 rfl) ?_
            refine lv_iload_n hx hb dX3_sum_44 rfl (lv_at hl 3 rfl) ?_
            refine nb_ge (tgt := 93) hx hb dX3_sum_45 (by decide) (by omega) (by omega) (fun c45 => ?_) (fun c45 => ?_)
            · refine lv_lload hx hb dX3_sum_93 (lv_at hl 5 rfl) ?_
              exact hret 0 hI dX3_sum_95 ⟨by rw [sCode_n htm hky hft ht1 ht], fun _ => by rw [sVal_n htm hky hft ht1 ht, hl5, show x = t1 by omega]⟩
            · refine lv_lload hx hb dX3_sum_48 (lv_at hl 5 rfl) ?_
              refine lv_aload_n hx hb dX3_sum_50 rfl (lv_at hl 0 rfl) ?_
              refine va_get (D := D) (ci := 3) (v := .ref (b 1)) (C := RX3) (T := TX3) (N := 10) hx hb hts inX3 hown hK.1 hI.2.1 0 rfl rfl 1 (by decide) (hts _ k423) (fun _ h9 => h9) rfl dX3_sum_51 ?_
              refine lv_iload hx hb dX3_sum_54 (lv_at hl 4 rfl) ?_
              refine lv_iload_n hx hb dX3_sum_56 rfl (lv_at hl 1 rfl) ?_
              refine lv_iload hx hb dX3_sum_57 (lv_at hl 6 rfl) ?_
              refine k_ro (run_s (As := [.int (nI tm), .int (nI ky), .int (nI x)]) (rest := [.ref (b 1), .long (l5)]) hF (c_X3_place ) tt_blind (fun _ _ _ => trivial) cf_X3_place k492 ⟨Nat.le_of_ble_eq_true rfl, Nat.le_of_ble_eq_true rfl⟩ ⟨rfl, rfl⟩ ⟨Nat.le_of_ble_eq_true rfl, Nat.le_of_ble_eq_true rfl⟩ rfl hl.1 rfl (Nat.le_of_ble_eq_true rfl) dX3_sum_59) hI (fun H locs hI => ?_)
              refine zb_ld (f := th) (k := 128 * tm + 32 * ky + x) hx hb hK hI 1 rfl dX3_sum_62 (by omega) (by decide) ?_
              refine bz_eq (tgt := 83) hx hb dX3_sum_63 (by decide) (fun c63 => ?_) (fun c63 => ?_)
              · refine lv_lconst (v := 0) hx hb dX3_sum_83 (by decide) ?_
                refine lv_ladd hx hb dX3_sum_84 ?_
                refine lv_lstore (lv' := [(5, .long (l5 + 0)), (0, .ref (b 0)), (1, .int (nI ky)), (2, .int (nI f1)), (3, .int (nI t1)), (4, .int (nI tm)), (7, .int (nI x))]) hx hb dX3_sum_85 hl (by decide) rfl (fun ls hl => ?_)
                refine lv_iinc (v := nI (x + 1)) (lv' := [(7, .int (nI (x + 1))), (5, .long (l5 + 0)), (0, .ref (b 0)), (1, .int (nI ky)), (2, .int (nI f1)), (3, .int (nI t1)), (4, .int (nI tm))]) hx hb dX3_sum_87 hl (k := 6) rfl (inc_n _ 1) (by decide) rfl (fun ls hl => ?_)
                refine lv_goto (tgt := 42) hx hb dX3_sum_90 (by decide) ?_
                exact ih42 (x + 1) (l5 + 0) (by omega) (by omega) (by rw [show x + 1 - f1 = x - f1 + 1 by omega, smL, show f1 + (x - f1) = x by omega, ← hl5]; first | (rw [val_m hM htm hky (by omega) (by rw [has_m hM htm hky (by omega), c63])]; rfl) | (have e9 : S (tm * 4 + ky) x = none := (by rw [hM tm ky x htm hky (by omega), c63]; rfl); rw [e9]; rfl)) (by omega) H locs hI ls (lv_sub hl [2, 3, 4, 5, 6, 1, 0] rfl)
              · refine lv_aload_n hx hb dX3_sum_66 rfl (lv_at hl 0 rfl) ?_
                refine va_get (D := D) (ci := 3) (v := .ref (b 2)) (C := RX3) (T := TX3) (N := 10) hx hb hts inX3 hown hK.1 hI.2.1 0 rfl rfl 2 (by decide) (hts _ k424) (fun _ h9 => h9) rfl dX3_sum_67 ?_
                refine lv_iload hx hb dX3_sum_70 (lv_at hl 4 rfl) ?_
                refine lv_iload_n hx hb dX3_sum_72 rfl (lv_at hl 1 rfl) ?_
                refine lv_iload hx hb dX3_sum_73 (lv_at hl 6 rfl) ?_
                refine k_ro (run_s (As := [.int (nI tm), .int (nI ky), .int (nI x)]) (rest := [.ref (b 2), .long (l5)]) hF (c_X3_place ) tt_blind (fun _ _ _ => trivial) cf_X3_place k492 ⟨Nat.le_of_ble_eq_true rfl, Nat.le_of_ble_eq_true rfl⟩ ⟨rfl, rfl⟩ ⟨Nat.le_of_ble_eq_true rfl, Nat.le_of_ble_eq_true rfl⟩ rfl hl.1 rfl (Nat.le_of_ble_eq_true rfl) dX3_sum_75) hI (fun H locs hI => ?_)
                refine ia_ld (f := vs) (k := 128 * tm + 32 * ky + x) hx hb hK hI 2 rfl dX3_sum_78 (by omega) (by decide) ?_
                refine lv_i2l (v := (vs (128 * tm + 32 * ky + x)).toInt64) hx hb dX3_sum_79 rfl ?_
                refine lv_goto (tgt := 84) hx hb dX3_sum_80 (by decide) ?_
                refine lv_ladd hx hb dX3_sum_84 ?_
                refine lv_lstore (lv' := [(5, .long (l5 + ((vs (128 * tm + 32 * ky + x)).toInt64))), (0, .ref (b 0)), (1, .int (nI ky)), (2, .int (nI f1)), (3, .int (nI t1)), (4, .int (nI tm)), (7, .int (nI x))]) hx hb dX3_sum_85 hl (by decide) rfl (fun ls hl => ?_)
                refine lv_iinc (v := nI (x + 1)) (lv' := [(7, .int (nI (x + 1))), (5, .long (l5 + ((vs (128 * tm + 32 * ky + x)).toInt64))), (0, .ref (b 0)), (1, .int (nI ky)), (2, .int (nI f1)), (3, .int (nI t1)), (4, .int (nI tm))]) hx hb dX3_sum_87 hl (k := 6) rfl (inc_n _ 1) (by decide) rfl (fun ls hl => ?_)
                refine lv_goto (tgt := 42) hx hb dX3_sum_90 (by decide) ?_
                exact ih42 (x + 1) (l5 + ((vs (128 * tm + 32 * ky + x)).toInt64)) (by omega) (by omega) (by rw [show x + 1 - f1 = x - f1 + 1 by omega, smL, show f1 + (x - f1) = x by omega, ← hl5]; first | (rw [val_m hM htm hky (by omega) (by rw [has_m hM htm hky (by omega), c63])]; rfl) | (have e9 : S (tm * 4 + ky) x = none := (by rw [hM tm ky x htm hky (by omega), c63]; rfl); rw [e9]; rfl)) (by omega) H locs hI ls (lv_sub hl [2, 3, 4, 5, 6, 1, 0] rfl)
        exact J42 (t1 + 1) f1 0 (by omega) (by omega) (by rw [Nat.sub_self]; rfl) (by omega) H locs hI ls (lv_sub hl [2, 3, 4, 5, 6, 1, 0] rfl)
      · refine lv_aload_n hx hb dX3_sum_29 rfl (lv_at hl 0 rfl) ?_
        refine lv_iconst (v := nI 1) hx hb dX3_sum_30 (by decide) ?_
        refine k_mu (run_v (As := [.int (nI 1)]) (rest := []) hF hK hI (c_X3_fail ) cf_X3_fail k462 0 3 rfl rfl ⟨Nat.le_of_ble_eq_true rfl, Nat.le_of_ble_eq_true rfl⟩ ⟨rfl, rfl⟩ ⟨Nat.le_of_ble_eq_true rfl, Nat.le_of_ble_eq_true rfl⟩ rfl hl.1 rfl (Nat.le_of_ble_eq_true rfl) dX3_sum_31) hI (fun r31 u31 hp31 H locs hI => ?_)
        subst hp31
        have hI : wi D z (Ar z) (mw b cI cZ (nI t) th vs kt kv wt wa fl (nI 1) ch X) s H locs := hI
        refine lv_i2l (v := (nI 0).toInt64) hx hb dX3_sum_34 rfl ?_
        exact hret 1 hI dX3_sum_35 ⟨by unfold sCode; first | (simp [c9]; done) | (simp [c17]; done) | (simp [c26]; done), fun q9 => absurd q9 (by decide)⟩
set_option maxHeartbeats 4000000 in
set_option maxRecDepth 100000 in
theorem c_X3_runs {l : Launch} {D : va_G} {cI cZ cJ : ClassId} {z : Nat} {b : Nat → Nat} {X : va_W} {t : Nat} {th : Nat → Bool} {vs : Nat → Int32} {kt : Nat → Bool} {kv : Nat → Int32} {wt : Int32} {wa : Nat → Int32} {fl tr ch : Int32} {S : Sta} (hM : mAbs S th vs t) (ht : t < 40) {key time : Int32} : muM (S := Nat) l yX3_runs cX3_runs 5 (some .int) 3 71 [.ref (b 0), .int (key), .int (time)] (pw D cI cZ cJ z (mw b cI cZ (nI t) th vs kt kv wt wa fl tr ch X)) D z (fun u => mw b cI cZ (nI t) th vs kt kv wt wa fl (nI u) ch X) (fun r u => u = rsCode t key time ∧ (u = 0 → r = nI (rsVal S key time))) := by
  refine bd_mu (by decide) (Nat.le_of_ble_eq_true rfl) ?_
  intro p e s m args below meth c Q hF hpw hret ls hl
  obtain ⟨hx, hb, hml, hown, hts, hr, hlocks⟩ := id hF
  have hK := hpw.2.2.2
  have hI : wi D z (Ar z) (mw b cI cZ (nI t) th vs kt kv wt wa fl tr ch X) s s.heap [] := hpw.wi
  have hl : lv_has ls 5 [(0, .ref (b 0)), (1, .int (key)), (2, .int (time))] := hl
  suffices hgo : ∀ (H : Heap) (locs : List Loc), wi D z (Ar z) (mw b cI cZ (nI t) th vs kt kv wt wa fl tr ch X) s H locs → ∀ ls : Array Slot, lv_has ls 5 [(0, .ref (b 0)), (1, .int (key)), (2, .int (time))] → W p l e (rmv 3 71) s m args below meth c H locs 0 0 Q (F0 m 0 ls []) from hgo _ _ hI ls hl
  intro H locs hI ls hl
  refine lv_aload_n hx hb dX3_runs_0 rfl (lv_at hl 0 rfl) ?_
  refine lv_iconst (v := nI 0) hx hb dX3_runs_1 (by decide) ?_
  refine va_put (D := D) (ci := 3) (v := .int (nI 0)) (ty := .int) (C := RX3) (T := TX3) (N := 10) hx hb hts inX3 tyX3 tyX3_ok nmX3 hown hK.1 hI.2.1 hI.2.2.1 hI.2.2.2 0 rfl rfl 8 (by decide) (hts _ k430) (fun _ h9 => h9) rfl (by decide +kernel) rfl rfl (Nat.le_of_ble_eq_true rfl) dX3_runs_2 (fun H locs hP hD hS => ?_)
  have hI : wi D z (Ar z) (mw b cI cZ (nI t) th vs kt kv wt wa fl (nI 0) ch X) s H locs := ⟨hI.1, hP, hD, hS⟩
  refine lv_iload_n hx hb dX3_runs_5 rfl (lv_at hl 1 rfl) ?_
  refine k_ro (run_s (As := [.int (key)]) (rest := []) hF (c_X3_isKey ) tt_blind (fun _ _ _ => trivial) cf_X3_isKey k482 ⟨Nat.le_of_ble_eq_true rfl, Nat.le_of_ble_eq_true rfl⟩ ⟨rfl, rfl⟩ ⟨Nat.le_of_ble_eq_true rfl, Nat.le_of_ble_eq_true rfl⟩ rfl hl.1 rfl (Nat.le_of_ble_eq_true rfl) dX3_runs_6) hI (fun H locs hI => ?_)
  refine bz_eq (tgt := 20) hx hb dX3_runs_9 (by decide) (fun c9 => ?_) (fun c9 => ?_)
  · refine lv_aload_n hx hb dX3_runs_20 rfl (lv_at hl 0 rfl) ?_
    refine lv_iconst (v := nI 1) hx hb dX3_runs_21 (by decide) ?_
    refine k_mu (run_v (As := [.int (nI 1)]) (rest := []) hF hK hI (c_X3_fail ) cf_X3_fail k462 0 3 rfl rfl ⟨Nat.le_of_ble_eq_true rfl, Nat.le_of_ble_eq_true rfl⟩ ⟨rfl, rfl⟩ ⟨Nat.le_of_ble_eq_true rfl, Nat.le_of_ble_eq_true rfl⟩ rfl hl.1 rfl (Nat.le_of_ble_eq_true rfl) dX3_runs_22) hI (fun r22 u22 hp22 H locs hI => ?_)
    subst hp22
    have hI : wi D z (Ar z) (mw b cI cZ (nI t) th vs kt kv wt wa fl (nI 1) ch X) s H locs := hI
    exact hret 1 hI dX3_runs_25 ⟨by unfold rsCode; first | (simp [c9]; done) | (simp [c17]; done), fun q9 => absurd q9 (by decide)⟩
  · refine lv_aload_n hx hb dX3_runs_12 rfl (lv_at hl 0 rfl) ?_
    refine lv_iload_n hx hb dX3_runs_13 rfl (lv_at hl 2 rfl) ?_
    refine k_ro (run_v (As := [.int (time)]) (rest := []) hF hK hI (c_X3_isTime ht) cf_X3_isTime k546 0 3 rfl rfl ⟨Nat.le_of_ble_eq_true rfl, Nat.le_of_ble_eq_true rfl⟩ ⟨rfl, rfl⟩ ⟨Nat.le_of_ble_eq_true rfl, Nat.le_of_ble_eq_true rfl⟩ rfl hl.1 rfl (Nat.le_of_ble_eq_true rfl) dX3_runs_14) hI (fun H locs hI => ?_)
    refine bz_ne (tgt := 26) hx hb dX3_runs_17 (by decide) (fun c17 => ?_) (fun c17 => ?_)
    · obtain ⟨ky, hky, rfl⟩ := okK_n c9
      obtain ⟨tm, htm, rfl⟩ := okT_n c17
      refine lv_iconst (v := nI 0) hx hb dX3_runs_26 (by decide) ?_
      refine lv_istore_n (lv' := [(3, .int (nI 0)), (0, .ref (b 0)), (1, .int (nI ky)), (2, .int (nI tm))]) hx hb dX3_runs_27 rfl hl (by decide) rfl (fun ls hl => ?_)
      refine lv_iconst (v := nI 0) hx hb dX3_runs_28 (by decide) ?_
      refine lv_istore (lv' := [(4, .int (nI 0)), (3, .int (nI 0)), (0, .ref (b 0)), (1, .int (nI ky)), (2, .int (nI tm))]) hx hb dX3_runs_29 hl (by decide) rfl (fun ls hl => ?_)
      have J31 : ∀ (n31_ : Nat) (dy : Nat) (n3 : Nat) (hd : dy ≤ 32) (hn : n3 = fb_ct (beg S (tm * 4 + ky)) dy) (hm31 : 32 < dy + n31_) (H : Heap) (locs : List Loc), wi D z (Ar z) (mw b cI cZ (nI t) th vs kt kv wt wa fl (nI 0) ch X) s H locs → ∀ ls : Array Slot, lv_has ls 5 [(0, .ref (b 0)), (1, .int (nI ky)), (2, .int (nI tm)), (3, .int (nI n3)), (4, .int (nI dy))] → W p l e (rmv 3 71) s m args below meth c H locs 0 0 Q (F0 m 31 ls []) := by
        intro n31_
        induction n31_ with
        | zero => intro dy n3 hd hn hm31; exact absurd hm31 (by omega)
        | succ n31_ ih31 =>
          intro dy n3 hd hn hm31 H locs hI ls hl
          refine lv_iload hx hb dX3_runs_31 (lv_at hl 4 rfl) ?_
          refine lv_bipush (v := nI 32) hx hb dX3_runs_33 (by decide) ?_
          refine nb_ge (tgt := 63) hx hb dX3_runs_35 (by decide) (by omega) (by omega) (fun c35 => ?_) (fun c35 => ?_)
          · refine lv_iload_n hx hb dX3_runs_63 rfl (lv_at hl 3 rfl) ?_
            exact hret 0 hI dX3_runs_64 ⟨by rw [rsCode_n htm hky ht], fun _ => by rw [rsVal_n htm hky ht, hn, show dy = 32 by omega]⟩
          · refine lv_iload_n hx hb dX3_runs_38 rfl (lv_at hl 3 rfl) ?_
            refine lv_aload_n hx hb dX3_runs_39 rfl (lv_at hl 0 rfl) ?_
            refine lv_iload_n hx hb dX3_runs_40 rfl (lv_at hl 2 rfl) ?_
            refine lv_iload_n hx hb dX3_runs_41 rfl (lv_at hl 1 rfl) ?_
            refine lv_iload hx hb dX3_runs_42 (lv_at hl 4 rfl) ?_
            refine k_ro (run_v (As := [.int (nI tm), .int (nI ky), .int (nI dy)]) (rest := [.int (nI n3)]) hF hK hI (c_X3_begins hM ht (by omega) (by omega) (by omega)) cf_X3_begins k507 0 3 rfl rfl ⟨Nat.le_of_ble_eq_true rfl, Nat.le_of_ble_eq_true rfl⟩ ⟨rfl, rfl⟩ ⟨Nat.le_of_ble_eq_true rfl, Nat.le_of_ble_eq_true rfl⟩ rfl hl.1 rfl (Nat.le_of_ble_eq_true rfl) dX3_runs_44) hI (fun H locs hI => ?_)
            refine bz_eq (tgt := 54) hx hb dX3_runs_47 (by decide) (fun c47 => ?_) (fun c47 => ?_)
            · refine lv_iconst (v := nI 0) hx hb dX3_runs_54 (by decide) ?_
              refine lv_iadd hx hb dX3_runs_55 ?_
              refine tp (nI_add _ _) ?_
              refine lv_istore_n (lv' := [(3, .int (nI (n3 + 0))), (0, .ref (b 0)), (1, .int (nI ky)), (2, .int (nI tm)), (4, .int (nI dy))]) hx hb dX3_runs_56 rfl hl (by decide) rfl (fun ls hl => ?_)
              refine lv_iinc (v := nI (dy + 1)) (lv' := [(4, .int (nI (dy + 1))), (3, .int (nI (n3 + 0))), (0, .ref (b 0)), (1, .int (nI ky)), (2, .int (nI tm))]) hx hb dX3_runs_57 hl (k := 4) rfl (inc_n _ 1) (by decide) rfl (fun ls hl => ?_)
              refine lv_goto (tgt := 31) hx hb dX3_runs_60 (by decide) ?_
              exact ih31 (dy + 1) (n3 + 0) (by omega) (by rw [fb_ct_succ, hn, c47]; rfl) (by omega) H locs hI ls (lv_sub hl [2, 3, 4, 1, 0] rfl)
            · refine lv_iconst (v := nI 1) hx hb dX3_runs_50 (by decide) ?_
              refine lv_goto (tgt := 55) hx hb dX3_runs_51 (by decide) ?_
              refine lv_iadd hx hb dX3_runs_55 ?_
              refine tp (nI_add _ _) ?_
              refine lv_istore_n (lv' := [(3, .int (nI (n3 + 1))), (0, .ref (b 0)), (1, .int (nI ky)), (2, .int (nI tm)), (4, .int (nI dy))]) hx hb dX3_runs_56 rfl hl (by decide) rfl (fun ls hl => ?_)
              refine lv_iinc (v := nI (dy + 1)) (lv' := [(4, .int (nI (dy + 1))), (3, .int (nI (n3 + 1))), (0, .ref (b 0)), (1, .int (nI ky)), (2, .int (nI tm))]) hx hb dX3_runs_57 hl (k := 4) rfl (inc_n _ 1) (by decide) rfl (fun ls hl => ?_)
              refine lv_goto (tgt := 31) hx hb dX3_runs_60 (by decide) ?_
              exact ih31 (dy + 1) (n3 + 1) (by omega) (by rw [fb_ct_succ, hn, c47]; rfl) (by omega) H locs hI ls (lv_sub hl [2, 3, 4, 1, 0] rfl)
      exact J31 (32 + 1) 0 0 (by omega) rfl (by omega) H locs hI ls (lv_sub hl [2, 3, 4, 1, 0] rfl)
    · refine lv_aload_n hx hb dX3_runs_20 rfl (lv_at hl 0 rfl) ?_
      refine lv_iconst (v := nI 1) hx hb dX3_runs_21 (by decide) ?_
      refine k_mu (run_v (As := [.int (nI 1)]) (rest := []) hF hK hI (c_X3_fail ) cf_X3_fail k462 0 3 rfl rfl ⟨Nat.le_of_ble_eq_true rfl, Nat.le_of_ble_eq_true rfl⟩ ⟨rfl, rfl⟩ ⟨Nat.le_of_ble_eq_true rfl, Nat.le_of_ble_eq_true rfl⟩ rfl hl.1 rfl (Nat.le_of_ble_eq_true rfl) dX3_runs_22) hI (fun r22 u22 hp22 H locs hI => ?_)
      subst hp22
      have hI : wi D z (Ar z) (mw b cI cZ (nI t) th vs kt kv wt wa fl (nI 1) ch X) s H locs := hI
      exact hret 1 hI dX3_runs_25 ⟨by unfold rsCode; first | (simp [c9]; done) | (simp [c17]; done), fun q9 => absurd q9 (by decide)⟩
set_option maxHeartbeats 4000000 in
set_option maxRecDepth 100000 in
theorem c_X3_run {l : Launch} {D : va_G} {cI cZ cJ : ClassId} {z : Nat} {b : Nat → Nat} {X : va_W} {t : Nat} {th : Nat → Bool} {vs : Nat → Int32} {kt : Nat → Bool} {kv : Nat → Int32} {wt : Int32} {wa : Nat → Int32} {fl tr ch : Int32} {S : Sta} (hM : mAbs S th vs t) (ht : t < 40) {key time k part : Int32} {i : Nat} (hg : rnCode S t key time k part = 0 → i < 32 ∧ beg S (nn time * 4 + nn key) i = true ∧ fb_ct (beg S (nn time * 4 + nn key)) i = nn k) : muM (S := Nat) l yX3_run cX3_run 7 (some .int) 3 72 [.ref (b 0), .int (key), .int (time), .int (k), .int (part)] (pw D cI cZ cJ z (mw b cI cZ (nI t) th vs kt kv wt wa fl tr ch X)) D z (fun u => mw b cI cZ (nI t) th vs kt kv wt wa fl (nI u) ch X) (fun r u => u = rnCode S t key time k part ∧ (u = 0 → r = rnVal S (nn time * 4 + nn key) i (nn part))) := by
  refine bd_mu (by decide) (Nat.le_of_ble_eq_true rfl) ?_
  intro p e s m args below meth c Q hF hpw hret ls hl
  obtain ⟨hx, hb, hml, hown, hts, hr, hlocks⟩ := id hF
  have hK := hpw.2.2.2
  have hI : wi D z (Ar z) (mw b cI cZ (nI t) th vs kt kv wt wa fl tr ch X) s s.heap [] := hpw.wi
  have hl : lv_has ls 7 [(0, .ref (b 0)), (1, .int (key)), (2, .int (time)), (3, .int (k)), (4, .int (part))] := hl
  suffices hgo : ∀ (H : Heap) (locs : List Loc), wi D z (Ar z) (mw b cI cZ (nI t) th vs kt kv wt wa fl tr ch X) s H locs → ∀ ls : Array Slot, lv_has ls 7 [(0, .ref (b 0)), (1, .int (key)), (2, .int (time)), (3, .int (k)), (4, .int (part))] → W p l e (rmv 3 72) s m args below meth c H locs 0 0 Q (F0 m 0 ls []) from hgo _ _ hI ls hl
  intro H locs hI ls hl
  refine lv_aload_n hx hb dX3_run_0 rfl (lv_at hl 0 rfl) ?_
  refine lv_iconst (v := nI 0) hx hb dX3_run_1 (by decide) ?_
  refine va_put (D := D) (ci := 3) (v := .int (nI 0)) (ty := .int) (C := RX3) (T := TX3) (N := 10) hx hb hts inX3 tyX3 tyX3_ok nmX3 hown hK.1 hI.2.1 hI.2.2.1 hI.2.2.2 0 rfl rfl 8 (by decide) (hts _ k430) (fun _ h9 => h9) rfl (by decide +kernel) rfl rfl (Nat.le_of_ble_eq_true rfl) dX3_run_2 (fun H locs hP hD hS => ?_)
  have hI : wi D z (Ar z) (mw b cI cZ (nI t) th vs kt kv wt wa fl (nI 0) ch X) s H locs := ⟨hI.1, hP, hD, hS⟩
  refine lv_iload_n hx hb dX3_run_5 rfl (lv_at hl 1 rfl) ?_
  refine k_ro (run_s (As := [.int (key)]) (rest := []) hF (c_X3_isKey ) tt_blind (fun _ _ _ => trivial) cf_X3_isKey k482 ⟨Nat.le_of_ble_eq_true rfl, Nat.le_of_ble_eq_true rfl⟩ ⟨rfl, rfl⟩ ⟨Nat.le_of_ble_eq_true rfl, Nat.le_of_ble_eq_true rfl⟩ rfl hl.1 rfl (Nat.le_of_ble_eq_true rfl) dX3_run_6) hI (fun H locs hI => ?_)
  refine bz_eq (tgt := 31) hx hb dX3_run_9 (by decide) (fun c9 => ?_) (fun c9 => ?_)
  · refine lv_aload_n hx hb dX3_run_31 rfl (lv_at hl 0 rfl) ?_
    refine lv_iconst (v := nI 1) hx hb dX3_run_32 (by decide) ?_
    refine k_mu (run_v (As := [.int (nI 1)]) (rest := []) hF hK hI (c_X3_fail ) cf_X3_fail k462 0 3 rfl rfl ⟨Nat.le_of_ble_eq_true rfl, Nat.le_of_ble_eq_true rfl⟩ ⟨rfl, rfl⟩ ⟨Nat.le_of_ble_eq_true rfl, Nat.le_of_ble_eq_true rfl⟩ rfl hl.1 rfl (Nat.le_of_ble_eq_true rfl) dX3_run_33) hI (fun r33 u33 hp33 H locs hI => ?_)
    subst hp33
    have hI : wi D z (Ar z) (mw b cI cZ (nI t) th vs kt kv wt wa fl (nI 1) ch X) s H locs := hI
    exact hret 1 hI dX3_run_36 ⟨by unfold rnCode; first | (simp [c9]; done) | (simp [c17]; done) | simp [okN_f1 (n := 2) c22] | simp [okN_f2 (n := 2) c28 (by decide)], fun q9 => absurd q9 (by decide)⟩
  · refine lv_aload_n hx hb dX3_run_12 rfl (lv_at hl 0 rfl) ?_
    refine lv_iload_n hx hb dX3_run_13 rfl (lv_at hl 2 rfl) ?_
    refine k_ro (run_v (As := [.int (time)]) (rest := []) hF hK hI (c_X3_isTime ht) cf_X3_isTime k546 0 3 rfl rfl ⟨Nat.le_of_ble_eq_true rfl, Nat.le_of_ble_eq_true rfl⟩ ⟨rfl, rfl⟩ ⟨Nat.le_of_ble_eq_true rfl, Nat.le_of_ble_eq_true rfl⟩ rfl hl.1 rfl (Nat.le_of_ble_eq_true rfl) dX3_run_14) hI (fun H locs hI => ?_)
    refine bz_eq (tgt := 31) hx hb dX3_run_17 (by decide) (fun c17 => ?_) (fun c17 => ?_)
    · refine lv_aload_n hx hb dX3_run_31 rfl (lv_at hl 0 rfl) ?_
      refine lv_iconst (v := nI 1) hx hb dX3_run_32 (by decide) ?_
      refine k_mu (run_v (As := [.int (nI 1)]) (rest := []) hF hK hI (c_X3_fail ) cf_X3_fail k462 0 3 rfl rfl ⟨Nat.le_of_ble_eq_true rfl, Nat.le_of_ble_eq_true rfl⟩ ⟨rfl, rfl⟩ ⟨Nat.le_of_ble_eq_true rfl, Nat.le_of_ble_eq_true rfl⟩ rfl hl.1 rfl (Nat.le_of_ble_eq_true rfl) dX3_run_33) hI (fun r33 u33 hp33 H locs hI => ?_)
      subst hp33
      have hI : wi D z (Ar z) (mw b cI cZ (nI t) th vs kt kv wt wa fl (nI 1) ch X) s H locs := hI
      exact hret 1 hI dX3_run_36 ⟨by unfold rnCode; first | (simp [c9]; done) | (simp [c17]; done) | simp [okN_f1 (n := 2) c22] | simp [okN_f2 (n := 2) c28 (by decide)], fun q9 => absurd q9 (by decide)⟩
    · refine lv_iload hx hb dX3_run_20 (lv_at hl 4 rfl) ?_
      refine lv_if_lt (tgt := 31) hx hb dX3_run_22 (by decide) (fun c22 => ?_) (fun c22 => ?_)
      · refine lv_aload_n hx hb dX3_run_31 rfl (lv_at hl 0 rfl) ?_
        refine lv_iconst (v := nI 1) hx hb dX3_run_32 (by decide) ?_
        refine k_mu (run_v (As := [.int (nI 1)]) (rest := []) hF hK hI (c_X3_fail ) cf_X3_fail k462 0 3 rfl rfl ⟨Nat.le_of_ble_eq_true rfl, Nat.le_of_ble_eq_true rfl⟩ ⟨rfl, rfl⟩ ⟨Nat.le_of_ble_eq_true rfl, Nat.le_of_ble_eq_true rfl⟩ rfl hl.1 rfl (Nat.le_of_ble_eq_true rfl) dX3_run_33) hI (fun r33 u33 hp33 H locs hI => ?_)
        subst hp33
        have hI : wi D z (Ar z) (mw b cI cZ (nI t) th vs kt kv wt wa fl (nI 1) ch X) s H locs := hI
        exact hret 1 hI dX3_run_36 ⟨by unfold rnCode; first | (simp [c9]; done) | (simp [c17]; done) | simp [okN_f1 (n := 2) c22] | simp [okN_f2 (n := 2) c28 (by decide)], fun q9 => absurd q9 (by decide)⟩
      · refine lv_iload hx hb dX3_run_25 (lv_at hl 4 rfl) ?_
        refine lv_iconst (v := nI 2) hx hb dX3_run_27 (by decide) ?_
        refine lv_icmp_le (tgt := 37) hx hb dX3_run_28 (by decide) (fun c28 => ?_) (fun c28 => ?_)
        · obtain ⟨ky, hky, rfl⟩ := okK_n c9
          obtain ⟨tm, htm, rfl⟩ := okT_n c17
          obtain ⟨pt, hpt, rfl⟩ := okN_n (okN_raw c22 c28 (by decide))
          refine lv_iconst (v := nI 0) hx hb dX3_run_37 (by decide) ?_
          refine lv_istore (lv' := [(5, .int (nI 0)), (0, .ref (b 0)), (1, .int (nI ky)), (2, .int (nI tm)), (3, .int (k)), (4, .int (nI pt))]) hx hb dX3_run_38 hl (by decide) rfl (fun ls hl => ?_)
          refine lv_iconst (v := nI 0) hx hb dX3_run_40 (by decide) ?_
          refine lv_istore (lv' := [(6, .int (nI 0)), (5, .int (nI 0)), (0, .ref (b 0)), (1, .int (nI ky)), (2, .int (nI tm)), (3, .int (k)), (4, .int (nI pt))]) hx hb dX3_run_41 hl (by decide) rfl (fun ls hl => ?_)
          have J43 : ∀ (n43_ : Nat) (dy : Nat) (n5 : Nat) (hd : dy ≤ 32) (hn : n5 = fb_ct (beg S (tm * 4 + ky)) dy) (hne : ∀ j, j < n5 → ¬ nI j = k) (hm43 : 32 < dy + n43_) (H : Heap) (locs : List Loc), wi D z (Ar z) (mw b cI cZ (nI t) th vs kt kv wt wa fl (nI 0) ch X) s H locs → ∀ ls : Array Slot, lv_has ls 7 [(0, .ref (b 0)), (1, .int (nI ky)), (2, .int (nI tm)), (3, .int (k)), (4, .int (nI pt)), (5, .int (nI n5)), (6, .int (nI dy))] → W p l e (rmv 3 72) s m args below meth c H locs 0 0 Q (F0 m 43 ls []) := by
            intro n43_
            induction n43_ with
            | zero => intro dy n5 hd hn hne hm43; exact absurd hm43 (by omega)
            | succ n43_ ih43 =>
              intro dy n5 hd hn hne hm43 H locs hI ls hl
              refine lv_iload hx hb dX3_run_43 (lv_at hl 6 rfl) ?_
              refine lv_bipush (v := nI 32) hx hb dX3_run_45 (by decide) ?_
              refine nb_ge (tgt := 116) hx hb dX3_run_47 (by decide) (by omega) (by omega) (fun c47 => ?_) (fun c47 => ?_)
              · refine lv_aload_n hx hb dX3_run_116 rfl (lv_at hl 0 rfl) ?_
                refine lv_iconst (v := nI 2) hx hb dX3_run_117 (by decide) ?_
                refine k_mu (run_v (As := [.int (nI 2)]) (rest := []) hF hK hI (c_X3_fail ) cf_X3_fail k462 0 3 rfl rfl ⟨Nat.le_of_ble_eq_true rfl, Nat.le_of_ble_eq_true rfl⟩ ⟨rfl, rfl⟩ ⟨Nat.le_of_ble_eq_true rfl, Nat.le_of_ble_eq_true rfl⟩ rfl hl.1 rfl (Nat.le_of_ble_eq_true rfl) dX3_run_118) hI (fun r118 u118 hp118 H locs hI => ?_)
                subst hp118
                have hI : wi D z (Ar z) (mw b cI cZ (nI t) th vs kt kv wt wa fl (nI 2) ch X) s H locs := hI
                exact hret 2 hI dX3_run_121 ⟨by rw [rnCode_n htm hky hpt ht, inN_f (fun j hj => hne j (by rw [hn, show dy = 32 by omega]; exact hj))]; rfl, fun q9 => absurd q9 (by decide)⟩
              · refine lv_aload_n hx hb dX3_run_50 rfl (lv_at hl 0 rfl) ?_
                refine lv_iload_n hx hb dX3_run_51 rfl (lv_at hl 2 rfl) ?_
                refine lv_iload_n hx hb dX3_run_52 rfl (lv_at hl 1 rfl) ?_
                refine lv_iload hx hb dX3_run_53 (lv_at hl 6 rfl) ?_
                refine k_ro (run_v (As := [.int (nI tm), .int (nI ky), .int (nI dy)]) (rest := []) hF hK hI (c_X3_begins hM ht (by omega) (by omega) (by omega)) cf_X3_begins k507 0 3 rfl rfl ⟨Nat.le_of_ble_eq_true rfl, Nat.le_of_ble_eq_true rfl⟩ ⟨rfl, rfl⟩ ⟨Nat.le_of_ble_eq_true rfl, Nat.le_of_ble_eq_true rfl⟩ rfl hl.1 rfl (Nat.le_of_ble_eq_true rfl) dX3_run_55) hI (fun H locs hI => ?_)
                refine bz_eq (tgt := 110) hx hb dX3_run_58 (by decide) (fun c58 => ?_) (fun c58 => ?_)
                · refine lv_iinc (v := nI (dy + 1)) (lv' := [(6, .int (nI (dy + 1))), (0, .ref (b 0)), (1, .int (nI ky)), (2, .int (nI tm)), (3, .int (k)), (4, .int (nI pt)), (5, .int (nI n5))]) hx hb dX3_run_110 hl (k := 6) rfl (inc_n _ 1) (by decide) rfl (fun ls hl => ?_)
                  refine lv_goto (tgt := 43) hx hb dX3_run_113 (by decide) ?_
                  exact ih43 (dy + 1) n5 (by omega) (by rw [fb_ct_succ, hn, c58]; rfl) (by first | exact hne | exact ne_s hne c64) (by omega) H locs hI ls (lv_sub hl [1, 2, 3, 4, 5, 6, 0] rfl)
                · refine lv_iload hx hb dX3_run_61 (lv_at hl 5 rfl) ?_
                  refine lv_iload_n hx hb dX3_run_63 rfl (lv_at hl 3 rfl) ?_
                  refine lv_icmp_ne (tgt := 107) hx hb dX3_run_64 (by decide) (fun c64 => ?_) (fun c64 => ?_)
                  · refine lv_iinc (v := nI (n5 + 1)) (lv' := [(5, .int (nI (n5 + 1))), (0, .ref (b 0)), (1, .int (nI ky)), (2, .int (nI tm)), (3, .int (k)), (4, .int (nI pt)), (6, .int (nI dy))]) hx hb dX3_run_107 hl (k := 5) rfl (inc_n _ 1) (by decide) rfl (fun ls hl => ?_)
                    refine lv_iinc (v := nI (dy + 1)) (lv' := [(6, .int (nI (dy + 1))), (5, .int (nI (n5 + 1))), (0, .ref (b 0)), (1, .int (nI ky)), (2, .int (nI tm)), (3, .int (k)), (4, .int (nI pt))]) hx hb dX3_run_110 hl (k := 6) rfl (inc_n _ 1) (by decide) rfl (fun ls hl => ?_)
                    refine lv_goto (tgt := 43) hx hb dX3_run_113 (by decide) ?_
                    exact ih43 (dy + 1) (n5 + 1) (by omega) (by rw [fb_ct_succ, hn, c58]; rfl) (by first | exact hne | exact ne_s hne c64) (by omega) H locs hI ls (lv_sub hl [2, 3, 4, 5, 6, 1, 0] rfl)
                  · refine lv_iload hx hb dX3_run_67 (lv_at hl 4 rfl) ?_
                    refine nz_ne (tgt := 77) hx hb dX3_run_69 (by decide) (by omega) (fun c69 => ?_) (fun c69 => ?_)
                    · refine lv_iload hx hb dX3_run_77 (lv_at hl 4 rfl) ?_
                      refine lv_iconst (v := nI 1) hx hb dX3_run_79 (by decide) ?_
                      refine nb_ne (tgt := 94) hx hb dX3_run_80 (by decide) (by omega) (by omega) (fun c80 => ?_) (fun c80 => ?_)
                      · refine lv_aload_n hx hb dX3_run_94 rfl (lv_at hl 0 rfl) ?_
                        refine va_get (D := D) (ci := 3) (v := .ref (b 2)) (C := RX3) (T := TX3) (N := 10) hx hb hts inX3 hown hK.1 hI.2.1 0 rfl rfl 2 (by decide) (hts _ k424) (fun _ h9 => h9) rfl dX3_run_95 ?_
                        refine lv_iload_n hx hb dX3_run_98 rfl (lv_at hl 2 rfl) ?_
                        refine lv_iload_n hx hb dX3_run_99 rfl (lv_at hl 1 rfl) ?_
                        refine lv_iload hx hb dX3_run_100 (lv_at hl 6 rfl) ?_
                        refine k_ro (run_s (As := [.int (nI tm), .int (nI ky), .int (nI dy)]) (rest := [.ref (b 2)]) hF (c_X3_place ) tt_blind (fun _ _ _ => trivial) cf_X3_place k492 ⟨Nat.le_of_ble_eq_true rfl, Nat.le_of_ble_eq_true rfl⟩ ⟨rfl, rfl⟩ ⟨Nat.le_of_ble_eq_true rfl, Nat.le_of_ble_eq_true rfl⟩ rfl hl.1 rfl (Nat.le_of_ble_eq_true rfl) dX3_run_102) hI (fun H locs hI => ?_)
                        refine ia_ld (f := vs) (k := 128 * tm + 32 * ky + dy) hx hb hK hI 2 rfl dX3_run_105 (by omega) (by decide) ?_
                        subst c64
                        have g4 : n5 < fb_ct (beg S (tm * 4 + ky)) 32 := run_in c58 (by omega) hn
                        have e8 : rnCode S t (nI ky) (nI tm) (nI n5) (nI pt) = 0 := by rw [rnCode_n htm hky hpt ht, inN_t g4 (by have := fb_ct_le (beg S (tm * 4 + ky)) 32; omega)]; rfl
                        have g5 := hg e8
                        rw [nn_nI (by omega), nn_nI (by omega)] at g5
                        have e9 : dy = i := fb_ct_kth_one (p := beg S (tm * 4 + ky)) c58 g5.2.1 (by have g6 := fb_ct_le (beg S (tm * 4 + ky)) 32; rw [g5.2.2, nn_nI (by omega), hn])
                        subst e9
                        exact hret 0 hI dX3_run_106 ⟨by rw [e8], fun _ => by rw [nn_nI (by omega), nn_nI (by omega), nn_nI (by omega)]; unfold rnVal; first | rw [if_pos c69] | rw [if_neg c69, if_pos c80] | (rw [if_neg c69, if_neg c80, val_m hM htm hky (by omega) (beg_some c58)]; rfl)⟩
                      · refine lv_aload_n hx hb dX3_run_83 rfl (lv_at hl 0 rfl) ?_
                        refine lv_iload_n hx hb dX3_run_84 rfl (lv_at hl 2 rfl) ?_
                        refine lv_iload_n hx hb dX3_run_85 rfl (lv_at hl 1 rfl) ?_
                        refine lv_iload hx hb dX3_run_86 (lv_at hl 6 rfl) ?_
                        refine k_ro (run_v (As := [.int (nI tm), .int (nI ky), .int (nI dy)]) (rest := []) hF hK hI (c_X3_endOf hM ht (by omega) (by omega) (by omega)) cf_X3_endOf k515 0 3 rfl rfl ⟨Nat.le_of_ble_eq_true rfl, Nat.le_of_ble_eq_true rfl⟩ ⟨rfl, rfl⟩ ⟨Nat.le_of_ble_eq_true rfl, Nat.le_of_ble_eq_true rfl⟩ rfl hl.1 rfl (Nat.le_of_ble_eq_true rfl) dX3_run_88) hI (fun H locs hI => ?_)
                        refine lv_goto (tgt := 106) hx hb dX3_run_91 (by decide) ?_
                        subst c64
                        have g4 : n5 < fb_ct (beg S (tm * 4 + ky)) 32 := run_in c58 (by omega) hn
                        have e8 : rnCode S t (nI ky) (nI tm) (nI n5) (nI pt) = 0 := by rw [rnCode_n htm hky hpt ht, inN_t g4 (by have := fb_ct_le (beg S (tm * 4 + ky)) 32; omega)]; rfl
                        have g5 := hg e8
                        rw [nn_nI (by omega), nn_nI (by omega)] at g5
                        have e9 : dy = i := fb_ct_kth_one (p := beg S (tm * 4 + ky)) c58 g5.2.1 (by have g6 := fb_ct_le (beg S (tm * 4 + ky)) 32; rw [g5.2.2, nn_nI (by omega), hn])
                        subst e9
                        exact hret 0 hI dX3_run_106 ⟨by rw [e8], fun _ => by rw [nn_nI (by omega), nn_nI (by omega), nn_nI (by omega)]; unfold rnVal; first | rw [if_pos c69] | rw [if_neg c69, if_pos c80] | (rw [if_neg c69, if_neg c80, val_m hM htm hky (by omega) (beg_some c58)]; rfl)⟩
                    · refine lv_iload hx hb dX3_run_72 (lv_at hl 6 rfl) ?_
                      refine lv_goto (tgt := 106) hx hb dX3_run_74 (by decide) ?_
                      subst c64
                      have g4 : n5 < fb_ct (beg S (tm * 4 + ky)) 32 := run_in c58 (by omega) hn
                      have e8 : rnCode S t (nI ky) (nI tm) (nI n5) (nI pt) = 0 := by rw [rnCode_n htm hky hpt ht, inN_t g4 (by have := fb_ct_le (beg S (tm * 4 + ky)) 32; omega)]; rfl
                      have g5 := hg e8
                      rw [nn_nI (by omega), nn_nI (by omega)] at g5
                      have e9 : dy = i := fb_ct_kth_one (p := beg S (tm * 4 + ky)) c58 g5.2.1 (by have g6 := fb_ct_le (beg S (tm * 4 + ky)) 32; rw [g5.2.2, nn_nI (by omega), hn])
                      subst e9
                      exact hret 0 hI dX3_run_106 ⟨by rw [e8], fun _ => by rw [nn_nI (by omega), nn_nI (by omega), nn_nI (by omega)]; unfold rnVal; first | rw [if_pos c69] | rw [if_neg c69, if_pos c80] | (rw [if_neg c69, if_neg c80, val_m hM htm hky (by omega) (beg_some c58)]; rfl)⟩
          exact J43 (32 + 1) 0 0 (by omega) rfl (fun j hj => absurd hj (by omega)) (by omega) H locs hI ls (lv_sub hl [2, 3, 4, 5, 6, 1, 0] rfl)
        · refine lv_aload_n hx hb dX3_run_31 rfl (lv_at hl 0 rfl) ?_
          refine lv_iconst (v := nI 1) hx hb dX3_run_32 (by decide) ?_
          refine k_mu (run_v (As := [.int (nI 1)]) (rest := []) hF hK hI (c_X3_fail ) cf_X3_fail k462 0 3 rfl rfl ⟨Nat.le_of_ble_eq_true rfl, Nat.le_of_ble_eq_true rfl⟩ ⟨rfl, rfl⟩ ⟨Nat.le_of_ble_eq_true rfl, Nat.le_of_ble_eq_true rfl⟩ rfl hl.1 rfl (Nat.le_of_ble_eq_true rfl) dX3_run_33) hI (fun r33 u33 hp33 H locs hI => ?_)
          subst hp33
          have hI : wi D z (Ar z) (mw b cI cZ (nI t) th vs kt kv wt wa fl (nI 1) ch X) s H locs := hI
          exact hret 1 hI dX3_run_36 ⟨by unfold rnCode; first | (simp [c9]; done) | (simp [c17]; done) | simp [okN_f1 (n := 2) c22] | simp [okN_f2 (n := 2) c28 (by decide)], fun q9 => absurd q9 (by decide)⟩
set_option maxHeartbeats 4000000 in
set_option maxRecDepth 100000 in
theorem c_X3_rows {l : Launch} {D : va_G} {cI cZ cJ : ClassId} {z : Nat} {b : Nat → Nat} {X : va_W} {t : Nat} {th : Nat → Bool} {vs : Nat → Int32} {kt : Nat → Bool} {kv : Nat → Int32} {wt : Int32} {wa : Nat → Int32} {fl tr ch : Int32} {S : Sta} (hM : mAbs S th vs t) (ht : t < 40)  : muM (S := Unit) l yX3_rows cX3_rows 1 (some .int) 6 144 [.ref (b 0)] (pw D cI cZ cJ z (mw b cI cZ (nI t) th vs kt kv wt wa fl tr ch X)) D z (fun _ => mw b cI cZ (nI t) th vs kt kv wt wa fl (nI 0) ch X) (fun r _ => r = nI (rowsTo S (4 * (t + 1)))) := by
  refine bd_mu (by decide) (Nat.le_of_ble_eq_true rfl) ?_
  intro p e s m args below meth c Q hF hpw hret ls hl
  obtain ⟨hx, hb, hml, hown, hts, hr, hlocks⟩ := id hF
  have hK := hpw.2.2.2
  have hI : wi D z (Ar z) (mw b cI cZ (nI t) th vs kt kv wt wa fl tr ch X) s s.heap [] := hpw.wi
  have hl : lv_has ls 1 [(0, .ref (b 0))] := hl
  suffices hgo : ∀ (H : Heap) (locs : List Loc), wi D z (Ar z) (mw b cI cZ (nI t) th vs kt kv wt wa fl tr ch X) s H locs → ∀ ls : Array Slot, lv_has ls 1 [(0, .ref (b 0))] → W p l e (rmv 6 144) s m args below meth c H locs 0 0 Q (F0 m 0 ls []) from hgo _ _ hI ls hl
  intro H locs hI ls hl
  refine lv_aload_n hx hb dX3_rows_0 rfl (lv_at hl 0 rfl) ?_
  refine lv_iconst (v := nI 0) hx hb dX3_rows_1 (by decide) ?_
  refine va_put (D := D) (ci := 3) (v := .int (nI 0)) (ty := .int) (C := RX3) (T := TX3) (N := 10) hx hb hts inX3 tyX3 tyX3_ok nmX3 hown hK.1 hI.2.1 hI.2.2.1 hI.2.2.2 0 rfl rfl 8 (by decide) (hts _ k430) (fun _ h9 => h9) rfl (by decide +kernel) rfl rfl (Nat.le_of_ble_eq_true rfl) dX3_rows_2 (fun H locs hP hD hS => ?_)
  have hI : wi D z (Ar z) (mw b cI cZ (nI t) th vs kt kv wt wa fl (nI 0) ch X) s H locs := ⟨hI.1, hP, hD, hS⟩
  refine lv_aload_n hx hb dX3_rows_5 rfl (lv_at hl 0 rfl) ?_
  refine k_ro (run_v (As := []) (rest := []) hF hK hI (c_X3_countRows hM ht) cf_X3_countRows k499 0 3 rfl rfl ⟨Nat.le_of_ble_eq_true rfl, Nat.le_of_ble_eq_true rfl⟩ ⟨rfl, rfl⟩ ⟨Nat.le_of_ble_eq_true rfl, Nat.le_of_ble_eq_true rfl⟩ rfl hl.1 rfl (Nat.le_of_ble_eq_true rfl) dX3_rows_6) hI (fun H locs hI => ?_)
  exact hret () hI dX3_rows_9 rfl
set_option maxHeartbeats 4000000 in
set_option maxRecDepth 100000 in
theorem c_X3_row {l : Launch} {D : va_G} {cI cZ cJ : ClassId} {z : Nat} {b : Nat → Nat} {X : va_W} {t : Nat} {th : Nat → Bool} {vs : Nat → Int32} {kt : Nat → Bool} {kv : Nat → Int32} {wt : Int32} {wa : Nat → Int32} {fl tr ch : Int32} {S : Sta} (hM : mAbs S th vs t) (ht : t < 40) {k part : Int32} {ky tm i : Nat} (hg : rwCode S t k part = 0 → ky < 4 ∧ tm ≤ t ∧ i < 32 ∧ isRw S (tm * 4 + ky) i = true ∧ nn k = rowAt S t ky tm i) : muM (S := Nat) l yX3_row cX3_row 7 (some .int) 5 123 [.ref (b 0), .int (k), .int (part)] (pw D cI cZ cJ z (mw b cI cZ (nI t) th vs kt kv wt wa fl tr ch X)) D z (fun u => mw b cI cZ (nI t) th vs kt kv wt wa fl (nI u) ch X) (fun r u => u = rwCode S t k part ∧ (u = 0 → r = rowV S t tm ky i (nn part))) := by
  refine bd_mu (by decide) (Nat.le_of_ble_eq_true rfl) ?_
  intro p e s m args below meth c Q hF hpw hret ls hl
  obtain ⟨hx, hb, hml, hown, hts, hr, hlocks⟩ := id hF
  have hK := hpw.2.2.2
  have hI : wi D z (Ar z) (mw b cI cZ (nI t) th vs kt kv wt wa fl tr ch X) s s.heap [] := hpw.wi
  have hl : lv_has ls 7 [(0, .ref (b 0)), (1, .int (k)), (2, .int (part))] := hl
  suffices hgo : ∀ (H : Heap) (locs : List Loc), wi D z (Ar z) (mw b cI cZ (nI t) th vs kt kv wt wa fl tr ch X) s H locs → ∀ ls : Array Slot, lv_has ls 7 [(0, .ref (b 0)), (1, .int (k)), (2, .int (part))] → W p l e (rmv 5 123) s m args below meth c H locs 0 0 Q (F0 m 0 ls []) from hgo _ _ hI ls hl
  intro H locs hI ls hl
  refine lv_aload_n hx hb dX3_row_0 rfl (lv_at hl 0 rfl) ?_
  refine lv_iconst (v := nI 0) hx hb dX3_row_1 (by decide) ?_
  refine va_put (D := D) (ci := 3) (v := .int (nI 0)) (ty := .int) (C := RX3) (T := TX3) (N := 10) hx hb hts inX3 tyX3 tyX3_ok nmX3 hown hK.1 hI.2.1 hI.2.2.1 hI.2.2.2 0 rfl rfl 8 (by decide) (hts _ k430) (fun _ h9 => h9) rfl (by decide +kernel) rfl rfl (Nat.le_of_ble_eq_true rfl) dX3_row_2 (fun H locs hP hD hS => ?_)
  have hI : wi D z (Ar z) (mw b cI cZ (nI t) th vs kt kv wt wa fl (nI 0) ch X) s H locs := ⟨hI.1, hP, hD, hS⟩
  refine lv_iload_n hx hb dX3_row_5 rfl (lv_at hl 2 rfl) ?_
  refine lv_if_lt (tgt := 14) hx hb dX3_row_6 (by decide) (fun c6 => ?_) (fun c6 => ?_)
  · refine lv_aload_n hx hb dX3_row_14 rfl (lv_at hl 0 rfl) ?_
    refine lv_iconst (v := nI 1) hx hb dX3_row_15 (by decide) ?_
    refine k_mu (run_v (As := [.int (nI 1)]) (rest := []) hF hK hI (c_X3_fail ) cf_X3_fail k462 0 3 rfl rfl ⟨Nat.le_of_ble_eq_true rfl, Nat.le_of_ble_eq_true rfl⟩ ⟨rfl, rfl⟩ ⟨Nat.le_of_ble_eq_true rfl, Nat.le_of_ble_eq_true rfl⟩ rfl hl.1 rfl (Nat.le_of_ble_eq_true rfl) dX3_row_16) hI (fun r16 u16 hp16 H locs hI => ?_)
    subst hp16
    have hI : wi D z (Ar z) (mw b cI cZ (nI t) th vs kt kv wt wa fl (nI 1) ch X) s H locs := hI
    exact hret 1 hI dX3_row_19 ⟨by unfold rwCode; first | simp [okN_f1 (n := 5) c6] | simp [okN_f2 (n := 5) c11 (by decide)], fun q9 => absurd q9 (by decide)⟩
  · refine lv_iload_n hx hb dX3_row_9 rfl (lv_at hl 2 rfl) ?_
    refine lv_iconst (v := nI 5) hx hb dX3_row_10 (by decide) ?_
    refine lv_icmp_le (tgt := 20) hx hb dX3_row_11 (by decide) (fun c11 => ?_) (fun c11 => ?_)
    · obtain ⟨pt, hpt, rfl⟩ := okN_n (okN_raw c6 c11 (by decide))
      refine lv_iconst (v := nI 0) hx hb dX3_row_20 (by decide) ?_
      refine lv_istore_n (lv' := [(3, .int (nI 0)), (0, .ref (b 0)), (1, .int (k)), (2, .int (nI pt))]) hx hb dX3_row_21 rfl hl (by decide) rfl (fun ls hl => ?_)
      refine lv_iconst (v := nI 0) hx hb dX3_row_22 (by decide) ?_
      refine lv_istore (lv' := [(4, .int (nI 0)), (3, .int (nI 0)), (0, .ref (b 0)), (1, .int (k)), (2, .int (nI pt))]) hx hb dX3_row_23 hl (by decide) rfl (fun ls hl => ?_)
      have J25 : ∀ (n25_ : Nat) (y : Nat) (n3 : Nat) (hy : y ≤ 4) (hn4 : n3 = fb_sm (rowsK S t) y) (hne4 : ∀ j, j < n3 → ¬ nI j = k) (hm25 : 4 < y + n25_) (H : Heap) (locs : List Loc), wi D z (Ar z) (mw b cI cZ (nI t) th vs kt kv wt wa fl (nI 0) ch X) s H locs → ∀ ls : Array Slot, lv_has ls 7 [(0, .ref (b 0)), (1, .int (k)), (2, .int (nI pt)), (3, .int (nI n3)), (4, .int (nI y))] → W p l e (rmv 5 123) s m args below meth c H locs 0 0 Q (F0 m 25 ls []) := by
        intro n25_
        induction n25_ with
        | zero => intro y n3 hy hn4 hne4 hm25; exact absurd hm25 (by omega)
        | succ n25_ ih25 =>
          intro y n3 hy hn4 hne4 hm25 H locs hI ls hl
          refine lv_iload hx hb dX3_row_25 (lv_at hl 4 rfl) ?_
          refine lv_iconst (v := nI 4) hx hb dX3_row_27 (by decide) ?_
          refine nb_ge (tgt := 172) hx hb dX3_row_28 (by decide) (by omega) (by omega) (fun c28 => ?_) (fun c28 => ?_)
          · refine lv_aload_n hx hb dX3_row_172 rfl (lv_at hl 0 rfl) ?_
            refine lv_iconst (v := nI 2) hx hb dX3_row_173 (by decide) ?_
            refine k_mu (run_v (As := [.int (nI 2)]) (rest := []) hF hK hI (c_X3_fail ) cf_X3_fail k462 0 3 rfl rfl ⟨Nat.le_of_ble_eq_true rfl, Nat.le_of_ble_eq_true rfl⟩ ⟨rfl, rfl⟩ ⟨Nat.le_of_ble_eq_true rfl, Nat.le_of_ble_eq_true rfl⟩ rfl hl.1 rfl (Nat.le_of_ble_eq_true rfl) dX3_row_174) hI (fun r174 u174 hp174 H locs hI => ?_)
            subst hp174
            have hI : wi D z (Ar z) (mw b cI cZ (nI t) th vs kt kv wt wa fl (nI 2) ch X) s H locs := hI
            exact hret 2 hI dX3_row_177 ⟨by rw [rwCode_n hpt, inN_f (fun j hj => hne4 j (by rw [hn4, show y = 4 by omega, rows_all]; exact hj))]; rfl, fun q9 => absurd q9 (by decide)⟩
          · refine lv_iconst (v := nI 0) hx hb dX3_row_31 (by decide) ?_
            refine lv_istore (lv' := [(5, .int (nI 0)), (0, .ref (b 0)), (1, .int (k)), (2, .int (nI pt)), (3, .int (nI n3)), (4, .int (nI y))]) hx hb dX3_row_32 hl (by decide) rfl (fun ls hl => ?_)
            have J34 : ∀ (n34_ : Nat) (x : Nat) (n3 : Nat) (hx1 : x ≤ t + 1) (hn34 : n3 = fb_sm (rowsK S t) y + fb_sm (fun w => rowsIn S (w * 4 + y)) x) (hne34 : ∀ j, j < n3 → ¬ nI j = k) (hm34 : t + 1 < x + n34_) (H : Heap) (locs : List Loc), wi D z (Ar z) (mw b cI cZ (nI t) th vs kt kv wt wa fl (nI 0) ch X) s H locs → ∀ ls : Array Slot, lv_has ls 7 [(0, .ref (b 0)), (1, .int (k)), (2, .int (nI pt)), (3, .int (nI n3)), (4, .int (nI y)), (5, .int (nI x))] → W p l e (rmv 5 123) s m args below meth c H locs 0 0 Q (F0 m 34 ls []) := by
              intro n34_
              induction n34_ with
              | zero => intro x n3 hx1 hn34 hne34 hm34; exact absurd hm34 (by omega)
              | succ n34_ ih34 =>
                intro x n3 hx1 hn34 hne34 hm34 H locs hI ls hl
                refine lv_iload hx hb dX3_row_34 (lv_at hl 5 rfl) ?_
                refine lv_aload_n hx hb dX3_row_36 rfl (lv_at hl 0 rfl) ?_
                refine va_get (D := D) (ci := 3) (v := .int (nI t)) (C := RX3) (T := TX3) (N := 10) hx hb hts inX3 hown hK.1 hI.2.1 0 rfl rfl 0 (by decide) (hts _ k422) (fun _ h9 => h9) rfl dX3_row_37 ?_
                refine nb_gt (tgt := 166) hx hb dX3_row_40 (by decide) (by omega) (by omega) (fun c40 => ?_) (fun c40 => ?_)
                · refine lv_iinc (v := nI (y + 1)) (lv' := [(4, .int (nI (y + 1))), (0, .ref (b 0)), (1, .int (k)), (2, .int (nI pt)), (3, .int (nI n3)), (5, .int (nI x))]) hx hb dX3_row_166 hl (k := 4) rfl (inc_n _ 1) (by decide) rfl (fun ls hl => ?_)
                  refine lv_goto (tgt := 25) hx hb dX3_row_169 (by decide) ?_
                  exact ih25 (y + 1) n3 (by omega) (by have e9 : rowsK S t y = fb_sm (fun w => rowsIn S (w * 4 + y)) x := (by unfold rowsK; rw [show t + 1 = x by omega]); rw [fb_sm_succ]; omega) hne34 (by omega) H locs hI ls (lv_sub hl [1, 2, 3, 4, 0] rfl)
                · refine lv_iconst (v := nI 0) hx hb dX3_row_43 (by decide) ?_
                  refine lv_istore (lv' := [(6, .int (nI 0)), (0, .ref (b 0)), (1, .int (k)), (2, .int (nI pt)), (3, .int (nI n3)), (4, .int (nI y)), (5, .int (nI x))]) hx hb dX3_row_44 hl (by decide) rfl (fun ls hl => ?_)
                  have J46 : ∀ (n46_ : Nat) (dy : Nat) (n3 : Nat) (hd : dy ≤ 32) (hn46 : n3 = fb_sm (rowsK S t) y + fb_sm (fun w => rowsIn S (w * 4 + y)) x + fb_ct (isRw S (x * 4 + y)) dy) (hne46 : ∀ j, j < n3 → ¬ nI j = k) (hm46 : 32 < dy + n46_) (H : Heap) (locs : List Loc), wi D z (Ar z) (mw b cI cZ (nI t) th vs kt kv wt wa fl (nI 0) ch X) s H locs → ∀ ls : Array Slot, lv_has ls 7 [(0, .ref (b 0)), (1, .int (k)), (2, .int (nI pt)), (3, .int (nI n3)), (4, .int (nI y)), (5, .int (nI x)), (6, .int (nI dy))] → W p l e (rmv 5 123) s m args below meth c H locs 0 0 Q (F0 m 46 ls []) := by
                    intro n46_
                    induction n46_ with
                    | zero => intro dy n3 hd hn46 hne46 hm46; exact absurd hm46 (by omega)
                    | succ n46_ ih46 =>
                      intro dy n3 hd hn46 hne46 hm46 H locs hI ls hl
                      refine lv_iload hx hb dX3_row_46 (lv_at hl 6 rfl) ?_
                      refine lv_bipush (v := nI 32) hx hb dX3_row_48 (by decide) ?_
                      refine nb_ge (tgt := 160) hx hb dX3_row_50 (by decide) (by omega) (by omega) (fun c50 => ?_) (fun c50 => ?_)
                      · refine lv_iinc (v := nI (x + 1)) (lv' := [(5, .int (nI (x + 1))), (0, .ref (b 0)), (1, .int (k)), (2, .int (nI pt)), (3, .int (nI n3)), (4, .int (nI y)), (6, .int (nI dy))]) hx hb dX3_row_160 hl (k := 5) rfl (inc_n _ 1) (by decide) rfl (fun ls hl => ?_)
                        refine lv_goto (tgt := 34) hx hb dX3_row_163 (by decide) ?_
                        exact ih34 (x + 1) n3 (by omega) (by have e9 : rowsIn S (x * 4 + y) = fb_ct (isRw S (x * 4 + y)) dy := (by unfold rowsIn; rw [show 32 = dy by omega]); rw [fb_sm_succ]; show _ = _ + (_ + rowsIn S (x * 4 + y)); omega) hne46 (by omega) H locs hI ls (lv_sub hl [1, 2, 3, 4, 5, 0] rfl)
                      · refine lv_aload_n hx hb dX3_row_53 rfl (lv_at hl 0 rfl) ?_
                        refine lv_iload hx hb dX3_row_54 (lv_at hl 5 rfl) ?_
                        refine lv_iload hx hb dX3_row_56 (lv_at hl 4 rfl) ?_
                        refine lv_iload hx hb dX3_row_58 (lv_at hl 6 rfl) ?_
                        refine k_ro (run_v (As := [.int (nI x), .int (nI y), .int (nI dy)]) (rest := []) hF hK hI (c_X3_isRow hM ht (by omega) (by omega) (by omega)) cf_X3_isRow k503 0 3 rfl rfl ⟨Nat.le_of_ble_eq_true rfl, Nat.le_of_ble_eq_true rfl⟩ ⟨rfl, rfl⟩ ⟨Nat.le_of_ble_eq_true rfl, Nat.le_of_ble_eq_true rfl⟩ rfl hl.1 rfl (Nat.le_of_ble_eq_true rfl) dX3_row_60) hI (fun H locs hI => ?_)
                        refine bz_eq (tgt := 154) hx hb dX3_row_63 (by decide) (fun c63 => ?_) (fun c63 => ?_)
                        · refine lv_iinc (v := nI (dy + 1)) (lv' := [(6, .int (nI (dy + 1))), (0, .ref (b 0)), (1, .int (k)), (2, .int (nI pt)), (3, .int (nI n3)), (4, .int (nI y)), (5, .int (nI x))]) hx hb dX3_row_154 hl (k := 6) rfl (inc_n _ 1) (by decide) rfl (fun ls hl => ?_)
                          refine lv_goto (tgt := 46) hx hb dX3_row_157 (by decide) ?_
                          exact ih46 (dy + 1) n3 (by omega) (by rw [fb_ct_succ, c63]; simp; omega) (by first | exact hne46 | exact ne_s hne46 c68) (by omega) H locs hI ls (lv_sub hl [1, 2, 3, 4, 5, 6, 0] rfl)
                        · refine lv_iload_n hx hb dX3_row_66 rfl (lv_at hl 3 rfl) ?_
                          refine lv_iload_n hx hb dX3_row_67 rfl (lv_at hl 1 rfl) ?_
                          refine lv_icmp_ne (tgt := 151) hx hb dX3_row_68 (by decide) (fun c68 => ?_) (fun c68 => ?_)
                          · refine lv_iinc (v := nI (n3 + 1)) (lv' := [(3, .int (nI (n3 + 1))), (0, .ref (b 0)), (1, .int (k)), (2, .int (nI pt)), (4, .int (nI y)), (5, .int (nI x)), (6, .int (nI dy))]) hx hb dX3_row_151 hl (k := 3) rfl (inc_n _ 1) (by decide) rfl (fun ls hl => ?_)
                            refine lv_iinc (v := nI (dy + 1)) (lv' := [(6, .int (nI (dy + 1))), (3, .int (nI (n3 + 1))), (0, .ref (b 0)), (1, .int (k)), (2, .int (nI pt)), (4, .int (nI y)), (5, .int (nI x))]) hx hb dX3_row_154 hl (k := 6) rfl (inc_n _ 1) (by decide) rfl (fun ls hl => ?_)
                            refine lv_goto (tgt := 46) hx hb dX3_row_157 (by decide) ?_
                            exact ih46 (dy + 1) (n3 + 1) (by omega) (by rw [fb_ct_succ, c63]; simp; omega) (by first | exact hne46 | exact ne_s hne46 c68) (by omega) H locs hI ls (lv_sub hl [2, 3, 4, 1, 5, 6, 0] rfl)
                          · refine lv_iload_n hx hb dX3_row_71 rfl (lv_at hl 2 rfl) ?_
                            refine nz_ne (tgt := 80) hx hb dX3_row_72 (by decide) (by omega) (fun c72 => ?_) (fun c72 => ?_)
                            · refine lv_iload_n hx hb dX3_row_80 rfl (lv_at hl 2 rfl) ?_
                              refine lv_iconst (v := nI 1) hx hb dX3_row_81 (by decide) ?_
                              refine nb_ne (tgt := 102) hx hb dX3_row_82 (by decide) (by omega) (by omega) (fun c82 => ?_) (fun c82 => ?_)
                              · refine lv_iload_n hx hb dX3_row_102 rfl (lv_at hl 2 rfl) ?_
                                refine lv_iconst (v := nI 2) hx hb dX3_row_103 (by decide) ?_
                                refine nb_ne (tgt := 112) hx hb dX3_row_104 (by decide) (by omega) (by omega) (fun c104 => ?_) (fun c104 => ?_)
                                · refine lv_iload_n hx hb dX3_row_112 rfl (lv_at hl 2 rfl) ?_
                                  refine lv_iconst (v := nI 3) hx hb dX3_row_113 (by decide) ?_
                                  refine nb_ne (tgt := 130) hx hb dX3_row_114 (by decide) (by omega) (by omega) (fun c114 => ?_) (fun c114 => ?_)
                                  · refine lv_iload_n hx hb dX3_row_130 rfl (lv_at hl 2 rfl) ?_
                                    refine lv_iconst (v := nI 4) hx hb dX3_row_131 (by decide) ?_
                                    refine nb_ne (tgt := 140) hx hb dX3_row_132 (by decide) (by omega) (by omega) (fun c132 => ?_) (fun c132 => ?_)
                                    · have hs := beg_some (isRw_beg c63)
                                      refine lv_aload_n hx hb dX3_row_140 rfl (lv_at hl 0 rfl) ?_
                                      refine lv_iload hx hb dX3_row_141 (lv_at hl 5 rfl) ?_
                                      refine lv_iload hx hb dX3_row_143 (lv_at hl 4 rfl) ?_
                                      refine lv_iload hx hb dX3_row_145 (lv_at hl 6 rfl) ?_
                                      refine k_ro (run_v (As := [.int (nI x), .int (nI y), .int (nI dy)]) (rest := []) hF hK hI (c_X3_endTime hM ht (by omega) (by omega) (by omega) hs) cf_X3_endTime k574 0 3 rfl rfl ⟨Nat.le_of_ble_eq_true rfl, Nat.le_of_ble_eq_true rfl⟩ ⟨rfl, rfl⟩ ⟨Nat.le_of_ble_eq_true rfl, Nat.le_of_ble_eq_true rfl⟩ rfl hl.1 rfl (Nat.le_of_ble_eq_true rfl) dX3_row_147) hI (fun H locs hI => ?_)
                                      subst c68
                                      have e7 : rowAt S t y x dy = n3 := by rw [hn46]; rfl
                                      have g4 := rowAt_lt (S := S) (t := t) (show y < 4 by omega) (show x ≤ t by omega) (show dy < 32 by omega) c63
                                      rw [e7] at g4
                                      have g3 := rowsTo_le (S := S) (4 * (t + 1))
                                      have e8 : rwCode S t (nI n3) (nI pt) = 0 := by rw [rwCode_n hpt, inN_t g4 (by omega)]; rfl
                                      obtain ⟨b3, b4, b5, br, bk⟩ := hg e8
                                      rw [nn_nI (by omega)] at bk
                                      obtain ⟨e1, e2, e3⟩ := row_uniq (show y < 4 by omega) (show x ≤ t by omega) (show dy < 32 by omega) c63 b3 b4 b5 br (by rw [e7, ← bk])
                                      subst e1 e2 e3
                                      exact hret 0 hI dX3_row_150 ⟨by rw [e8], fun _ => by rw [nn_nI (by omega)]; unfold rowV; first | rw [if_pos c72] | (rw [if_neg c72, if_pos c82, val_m hM (by omega) (by omega) (by omega) (beg_some (isRw_beg c63))]; rfl) | rw [if_neg c72, if_neg c82, if_pos c104] | rw [if_neg c72, if_neg c82, if_neg c104, if_pos c114] | rw [if_neg c72, if_neg c82, if_neg c104, if_neg c114, if_pos c132] | rw [if_neg c72, if_neg c82, if_neg c104, if_neg c114, if_neg c132]⟩
                                    · refine lv_iload hx hb dX3_row_135 (lv_at hl 5 rfl) ?_
                                      refine lv_goto (tgt := 150) hx hb dX3_row_137 (by decide) ?_
                                      subst c68
                                      have e7 : rowAt S t y x dy = n3 := by rw [hn46]; rfl
                                      have g4 := rowAt_lt (S := S) (t := t) (show y < 4 by omega) (show x ≤ t by omega) (show dy < 32 by omega) c63
                                      rw [e7] at g4
                                      have g3 := rowsTo_le (S := S) (4 * (t + 1))
                                      have e8 : rwCode S t (nI n3) (nI pt) = 0 := by rw [rwCode_n hpt, inN_t g4 (by omega)]; rfl
                                      obtain ⟨b3, b4, b5, br, bk⟩ := hg e8
                                      rw [nn_nI (by omega)] at bk
                                      obtain ⟨e1, e2, e3⟩ := row_uniq (show y < 4 by omega) (show x ≤ t by omega) (show dy < 32 by omega) c63 b3 b4 b5 br (by rw [e7, ← bk])
                                      subst e1 e2 e3
                                      exact hret 0 hI dX3_row_150 ⟨by rw [e8], fun _ => by rw [nn_nI (by omega)]; unfold rowV; first | rw [if_pos c72] | (rw [if_neg c72, if_pos c82, val_m hM (by omega) (by omega) (by omega) (beg_some (isRw_beg c63))]; rfl) | rw [if_neg c72, if_neg c82, if_pos c104] | rw [if_neg c72, if_neg c82, if_neg c104, if_pos c114] | rw [if_neg c72, if_neg c82, if_neg c104, if_neg c114, if_pos c132] | rw [if_neg c72, if_neg c82, if_neg c104, if_neg c114, if_neg c132]⟩
                                  · refine lv_aload_n hx hb dX3_row_117 rfl (lv_at hl 0 rfl) ?_
                                    refine lv_iload hx hb dX3_row_118 (lv_at hl 5 rfl) ?_
                                    refine lv_iload hx hb dX3_row_120 (lv_at hl 4 rfl) ?_
                                    refine lv_iload hx hb dX3_row_122 (lv_at hl 6 rfl) ?_
                                    refine k_ro (run_v (As := [.int (nI x), .int (nI y), .int (nI dy)]) (rest := []) hF hK hI (c_X3_endOf hM ht (by omega) (by omega) (by omega)) cf_X3_endOf k515 0 3 rfl rfl ⟨Nat.le_of_ble_eq_true rfl, Nat.le_of_ble_eq_true rfl⟩ ⟨rfl, rfl⟩ ⟨Nat.le_of_ble_eq_true rfl, Nat.le_of_ble_eq_true rfl⟩ rfl hl.1 rfl (Nat.le_of_ble_eq_true rfl) dX3_row_124) hI (fun H locs hI => ?_)
                                    refine lv_goto (tgt := 150) hx hb dX3_row_127 (by decide) ?_
                                    subst c68
                                    have e7 : rowAt S t y x dy = n3 := by rw [hn46]; rfl
                                    have g4 := rowAt_lt (S := S) (t := t) (show y < 4 by omega) (show x ≤ t by omega) (show dy < 32 by omega) c63
                                    rw [e7] at g4
                                    have g3 := rowsTo_le (S := S) (4 * (t + 1))
                                    have e8 : rwCode S t (nI n3) (nI pt) = 0 := by rw [rwCode_n hpt, inN_t g4 (by omega)]; rfl
                                    obtain ⟨b3, b4, b5, br, bk⟩ := hg e8
                                    rw [nn_nI (by omega)] at bk
                                    obtain ⟨e1, e2, e3⟩ := row_uniq (show y < 4 by omega) (show x ≤ t by omega) (show dy < 32 by omega) c63 b3 b4 b5 br (by rw [e7, ← bk])
                                    subst e1 e2 e3
                                    exact hret 0 hI dX3_row_150 ⟨by rw [e8], fun _ => by rw [nn_nI (by omega)]; unfold rowV; first | rw [if_pos c72] | (rw [if_neg c72, if_pos c82, val_m hM (by omega) (by omega) (by omega) (beg_some (isRw_beg c63))]; rfl) | rw [if_neg c72, if_neg c82, if_pos c104] | rw [if_neg c72, if_neg c82, if_neg c104, if_pos c114] | rw [if_neg c72, if_neg c82, if_neg c104, if_neg c114, if_pos c132] | rw [if_neg c72, if_neg c82, if_neg c104, if_neg c114, if_neg c132]⟩
                                · refine lv_iload hx hb dX3_row_107 (lv_at hl 6 rfl) ?_
                                  refine lv_goto (tgt := 150) hx hb dX3_row_109 (by decide) ?_
                                  subst c68
                                  have e7 : rowAt S t y x dy = n3 := by rw [hn46]; rfl
                                  have g4 := rowAt_lt (S := S) (t := t) (show y < 4 by omega) (show x ≤ t by omega) (show dy < 32 by omega) c63
                                  rw [e7] at g4
                                  have g3 := rowsTo_le (S := S) (4 * (t + 1))
                                  have e8 : rwCode S t (nI n3) (nI pt) = 0 := by rw [rwCode_n hpt, inN_t g4 (by omega)]; rfl
                                  obtain ⟨b3, b4, b5, br, bk⟩ := hg e8
                                  rw [nn_nI (by omega)] at bk
                                  obtain ⟨e1, e2, e3⟩ := row_uniq (show y < 4 by omega) (show x ≤ t by omega) (show dy < 32 by omega) c63 b3 b4 b5 br (by rw [e7, ← bk])
                                  subst e1 e2 e3
                                  exact hret 0 hI dX3_row_150 ⟨by rw [e8], fun _ => by rw [nn_nI (by omega)]; unfold rowV; first | rw [if_pos c72] | (rw [if_neg c72, if_pos c82, val_m hM (by omega) (by omega) (by omega) (beg_some (isRw_beg c63))]; rfl) | rw [if_neg c72, if_neg c82, if_pos c104] | rw [if_neg c72, if_neg c82, if_neg c104, if_pos c114] | rw [if_neg c72, if_neg c82, if_neg c104, if_neg c114, if_pos c132] | rw [if_neg c72, if_neg c82, if_neg c104, if_neg c114, if_neg c132]⟩
                              · refine lv_aload_n hx hb dX3_row_85 rfl (lv_at hl 0 rfl) ?_
                                refine va_get (D := D) (ci := 3) (v := .ref (b 2)) (C := RX3) (T := TX3) (N := 10) hx hb hts inX3 hown hK.1 hI.2.1 0 rfl rfl 2 (by decide) (hts _ k424) (fun _ h9 => h9) rfl dX3_row_86 ?_
                                refine lv_iload hx hb dX3_row_89 (lv_at hl 5 rfl) ?_
                                refine lv_iload hx hb dX3_row_91 (lv_at hl 4 rfl) ?_
                                refine lv_iload hx hb dX3_row_93 (lv_at hl 6 rfl) ?_
                                refine k_ro (run_s (As := [.int (nI x), .int (nI y), .int (nI dy)]) (rest := [.ref (b 2)]) hF (c_X3_place ) tt_blind (fun _ _ _ => trivial) cf_X3_place k492 ⟨Nat.le_of_ble_eq_true rfl, Nat.le_of_ble_eq_true rfl⟩ ⟨rfl, rfl⟩ ⟨Nat.le_of_ble_eq_true rfl, Nat.le_of_ble_eq_true rfl⟩ rfl hl.1 rfl (Nat.le_of_ble_eq_true rfl) dX3_row_95) hI (fun H locs hI => ?_)
                                refine ia_ld (f := vs) (k := 128 * x + 32 * y + dy) hx hb hK hI 2 rfl dX3_row_98 (by omega) (by decide) ?_
                                refine lv_goto (tgt := 150) hx hb dX3_row_99 (by decide) ?_
                                subst c68
                                have e7 : rowAt S t y x dy = n3 := by rw [hn46]; rfl
                                have g4 := rowAt_lt (S := S) (t := t) (show y < 4 by omega) (show x ≤ t by omega) (show dy < 32 by omega) c63
                                rw [e7] at g4
                                have g3 := rowsTo_le (S := S) (4 * (t + 1))
                                have e8 : rwCode S t (nI n3) (nI pt) = 0 := by rw [rwCode_n hpt, inN_t g4 (by omega)]; rfl
                                obtain ⟨b3, b4, b5, br, bk⟩ := hg e8
                                rw [nn_nI (by omega)] at bk
                                obtain ⟨e1, e2, e3⟩ := row_uniq (show y < 4 by omega) (show x ≤ t by omega) (show dy < 32 by omega) c63 b3 b4 b5 br (by rw [e7, ← bk])
                                subst e1 e2 e3
                                exact hret 0 hI dX3_row_150 ⟨by rw [e8], fun _ => by rw [nn_nI (by omega)]; unfold rowV; first | rw [if_pos c72] | (rw [if_neg c72, if_pos c82, val_m hM (by omega) (by omega) (by omega) (beg_some (isRw_beg c63))]; rfl) | rw [if_neg c72, if_neg c82, if_pos c104] | rw [if_neg c72, if_neg c82, if_neg c104, if_pos c114] | rw [if_neg c72, if_neg c82, if_neg c104, if_neg c114, if_pos c132] | rw [if_neg c72, if_neg c82, if_neg c104, if_neg c114, if_neg c132]⟩
                            · refine lv_iload hx hb dX3_row_75 (lv_at hl 4 rfl) ?_
                              refine lv_goto (tgt := 150) hx hb dX3_row_77 (by decide) ?_
                              subst c68
                              have e7 : rowAt S t y x dy = n3 := by rw [hn46]; rfl
                              have g4 := rowAt_lt (S := S) (t := t) (show y < 4 by omega) (show x ≤ t by omega) (show dy < 32 by omega) c63
                              rw [e7] at g4
                              have g3 := rowsTo_le (S := S) (4 * (t + 1))
                              have e8 : rwCode S t (nI n3) (nI pt) = 0 := by rw [rwCode_n hpt, inN_t g4 (by omega)]; rfl
                              obtain ⟨b3, b4, b5, br, bk⟩ := hg e8
                              rw [nn_nI (by omega)] at bk
                              obtain ⟨e1, e2, e3⟩ := row_uniq (show y < 4 by omega) (show x ≤ t by omega) (show dy < 32 by omega) c63 b3 b4 b5 br (by rw [e7, ← bk])
                              subst e1 e2 e3
                              exact hret 0 hI dX3_row_150 ⟨by rw [e8], fun _ => by rw [nn_nI (by omega)]; unfold rowV; first | rw [if_pos c72] | (rw [if_neg c72, if_pos c82, val_m hM (by omega) (by omega) (by omega) (beg_some (isRw_beg c63))]; rfl) | rw [if_neg c72, if_neg c82, if_pos c104] | rw [if_neg c72, if_neg c82, if_neg c104, if_pos c114] | rw [if_neg c72, if_neg c82, if_neg c104, if_neg c114, if_pos c132] | rw [if_neg c72, if_neg c82, if_neg c104, if_neg c114, if_neg c132]⟩
                  exact J46 (32 + 1) 0 n3 (by omega) (by rw [fb_ct]; omega) hne34 (by omega) H locs hI ls (lv_sub hl [1, 2, 3, 4, 5, 6, 0] rfl)
            exact J34 (t + 1 + 1) 0 n3 (by omega) (by rw [fb_sm]; omega) hne4 (by omega) H locs hI ls (lv_sub hl [1, 2, 3, 4, 5, 0] rfl)
      exact J25 (4 + 1) 0 0 (by omega) rfl (fun j hj => absurd hj (by omega)) (by omega) H locs hI ls (lv_sub hl [2, 3, 4, 1, 0] rfl)
    · refine lv_aload_n hx hb dX3_row_14 rfl (lv_at hl 0 rfl) ?_
      refine lv_iconst (v := nI 1) hx hb dX3_row_15 (by decide) ?_
      refine k_mu (run_v (As := [.int (nI 1)]) (rest := []) hF hK hI (c_X3_fail ) cf_X3_fail k462 0 3 rfl rfl ⟨Nat.le_of_ble_eq_true rfl, Nat.le_of_ble_eq_true rfl⟩ ⟨rfl, rfl⟩ ⟨Nat.le_of_ble_eq_true rfl, Nat.le_of_ble_eq_true rfl⟩ rfl hl.1 rfl (Nat.le_of_ble_eq_true rfl) dX3_row_16) hI (fun r16 u16 hp16 H locs hI => ?_)
      subst hp16
      have hI : wi D z (Ar z) (mw b cI cZ (nI t) th vs kt kv wt wa fl (nI 1) ch X) s H locs := hI
      exact hret 1 hI dX3_row_19 ⟨by unfold rwCode; first | simp [okN_f1 (n := 5) c6] | simp [okN_f2 (n := 5) c11 (by decide)], fun q9 => absurd q9 (by decide)⟩
set_option maxHeartbeats 4000000 in
set_option maxRecDepth 100000 in
theorem c_X3_changes {l : Launch} {D : va_G} {cI cZ cJ : ClassId} {z : Nat} {b : Nat → Nat} {X : va_W} {t : Nat} {th : Nat → Bool} {vs : Nat → Int32} {kt : Nat → Bool} {kv : Nat → Int32} {wt : Int32} {wa : Nat → Int32} {fl tr ch : Int32} {S : Sta} (hM : mAbs S th vs t) (ht : t < 40) {key day : Int32} : muM (S := Nat) l yX3_changes cX3_changes 7 (some .int) 1 22 [.ref (b 0), .int (key), .int (day)] (pw D cI cZ cJ z (mw b cI cZ (nI t) th vs kt kv wt wa fl tr ch X)) D z (fun u => mw b cI cZ (nI t) th vs kt kv wt wa fl (nI u) ch X) (fun r u => u = chCode key day ∧ (u = 0 → r = nI (chVal S (nn key) (nn day) t))) := by
  refine bd_mu (by decide) (Nat.le_of_ble_eq_true rfl) ?_
  intro p e s m args below meth c Q hF hpw hret ls hl
  obtain ⟨hx, hb, hml, hown, hts, hr, hlocks⟩ := id hF
  have hK := hpw.2.2.2
  have hI : wi D z (Ar z) (mw b cI cZ (nI t) th vs kt kv wt wa fl tr ch X) s s.heap [] := hpw.wi
  have hl : lv_has ls 7 [(0, .ref (b 0)), (1, .int (key)), (2, .int (day))] := hl
  suffices hgo : ∀ (H : Heap) (locs : List Loc), wi D z (Ar z) (mw b cI cZ (nI t) th vs kt kv wt wa fl tr ch X) s H locs → ∀ ls : Array Slot, lv_has ls 7 [(0, .ref (b 0)), (1, .int (key)), (2, .int (day))] → W p l e (rmv 1 22) s m args below meth c H locs 0 0 Q (F0 m 0 ls []) from hgo _ _ hI ls hl
  intro H locs hI ls hl
  refine lv_aload_n hx hb dX3_changes_0 rfl (lv_at hl 0 rfl) ?_
  refine lv_iconst (v := nI 0) hx hb dX3_changes_1 (by decide) ?_
  refine va_put (D := D) (ci := 3) (v := .int (nI 0)) (ty := .int) (C := RX3) (T := TX3) (N := 10) hx hb hts inX3 tyX3 tyX3_ok nmX3 hown hK.1 hI.2.1 hI.2.2.1 hI.2.2.2 0 rfl rfl 8 (by decide) (hts _ k430) (fun _ h9 => h9) rfl (by decide +kernel) rfl rfl (Nat.le_of_ble_eq_true rfl) dX3_changes_2 (fun H locs hP hD hS => ?_)
  have hI : wi D z (Ar z) (mw b cI cZ (nI t) th vs kt kv wt wa fl (nI 0) ch X) s H locs := ⟨hI.1, hP, hD, hS⟩
  refine lv_iload_n hx hb dX3_changes_5 rfl (lv_at hl 1 rfl) ?_
  refine k_ro (run_s (As := [.int (key)]) (rest := []) hF (c_X3_isKey ) tt_blind (fun _ _ _ => trivial) cf_X3_isKey k482 ⟨Nat.le_of_ble_eq_true rfl, Nat.le_of_ble_eq_true rfl⟩ ⟨rfl, rfl⟩ ⟨Nat.le_of_ble_eq_true rfl, Nat.le_of_ble_eq_true rfl⟩ rfl hl.1 rfl (Nat.le_of_ble_eq_true rfl) dX3_changes_6) hI (fun H locs hI => ?_)
  refine bz_eq (tgt := 19) hx hb dX3_changes_9 (by decide) (fun c9 => ?_) (fun c9 => ?_)
  · refine lv_aload_n hx hb dX3_changes_19 rfl (lv_at hl 0 rfl) ?_
    refine lv_iconst (v := nI 1) hx hb dX3_changes_20 (by decide) ?_
    refine k_mu (run_v (As := [.int (nI 1)]) (rest := []) hF hK hI (c_X3_fail ) cf_X3_fail k462 0 3 rfl rfl ⟨Nat.le_of_ble_eq_true rfl, Nat.le_of_ble_eq_true rfl⟩ ⟨rfl, rfl⟩ ⟨Nat.le_of_ble_eq_true rfl, Nat.le_of_ble_eq_true rfl⟩ rfl hl.1 rfl (Nat.le_of_ble_eq_true rfl) dX3_changes_21) hI (fun r21 u21 hp21 H locs hI => ?_)
    subst hp21
    have hI : wi D z (Ar z) (mw b cI cZ (nI t) th vs kt kv wt wa fl (nI 1) ch X) s H locs := hI
    exact hret 1 hI dX3_changes_24 ⟨by unfold chCode; first | (simp [c9]; done) | (simp [c16]; done), fun q9 => absurd q9 (by decide)⟩
  · refine lv_iload_n hx hb dX3_changes_12 rfl (lv_at hl 2 rfl) ?_
    refine k_ro (run_s (As := [.int (day)]) (rest := []) hF (c_X3_isDay ) tt_blind (fun _ _ _ => trivial) cf_X3_isDay k543 ⟨Nat.le_of_ble_eq_true rfl, Nat.le_of_ble_eq_true rfl⟩ ⟨rfl, rfl⟩ ⟨Nat.le_of_ble_eq_true rfl, Nat.le_of_ble_eq_true rfl⟩ rfl hl.1 rfl (Nat.le_of_ble_eq_true rfl) dX3_changes_13) hI (fun H locs hI => ?_)
    refine bz_ne (tgt := 25) hx hb dX3_changes_16 (by decide) (fun c16 => ?_) (fun c16 => ?_)
    · obtain ⟨ky, hky, rfl⟩ := okK_n c9
      obtain ⟨dy, hdy, rfl⟩ := okD_n c16
      refine lv_iconst (v := nI 0) hx hb dX3_changes_25 (by decide) ?_
      refine lv_istore_n (lv' := [(3, .int (nI 0)), (0, .ref (b 0)), (1, .int (nI ky)), (2, .int (nI dy))]) hx hb dX3_changes_26 rfl hl (by decide) rfl (fun ls hl => ?_)
      refine lv_iconst (v := nI 1) hx hb dX3_changes_27 (by decide) ?_
      refine lv_istore (lv' := [(4, .int (nI 1)), (3, .int (nI 0)), (0, .ref (b 0)), (1, .int (nI ky)), (2, .int (nI dy))]) hx hb dX3_changes_28 hl (by decide) rfl (fun ls hl => ?_)
      have J30 : ∀ (n30_ : Nat) (x : Nat) (n3 : Nat) (hx1 : x ≤ t + 1) (hx0 : 0 < x) (hn : n3 = chVal S ky dy (x - 1)) (hm30 : t + 1 < x + n30_) (H : Heap) (locs : List Loc), wi D z (Ar z) (mw b cI cZ (nI t) th vs kt kv wt wa fl (nI 0) ch X) s H locs → ∀ ls : Array Slot, lv_has ls 7 [(0, .ref (b 0)), (1, .int (nI ky)), (2, .int (nI dy)), (3, .int (nI n3)), (4, .int (nI x))] → W p l e (rmv 1 22) s m args below meth c H locs 0 0 Q (F0 m 30 ls []) := by
        intro n30_
        induction n30_ with
        | zero => intro x n3 hx1 hx0 hn hm30; exact absurd hm30 (by omega)
        | succ n30_ ih30 =>
          intro x n3 hx1 hx0 hn hm30 H locs hI ls hl
          refine lv_iload hx hb dX3_changes_30 (lv_at hl 4 rfl) ?_
          refine lv_aload_n hx hb dX3_changes_32 rfl (lv_at hl 0 rfl) ?_
          refine va_get (D := D) (ci := 3) (v := .int (nI t)) (C := RX3) (T := TX3) (N := 10) hx hb hts inX3 hown hK.1 hI.2.1 0 rfl rfl 0 (by decide) (hts _ k422) (fun _ h9 => h9) rfl dX3_changes_33 ?_
          refine nb_gt (tgt := 117) hx hb dX3_changes_36 (by decide) (by omega) (by omega) (fun c36 => ?_) (fun c36 => ?_)
          · refine lv_iload_n hx hb dX3_changes_117 rfl (lv_at hl 3 rfl) ?_
            exact hret 0 hI dX3_changes_118 ⟨by rw [chCode_n hky hdy], fun _ => by rw [nn_nI (by omega), nn_nI (by omega), hn, show x - 1 = t by omega]⟩
          · refine lv_iload hx hb dX3_changes_39 (lv_at hl 4 rfl) ?_
            refine lv_iconst (v := nI 1) hx hb dX3_changes_41 (by decide) ?_
            refine lv_isub hx hb dX3_changes_42 ?_
            refine tp (pk_sub (by omega)) ?_
            refine lv_iload_n hx hb dX3_changes_43 rfl (lv_at hl 1 rfl) ?_
            refine lv_iload_n hx hb dX3_changes_44 rfl (lv_at hl 2 rfl) ?_
            refine k_ro (run_s (As := [.int (nI (x - 1)), .int (nI ky), .int (nI dy)]) (rest := []) hF (c_X3_place ) tt_blind (fun _ _ _ => trivial) cf_X3_place k492 ⟨Nat.le_of_ble_eq_true rfl, Nat.le_of_ble_eq_true rfl⟩ ⟨rfl, rfl⟩ ⟨Nat.le_of_ble_eq_true rfl, Nat.le_of_ble_eq_true rfl⟩ rfl hl.1 rfl (Nat.le_of_ble_eq_true rfl) dX3_changes_45) hI (fun H locs hI => ?_)
            refine lv_istore (lv' := [(5, .int (nI (128 * (x - 1) + 32 * ky + dy))), (0, .ref (b 0)), (1, .int (nI ky)), (2, .int (nI dy)), (3, .int (nI n3)), (4, .int (nI x))]) hx hb dX3_changes_48 hl (by decide) rfl (fun ls hl => ?_)
            refine lv_iload hx hb dX3_changes_50 (lv_at hl 5 rfl) ?_
            refine lv_iload_n hx hb dX3_changes_52 rfl (lv_at hl 2 rfl) ?_
            refine lv_iload_n hx hb dX3_changes_53 rfl (lv_at hl 3 rfl) ?_
            refine k_ro (run_s (As := [.int (nI x), .int (nI ky), .int (nI dy)]) (rest := []) hF (c_X3_place ) tt_blind (fun _ _ _ => trivial) cf_X3_place k492 ⟨Nat.le_of_ble_eq_true rfl, Nat.le_of_ble_eq_true rfl⟩ ⟨rfl, rfl⟩ ⟨Nat.le_of_ble_eq_true rfl, Nat.le_of_ble_eq_true rfl⟩ rfl hl.1 rfl (Nat.le_of_ble_eq_true rfl) dX3_changes_54) hI (fun H locs hI => ?_)
            refine lv_istore (lv' := [(6, .int (nI (128 * x + 32 * ky + dy))), (5, .int (nI (128 * (x - 1) + 32 * ky + dy))), (0, .ref (b 0)), (1, .int (nI ky)), (2, .int (nI dy)), (3, .int (nI n3)), (4, .int (nI x))]) hx hb dX3_changes_57 hl (by decide) rfl (fun ls hl => ?_)
            refine lv_iload_n hx hb dX3_changes_59 rfl (lv_at hl 5 rfl) ?_
            refine lv_aload_n hx hb dX3_changes_60 rfl (lv_at hl 2 rfl) ?_
            refine va_get (D := D) (ci := 3) (v := .ref (b 1)) (C := RX3) (T := TX3) (N := 10) hx hb hts inX3 hown hK.1 hI.2.1 0 rfl rfl 1 (by decide) (hts _ k423) (fun _ h9 => h9) rfl dX3_changes_61 ?_
            refine lv_iload hx hb dX3_changes_64 (lv_at hl 1 rfl) ?_
            refine zb_ld (f := th) (k := 128 * (x - 1) + 32 * ky + dy) hx hb hK hI 1 rfl dX3_changes_66 (by omega) (by decide) ?_
            refine lv_aload_n hx hb dX3_changes_67 rfl (lv_at hl 2 rfl) ?_
            refine va_get (D := D) (ci := 3) (v := .ref (b 1)) (C := RX3) (T := TX3) (N := 10) hx hb hts inX3 hown hK.1 hI.2.1 0 rfl rfl 1 (by decide) (hts _ k423) (fun _ h9 => h9) rfl dX3_changes_68 ?_
            refine lv_iload hx hb dX3_changes_71 (lv_at hl 0 rfl) ?_
            refine zb_ld (f := th) (k := 128 * x + 32 * ky + dy) hx hb hK hI 1 rfl dX3_changes_73 (by omega) (by decide) ?_
            refine lv_icmp_ne (tgt := 104) hx hb dX3_changes_74 (by decide) (fun c74 => ?_) (fun c74 => ?_)
            · refine lv_iconst (v := nI 1) hx hb dX3_changes_104 (by decide) ?_
              refine lv_goto (tgt := 109) hx hb dX3_changes_105 (by decide) ?_
              refine lv_iadd hx hb dX3_changes_109 ?_
              refine tp (nI_add _ _) ?_
              refine lv_istore_n (lv' := [(3, .int (nI (n3 + 1))), (6, .int (nI (128 * x + 32 * ky + dy))), (5, .int (nI (128 * (x - 1) + 32 * ky + dy))), (0, .ref (b 0)), (1, .int (nI ky)), (2, .int (nI dy)), (4, .int (nI x))]) hx hb dX3_changes_110 rfl hl (by decide) rfl (fun ls hl => ?_)
              refine lv_iinc (v := nI (x + 1)) (lv' := [(4, .int (nI (x + 1))), (3, .int (nI (n3 + 1))), (6, .int (nI (128 * x + 32 * ky + dy))), (5, .int (nI (128 * (x - 1) + 32 * ky + dy))), (0, .ref (b 0)), (1, .int (nI ky)), (2, .int (nI dy))]) hx hb dX3_changes_111 hl (k := 6) rfl (inc_n _ 1) (by decide) rfl (fun ls hl => ?_)
              refine lv_goto (tgt := 30) hx hb dX3_changes_114 (by decide) ?_
              exact ih30 (x + 1) (n3 + 1) (by omega) (by omega) (by rw [chV_s (by omega), hn]; first | (rw [chm_f1 hM (by omega) hky hdy c74 c84]; rfl) | (rw [chm_f2 hM (by omega) hky hdy c74 c101]; rfl) | (rw [chm_t1 hM (by omega) hky hdy c74]; rfl) | (rw [chm_t2 hM (by omega) hky hdy c84 c101]; rfl)) (by omega) H locs hI ls (lv_sub hl [4, 5, 6, 1, 0] rfl)
            · refine lv_aload_n hx hb dX3_changes_77 rfl (lv_at hl 2 rfl) ?_
              refine va_get (D := D) (ci := 3) (v := .ref (b 1)) (C := RX3) (T := TX3) (N := 10) hx hb hts inX3 hown hK.1 hI.2.1 0 rfl rfl 1 (by decide) (hts _ k423) (fun _ h9 => h9) rfl dX3_changes_78 ?_
              refine lv_iload hx hb dX3_changes_81 (lv_at hl 1 rfl) ?_
              refine zb_ld (f := th) (k := 128 * (x - 1) + 32 * ky + dy) hx hb hK hI 1 rfl dX3_changes_83 (by omega) (by decide) ?_
              refine bz_eq (tgt := 108) hx hb dX3_changes_84 (by decide) (fun c84 => ?_) (fun c84 => ?_)
              · refine lv_iconst (v := nI 0) hx hb dX3_changes_108 (by decide) ?_
                refine lv_iadd hx hb dX3_changes_109 ?_
                refine tp (nI_add _ _) ?_
                refine lv_istore_n (lv' := [(3, .int (nI (n3 + 0))), (6, .int (nI (128 * x + 32 * ky + dy))), (5, .int (nI (128 * (x - 1) + 32 * ky + dy))), (0, .ref (b 0)), (1, .int (nI ky)), (2, .int (nI dy)), (4, .int (nI x))]) hx hb dX3_changes_110 rfl hl (by decide) rfl (fun ls hl => ?_)
                refine lv_iinc (v := nI (x + 1)) (lv' := [(4, .int (nI (x + 1))), (3, .int (nI (n3 + 0))), (6, .int (nI (128 * x + 32 * ky + dy))), (5, .int (nI (128 * (x - 1) + 32 * ky + dy))), (0, .ref (b 0)), (1, .int (nI ky)), (2, .int (nI dy))]) hx hb dX3_changes_111 hl (k := 6) rfl (inc_n _ 1) (by decide) rfl (fun ls hl => ?_)
                refine lv_goto (tgt := 30) hx hb dX3_changes_114 (by decide) ?_
                exact ih30 (x + 1) (n3 + 0) (by omega) (by omega) (by rw [chV_s (by omega), hn]; first | (rw [chm_f1 hM (by omega) hky hdy c74 c84]; rfl) | (rw [chm_f2 hM (by omega) hky hdy c74 c101]; rfl) | (rw [chm_t1 hM (by omega) hky hdy c74]; rfl) | (rw [chm_t2 hM (by omega) hky hdy c84 c101]; rfl)) (by omega) H locs hI ls (lv_sub hl [4, 5, 6, 1, 0] rfl)
              · refine lv_aload_n hx hb dX3_changes_87 rfl (lv_at hl 2 rfl) ?_
                refine va_get (D := D) (ci := 3) (v := .ref (b 2)) (C := RX3) (T := TX3) (N := 10) hx hb hts inX3 hown hK.1 hI.2.1 0 rfl rfl 2 (by decide) (hts _ k424) (fun _ h9 => h9) rfl dX3_changes_88 ?_
                refine lv_iload hx hb dX3_changes_91 (lv_at hl 1 rfl) ?_
                refine ia_ld (f := vs) (k := 128 * (x - 1) + 32 * ky + dy) hx hb hK hI 2 rfl dX3_changes_93 (by omega) (by decide) ?_
                refine lv_aload_n hx hb dX3_changes_94 rfl (lv_at hl 2 rfl) ?_
                refine va_get (D := D) (ci := 3) (v := .ref (b 2)) (C := RX3) (T := TX3) (N := 10) hx hb hts inX3 hown hK.1 hI.2.1 0 rfl rfl 2 (by decide) (hts _ k424) (fun _ h9 => h9) rfl dX3_changes_95 ?_
                refine lv_iload hx hb dX3_changes_98 (lv_at hl 0 rfl) ?_
                refine ia_ld (f := vs) (k := 128 * x + 32 * ky + dy) hx hb hK hI 2 rfl dX3_changes_100 (by omega) (by decide) ?_
                refine lv_icmp_eq (tgt := 108) hx hb dX3_changes_101 (by decide) (fun c101 => ?_) (fun c101 => ?_)
                · refine lv_iconst (v := nI 0) hx hb dX3_changes_108 (by decide) ?_
                  refine lv_iadd hx hb dX3_changes_109 ?_
                  refine tp (nI_add _ _) ?_
                  refine lv_istore_n (lv' := [(3, .int (nI (n3 + 0))), (6, .int (nI (128 * x + 32 * ky + dy))), (5, .int (nI (128 * (x - 1) + 32 * ky + dy))), (0, .ref (b 0)), (1, .int (nI ky)), (2, .int (nI dy)), (4, .int (nI x))]) hx hb dX3_changes_110 rfl hl (by decide) rfl (fun ls hl => ?_)
                  refine lv_iinc (v := nI (x + 1)) (lv' := [(4, .int (nI (x + 1))), (3, .int (nI (n3 + 0))), (6, .int (nI (128 * x + 32 * ky + dy))), (5, .int (nI (128 * (x - 1) + 32 * ky + dy))), (0, .ref (b 0)), (1, .int (nI ky)), (2, .int (nI dy))]) hx hb dX3_changes_111 hl (k := 6) rfl (inc_n _ 1) (by decide) rfl (fun ls hl => ?_)
                  refine lv_goto (tgt := 30) hx hb dX3_changes_114 (by decide) ?_
                  exact ih30 (x + 1) (n3 + 0) (by omega) (by omega) (by rw [chV_s (by omega), hn]; first | (rw [chm_f1 hM (by omega) hky hdy c74 c84]; rfl) | (rw [chm_f2 hM (by omega) hky hdy c74 c101]; rfl) | (rw [chm_t1 hM (by omega) hky hdy c74]; rfl) | (rw [chm_t2 hM (by omega) hky hdy c84 c101]; rfl)) (by omega) H locs hI ls (lv_sub hl [4, 5, 6, 1, 0] rfl)
                · refine lv_iconst (v := nI 1) hx hb dX3_changes_104 (by decide) ?_
                  refine lv_goto (tgt := 109) hx hb dX3_changes_105 (by decide) ?_
                  refine lv_iadd hx hb dX3_changes_109 ?_
                  refine tp (nI_add _ _) ?_
                  refine lv_istore_n (lv' := [(3, .int (nI (n3 + 1))), (6, .int (nI (128 * x + 32 * ky + dy))), (5, .int (nI (128 * (x - 1) + 32 * ky + dy))), (0, .ref (b 0)), (1, .int (nI ky)), (2, .int (nI dy)), (4, .int (nI x))]) hx hb dX3_changes_110 rfl hl (by decide) rfl (fun ls hl => ?_)
                  refine lv_iinc (v := nI (x + 1)) (lv' := [(4, .int (nI (x + 1))), (3, .int (nI (n3 + 1))), (6, .int (nI (128 * x + 32 * ky + dy))), (5, .int (nI (128 * (x - 1) + 32 * ky + dy))), (0, .ref (b 0)), (1, .int (nI ky)), (2, .int (nI dy))]) hx hb dX3_changes_111 hl (k := 6) rfl (inc_n _ 1) (by decide) rfl (fun ls hl => ?_)
                  refine lv_goto (tgt := 30) hx hb dX3_changes_114 (by decide) ?_
                  exact ih30 (x + 1) (n3 + 1) (by omega) (by omega) (by rw [chV_s (by omega), hn]; first | (rw [chm_f1 hM (by omega) hky hdy c74 c84]; rfl) | (rw [chm_f2 hM (by omega) hky hdy c74 c101]; rfl) | (rw [chm_t1 hM (by omega) hky hdy c74]; rfl) | (rw [chm_t2 hM (by omega) hky hdy c84 c101]; rfl)) (by omega) H locs hI ls (lv_sub hl [4, 5, 6, 1, 0] rfl)
      exact J30 (t + 1 + 1) 1 0 (by omega) (by omega) rfl (by omega) H locs hI ls (lv_sub hl [2, 3, 4, 1, 0] rfl)
    · refine lv_aload_n hx hb dX3_changes_19 rfl (lv_at hl 0 rfl) ?_
      refine lv_iconst (v := nI 1) hx hb dX3_changes_20 (by decide) ?_
      refine k_mu (run_v (As := [.int (nI 1)]) (rest := []) hF hK hI (c_X3_fail ) cf_X3_fail k462 0 3 rfl rfl ⟨Nat.le_of_ble_eq_true rfl, Nat.le_of_ble_eq_true rfl⟩ ⟨rfl, rfl⟩ ⟨Nat.le_of_ble_eq_true rfl, Nat.le_of_ble_eq_true rfl⟩ rfl hl.1 rfl (Nat.le_of_ble_eq_true rfl) dX3_changes_21) hI (fun r21 u21 hp21 H locs hI => ?_)
      subst hp21
      have hI : wi D z (Ar z) (mw b cI cZ (nI t) th vs kt kv wt wa fl (nI 1) ch X) s H locs := hI
      exact hret 1 hI dX3_changes_24 ⟨by unfold chCode; first | (simp [c9]; done) | (simp [c16]; done), fun q9 => absurd q9 (by decide)⟩
set_option maxHeartbeats 4000000 in
set_option maxRecDepth 100000 in
theorem c_X3_relation {l : Launch} {D : va_G} {cI cZ cJ : ClassId} {z : Nat} {b : Nat → Nat} {X : va_W} {t : Nat} {th : Nat → Bool} {vs : Nat → Int32} {kt : Nat → Bool} {kv : Nat → Int32} {wt : Int32} {wa : Nat → Int32} {fl tr ch : Int32}  {ra rb rc rd : Int32} : muM (S := Nat) l yX3_relation cX3_relation 5 (some .int) 2 47 [.ref (b 0), .int (ra), .int (rb), .int (rc), .int (rd)] (pw D cI cZ cJ z (mw b cI cZ (nI t) th vs kt kv wt wa fl tr ch X)) D z (fun u => mw b cI cZ (nI t) th vs kt kv wt wa fl (nI u) ch X) (fun r u => u = rlCode ra rb rc rd ∧ (u = 0 → r = nI (rel (nn ra) (nn rb) (nn rc) (nn rd)))) := by
  refine bd_mu (by decide) (Nat.le_of_ble_eq_true rfl) ?_
  intro p e s m args below meth c Q hF hpw hret ls hl
  obtain ⟨hx, hb, hml, hown, hts, hr, hlocks⟩ := id hF
  have hK := hpw.2.2.2
  have hI : wi D z (Ar z) (mw b cI cZ (nI t) th vs kt kv wt wa fl tr ch X) s s.heap [] := hpw.wi
  have hl : lv_has ls 5 [(0, .ref (b 0)), (1, .int (ra)), (2, .int (rb)), (3, .int (rc)), (4, .int (rd))] := hl
  suffices hgo : ∀ (H : Heap) (locs : List Loc), wi D z (Ar z) (mw b cI cZ (nI t) th vs kt kv wt wa fl tr ch X) s H locs → ∀ ls : Array Slot, lv_has ls 5 [(0, .ref (b 0)), (1, .int (ra)), (2, .int (rb)), (3, .int (rc)), (4, .int (rd))] → W p l e (rmv 2 47) s m args below meth c H locs 0 0 Q (F0 m 0 ls []) from hgo _ _ hI ls hl
  intro H locs hI ls hl
  refine lv_aload_n hx hb dX3_relation_0 rfl (lv_at hl 0 rfl) ?_
  refine lv_iconst (v := nI 0) hx hb dX3_relation_1 (by decide) ?_
  refine va_put (D := D) (ci := 3) (v := .int (nI 0)) (ty := .int) (C := RX3) (T := TX3) (N := 10) hx hb hts inX3 tyX3 tyX3_ok nmX3 hown hK.1 hI.2.1 hI.2.2.1 hI.2.2.2 0 rfl rfl 8 (by decide) (hts _ k430) (fun _ h9 => h9) rfl (by decide +kernel) rfl rfl (Nat.le_of_ble_eq_true rfl) dX3_relation_2 (fun H locs hP hD hS => ?_)
  have hI : wi D z (Ar z) (mw b cI cZ (nI t) th vs kt kv wt wa fl (nI 0) ch X) s H locs := ⟨hI.1, hP, hD, hS⟩
  refine lv_iload_n hx hb dX3_relation_5 rfl (lv_at hl 1 rfl) ?_
  refine lv_iload_n hx hb dX3_relation_6 rfl (lv_at hl 2 rfl) ?_
  refine k_ro (run_s (As := [.int (ra), .int (rb)]) (rest := []) hF (c_X3_isPeriod ) tt_blind (fun _ _ _ => trivial) cf_X3_isPeriod k485 ⟨Nat.le_of_ble_eq_true rfl, Nat.le_of_ble_eq_true rfl⟩ ⟨rfl, rfl⟩ ⟨Nat.le_of_ble_eq_true rfl, Nat.le_of_ble_eq_true rfl⟩ rfl hl.1 rfl (Nat.le_of_ble_eq_true rfl) dX3_relation_7) hI (fun H locs hI => ?_)
  refine bz_eq (tgt := 22) hx hb dX3_relation_10 (by decide) (fun c10 => ?_) (fun c10 => ?_)
  · refine lv_aload_n hx hb dX3_relation_22 rfl (lv_at hl 0 rfl) ?_
    refine lv_iconst (v := nI 1) hx hb dX3_relation_23 (by decide) ?_
    refine k_mu (run_v (As := [.int (nI 1)]) (rest := []) hF hK hI (c_X3_fail ) cf_X3_fail k462 0 3 rfl rfl ⟨Nat.le_of_ble_eq_true rfl, Nat.le_of_ble_eq_true rfl⟩ ⟨rfl, rfl⟩ ⟨Nat.le_of_ble_eq_true rfl, Nat.le_of_ble_eq_true rfl⟩ rfl hl.1 rfl (Nat.le_of_ble_eq_true rfl) dX3_relation_24) hI (fun r24 u24 hp24 H locs hI => ?_)
    subst hp24
    have hI : wi D z (Ar z) (mw b cI cZ (nI t) th vs kt kv wt wa fl (nI 1) ch X) s H locs := hI
    exact hret 1 hI dX3_relation_27 ⟨by unfold rlCode; first | (simp [c10]; done) | (simp [c19]; done), fun q9 => absurd q9 (by decide)⟩
  · refine lv_iload_n hx hb dX3_relation_13 rfl (lv_at hl 3 rfl) ?_
    refine lv_iload hx hb dX3_relation_14 (lv_at hl 4 rfl) ?_
    refine k_ro (run_s (As := [.int (rc), .int (rd)]) (rest := []) hF (c_X3_isPeriod ) tt_blind (fun _ _ _ => trivial) cf_X3_isPeriod k485 ⟨Nat.le_of_ble_eq_true rfl, Nat.le_of_ble_eq_true rfl⟩ ⟨rfl, rfl⟩ ⟨Nat.le_of_ble_eq_true rfl, Nat.le_of_ble_eq_true rfl⟩ rfl hl.1 rfl (Nat.le_of_ble_eq_true rfl) dX3_relation_16) hI (fun H locs hI => ?_)
    refine bz_ne (tgt := 28) hx hb dX3_relation_19 (by decide) (fun c19 => ?_) (fun c19 => ?_)
    · obtain ⟨fa, fb, hab, hb1, rfl, rfl⟩ := okP_n c10
      obtain ⟨fc, fd, hcd, hd1, rfl, rfl⟩ := okP_n c19
      refine lv_iload_n hx hb dX3_relation_28 rfl (lv_at hl 1 rfl) ?_
      refine lv_iload_n hx hb dX3_relation_29 rfl (lv_at hl 2 rfl) ?_
      refine lv_iload_n hx hb dX3_relation_30 rfl (lv_at hl 3 rfl) ?_
      refine lv_iload hx hb dX3_relation_31 (lv_at hl 4 rfl) ?_
      refine k_ro (run_s (As := [.int (nI fa), .int (nI fb), .int (nI fc), .int (nI fd)]) (rest := []) hF (c_X3_lies (by omega) (by omega) (by omega) (by omega) (by omega) (by omega)) tt_blind (fun _ _ _ => trivial) cf_X3_lies k586 ⟨Nat.le_of_ble_eq_true rfl, Nat.le_of_ble_eq_true rfl⟩ ⟨rfl, rfl⟩ ⟨Nat.le_of_ble_eq_true rfl, Nat.le_of_ble_eq_true rfl⟩ rfl hl.1 rfl (Nat.le_of_ble_eq_true rfl) dX3_relation_33) hI (fun H locs hI => ?_)
      exact hret 0 hI dX3_relation_36 ⟨by unfold rlCode; rw [okP_nI hab hb1, okP_nI hcd hd1]; rfl, fun _ => by rw [nn_nI (by omega), nn_nI (by omega), nn_nI (by omega), nn_nI (by omega)]⟩
    · refine lv_aload_n hx hb dX3_relation_22 rfl (lv_at hl 0 rfl) ?_
      refine lv_iconst (v := nI 1) hx hb dX3_relation_23 (by decide) ?_
      refine k_mu (run_v (As := [.int (nI 1)]) (rest := []) hF hK hI (c_X3_fail ) cf_X3_fail k462 0 3 rfl rfl ⟨Nat.le_of_ble_eq_true rfl, Nat.le_of_ble_eq_true rfl⟩ ⟨rfl, rfl⟩ ⟨Nat.le_of_ble_eq_true rfl, Nat.le_of_ble_eq_true rfl⟩ rfl hl.1 rfl (Nat.le_of_ble_eq_true rfl) dX3_relation_24) hI (fun r24 u24 hp24 H locs hI => ?_)
      subst hp24
      have hI : wi D z (Ar z) (mw b cI cZ (nI t) th vs kt kv wt wa fl (nI 1) ch X) s H locs := hI
      exact hret 1 hI dX3_relation_27 ⟨by unfold rlCode; first | (simp [c10]; done) | (simp [c19]; done), fun q9 => absurd q9 (by decide)⟩
set_option maxHeartbeats 4000000 in
set_option maxRecDepth 100000 in
theorem c_X3_join {l : Launch} {D : va_G} {cI cZ cJ : ClassId} {z : Nat} {b : Nat → Nat} {X : va_W} {t : Nat} {th : Nat → Bool} {vs : Nat → Int32} {kt : Nat → Bool} {kv : Nat → Int32} {wt : Int32} {wa : Nat → Int32} {fl tr ch : Int32} {S : Sta} (hM : mAbs S th vs t) (ht : t < 40) {key other time r0 : Int32} : muM (S := Nat) l yX3_join cX3_join 9 (some .int) 3 72 [.ref (b 0), .int (key), .int (other), .int (time), .int (r0)] (pw D cI cZ cJ z (mw b cI cZ (nI t) th vs kt kv wt wa fl tr ch X)) D z (fun u => mw b cI cZ (nI t) th vs kt kv wt wa fl (nI u) ch X) (fun r u => u = jnCode t key other time r0 ∧ (u = 0 → r = nI (jnVal S (nn time * 4 + nn key) (nn time * 4 + nn other) (nn r0)))) := by
  refine bd_mu (by decide) (Nat.le_of_ble_eq_true rfl) ?_
  intro p e s m args below meth c Q hF hpw hret ls hl
  obtain ⟨hx, hb, hml, hown, hts, hr, hlocks⟩ := id hF
  have hK := hpw.2.2.2
  have hI : wi D z (Ar z) (mw b cI cZ (nI t) th vs kt kv wt wa fl tr ch X) s s.heap [] := hpw.wi
  have hl : lv_has ls 9 [(0, .ref (b 0)), (1, .int (key)), (2, .int (other)), (3, .int (time)), (4, .int (r0))] := hl
  suffices hgo : ∀ (H : Heap) (locs : List Loc), wi D z (Ar z) (mw b cI cZ (nI t) th vs kt kv wt wa fl tr ch X) s H locs → ∀ ls : Array Slot, lv_has ls 9 [(0, .ref (b 0)), (1, .int (key)), (2, .int (other)), (3, .int (time)), (4, .int (r0))] → W p l e (rmv 3 72) s m args below meth c H locs 0 0 Q (F0 m 0 ls []) from hgo _ _ hI ls hl
  intro H locs hI ls hl
  refine lv_aload_n hx hb dX3_join_0 rfl (lv_at hl 0 rfl) ?_
  refine lv_iconst (v := nI 0) hx hb dX3_join_1 (by decide) ?_
  refine va_put (D := D) (ci := 3) (v := .int (nI 0)) (ty := .int) (C := RX3) (T := TX3) (N := 10) hx hb hts inX3 tyX3 tyX3_ok nmX3 hown hK.1 hI.2.1 hI.2.2.1 hI.2.2.2 0 rfl rfl 8 (by decide) (hts _ k430) (fun _ h9 => h9) rfl (by decide +kernel) rfl rfl (Nat.le_of_ble_eq_true rfl) dX3_join_2 (fun H locs hP hD hS => ?_)
  have hI : wi D z (Ar z) (mw b cI cZ (nI t) th vs kt kv wt wa fl (nI 0) ch X) s H locs := ⟨hI.1, hP, hD, hS⟩
  refine lv_iload_n hx hb dX3_join_5 rfl (lv_at hl 1 rfl) ?_
  refine k_ro (run_s (As := [.int (key)]) (rest := []) hF (c_X3_isKey ) tt_blind (fun _ _ _ => trivial) cf_X3_isKey k482 ⟨Nat.le_of_ble_eq_true rfl, Nat.le_of_ble_eq_true rfl⟩ ⟨rfl, rfl⟩ ⟨Nat.le_of_ble_eq_true rfl, Nat.le_of_ble_eq_true rfl⟩ rfl hl.1 rfl (Nat.le_of_ble_eq_true rfl) dX3_join_6) hI (fun H locs hI => ?_)
  refine bz_eq (tgt := 39) hx hb dX3_join_9 (by decide) (fun c9 => ?_) (fun c9 => ?_)
  · refine lv_aload_n hx hb dX3_join_39 rfl (lv_at hl 0 rfl) ?_
    refine lv_iconst (v := nI 1) hx hb dX3_join_40 (by decide) ?_
    refine k_mu (run_v (As := [.int (nI 1)]) (rest := []) hF hK hI (c_X3_fail ) cf_X3_fail k462 0 3 rfl rfl ⟨Nat.le_of_ble_eq_true rfl, Nat.le_of_ble_eq_true rfl⟩ ⟨rfl, rfl⟩ ⟨Nat.le_of_ble_eq_true rfl, Nat.le_of_ble_eq_true rfl⟩ rfl hl.1 rfl (Nat.le_of_ble_eq_true rfl) dX3_join_41) hI (fun r41 u41 hp41 H locs hI => ?_)
    subst hp41
    have hI : wi D z (Ar z) (mw b cI cZ (nI t) th vs kt kv wt wa fl (nI 1) ch X) s H locs := hI
    exact hret 1 hI dX3_join_44 ⟨by unfold jnCode; first | (simp [c9]; done) | (simp [c16]; done) | (simp [c24]; done) | simp [okN_f1 (n := 12) c29] | simp [okN_f2 (n := 12) c36 (by decide)], fun q9 => absurd q9 (by decide)⟩
  · refine lv_iload_n hx hb dX3_join_12 rfl (lv_at hl 2 rfl) ?_
    refine k_ro (run_s (As := [.int (other)]) (rest := []) hF (c_X3_isKey ) tt_blind (fun _ _ _ => trivial) cf_X3_isKey k482 ⟨Nat.le_of_ble_eq_true rfl, Nat.le_of_ble_eq_true rfl⟩ ⟨rfl, rfl⟩ ⟨Nat.le_of_ble_eq_true rfl, Nat.le_of_ble_eq_true rfl⟩ rfl hl.1 rfl (Nat.le_of_ble_eq_true rfl) dX3_join_13) hI (fun H locs hI => ?_)
    refine bz_eq (tgt := 39) hx hb dX3_join_16 (by decide) (fun c16 => ?_) (fun c16 => ?_)
    · refine lv_aload_n hx hb dX3_join_39 rfl (lv_at hl 0 rfl) ?_
      refine lv_iconst (v := nI 1) hx hb dX3_join_40 (by decide) ?_
      refine k_mu (run_v (As := [.int (nI 1)]) (rest := []) hF hK hI (c_X3_fail ) cf_X3_fail k462 0 3 rfl rfl ⟨Nat.le_of_ble_eq_true rfl, Nat.le_of_ble_eq_true rfl⟩ ⟨rfl, rfl⟩ ⟨Nat.le_of_ble_eq_true rfl, Nat.le_of_ble_eq_true rfl⟩ rfl hl.1 rfl (Nat.le_of_ble_eq_true rfl) dX3_join_41) hI (fun r41 u41 hp41 H locs hI => ?_)
      subst hp41
      have hI : wi D z (Ar z) (mw b cI cZ (nI t) th vs kt kv wt wa fl (nI 1) ch X) s H locs := hI
      exact hret 1 hI dX3_join_44 ⟨by unfold jnCode; first | (simp [c9]; done) | (simp [c16]; done) | (simp [c24]; done) | simp [okN_f1 (n := 12) c29] | simp [okN_f2 (n := 12) c36 (by decide)], fun q9 => absurd q9 (by decide)⟩
    · refine lv_aload_n hx hb dX3_join_19 rfl (lv_at hl 0 rfl) ?_
      refine lv_iload_n hx hb dX3_join_20 rfl (lv_at hl 3 rfl) ?_
      refine k_ro (run_v (As := [.int (time)]) (rest := []) hF hK hI (c_X3_isTime ht) cf_X3_isTime k546 0 3 rfl rfl ⟨Nat.le_of_ble_eq_true rfl, Nat.le_of_ble_eq_true rfl⟩ ⟨rfl, rfl⟩ ⟨Nat.le_of_ble_eq_true rfl, Nat.le_of_ble_eq_true rfl⟩ rfl hl.1 rfl (Nat.le_of_ble_eq_true rfl) dX3_join_21) hI (fun H locs hI => ?_)
      refine bz_eq (tgt := 39) hx hb dX3_join_24 (by decide) (fun c24 => ?_) (fun c24 => ?_)
      · refine lv_aload_n hx hb dX3_join_39 rfl (lv_at hl 0 rfl) ?_
        refine lv_iconst (v := nI 1) hx hb dX3_join_40 (by decide) ?_
        refine k_mu (run_v (As := [.int (nI 1)]) (rest := []) hF hK hI (c_X3_fail ) cf_X3_fail k462 0 3 rfl rfl ⟨Nat.le_of_ble_eq_true rfl, Nat.le_of_ble_eq_true rfl⟩ ⟨rfl, rfl⟩ ⟨Nat.le_of_ble_eq_true rfl, Nat.le_of_ble_eq_true rfl⟩ rfl hl.1 rfl (Nat.le_of_ble_eq_true rfl) dX3_join_41) hI (fun r41 u41 hp41 H locs hI => ?_)
        subst hp41
        have hI : wi D z (Ar z) (mw b cI cZ (nI t) th vs kt kv wt wa fl (nI 1) ch X) s H locs := hI
        exact hret 1 hI dX3_join_44 ⟨by unfold jnCode; first | (simp [c9]; done) | (simp [c16]; done) | (simp [c24]; done) | simp [okN_f1 (n := 12) c29] | simp [okN_f2 (n := 12) c36 (by decide)], fun q9 => absurd q9 (by decide)⟩
      · refine lv_iload hx hb dX3_join_27 (lv_at hl 4 rfl) ?_
        refine lv_if_lt (tgt := 39) hx hb dX3_join_29 (by decide) (fun c29 => ?_) (fun c29 => ?_)
        · refine lv_aload_n hx hb dX3_join_39 rfl (lv_at hl 0 rfl) ?_
          refine lv_iconst (v := nI 1) hx hb dX3_join_40 (by decide) ?_
          refine k_mu (run_v (As := [.int (nI 1)]) (rest := []) hF hK hI (c_X3_fail ) cf_X3_fail k462 0 3 rfl rfl ⟨Nat.le_of_ble_eq_true rfl, Nat.le_of_ble_eq_true rfl⟩ ⟨rfl, rfl⟩ ⟨Nat.le_of_ble_eq_true rfl, Nat.le_of_ble_eq_true rfl⟩ rfl hl.1 rfl (Nat.le_of_ble_eq_true rfl) dX3_join_41) hI (fun r41 u41 hp41 H locs hI => ?_)
          subst hp41
          have hI : wi D z (Ar z) (mw b cI cZ (nI t) th vs kt kv wt wa fl (nI 1) ch X) s H locs := hI
          exact hret 1 hI dX3_join_44 ⟨by unfold jnCode; first | (simp [c9]; done) | (simp [c16]; done) | (simp [c24]; done) | simp [okN_f1 (n := 12) c29] | simp [okN_f2 (n := 12) c36 (by decide)], fun q9 => absurd q9 (by decide)⟩
        · refine lv_iload hx hb dX3_join_32 (lv_at hl 4 rfl) ?_
          refine lv_bipush (v := nI 12) hx hb dX3_join_34 (by decide) ?_
          refine lv_icmp_le (tgt := 45) hx hb dX3_join_36 (by decide) (fun c36 => ?_) (fun c36 => ?_)
          · obtain ⟨ky, hky, rfl⟩ := okK_n c9
            obtain ⟨ko, hko, rfl⟩ := okK_n c16
            obtain ⟨tm, htm, rfl⟩ := okT_n c24
            obtain ⟨rr, hrr, rfl⟩ := okN_n (okN_raw c29 c36 (by decide))
            refine lv_iconst (v := nI 0) hx hb dX3_join_45 (by decide) ?_
            refine lv_istore (lv' := [(5, .int (nI 0)), (0, .ref (b 0)), (1, .int (nI ky)), (2, .int (nI ko)), (3, .int (nI tm)), (4, .int (nI rr))]) hx hb dX3_join_46 hl (by decide) rfl (fun ls hl => ?_)
            refine lv_iconst (v := nI 0) hx hb dX3_join_48 (by decide) ?_
            refine lv_istore (lv' := [(6, .int (nI 0)), (5, .int (nI 0)), (0, .ref (b 0)), (1, .int (nI ky)), (2, .int (nI ko)), (3, .int (nI tm)), (4, .int (nI rr))]) hx hb dX3_join_49 hl (by decide) rfl (fun ls hl => ?_)
            have J51 : ∀ (n51_ : Nat) (x : Nat) (n5 : Nat) (hx1 : x ≤ 32) (hn51 : n5 = fb_sm (jnOne S (tm * 4 + ky) (tm * 4 + ko) rr) x) (hm51 : 32 < x + n51_) (H : Heap) (locs : List Loc), wi D z (Ar z) (mw b cI cZ (nI t) th vs kt kv wt wa fl (nI 0) ch X) s H locs → ∀ ls : Array Slot, lv_has ls 9 [(0, .ref (b 0)), (1, .int (nI ky)), (2, .int (nI ko)), (3, .int (nI tm)), (4, .int (nI rr)), (5, .int (nI n5)), (6, .int (nI x))] → W p l e (rmv 3 72) s m args below meth c H locs 0 0 Q (F0 m 51 ls []) := by
              intro n51_
              induction n51_ with
              | zero => intro x n5 hx1 hn51 hm51; exact absurd hm51 (by omega)
              | succ n51_ ih51 =>
                intro x n5 hx1 hn51 hm51 H locs hI ls hl
                refine lv_iload hx hb dX3_join_51 (lv_at hl 6 rfl) ?_
                refine lv_bipush (v := nI 32) hx hb dX3_join_53 (by decide) ?_
                refine nb_ge (tgt := 152) hx hb dX3_join_55 (by decide) (by omega) (by omega) (fun c55 => ?_) (fun c55 => ?_)
                · refine lv_iload hx hb dX3_join_152 (lv_at hl 5 rfl) ?_
                  exact hret 0 hI dX3_join_154 ⟨by rw [jnCode_n htm hky hko hrr ht], fun _ => by rw [nn_nI (by omega), nn_nI (by omega), nn_nI (by omega), nn_nI (by omega), hn51, show x = 32 by omega]; rfl⟩
                · refine lv_iconst (v := nI 0) hx hb dX3_join_58 (by decide) ?_
                  refine lv_istore (lv' := [(7, .int (nI 0)), (0, .ref (b 0)), (1, .int (nI ky)), (2, .int (nI ko)), (3, .int (nI tm)), (4, .int (nI rr)), (5, .int (nI n5)), (6, .int (nI x))]) hx hb dX3_join_59 hl (by decide) rfl (fun ls hl => ?_)
                  have J61 : ∀ (n61_ : Nat) (y : Nat) (n5 : Nat) (hy : y ≤ 32) (hn61 : n5 = fb_sm (jnOne S (tm * 4 + ky) (tm * 4 + ko) rr) x + jnIn S (tm * 4 + ky) (tm * 4 + ko) rr x y) (hm61 : 32 < y + n61_) (H : Heap) (locs : List Loc), wi D z (Ar z) (mw b cI cZ (nI t) th vs kt kv wt wa fl (nI 0) ch X) s H locs → ∀ ls : Array Slot, lv_has ls 9 [(0, .ref (b 0)), (1, .int (nI ky)), (2, .int (nI ko)), (3, .int (nI tm)), (4, .int (nI rr)), (5, .int (nI n5)), (6, .int (nI x)), (7, .int (nI y))] → W p l e (rmv 3 72) s m args below meth c H locs 0 0 Q (F0 m 61 ls []) := by
                    intro n61_
                    induction n61_ with
                    | zero => intro y n5 hy hn61 hm61; exact absurd hm61 (by omega)
                    | succ n61_ ih61 =>
                      intro y n5 hy hn61 hm61 H locs hI ls hl
                      refine lv_iload hx hb dX3_join_61 (lv_at hl 7 rfl) ?_
                      refine lv_bipush (v := nI 32) hx hb dX3_join_63 (by decide) ?_
                      refine nb_ge (tgt := 146) hx hb dX3_join_65 (by decide) (by omega) (by omega) (fun c65 => ?_) (fun c65 => ?_)
                      · refine lv_iinc (v := nI (x + 1)) (lv' := [(6, .int (nI (x + 1))), (0, .ref (b 0)), (1, .int (nI ky)), (2, .int (nI ko)), (3, .int (nI tm)), (4, .int (nI rr)), (5, .int (nI n5)), (7, .int (nI y))]) hx hb dX3_join_146 hl (k := 6) rfl (inc_n _ 1) (by decide) rfl (fun ls hl => ?_)
                        refine lv_goto (tgt := 51) hx hb dX3_join_149 (by decide) ?_
                        exact ih51 (x + 1) n5 (by omega) (by rw [fb_sm_succ, ← jnIn_32, hn61, show y = 32 by omega]) (by omega) H locs hI ls (lv_sub hl [1, 2, 3, 4, 5, 6, 0] rfl)
                      · refine lv_aload_n hx hb dX3_join_68 rfl (lv_at hl 0 rfl) ?_
                        refine lv_iload_n hx hb dX3_join_69 rfl (lv_at hl 3 rfl) ?_
                        refine lv_iload_n hx hb dX3_join_70 rfl (lv_at hl 1 rfl) ?_
                        refine lv_iload hx hb dX3_join_71 (lv_at hl 6 rfl) ?_
                        refine k_ro (run_v (As := [.int (nI tm), .int (nI ky), .int (nI x)]) (rest := []) hF hK hI (c_X3_begins hM ht (by omega) (by omega) (by omega)) cf_X3_begins k507 0 3 rfl rfl ⟨Nat.le_of_ble_eq_true rfl, Nat.le_of_ble_eq_true rfl⟩ ⟨rfl, rfl⟩ ⟨Nat.le_of_ble_eq_true rfl, Nat.le_of_ble_eq_true rfl⟩ rfl hl.1 rfl (Nat.le_of_ble_eq_true rfl) dX3_join_73) hI (fun H locs hI => ?_)
                        refine bz_eq (tgt := 94) hx hb dX3_join_76 (by decide) (fun c76 => ?_) (fun c76 => ?_)
                        · refine lv_iconst (v := nI 0) hx hb dX3_join_94 (by decide) ?_
                          refine lv_istore (lv' := [(8, .int (nI 0)), (0, .ref (b 0)), (1, .int (nI ky)), (2, .int (nI ko)), (3, .int (nI tm)), (4, .int (nI rr)), (5, .int (nI n5)), (6, .int (nI x)), (7, .int (nI y))]) hx hb dX3_join_95 hl (by decide) rfl (fun ls hl => ?_)
                          refine lv_iload hx hb dX3_join_97 (lv_at hl 6 rfl) ?_
                          refine lv_iload hx hb dX3_join_99 (lv_at hl 0 rfl) ?_
                          refine lv_if_eq (tgt := 136) hx hb dX3_join_101 (by decide) (fun _ => ?_) (fun q => absurd nI_0 q)
                          refine lv_iconst (v := nI 0) hx hb dX3_join_136 (by decide) ?_
                          refine lv_iadd hx hb dX3_join_137 ?_
                          refine tp (nI_add _ _) ?_
                          refine lv_istore (lv' := [(5, .int (nI (n5 + 0))), (8, .int (nI 0)), (0, .ref (b 0)), (1, .int (nI ky)), (2, .int (nI ko)), (3, .int (nI tm)), (4, .int (nI rr)), (6, .int (nI x)), (7, .int (nI y))]) hx hb dX3_join_138 hl (by decide) rfl (fun ls hl => ?_)
                          refine lv_iinc (v := nI (y + 1)) (lv' := [(7, .int (nI (y + 1))), (5, .int (nI (n5 + 0))), (8, .int (nI 0)), (0, .ref (b 0)), (1, .int (nI ky)), (2, .int (nI ko)), (3, .int (nI tm)), (4, .int (nI rr)), (6, .int (nI x))]) hx hb dX3_join_140 hl (k := 8) rfl (inc_n _ 1) (by decide) rfl (fun ls hl => ?_)
                          refine lv_goto (tgt := 61) hx hb dX3_join_143 (by decide) ?_
                          exact ih61 (y + 1) (n5 + 0) (by omega) (by first | (rw [jnIn_y c76 c87 c129, hn61]; rfl) | (rw [jnIn_n (by first | exact Or.inl c76 | exact Or.inr (Or.inl c87) | exact Or.inr (Or.inr c129)), hn61]; rfl)) (by omega) H locs hI ls (lv_sub hl [3, 4, 5, 6, 7, 1, 8, 0] rfl)
                        · refine lv_aload_n hx hb dX3_join_79 rfl (lv_at hl 0 rfl) ?_
                          refine lv_iload_n hx hb dX3_join_80 rfl (lv_at hl 3 rfl) ?_
                          refine lv_iload_n hx hb dX3_join_81 rfl (lv_at hl 2 rfl) ?_
                          refine lv_iload hx hb dX3_join_82 (lv_at hl 7 rfl) ?_
                          refine k_ro (run_v (As := [.int (nI tm), .int (nI ko), .int (nI y)]) (rest := []) hF hK hI (c_X3_begins hM ht (by omega) (by omega) (by omega)) cf_X3_begins k507 0 3 rfl rfl ⟨Nat.le_of_ble_eq_true rfl, Nat.le_of_ble_eq_true rfl⟩ ⟨rfl, rfl⟩ ⟨Nat.le_of_ble_eq_true rfl, Nat.le_of_ble_eq_true rfl⟩ rfl hl.1 rfl (Nat.le_of_ble_eq_true rfl) dX3_join_84) hI (fun H locs hI => ?_)
                          refine bz_eq (tgt := 94) hx hb dX3_join_87 (by decide) (fun c87 => ?_) (fun c87 => ?_)
                          · refine lv_iconst (v := nI 0) hx hb dX3_join_94 (by decide) ?_
                            refine lv_istore (lv' := [(8, .int (nI 0)), (0, .ref (b 0)), (1, .int (nI ky)), (2, .int (nI ko)), (3, .int (nI tm)), (4, .int (nI rr)), (5, .int (nI n5)), (6, .int (nI x)), (7, .int (nI y))]) hx hb dX3_join_95 hl (by decide) rfl (fun ls hl => ?_)
                            refine lv_iload hx hb dX3_join_97 (lv_at hl 6 rfl) ?_
                            refine lv_iload hx hb dX3_join_99 (lv_at hl 0 rfl) ?_
                            refine lv_if_eq (tgt := 136) hx hb dX3_join_101 (by decide) (fun _ => ?_) (fun q => absurd nI_0 q)
                            refine lv_iconst (v := nI 0) hx hb dX3_join_136 (by decide) ?_
                            refine lv_iadd hx hb dX3_join_137 ?_
                            refine tp (nI_add _ _) ?_
                            refine lv_istore (lv' := [(5, .int (nI (n5 + 0))), (8, .int (nI 0)), (0, .ref (b 0)), (1, .int (nI ky)), (2, .int (nI ko)), (3, .int (nI tm)), (4, .int (nI rr)), (6, .int (nI x)), (7, .int (nI y))]) hx hb dX3_join_138 hl (by decide) rfl (fun ls hl => ?_)
                            refine lv_iinc (v := nI (y + 1)) (lv' := [(7, .int (nI (y + 1))), (5, .int (nI (n5 + 0))), (8, .int (nI 0)), (0, .ref (b 0)), (1, .int (nI ky)), (2, .int (nI ko)), (3, .int (nI tm)), (4, .int (nI rr)), (6, .int (nI x))]) hx hb dX3_join_140 hl (k := 8) rfl (inc_n _ 1) (by decide) rfl (fun ls hl => ?_)
                            refine lv_goto (tgt := 61) hx hb dX3_join_143 (by decide) ?_
                            exact ih61 (y + 1) (n5 + 0) (by omega) (by first | (rw [jnIn_y c76 c87 c129, hn61]; rfl) | (rw [jnIn_n (by first | exact Or.inl c76 | exact Or.inr (Or.inl c87) | exact Or.inr (Or.inr c129)), hn61]; rfl)) (by omega) H locs hI ls (lv_sub hl [3, 4, 5, 6, 7, 1, 8, 0] rfl)
                          · refine lv_iconst (v := nI 1) hx hb dX3_join_90 (by decide) ?_
                            refine lv_goto (tgt := 95) hx hb dX3_join_91 (by decide) ?_
                            refine lv_istore (lv' := [(8, .int (nI 1)), (0, .ref (b 0)), (1, .int (nI ky)), (2, .int (nI ko)), (3, .int (nI tm)), (4, .int (nI rr)), (5, .int (nI n5)), (6, .int (nI x)), (7, .int (nI y))]) hx hb dX3_join_95 hl (by decide) rfl (fun ls hl => ?_)
                            refine lv_iload hx hb dX3_join_97 (lv_at hl 6 rfl) ?_
                            refine lv_iload hx hb dX3_join_99 (lv_at hl 0 rfl) ?_
                            refine lv_if_eq (tgt := 136) hx hb dX3_join_101 (by decide) (fun q => absurd q (by decide)) (fun _ => ?_)
                            refine lv_iload hx hb dX3_join_104 (lv_at hl 7 rfl) ?_
                            refine lv_aload_n hx hb dX3_join_106 rfl (lv_at hl 1 rfl) ?_
                            refine lv_iload_n hx hb dX3_join_107 rfl (lv_at hl 4 rfl) ?_
                            refine lv_iload_n hx hb dX3_join_108 rfl (lv_at hl 2 rfl) ?_
                            refine lv_iload hx hb dX3_join_109 (lv_at hl 7 rfl) ?_
                            refine k_ro (run_v (As := [.int (nI tm), .int (nI ky), .int (nI x)]) (rest := [.int (nI x), .int (nI n5)]) hF hK hI (c_X3_endOf hM ht (by omega) (by omega) (by omega)) cf_X3_endOf k515 0 3 rfl rfl ⟨Nat.le_of_ble_eq_true rfl, Nat.le_of_ble_eq_true rfl⟩ ⟨rfl, rfl⟩ ⟨Nat.le_of_ble_eq_true rfl, Nat.le_of_ble_eq_true rfl⟩ rfl hl.1 rfl (Nat.le_of_ble_eq_true rfl) dX3_join_111) hI (fun H locs hI => ?_)
                            refine lv_iload hx hb dX3_join_114 (lv_at hl 8 rfl) ?_
                            refine lv_aload_n hx hb dX3_join_116 rfl (lv_at hl 1 rfl) ?_
                            refine lv_iload_n hx hb dX3_join_117 rfl (lv_at hl 4 rfl) ?_
                            refine lv_iload_n hx hb dX3_join_118 rfl (lv_at hl 3 rfl) ?_
                            refine lv_iload hx hb dX3_join_119 (lv_at hl 8 rfl) ?_
                            refine k_ro (run_v (As := [.int (nI tm), .int (nI ko), .int (nI y)]) (rest := [.int (nI y), .int (nI (rend S (tm * 4 + ky) x)), .int (nI x), .int (nI n5)]) hF hK hI (c_X3_endOf hM ht (by omega) (by omega) (by omega)) cf_X3_endOf k515 0 3 rfl rfl ⟨Nat.le_of_ble_eq_true rfl, Nat.le_of_ble_eq_true rfl⟩ ⟨rfl, rfl⟩ ⟨Nat.le_of_ble_eq_true rfl, Nat.le_of_ble_eq_true rfl⟩ rfl hl.1 rfl (Nat.le_of_ble_eq_true rfl) dX3_join_121) hI (fun H locs hI => ?_)
                            have g1 := rend_in (S := S) (sl := tm * 4 + ky) (dy := x) (by omega)
                            have g2 := rend_in (S := S) (sl := tm * 4 + ko) (dy := y) (by omega)
                            have g3 := rel_le x (rend S (tm * 4 + ky) x) y (rend S (tm * 4 + ko) y)
                            refine k_ro (run_s (As := [.int (nI x), .int (nI (rend S (tm * 4 + ky) x)), .int (nI y), .int (nI (rend S (tm * 4 + ko) y))]) (rest := [.int (nI n5)]) hF (c_X3_lies (by omega) (by omega) (by omega) (by omega) (by omega) (by omega)) tt_blind (fun _ _ _ => trivial) cf_X3_lies k586 ⟨Nat.le_of_ble_eq_true rfl, Nat.le_of_ble_eq_true rfl⟩ ⟨rfl, rfl⟩ ⟨Nat.le_of_ble_eq_true rfl, Nat.le_of_ble_eq_true rfl⟩ rfl hl.1 rfl (Nat.le_of_ble_eq_true rfl) dX3_join_124) hI (fun H locs hI => ?_)
                            refine lv_iload hx hb dX3_join_127 (lv_at hl 5 rfl) ?_
                            refine nb_ne (tgt := 136) hx hb dX3_join_129 (by decide) (by omega) (by omega) (fun c129 => ?_) (fun c129 => ?_)
                            · refine lv_iconst (v := nI 0) hx hb dX3_join_136 (by decide) ?_
                              refine lv_iadd hx hb dX3_join_137 ?_
                              refine tp (nI_add _ _) ?_
                              refine lv_istore (lv' := [(5, .int (nI (n5 + 0))), (8, .int (nI 1)), (0, .ref (b 0)), (1, .int (nI ky)), (2, .int (nI ko)), (3, .int (nI tm)), (4, .int (nI rr)), (6, .int (nI x)), (7, .int (nI y))]) hx hb dX3_join_138 hl (by decide) rfl (fun ls hl => ?_)
                              refine lv_iinc (v := nI (y + 1)) (lv' := [(7, .int (nI (y + 1))), (5, .int (nI (n5 + 0))), (8, .int (nI 1)), (0, .ref (b 0)), (1, .int (nI ky)), (2, .int (nI ko)), (3, .int (nI tm)), (4, .int (nI rr)), (6, .int (nI x))]) hx hb dX3_join_140 hl (k := 8) rfl (inc_n _ 1) (by decide) rfl (fun ls hl => ?_)
                              refine lv_goto (tgt := 61) hx hb dX3_join_143 (by decide) ?_
                              exact ih61 (y + 1) (n5 + 0) (by omega) (by first | (rw [jnIn_y c76 c87 c129, hn61]; rfl) | (rw [jnIn_n (by first | exact Or.inl c76 | exact Or.inr (Or.inl c87) | exact Or.inr (Or.inr c129)), hn61]; rfl)) (by omega) H locs hI ls (lv_sub hl [3, 4, 5, 6, 7, 1, 8, 0] rfl)
                            · refine lv_iconst (v := nI 1) hx hb dX3_join_132 (by decide) ?_
                              refine lv_goto (tgt := 137) hx hb dX3_join_133 (by decide) ?_
                              refine lv_iadd hx hb dX3_join_137 ?_
                              refine tp (nI_add _ _) ?_
                              refine lv_istore (lv' := [(5, .int (nI (n5 + 1))), (8, .int (nI 1)), (0, .ref (b 0)), (1, .int (nI ky)), (2, .int (nI ko)), (3, .int (nI tm)), (4, .int (nI rr)), (6, .int (nI x)), (7, .int (nI y))]) hx hb dX3_join_138 hl (by decide) rfl (fun ls hl => ?_)
                              refine lv_iinc (v := nI (y + 1)) (lv' := [(7, .int (nI (y + 1))), (5, .int (nI (n5 + 1))), (8, .int (nI 1)), (0, .ref (b 0)), (1, .int (nI ky)), (2, .int (nI ko)), (3, .int (nI tm)), (4, .int (nI rr)), (6, .int (nI x))]) hx hb dX3_join_140 hl (k := 8) rfl (inc_n _ 1) (by decide) rfl (fun ls hl => ?_)
                              refine lv_goto (tgt := 61) hx hb dX3_join_143 (by decide) ?_
                              exact ih61 (y + 1) (n5 + 1) (by omega) (by first | (rw [jnIn_y c76 c87 c129, hn61]; rfl) | (rw [jnIn_n (by first | exact Or.inl c76 | exact Or.inr (Or.inl c87) | exact Or.inr (Or.inr c129)), hn61]; rfl)) (by omega) H locs hI ls (lv_sub hl [3, 4, 5, 6, 7, 1, 8, 0] rfl)
                  exact J61 (32 + 1) 0 n5 (by omega) (by rw [jnIn_0]; exact hn51) (by omega) H locs hI ls (lv_sub hl [1, 2, 3, 4, 5, 6, 7, 0] rfl)
            exact J51 (32 + 1) 0 0 (by omega) rfl (by omega) H locs hI ls (lv_sub hl [2, 3, 4, 5, 6, 1, 0] rfl)
          · refine lv_aload_n hx hb dX3_join_39 rfl (lv_at hl 0 rfl) ?_
            refine lv_iconst (v := nI 1) hx hb dX3_join_40 (by decide) ?_
            refine k_mu (run_v (As := [.int (nI 1)]) (rest := []) hF hK hI (c_X3_fail ) cf_X3_fail k462 0 3 rfl rfl ⟨Nat.le_of_ble_eq_true rfl, Nat.le_of_ble_eq_true rfl⟩ ⟨rfl, rfl⟩ ⟨Nat.le_of_ble_eq_true rfl, Nat.le_of_ble_eq_true rfl⟩ rfl hl.1 rfl (Nat.le_of_ble_eq_true rfl) dX3_join_41) hI (fun r41 u41 hp41 H locs hI => ?_)
            subst hp41
            have hI : wi D z (Ar z) (mw b cI cZ (nI t) th vs kt kv wt wa fl (nI 1) ch X) s H locs := hI
            exact hret 1 hI dX3_join_44 ⟨by unfold jnCode; first | (simp [c9]; done) | (simp [c16]; done) | (simp [c24]; done) | simp [okN_f1 (n := 12) c29] | simp [okN_f2 (n := 12) c36 (by decide)], fun q9 => absurd q9 (by decide)⟩
