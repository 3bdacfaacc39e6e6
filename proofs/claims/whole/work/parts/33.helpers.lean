set_option maxHeartbeats 4000000 in
set_option maxRecDepth 100000 in
theorem c_L_value {l : Launch} {D : va_G} {cI cZ cJ : ClassId} {z : Nat} {a : Nat → Nat} {X : va_W} {vals fil rb : Nat → Int32} {t : Nat} {wo : Nat → Int32} {cnt fn : Int32} {oa : Nat} {og : Nat → Int64} (hst : l.stackTraces = false) {S : Sta} (hA : cAbs S vals fil t) (ht : t < 40)  {key day time : Int32} : hlM (S := Nat → Int64) l yL_value cL_value 6 [(0, 12, 15, 19), (0, 12, 19, 21)] 7 113 [.ref (a 0), .int (key), .int (day), .int (time), .ref (oa)] (pz D cI cZ cJ z (cw a cI vals fil rb (nI t) wo cnt fn (Xo oa cJ og X))) D z (fun u => cw a cI vals fil rb (nI t) wo cnt fn (Xo oa cJ u X)) (fun r u => r = nI (vCode S t key day time) ∧ (vCode S t key day time = 0 → u 0 = (vVal S key day time).toInt64)) := by
  refine bd_h (by decide) (Nat.le_of_ble_eq_true rfl) ?_
  intro p e s m args below meth c Q hF htab hpw hret ls hl
  obtain ⟨hx, hb, hml, hown, hts, hr, hlocks⟩ := id hF
  have hKx := hpw.2.1
  have hZ := hpw.2.2
  have hK := hpw.1.2.2.2
  have hI : wi D z (Ar z) (cw a cI vals fil rb (nI t) wo cnt fn (Xo oa cJ og X)) s s.heap [] := hpw.1.wi
  have hl : lv_has ls 6 [(0, .ref (a 0)), (1, .int (key)), (2, .int (day)), (3, .int (time)), (4, .ref (oa))] := hl
  suffices hgo : ∀ (H : Heap) (locs : List Loc), wi D z (Ar z) (cw a cI vals fil rb (nI t) wo cnt fn (Xo oa cJ og X)) s H locs → ∀ ls : Array Slot, lv_has ls 6 [(0, .ref (a 0)), (1, .int (key)), (2, .int (day)), (3, .int (time)), (4, .ref (oa))] → W p l e (rmx 7 113) s m args below meth c H locs 0 0 Q (F0 m 0 ls []) from hgo _ _ hI ls hl
  intro H locs hI ls hl
  refine lv_aload hx hb dL_value_0 (lv_at hl 4 rfl) ?_
  refine lv_iconst (v := nI 0) hx hb dL_value_2 (by decide) ?_
  refine lv_aload_n hx hb dL_value_3 rfl (lv_at hl 0 rfl) ?_
  refine lv_iload_n hx hb dL_value_4 rfl (lv_at hl 1 rfl) ?_
  refine lv_iload_n hx hb dL_value_5 rfl (lv_at hl 2 rfl) ?_
  refine lv_iload_n hx hb dL_value_6 rfl (lv_at hl 3 rfl) ?_
  refine k_tri (run_xv (As := [.int (key), .int (day), .int (time)]) (rest := [.int (nI 0), .ref (oa)]) hF hK hKx hZ hI (c_X2_value hst hA ht) cf_X2_value k304 0 2 rfl rfl ⟨Nat.le_of_ble_eq_true rfl, Nat.le_of_ble_eq_true rfl⟩ ⟨rfl, rfl⟩ ⟨Nat.le_of_ble_eq_true rfl, Nat.le_of_ble_eq_true rfl⟩ rfl hl.1 rfl (Nat.le_of_ble_eq_true rfl) dL_value_7) hI (fun E ce q9 u hp H locs hI hcell hvm9 hcl => ?_) (fun r u hp H locs hI => ?_)
  · have hI : wi D z (Ar z) (cw a cI vals fil rb (nI t) wo cnt fn (Xo oa cJ og X)) s H locs := hI
    rcases hp with ⟨rfl, hc⟩ | ⟨rfl, hc⟩
    · refine vx_catch (own := RL) (name := xIAE) hown [] ⟨0, 12, 15, 19⟩ [⟨0, 12, 19, 21⟩] (htab.trans rfl) (fun z hz => absurd hz List.not_mem_nil) (by decide) (by decide) (hts _ k197) (va_Nw.use rfl hKx.2.1.1) hcell hvm9 hcl ?_
      refine lv_astore (lv' := [(5, .ref (q9)), (0, .ref (a 0)), (1, .int (key)), (2, .int (day)), (3, .int (time)), (4, .ref (oa))]) hx hb dL_value_15 hl (by decide) rfl (fun ls hl => ?_)
      refine lv_iconst (v := nI 1) hx hb dL_value_17 (by decide) ?_
      exact hret og (by decide) (by decide) hI dL_value_18 (⟨by rw [hc], fun q9 => absurd (hc.symm.trans q9) (by decide)⟩)
    · refine vx_catch (own := RL) (name := xNSE) hown [⟨0, 12, 15, 19⟩] ⟨0, 12, 19, 21⟩ [] (htab.trans rfl) (fun z hz => by cases List.mem_singleton.mp hz; exact Or.inr ⟨by decide, xIAE, hts _ k197, hKx.2.2.2.1⟩) (by decide) (by decide) (hts _ k198) (va_Nw.use rfl hKx.2.1.2.2.1) hcell hvm9 hcl ?_
      refine lv_astore (lv' := [(5, .ref (q9)), (0, .ref (a 0)), (1, .int (key)), (2, .int (day)), (3, .int (time)), (4, .ref (oa))]) hx hb dL_value_19 hl (by decide) rfl (fun ls hl => ?_)
      refine lv_iconst (v := nI 2) hx hb dL_value_21 (by decide) ?_
      exact hret og (by decide) (by decide) hI dL_value_22 (⟨by rw [hc], fun q9 => absurd (hc.symm.trans q9) (by decide)⟩)
  · obtain ⟨hc, rfl⟩ := hp
    have hI : wi D z (Ar z) (cw a cI vals fil rb (nI t) wo cnt fn (Xo oa cJ og X)) s H locs := hI
    refine lv_i2l (v := (vVal S key day time).toInt64) hx hb dL_value_10 rfl ?_
    refine la_st hx hb hK hI 7 rfl dL_value_11 (fun H locs hI => ?_)
    have hI : wi D z (Ar z) (cw a cI vals fil rb (nI t) wo cnt fn (Xo oa cJ (vp_updL og 0 ((vVal S key day time).toInt64)) X)) s H locs := hI
    refine lv_goto (tgt := 23) hx hb dL_value_12 (by decide) ?_
    refine lv_iconst (v := nI 0) hx hb dL_value_23 (by decide) ?_
    exact hret (vp_updL og 0 ((vVal S key day time).toInt64)) (by decide) (by decide) hI dL_value_24 (⟨by rw [hc], fun q9 => rfl⟩)
set_option maxHeartbeats 4000000 in
set_option maxRecDepth 100000 in
theorem c_L_sum {l : Launch} {D : va_G} {cI cZ cJ : ClassId} {z : Nat} {a : Nat → Nat} {X : va_W} {vals fil rb : Nat → Int32} {t : Nat} {wo : Nat → Int32} {cnt fn : Int32} {oa : Nat} {og : Nat → Int64} (hst : l.stackTraces = false) {S : Sta} (hA : cAbs S vals fil t) (ht : t < 40)  {key fr to time : Int32} : hlM (S := Nat → Int64) l yL_sum cL_sum 7 [(0, 13, 16, 19)] 7 117 [.ref (a 0), .int (key), .int (fr), .int (to), .int (time), .ref (oa)] (pz D cI cZ cJ z (cw a cI vals fil rb (nI t) wo cnt fn (Xo oa cJ og X))) D z (fun u => cw a cI vals fil rb (nI t) wo cnt fn (Xo oa cJ u X)) (fun r u => r = nI (sCode t key fr to time) ∧ (sCode t key fr to time = 0 → u 0 = sVal S key fr to time)) := by
  refine bd_h (by decide) (Nat.le_of_ble_eq_true rfl) ?_
  intro p e s m args below meth c Q hF htab hpw hret ls hl
  obtain ⟨hx, hb, hml, hown, hts, hr, hlocks⟩ := id hF
  have hKx := hpw.2.1
  have hZ := hpw.2.2
  have hK := hpw.1.2.2.2
  have hI : wi D z (Ar z) (cw a cI vals fil rb (nI t) wo cnt fn (Xo oa cJ og X)) s s.heap [] := hpw.1.wi
  have hl : lv_has ls 7 [(0, .ref (a 0)), (1, .int (key)), (2, .int (fr)), (3, .int (to)), (4, .int (time)), (5, .ref (oa))] := hl
  suffices hgo : ∀ (H : Heap) (locs : List Loc), wi D z (Ar z) (cw a cI vals fil rb (nI t) wo cnt fn (Xo oa cJ og X)) s H locs → ∀ ls : Array Slot, lv_has ls 7 [(0, .ref (a 0)), (1, .int (key)), (2, .int (fr)), (3, .int (to)), (4, .int (time)), (5, .ref (oa))] → W p l e (rmx 7 117) s m args below meth c H locs 0 0 Q (F0 m 0 ls []) from hgo _ _ hI ls hl
  intro H locs hI ls hl
  refine lv_aload hx hb dL_sum_0 (lv_at hl 5 rfl) ?_
  refine lv_iconst (v := nI 0) hx hb dL_sum_2 (by decide) ?_
  refine lv_aload_n hx hb dL_sum_3 rfl (lv_at hl 0 rfl) ?_
  refine lv_iload_n hx hb dL_sum_4 rfl (lv_at hl 1 rfl) ?_
  refine lv_iload_n hx hb dL_sum_5 rfl (lv_at hl 2 rfl) ?_
  refine lv_iload_n hx hb dL_sum_6 rfl (lv_at hl 3 rfl) ?_
  refine lv_iload hx hb dL_sum_7 (lv_at hl 4 rfl) ?_
  refine k_trl (run_xv (As := [.int (key), .int (fr), .int (to), .int (time)]) (rest := [.int (nI 0), .ref (oa)]) hF hK hKx hZ hI (c_X2_sum hst hA ht) cf_X2_sum k312 0 2 rfl rfl ⟨Nat.le_of_ble_eq_true rfl, Nat.le_of_ble_eq_true rfl⟩ ⟨rfl, rfl⟩ ⟨Nat.le_of_ble_eq_true rfl, Nat.le_of_ble_eq_true rfl⟩ rfl hl.1 rfl (Nat.le_of_ble_eq_true rfl) dL_sum_9) hI (fun E ce q9 u hp H locs hI hcell hvm9 hcl => ?_) (fun r u hp H locs hI => ?_)
  · have hI : wi D z (Ar z) (cw a cI vals fil rb (nI t) wo cnt fn (Xo oa cJ og X)) s H locs := hI
    obtain ⟨rfl, hc⟩ := hp
    refine vx_catch (own := RL) (name := xIAE) hown [] ⟨0, 13, 16, 19⟩ [] (htab.trans rfl) (fun z hz => absurd hz List.not_mem_nil) (by decide) (by decide) (hts _ k197) (va_Nw.use rfl hKx.2.1.1) hcell hvm9 hcl ?_
    refine lv_astore (lv' := [(6, .ref (q9)), (0, .ref (a 0)), (1, .int (key)), (2, .int (fr)), (3, .int (to)), (4, .int (time)), (5, .ref (oa))]) hx hb dL_sum_16 hl (by decide) rfl (fun ls hl => ?_)
    refine lv_iconst (v := nI 1) hx hb dL_sum_18 (by decide) ?_
    exact hret og (by decide) (by decide) hI dL_sum_19 (⟨by rw [hc], fun q9 => absurd (hc.symm.trans q9) (by decide)⟩)
  · obtain ⟨hc, rfl⟩ := hp
    have hI : wi D z (Ar z) (cw a cI vals fil rb (nI t) wo cnt fn (Xo oa cJ og X)) s H locs := hI
    refine la_st hx hb hK hI 7 rfl dL_sum_12 (fun H locs hI => ?_)
    have hI : wi D z (Ar z) (cw a cI vals fil rb (nI t) wo cnt fn (Xo oa cJ (vp_updL og 0 (sVal S key fr to time)) X)) s H locs := hI
    refine lv_goto (tgt := 20) hx hb dL_sum_13 (by decide) ?_
    refine lv_iconst (v := nI 0) hx hb dL_sum_20 (by decide) ?_
    exact hret (vp_updL og 0 (sVal S key fr to time)) (by decide) (by decide) hI dL_sum_21 (⟨by rw [hc], fun q9 => rfl⟩)
set_option maxHeartbeats 4000000 in
set_option maxRecDepth 100000 in
theorem c_L_runs {l : Launch} {D : va_G} {cI cZ cJ : ClassId} {z : Nat} {a : Nat → Nat} {X : va_W} {vals fil rb : Nat → Int32} {t : Nat} {wo : Nat → Int32} {cnt fn : Int32} {oa : Nat} {og : Nat → Int64} (hst : l.stackTraces = false) {S : Sta} (hA : cAbs S vals fil t) (ht : t < 40)  {key time : Int32} : hlM (S := Nat → Int64) l yL_runs cL_runs 5 [(0, 10, 13, 19)] 7 111 [.ref (a 0), .int (key), .int (time), .ref (oa)] (pz D cI cZ cJ z (cw a cI vals fil rb (nI t) wo cnt fn (Xo oa cJ og X))) D z (fun u => cw a cI vals fil rb (nI t) wo cnt fn (Xo oa cJ u X)) (fun r u => r = nI (rsCode t key time) ∧ (rsCode t key time = 0 → u 0 = (nI (rsVal S key time)).toInt64)) := by
  refine bd_h (by decide) (Nat.le_of_ble_eq_true rfl) ?_
  intro p e s m args below meth c Q hF htab hpw hret ls hl
  obtain ⟨hx, hb, hml, hown, hts, hr, hlocks⟩ := id hF
  have hKx := hpw.2.1
  have hZ := hpw.2.2
  have hK := hpw.1.2.2.2
  have hI : wi D z (Ar z) (cw a cI vals fil rb (nI t) wo cnt fn (Xo oa cJ og X)) s s.heap [] := hpw.1.wi
  have hl : lv_has ls 5 [(0, .ref (a 0)), (1, .int (key)), (2, .int (time)), (3, .ref (oa))] := hl
  suffices hgo : ∀ (H : Heap) (locs : List Loc), wi D z (Ar z) (cw a cI vals fil rb (nI t) wo cnt fn (Xo oa cJ og X)) s H locs → ∀ ls : Array Slot, lv_has ls 5 [(0, .ref (a 0)), (1, .int (key)), (2, .int (time)), (3, .ref (oa))] → W p l e (rmx 7 111) s m args below meth c H locs 0 0 Q (F0 m 0 ls []) from hgo _ _ hI ls hl
  intro H locs hI ls hl
  refine lv_aload_n hx hb dL_runs_0 rfl (lv_at hl 3 rfl) ?_
  refine lv_iconst (v := nI 0) hx hb dL_runs_1 (by decide) ?_
  refine lv_aload_n hx hb dL_runs_2 rfl (lv_at hl 0 rfl) ?_
  refine lv_iload_n hx hb dL_runs_3 rfl (lv_at hl 1 rfl) ?_
  refine lv_iload_n hx hb dL_runs_4 rfl (lv_at hl 2 rfl) ?_
  refine k_tri (run_xv (As := [.int (key), .int (time)]) (rest := [.int (nI 0), .ref (oa)]) hF hK hKx hZ hI (c_X2_runs hst hA ht) cf_X2_runs k320 0 2 rfl rfl ⟨Nat.le_of_ble_eq_true rfl, Nat.le_of_ble_eq_true rfl⟩ ⟨rfl, rfl⟩ ⟨Nat.le_of_ble_eq_true rfl, Nat.le_of_ble_eq_true rfl⟩ rfl hl.1 rfl (Nat.le_of_ble_eq_true rfl) dL_runs_5) hI (fun E ce q9 u hp H locs hI hcell hvm9 hcl => ?_) (fun r u hp H locs hI => ?_)
  · have hI : wi D z (Ar z) (cw a cI vals fil rb (nI t) wo cnt fn (Xo oa cJ og X)) s H locs := hI
    obtain ⟨rfl, hc⟩ := hp
    refine vx_catch (own := RL) (name := xIAE) hown [] ⟨0, 10, 13, 19⟩ [] (htab.trans rfl) (fun z hz => absurd hz List.not_mem_nil) (by decide) (by decide) (hts _ k197) (va_Nw.use rfl hKx.2.1.1) hcell hvm9 hcl ?_
    refine lv_astore (lv' := [(4, .ref (q9)), (0, .ref (a 0)), (1, .int (key)), (2, .int (time)), (3, .ref (oa))]) hx hb dL_runs_13 hl (by decide) rfl (fun ls hl => ?_)
    refine lv_iconst (v := nI 1) hx hb dL_runs_15 (by decide) ?_
    exact hret og (by decide) (by decide) hI dL_runs_16 (⟨by rw [hc], fun q9 => absurd (hc.symm.trans q9) (by decide)⟩)
  · obtain ⟨hc, rfl⟩ := hp
    have hI : wi D z (Ar z) (cw a cI vals fil rb (nI t) wo cnt fn (Xo oa cJ og X)) s H locs := hI
    refine lv_i2l (v := (nI (rsVal S key time)).toInt64) hx hb dL_runs_8 rfl ?_
    refine la_st hx hb hK hI 7 rfl dL_runs_9 (fun H locs hI => ?_)
    have hI : wi D z (Ar z) (cw a cI vals fil rb (nI t) wo cnt fn (Xo oa cJ (vp_updL og 0 ((nI (rsVal S key time)).toInt64)) X)) s H locs := hI
    refine lv_goto (tgt := 17) hx hb dL_runs_10 (by decide) ?_
    refine lv_iconst (v := nI 0) hx hb dL_runs_17 (by decide) ?_
    exact hret (vp_updL og 0 ((nI (rsVal S key time)).toInt64)) (by decide) (by decide) hI dL_runs_18 (⟨by rw [hc], fun q9 => rfl⟩)
set_option maxHeartbeats 4000000 in
set_option maxRecDepth 100000 in
theorem c_L_run {l : Launch} {D : va_G} {cI cZ cJ : ClassId} {z : Nat} {a : Nat → Nat} {X : va_W} {vals fil rb : Nat → Int32} {t : Nat} {wo : Nat → Int32} {cnt fn : Int32} {oa : Nat} {og : Nat → Int64} (hst : l.stackTraces = false) {S : Sta} (hA : cAbs S vals fil t) (ht : t < 40) {key time k part : Int32} {i : Nat} (hg : rnCode S t key time k part = 0 → i < 32 ∧ beg S (nn time * 4 + nn key) i = true ∧ fb_ct (beg S (nn time * 4 + nn key)) i = nn k) : hlM (S := Nat → Int64) l yL_run cL_run 7 [(0, 14, 17, 19), (0, 14, 21, 42)] 7 115 [.ref (a 0), .int (key), .int (time), .int (k), .int (part), .ref (oa)] (pz D cI cZ cJ z (cw a cI vals fil rb (nI t) wo cnt fn (Xo oa cJ og X))) D z (fun u => cw a cI vals fil rb (nI t) wo cnt fn (Xo oa cJ u X)) (fun r u => r = nI (rnCode S t key time k part) ∧ (rnCode S t key time k part = 0 → u 0 = (rnVal S (nn time * 4 + nn key) i (nn part)).toInt64)) := by
  refine bd_h (by decide) (Nat.le_of_ble_eq_true rfl) ?_
  intro p e s m args below meth c Q hF htab hpw hret ls hl
  obtain ⟨hx, hb, hml, hown, hts, hr, hlocks⟩ := id hF
  have hKx := hpw.2.1
  have hZ := hpw.2.2
  have hK := hpw.1.2.2.2
  have hI : wi D z (Ar z) (cw a cI vals fil rb (nI t) wo cnt fn (Xo oa cJ og X)) s s.heap [] := hpw.1.wi
  have hl : lv_has ls 7 [(0, .ref (a 0)), (1, .int (key)), (2, .int (time)), (3, .int (k)), (4, .int (part)), (5, .ref (oa))] := hl
  suffices hgo : ∀ (H : Heap) (locs : List Loc), wi D z (Ar z) (cw a cI vals fil rb (nI t) wo cnt fn (Xo oa cJ og X)) s H locs → ∀ ls : Array Slot, lv_has ls 7 [(0, .ref (a 0)), (1, .int (key)), (2, .int (time)), (3, .int (k)), (4, .int (part)), (5, .ref (oa))] → W p l e (rmx 7 115) s m args below meth c H locs 0 0 Q (F0 m 0 ls []) from hgo _ _ hI ls hl
  intro H locs hI ls hl
  refine lv_aload hx hb dL_run_0 (lv_at hl 5 rfl) ?_
  refine lv_iconst (v := nI 0) hx hb dL_run_2 (by decide) ?_
  refine lv_aload_n hx hb dL_run_3 rfl (lv_at hl 0 rfl) ?_
  refine lv_iload_n hx hb dL_run_4 rfl (lv_at hl 1 rfl) ?_
  refine lv_iload_n hx hb dL_run_5 rfl (lv_at hl 2 rfl) ?_
  refine lv_iload_n hx hb dL_run_6 rfl (lv_at hl 3 rfl) ?_
  refine lv_iload hx hb dL_run_7 (lv_at hl 4 rfl) ?_
  refine k_tri (run_xv (As := [.int (key), .int (time), .int (k), .int (part)]) (rest := [.int (nI 0), .ref (oa)]) hF hK hKx hZ hI (c_X2_run hst hA ht hg) cf_X2_run k332 0 2 rfl rfl ⟨Nat.le_of_ble_eq_true rfl, Nat.le_of_ble_eq_true rfl⟩ ⟨rfl, rfl⟩ ⟨Nat.le_of_ble_eq_true rfl, Nat.le_of_ble_eq_true rfl⟩ rfl hl.1 rfl (Nat.le_of_ble_eq_true rfl) dL_run_9) hI (fun E ce q9 u hp H locs hI hcell hvm9 hcl => ?_) (fun r u hp H locs hI => ?_)
  · have hI : wi D z (Ar z) (cw a cI vals fil rb (nI t) wo cnt fn (Xo oa cJ og X)) s H locs := hI
    rcases hp with ⟨rfl, hc⟩ | ⟨rfl, hc⟩
    · refine vx_catch (own := RL) (name := xIAE) hown [] ⟨0, 14, 17, 19⟩ [⟨0, 14, 21, 42⟩] (htab.trans rfl) (fun z hz => absurd hz List.not_mem_nil) (by decide) (by decide) (hts _ k197) (va_Nw.use rfl hKx.2.1.1) hcell hvm9 hcl ?_
      refine lv_astore (lv' := [(6, .ref (q9)), (0, .ref (a 0)), (1, .int (key)), (2, .int (time)), (3, .int (k)), (4, .int (part)), (5, .ref (oa))]) hx hb dL_run_17 hl (by decide) rfl (fun ls hl => ?_)
      refine lv_iconst (v := nI 1) hx hb dL_run_19 (by decide) ?_
      exact hret og (by decide) (by decide) hI dL_run_20 (⟨by rw [hc], fun q9 => absurd (hc.symm.trans q9) (by decide)⟩)
    · refine vx_catch (own := RL) (name := xIOB) hown [⟨0, 14, 17, 19⟩] ⟨0, 14, 21, 42⟩ [] (htab.trans rfl) (fun z hz => by cases List.mem_singleton.mp hz; exact Or.inr ⟨by decide, xIAE, hts _ k197, hKx.2.2.2.2.2⟩) (by decide) (by decide) (hts _ k331) (va_Nw.use rfl hKx.2.1.2.2.2) hcell hvm9 hcl ?_
      refine lv_astore (lv' := [(6, .ref (q9)), (0, .ref (a 0)), (1, .int (key)), (2, .int (time)), (3, .int (k)), (4, .int (part)), (5, .ref (oa))]) hx hb dL_run_21 hl (by decide) rfl (fun ls hl => ?_)
      refine lv_iconst (v := nI 2) hx hb dL_run_23 (by decide) ?_
      exact hret og (by decide) (by decide) hI dL_run_24 (⟨by rw [hc], fun q9 => absurd (hc.symm.trans q9) (by decide)⟩)
  · obtain ⟨hc, rfl⟩ := hp
    have hI : wi D z (Ar z) (cw a cI vals fil rb (nI t) wo cnt fn (Xo oa cJ og X)) s H locs := hI
    refine lv_i2l (v := (rnVal S (nn time * 4 + nn key) i (nn part)).toInt64) hx hb dL_run_12 rfl ?_
    refine la_st hx hb hK hI 7 rfl dL_run_13 (fun H locs hI => ?_)
    have hI : wi D z (Ar z) (cw a cI vals fil rb (nI t) wo cnt fn (Xo oa cJ (vp_updL og 0 ((rnVal S (nn time * 4 + nn key) i (nn part)).toInt64)) X)) s H locs := hI
    refine lv_goto (tgt := 25) hx hb dL_run_14 (by decide) ?_
    refine lv_iconst (v := nI 0) hx hb dL_run_25 (by decide) ?_
    exact hret (vp_updL og 0 ((rnVal S (nn time * 4 + nn key) i (nn part)).toInt64)) (by decide) (by decide) hI dL_run_26 (⟨by rw [hc], fun q9 => rfl⟩)
set_option maxHeartbeats 4000000 in
set_option maxRecDepth 100000 in
theorem c_L_row {l : Launch} {D : va_G} {cI cZ cJ : ClassId} {z : Nat} {a : Nat → Nat} {X : va_W} {vals fil rb : Nat → Int32} {t : Nat} {wo : Nat → Int32} {cnt fn : Int32} {oa : Nat} {og : Nat → Int64} (hst : l.stackTraces = false) {S : Sta} (hA : cAbs S vals fil t) (ht : t < 40) (hR : rOk S rb t) {k part : Int32} {ky tm i : Nat} (hg : rwCode S t k part = 0 → ky < 4 ∧ tm ≤ t ∧ i < 32 ∧ isRw S (tm * 4 + ky) i = true ∧ nn k = rowAt S t ky tm i) : hlM (S := Nat → Int64) l yL_row cL_row 5 [(0, 10, 13, 19), (0, 10, 17, 42)] 7 167 [.ref (a 0), .int (k), .int (part), .ref (oa)] (pz D cI cZ cJ z (cw a cI vals fil rb (nI t) wo cnt fn (Xo oa cJ og X))) D z (fun u => cw a cI vals fil rb (nI t) wo cnt fn (Xo oa cJ u X)) (fun r u => r = nI (rwCode S t k part) ∧ (rwCode S t k part = 0 → u 0 = (rowV S t tm ky i (nn part)).toInt64)) := by
  refine bd_h (by decide) (Nat.le_of_ble_eq_true rfl) ?_
  intro p e s m args below meth c Q hF htab hpw hret ls hl
  obtain ⟨hx, hb, hml, hown, hts, hr, hlocks⟩ := id hF
  have hKx := hpw.2.1
  have hZ := hpw.2.2
  have hK := hpw.1.2.2.2
  have hI : wi D z (Ar z) (cw a cI vals fil rb (nI t) wo cnt fn (Xo oa cJ og X)) s s.heap [] := hpw.1.wi
  have hl : lv_has ls 5 [(0, .ref (a 0)), (1, .int (k)), (2, .int (part)), (3, .ref (oa))] := hl
  suffices hgo : ∀ (H : Heap) (locs : List Loc), wi D z (Ar z) (cw a cI vals fil rb (nI t) wo cnt fn (Xo oa cJ og X)) s H locs → ∀ ls : Array Slot, lv_has ls 5 [(0, .ref (a 0)), (1, .int (k)), (2, .int (part)), (3, .ref (oa))] → W p l e (rmx 7 167) s m args below meth c H locs 0 0 Q (F0 m 0 ls []) from hgo _ _ hI ls hl
  intro H locs hI ls hl
  refine lv_aload_n hx hb dL_row_0 rfl (lv_at hl 3 rfl) ?_
  refine lv_iconst (v := nI 0) hx hb dL_row_1 (by decide) ?_
  refine lv_aload_n hx hb dL_row_2 rfl (lv_at hl 0 rfl) ?_
  refine lv_iload_n hx hb dL_row_3 rfl (lv_at hl 1 rfl) ?_
  refine lv_iload_n hx hb dL_row_4 rfl (lv_at hl 2 rfl) ?_
  refine k_tri (run_xv (As := [.int (k), .int (part)]) (rest := [.int (nI 0), .ref (oa)]) hF hK hKx hZ hI (c_X2_row hst hA ht hR hg) cf_X2_row k359 0 2 rfl rfl ⟨Nat.le_of_ble_eq_true rfl, Nat.le_of_ble_eq_true rfl⟩ ⟨rfl, rfl⟩ ⟨Nat.le_of_ble_eq_true rfl, Nat.le_of_ble_eq_true rfl⟩ rfl hl.1 rfl (Nat.le_of_ble_eq_true rfl) dL_row_5) hI (fun E ce q9 u hp H locs hI hcell hvm9 hcl => ?_) (fun r u hp H locs hI => ?_)
  · have hI : wi D z (Ar z) (cw a cI vals fil rb (nI t) wo cnt fn (Xo oa cJ og X)) s H locs := hI
    rcases hp with ⟨rfl, hc⟩ | ⟨rfl, hc⟩
    · refine vx_catch (own := RL) (name := xIAE) hown [] ⟨0, 10, 13, 19⟩ [⟨0, 10, 17, 42⟩] (htab.trans rfl) (fun z hz => absurd hz List.not_mem_nil) (by decide) (by decide) (hts _ k197) (va_Nw.use rfl hKx.2.1.1) hcell hvm9 hcl ?_
      refine lv_astore (lv' := [(4, .ref (q9)), (0, .ref (a 0)), (1, .int (k)), (2, .int (part)), (3, .ref (oa))]) hx hb dL_row_13 hl (by decide) rfl (fun ls hl => ?_)
      refine lv_iconst (v := nI 1) hx hb dL_row_15 (by decide) ?_
      exact hret og (by decide) (by decide) hI dL_row_16 (⟨by rw [hc], fun q9 => absurd (hc.symm.trans q9) (by decide)⟩)
    · refine vx_catch (own := RL) (name := xIOB) hown [⟨0, 10, 13, 19⟩] ⟨0, 10, 17, 42⟩ [] (htab.trans rfl) (fun z hz => by cases List.mem_singleton.mp hz; exact Or.inr ⟨by decide, xIAE, hts _ k197, hKx.2.2.2.2.2⟩) (by decide) (by decide) (hts _ k331) (va_Nw.use rfl hKx.2.1.2.2.2) hcell hvm9 hcl ?_
      refine lv_astore (lv' := [(4, .ref (q9)), (0, .ref (a 0)), (1, .int (k)), (2, .int (part)), (3, .ref (oa))]) hx hb dL_row_17 hl (by decide) rfl (fun ls hl => ?_)
      refine lv_iconst (v := nI 2) hx hb dL_row_19 (by decide) ?_
      exact hret og (by decide) (by decide) hI dL_row_20 (⟨by rw [hc], fun q9 => absurd (hc.symm.trans q9) (by decide)⟩)
  · obtain ⟨hc, rfl⟩ := hp
    have hI : wi D z (Ar z) (cw a cI vals fil rb (nI t) wo cnt fn (Xo oa cJ og X)) s H locs := hI
    refine lv_i2l (v := (rowV S t tm ky i (nn part)).toInt64) hx hb dL_row_8 rfl ?_
    refine la_st hx hb hK hI 7 rfl dL_row_9 (fun H locs hI => ?_)
    have hI : wi D z (Ar z) (cw a cI vals fil rb (nI t) wo cnt fn (Xo oa cJ (vp_updL og 0 ((rowV S t tm ky i (nn part)).toInt64)) X)) s H locs := hI
    refine lv_goto (tgt := 21) hx hb dL_row_10 (by decide) ?_
    refine lv_iconst (v := nI 0) hx hb dL_row_21 (by decide) ?_
    exact hret (vp_updL og 0 ((rowV S t tm ky i (nn part)).toInt64)) (by decide) (by decide) hI dL_row_22 (⟨by rw [hc], fun q9 => rfl⟩)
set_option maxHeartbeats 4000000 in
set_option maxRecDepth 100000 in
theorem c_L_changes {l : Launch} {D : va_G} {cI cZ cJ : ClassId} {z : Nat} {a : Nat → Nat} {X : va_W} {vals fil rb : Nat → Int32} {t : Nat} {wo : Nat → Int32} {cnt fn : Int32} {oa : Nat} {og : Nat → Int64} (hst : l.stackTraces = false) {S : Sta} (hA : cAbs S vals fil t) (ht : t < 40)  {key day : Int32} : hlM (S := Nat → Int64) l yL_changes cL_changes 5 [(0, 10, 13, 19)] 7 113 [.ref (a 0), .int (key), .int (day), .ref (oa)] (pz D cI cZ cJ z (cw a cI vals fil rb (nI t) wo cnt fn (Xo oa cJ og X))) D z (fun u => cw a cI vals fil rb (nI t) wo cnt fn (Xo oa cJ u X)) (fun r u => r = nI (chCode key day) ∧ (chCode key day = 0 → u 0 = (nI (chVal S (nn key) (nn day) t)).toInt64)) := by
  refine bd_h (by decide) (Nat.le_of_ble_eq_true rfl) ?_
  intro p e s m args below meth c Q hF htab hpw hret ls hl
  obtain ⟨hx, hb, hml, hown, hts, hr, hlocks⟩ := id hF
  have hKx := hpw.2.1
  have hZ := hpw.2.2
  have hK := hpw.1.2.2.2
  have hI : wi D z (Ar z) (cw a cI vals fil rb (nI t) wo cnt fn (Xo oa cJ og X)) s s.heap [] := hpw.1.wi
  have hl : lv_has ls 5 [(0, .ref (a 0)), (1, .int (key)), (2, .int (day)), (3, .ref (oa))] := hl
  suffices hgo : ∀ (H : Heap) (locs : List Loc), wi D z (Ar z) (cw a cI vals fil rb (nI t) wo cnt fn (Xo oa cJ og X)) s H locs → ∀ ls : Array Slot, lv_has ls 5 [(0, .ref (a 0)), (1, .int (key)), (2, .int (day)), (3, .ref (oa))] → W p l e (rmx 7 113) s m args below meth c H locs 0 0 Q (F0 m 0 ls []) from hgo _ _ hI ls hl
  intro H locs hI ls hl
  refine lv_aload_n hx hb dL_changes_0 rfl (lv_at hl 3 rfl) ?_
  refine lv_iconst (v := nI 0) hx hb dL_changes_1 (by decide) ?_
  refine lv_aload_n hx hb dL_changes_2 rfl (lv_at hl 0 rfl) ?_
  refine lv_iload_n hx hb dL_changes_3 rfl (lv_at hl 1 rfl) ?_
  refine lv_iload_n hx hb dL_changes_4 rfl (lv_at hl 2 rfl) ?_
  refine k_tri (run_xv (As := [.int (key), .int (day)]) (rest := [.int (nI 0), .ref (oa)]) hF hK hKx hZ hI (c_X2_changes hst hA ht) cf_X2_changes k382 0 2 rfl rfl ⟨Nat.le_of_ble_eq_true rfl, Nat.le_of_ble_eq_true rfl⟩ ⟨rfl, rfl⟩ ⟨Nat.le_of_ble_eq_true rfl, Nat.le_of_ble_eq_true rfl⟩ rfl hl.1 rfl (Nat.le_of_ble_eq_true rfl) dL_changes_5) hI (fun E ce q9 u hp H locs hI hcell hvm9 hcl => ?_) (fun r u hp H locs hI => ?_)
  · have hI : wi D z (Ar z) (cw a cI vals fil rb (nI t) wo cnt fn (Xo oa cJ og X)) s H locs := hI
    obtain ⟨rfl, hc⟩ := hp
    refine vx_catch (own := RL) (name := xIAE) hown [] ⟨0, 10, 13, 19⟩ [] (htab.trans rfl) (fun z hz => absurd hz List.not_mem_nil) (by decide) (by decide) (hts _ k197) (va_Nw.use rfl hKx.2.1.1) hcell hvm9 hcl ?_
    refine lv_astore (lv' := [(4, .ref (q9)), (0, .ref (a 0)), (1, .int (key)), (2, .int (day)), (3, .ref (oa))]) hx hb dL_changes_13 hl (by decide) rfl (fun ls hl => ?_)
    refine lv_iconst (v := nI 1) hx hb dL_changes_15 (by decide) ?_
    exact hret og (by decide) (by decide) hI dL_changes_16 (⟨by rw [hc], fun q9 => absurd (hc.symm.trans q9) (by decide)⟩)
  · obtain ⟨hc, rfl⟩ := hp
    have hI : wi D z (Ar z) (cw a cI vals fil rb (nI t) wo cnt fn (Xo oa cJ og X)) s H locs := hI
    refine lv_i2l (v := (nI (chVal S (nn key) (nn day) t)).toInt64) hx hb dL_changes_8 rfl ?_
    refine la_st hx hb hK hI 7 rfl dL_changes_9 (fun H locs hI => ?_)
    have hI : wi D z (Ar z) (cw a cI vals fil rb (nI t) wo cnt fn (Xo oa cJ (vp_updL og 0 ((nI (chVal S (nn key) (nn day) t)).toInt64)) X)) s H locs := hI
    refine lv_goto (tgt := 17) hx hb dL_changes_10 (by decide) ?_
    refine lv_iconst (v := nI 0) hx hb dL_changes_17 (by decide) ?_
    exact hret (vp_updL og 0 ((nI (chVal S (nn key) (nn day) t)).toInt64)) (by decide) (by decide) hI dL_changes_18 (⟨by rw [hc], fun q9 => rfl⟩)
set_option maxHeartbeats 4000000 in
set_option maxRecDepth 100000 in
theorem c_L_relation {l : Launch} {D : va_G} {cI cZ cJ : ClassId} {z : Nat} {a : Nat → Nat} {X : va_W} {vals fil rb : Nat → Int32} {t : Nat} {wo : Nat → Int32} {cnt fn : Int32} {oa : Nat} {og : Nat → Int64} (hst : l.stackTraces = false)   {ra rb0 rc rd : Int32} : hlM (S := Nat → Int64) l yL_relation cL_relation 7 [(0, 14, 17, 19)] 7 113 [.ref (a 0), .int (ra), .int (rb0), .int (rc), .int (rd), .ref (oa)] (pz D cI cZ cJ z (cw a cI vals fil rb (nI t) wo cnt fn (Xo oa cJ og X))) D z (fun u => cw a cI vals fil rb (nI t) wo cnt fn (Xo oa cJ u X)) (fun r u => r = nI (rlCode ra rb0 rc rd) ∧ (rlCode ra rb0 rc rd = 0 → u 0 = (nI (rel (nn ra) (nn rb0) (nn rc) (nn rd))).toInt64)) := by
  refine bd_h (by decide) (Nat.le_of_ble_eq_true rfl) ?_
  intro p e s m args below meth c Q hF htab hpw hret ls hl
  obtain ⟨hx, hb, hml, hown, hts, hr, hlocks⟩ := id hF
  have hKx := hpw.2.1
  have hZ := hpw.2.2
  have hK := hpw.1.2.2.2
  have hI : wi D z (Ar z) (cw a cI vals fil rb (nI t) wo cnt fn (Xo oa cJ og X)) s s.heap [] := hpw.1.wi
  have hl : lv_has ls 7 [(0, .ref (a 0)), (1, .int (ra)), (2, .int (rb0)), (3, .int (rc)), (4, .int (rd)), (5, .ref (oa))] := hl
  suffices hgo : ∀ (H : Heap) (locs : List Loc), wi D z (Ar z) (cw a cI vals fil rb (nI t) wo cnt fn (Xo oa cJ og X)) s H locs → ∀ ls : Array Slot, lv_has ls 7 [(0, .ref (a 0)), (1, .int (ra)), (2, .int (rb0)), (3, .int (rc)), (4, .int (rd)), (5, .ref (oa))] → W p l e (rmx 7 113) s m args below meth c H locs 0 0 Q (F0 m 0 ls []) from hgo _ _ hI ls hl
  intro H locs hI ls hl
  refine lv_aload hx hb dL_relation_0 (lv_at hl 5 rfl) ?_
  refine lv_iconst (v := nI 0) hx hb dL_relation_2 (by decide) ?_
  refine lv_aload_n hx hb dL_relation_3 rfl (lv_at hl 0 rfl) ?_
  refine lv_iload_n hx hb dL_relation_4 rfl (lv_at hl 1 rfl) ?_
  refine lv_iload_n hx hb dL_relation_5 rfl (lv_at hl 2 rfl) ?_
  refine lv_iload_n hx hb dL_relation_6 rfl (lv_at hl 3 rfl) ?_
  refine lv_iload hx hb dL_relation_7 (lv_at hl 4 rfl) ?_
  refine k_tri (run_xv (As := [.int (ra), .int (rb0), .int (rc), .int (rd)]) (rest := [.int (nI 0), .ref (oa)]) hF hK hKx hZ hI (c_X2_relation hst) cf_X2_relation k393 0 2 rfl rfl ⟨Nat.le_of_ble_eq_true rfl, Nat.le_of_ble_eq_true rfl⟩ ⟨rfl, rfl⟩ ⟨Nat.le_of_ble_eq_true rfl, Nat.le_of_ble_eq_true rfl⟩ rfl hl.1 rfl (Nat.le_of_ble_eq_true rfl) dL_relation_9) hI (fun E ce q9 u hp H locs hI hcell hvm9 hcl => ?_) (fun r u hp H locs hI => ?_)
  · have hI : wi D z (Ar z) (cw a cI vals fil rb (nI t) wo cnt fn (Xo oa cJ og X)) s H locs := hI
    obtain ⟨rfl, hc⟩ := hp
    refine vx_catch (own := RL) (name := xIAE) hown [] ⟨0, 14, 17, 19⟩ [] (htab.trans rfl) (fun z hz => absurd hz List.not_mem_nil) (by decide) (by decide) (hts _ k197) (va_Nw.use rfl hKx.2.1.1) hcell hvm9 hcl ?_
    refine lv_astore (lv' := [(6, .ref (q9)), (0, .ref (a 0)), (1, .int (ra)), (2, .int (rb0)), (3, .int (rc)), (4, .int (rd)), (5, .ref (oa))]) hx hb dL_relation_17 hl (by decide) rfl (fun ls hl => ?_)
    refine lv_iconst (v := nI 1) hx hb dL_relation_19 (by decide) ?_
    exact hret og (by decide) (by decide) hI dL_relation_20 (⟨by rw [hc], fun q9 => absurd (hc.symm.trans q9) (by decide)⟩)
  · obtain ⟨hc, rfl⟩ := hp
    have hI : wi D z (Ar z) (cw a cI vals fil rb (nI t) wo cnt fn (Xo oa cJ og X)) s H locs := hI
    refine lv_i2l (v := (nI (rel (nn ra) (nn rb0) (nn rc) (nn rd))).toInt64) hx hb dL_relation_12 rfl ?_
    refine la_st hx hb hK hI 7 rfl dL_relation_13 (fun H locs hI => ?_)
    have hI : wi D z (Ar z) (cw a cI vals fil rb (nI t) wo cnt fn (Xo oa cJ (vp_updL og 0 ((nI (rel (nn ra) (nn rb0) (nn rc) (nn rd))).toInt64)) X)) s H locs := hI
    refine lv_goto (tgt := 21) hx hb dL_relation_14 (by decide) ?_
    refine lv_iconst (v := nI 0) hx hb dL_relation_21 (by decide) ?_
    exact hret (vp_updL og 0 ((nI (rel (nn ra) (nn rb0) (nn rc) (nn rd))).toInt64)) (by decide) (by decide) hI dL_relation_22 (⟨by rw [hc], fun q9 => rfl⟩)
set_option maxHeartbeats 4000000 in
set_option maxRecDepth 100000 in
theorem c_L_join {l : Launch} {D : va_G} {cI cZ cJ : ClassId} {z : Nat} {a : Nat → Nat} {X : va_W} {vals fil rb : Nat → Int32} {t : Nat} {wo : Nat → Int32} {cnt fn : Int32} {oa : Nat} {og : Nat → Int64} (hst : l.stackTraces = false) {S : Sta} (hA : cAbs S vals fil t) (ht : t < 40)  {key other time r0 : Int32} : hlM (S := Nat → Int64) l yL_join cL_join 7 [(0, 14, 17, 19)] 7 116 [.ref (a 0), .int (key), .int (other), .int (time), .int (r0), .ref (oa)] (pz D cI cZ cJ z (cw a cI vals fil rb (nI t) wo cnt fn (Xo oa cJ og X))) D z (fun u => cw a cI vals fil rb (nI t) wo cnt fn (Xo oa cJ u X)) (fun r u => r = nI (jnCode t key other time r0) ∧ (jnCode t key other time r0 = 0 → u 0 = (nI (jnVal S (nn time * 4 + nn key) (nn time * 4 + nn other) (nn r0))).toInt64)) := by
  refine bd_h (by decide) (Nat.le_of_ble_eq_true rfl) ?_
  intro p e s m args below meth c Q hF htab hpw hret ls hl
  obtain ⟨hx, hb, hml, hown, hts, hr, hlocks⟩ := id hF
  have hKx := hpw.2.1
  have hZ := hpw.2.2
  have hK := hpw.1.2.2.2
  have hI : wi D z (Ar z) (cw a cI vals fil rb (nI t) wo cnt fn (Xo oa cJ og X)) s s.heap [] := hpw.1.wi
  have hl : lv_has ls 7 [(0, .ref (a 0)), (1, .int (key)), (2, .int (other)), (3, .int (time)), (4, .int (r0)), (5, .ref (oa))] := hl
  suffices hgo : ∀ (H : Heap) (locs : List Loc), wi D z (Ar z) (cw a cI vals fil rb (nI t) wo cnt fn (Xo oa cJ og X)) s H locs → ∀ ls : Array Slot, lv_has ls 7 [(0, .ref (a 0)), (1, .int (key)), (2, .int (other)), (3, .int (time)), (4, .int (r0)), (5, .ref (oa))] → W p l e (rmx 7 116) s m args below meth c H locs 0 0 Q (F0 m 0 ls []) from hgo _ _ hI ls hl
  intro H locs hI ls hl
  refine lv_aload hx hb dL_join_0 (lv_at hl 5 rfl) ?_
  refine lv_iconst (v := nI 0) hx hb dL_join_2 (by decide) ?_
  refine lv_aload_n hx hb dL_join_3 rfl (lv_at hl 0 rfl) ?_
  refine lv_iload_n hx hb dL_join_4 rfl (lv_at hl 1 rfl) ?_
  refine lv_iload_n hx hb dL_join_5 rfl (lv_at hl 2 rfl) ?_
  refine lv_iload_n hx hb dL_join_6 rfl (lv_at hl 3 rfl) ?_
  refine lv_iload hx hb dL_join_7 (lv_at hl 4 rfl) ?_
  refine k_tri (run_xv (As := [.int (key), .int (other), .int (time), .int (r0)]) (rest := [.int (nI 0), .ref (oa)]) hF hK hKx hZ hI (c_X2_join hst hA ht) cf_X2_join k406 0 2 rfl rfl ⟨Nat.le_of_ble_eq_true rfl, Nat.le_of_ble_eq_true rfl⟩ ⟨rfl, rfl⟩ ⟨Nat.le_of_ble_eq_true rfl, Nat.le_of_ble_eq_true rfl⟩ rfl hl.1 rfl (Nat.le_of_ble_eq_true rfl) dL_join_9) hI (fun E ce q9 u hp H locs hI hcell hvm9 hcl => ?_) (fun r u hp H locs hI => ?_)
  · have hI : wi D z (Ar z) (cw a cI vals fil rb (nI t) wo cnt fn (Xo oa cJ og X)) s H locs := hI
    obtain ⟨rfl, hc⟩ := hp
    refine vx_catch (own := RL) (name := xIAE) hown [] ⟨0, 14, 17, 19⟩ [] (htab.trans rfl) (fun z hz => absurd hz List.not_mem_nil) (by decide) (by decide) (hts _ k197) (va_Nw.use rfl hKx.2.1.1) hcell hvm9 hcl ?_
    refine lv_astore (lv' := [(6, .ref (q9)), (0, .ref (a 0)), (1, .int (key)), (2, .int (other)), (3, .int (time)), (4, .int (r0)), (5, .ref (oa))]) hx hb dL_join_17 hl (by decide) rfl (fun ls hl => ?_)
    refine lv_iconst (v := nI 1) hx hb dL_join_19 (by decide) ?_
    exact hret og (by decide) (by decide) hI dL_join_20 (⟨by rw [hc], fun q9 => absurd (hc.symm.trans q9) (by decide)⟩)
  · obtain ⟨hc, rfl⟩ := hp
    have hI : wi D z (Ar z) (cw a cI vals fil rb (nI t) wo cnt fn (Xo oa cJ og X)) s H locs := hI
    refine lv_i2l (v := (nI (jnVal S (nn time * 4 + nn key) (nn time * 4 + nn other) (nn r0))).toInt64) hx hb dL_join_12 rfl ?_
    refine la_st hx hb hK hI 7 rfl dL_join_13 (fun H locs hI => ?_)
    have hI : wi D z (Ar z) (cw a cI vals fil rb (nI t) wo cnt fn (Xo oa cJ (vp_updL og 0 ((nI (jnVal S (nn time * 4 + nn key) (nn time * 4 + nn other) (nn r0))).toInt64)) X)) s H locs := hI
    refine lv_goto (tgt := 21) hx hb dL_join_14 (by decide) ?_
    refine lv_iconst (v := nI 0) hx hb dL_join_21 (by decide) ?_
    exact hret (vp_updL og 0 ((nI (jnVal S (nn time * 4 + nn key) (nn time * 4 + nn other) (nn r0))).toInt64)) (by decide) (by decide) hI dL_join_22 (⟨by rw [hc], fun q9 => rfl⟩)
set_option maxHeartbeats 4000000 in
set_option maxRecDepth 100000 in
theorem c_L_tick {l : Launch} {D : va_G} {cI cZ cJ : ClassId} {z : Nat} {a : Nat → Nat} {X : va_W} {vals fil rb : Nat → Int32} {t : Nat} {wo : Nat → Int32} {cnt fn : Int32} {oa : Nat} {og : Nat → Int64} (hst : l.stackTraces = false) {S : Sta} (hA : cAbs S vals fil t) (ht : t < 40) (ht9 : t < 39) (hR : rOk S rb t) : hlM (S := (Nat → Int32) × (Nat → Int32) × (Nat → Int64)) l yL_tick cL_tick 3 [(0, 8, 11, 13)] 7 109 [.ref (a 0), .ref (oa)] (pz D cI cZ cJ z (cw a cI vals fil rb (nI t) wo cnt fn (Xo oa cJ og X))) D z (fun u => cw a cI (u.1) (u.2.1) rb (nI (t + 1)) wo cnt fn (Xo oa cJ (u.2.2) X)) (fun r u => r = nI 0 ∧ u.2.2 0 = (nI (t + 1)).toInt64 ∧ cAbs (tkS S t) u.1 u.2.1 (t + 1) ∧ rOk (tkS S t) rb (t + 1)) := by
  refine bd_h (by decide) (Nat.le_of_ble_eq_true rfl) ?_
  intro p e s m args below meth c Q hF htab hpw hret ls hl
  obtain ⟨hx, hb, hml, hown, hts, hr, hlocks⟩ := id hF
  have hKx := hpw.2.1
  have hZ := hpw.2.2
  have hK := hpw.1.2.2.2
  have hI : wi D z (Ar z) (cw a cI vals fil rb (nI t) wo cnt fn (Xo oa cJ og X)) s s.heap [] := hpw.1.wi
  have hl : lv_has ls 3 [(0, .ref (a 0)), (1, .ref (oa))] := hl
  suffices hgo : ∀ (H : Heap) (locs : List Loc), wi D z (Ar z) (cw a cI vals fil rb (nI t) wo cnt fn (Xo oa cJ og X)) s H locs → ∀ ls : Array Slot, lv_has ls 3 [(0, .ref (a 0)), (1, .ref (oa))] → W p l e (rmx 7 109) s m args below meth c H locs 0 0 Q (F0 m 0 ls []) from hgo _ _ hI ls hl
  intro H locs hI ls hl
  refine lv_aload_n hx hb dL_tick_0 rfl (lv_at hl 1 rfl) ?_
  refine lv_iconst (v := nI 0) hx hb dL_tick_1 (by decide) ?_
  refine lv_aload_n hx hb dL_tick_2 rfl (lv_at hl 0 rfl) ?_
  refine k_mu (run_v (As := []) (rest := [.int (nI 0), .ref (oa)]) hF hK hI (c_X2_tick hA ht ht9 hR) cf_X2_tick k115 0 2 rfl rfl ⟨Nat.le_of_ble_eq_true rfl, Nat.le_of_ble_eq_true rfl⟩ ⟨rfl, rfl⟩ ⟨Nat.le_of_ble_eq_true rfl, Nat.le_of_ble_eq_true rfl⟩ rfl hl.1 rfl (Nat.le_of_ble_eq_true rfl) dL_tick_3) hI (fun r u hp H locs hI => ?_)
  obtain ⟨rfl, hA2, hR2⟩ := hp
  have hI : wi D z (Ar z) (cw a cI (u.1) (u.2) rb (nI (t + 1)) wo cnt fn (Xo oa cJ og X)) s H locs := hI
  refine lv_i2l (v := (nI (t + 1)).toInt64) hx hb dL_tick_6 rfl ?_
  refine la_st hx hb hK hI 7 rfl dL_tick_7 (fun H locs hI => ?_)
  have hI : wi D z (Ar z) (cw a cI (u.1) (u.2) rb (nI (t + 1)) wo cnt fn (Xo oa cJ (vp_updL og 0 ((nI (t + 1)).toInt64)) X)) s H locs := hI
  refine lv_goto (tgt := 14) hx hb dL_tick_8 (by decide) ?_
  refine lv_iconst (v := nI 0) hx hb dL_tick_14 (by decide) ?_
  exact hret (u.1, u.2, vp_updL og 0 ((nI (t + 1)).toInt64)) (by decide) (by decide) hI dL_tick_15 (⟨rfl, rfl, hA2, hR2⟩)
set_option maxHeartbeats 4000000 in
set_option maxRecDepth 100000 in
theorem c_L_tick39 {l : Launch} {D : va_G} {cI cZ cJ : ClassId} {z : Nat} {a : Nat → Nat} {X : va_W} {vals fil rb : Nat → Int32} {t : Nat} {wo : Nat → Int32} {cnt fn : Int32} {oa : Nat} {og : Nat → Int64} (hst : l.stackTraces = false) (ht9 : t = 39)  : hlM (S := Unit) l yL_tick cL_tick 3 [(0, 8, 11, 13)] 7 109 [.ref (a 0), .ref (oa)] (pz D cI cZ cJ z (cw a cI vals fil rb (nI t) wo cnt fn (Xo oa cJ og X))) D z (fun _ => cw a cI vals fil rb (nI t) wo cnt fn (Xo oa cJ og X)) (fun r _ => r = nI 1) := by
  refine bd_h (by decide) (Nat.le_of_ble_eq_true rfl) ?_
  intro p e s m args below meth c Q hF htab hpw hret ls hl
  obtain ⟨hx, hb, hml, hown, hts, hr, hlocks⟩ := id hF
  have hKx := hpw.2.1
  have hZ := hpw.2.2
  have hK := hpw.1.2.2.2
  have hI : wi D z (Ar z) (cw a cI vals fil rb (nI t) wo cnt fn (Xo oa cJ og X)) s s.heap [] := hpw.1.wi
  have hl : lv_has ls 3 [(0, .ref (a 0)), (1, .ref (oa))] := hl
  suffices hgo : ∀ (H : Heap) (locs : List Loc), wi D z (Ar z) (cw a cI vals fil rb (nI t) wo cnt fn (Xo oa cJ og X)) s H locs → ∀ ls : Array Slot, lv_has ls 3 [(0, .ref (a 0)), (1, .ref (oa))] → W p l e (rmx 7 109) s m args below meth c H locs 0 0 Q (F0 m 0 ls []) from hgo _ _ hI ls hl
  intro H locs hI ls hl
  refine lv_aload_n hx hb dL_tick_0 rfl (lv_at hl 1 rfl) ?_
  refine lv_iconst (v := nI 0) hx hb dL_tick_1 (by decide) ?_
  refine lv_aload_n hx hb dL_tick_2 rfl (lv_at hl 0 rfl) ?_
  refine k_tri (run_xv (As := []) (rest := [.int (nI 0), .ref (oa)]) hF hK hKx hZ hI (c_X2_tick39 hst ht9) cf_X2_tick k115 0 2 rfl rfl ⟨Nat.le_of_ble_eq_true rfl, Nat.le_of_ble_eq_true rfl⟩ ⟨rfl, rfl⟩ ⟨Nat.le_of_ble_eq_true rfl, Nat.le_of_ble_eq_true rfl⟩ rfl hl.1 rfl (Nat.le_of_ble_eq_true rfl) dL_tick_3) hI (fun E ce q9 u hp H locs hI hcell hvm9 hcl => ?_) (fun r u hp H locs hI => ?_)
  · have hI : wi D z (Ar z) (cw a cI vals fil rb (nI t) wo cnt fn (Xo oa cJ og X)) s H locs := hI
    subst hp
    refine vx_catch (own := RL) (name := xISE) hown [] ⟨0, 8, 11, 13⟩ [] (htab.trans rfl) (fun z hz => absurd hz List.not_mem_nil) (by decide) (by decide) (hts _ k114) (va_Nw.use rfl hKx.2.1.2.1) hcell hvm9 hcl ?_
    refine lv_astore_n (lv' := [(2, .ref (q9)), (0, .ref (a 0)), (1, .ref (oa))]) hx hb dL_tick_11 rfl hl (by decide) rfl (fun ls hl => ?_)
    refine lv_iconst (v := nI 1) hx hb dL_tick_12 (by decide) ?_
    exact hret () (by decide) (by decide) hI dL_tick_13 (rfl)
  · exact absurd hp id
set_option maxHeartbeats 4000000 in
set_option maxRecDepth 100000 in
theorem c_L_state {l : Launch} {D : va_G} {cI cZ cJ : ClassId} {z : Nat} {a : Nat → Nat} {X : va_W} {vals fil rb : Nat → Int32} {t : Nat} {wo : Nat → Int32} {cnt fn : Int32} {oa : Nat} {og : Nat → Int64} (hst : l.stackTraces = false) {S : Sta} (hA : cAbs S vals fil t) (ht : t < 40) (hR : rOk S rb t) {kind key v fr to : Int32} : hlM (S := (Nat → Int32) × (Nat → Int32) × (Nat → Int32) × (Nat → Int64)) l yL_state cL_state 8 [(0, 16, 19, 19), (0, 16, 23, 13), (0, 16, 27, 21)] 8 170 [.ref (a 0), .int (kind), .int (key), .int (v), .int (fr), .int (to), .ref (oa)] (pz D cI cZ cJ z (cw a cI vals fil rb (nI t) wo cnt fn (Xo oa cJ og X))) D z (fun u => cw a cI (u.1) (u.2.1) (u.2.2.1) (nI t) wo cnt fn (Xo oa cJ (u.2.2.2) X)) (fun r u => r = nI (pcode S t kind key v fr to) ∧ (pcode S t kind key v fr to = 0 → u.2.2.2 0 = (nI (pN S t kind key v fr to)).toInt64) ∧ cAbs (if pcode S t kind key v fr to = 0 then pS S t kind key v fr to else S) u.1 u.2.1 t ∧ rOk (if pcode S t kind key v fr to = 0 then pS S t kind key v fr to else S) u.2.2.1 t) := by
  refine bd_h (by decide) (Nat.le_of_ble_eq_true rfl) ?_
  intro p e s m args below meth c Q hF htab hpw hret ls hl
  obtain ⟨hx, hb, hml, hown, hts, hr, hlocks⟩ := id hF
  have hKx := hpw.2.1
  have hZ := hpw.2.2
  have hK := hpw.1.2.2.2
  have hI : wi D z (Ar z) (cw a cI vals fil rb (nI t) wo cnt fn (Xo oa cJ og X)) s s.heap [] := hpw.1.wi
  have hl : lv_has ls 8 [(0, .ref (a 0)), (1, .int (kind)), (2, .int (key)), (3, .int (v)), (4, .int (fr)), (5, .int (to)), (6, .ref (oa))] := hl
  suffices hgo : ∀ (H : Heap) (locs : List Loc), wi D z (Ar z) (cw a cI vals fil rb (nI t) wo cnt fn (Xo oa cJ og X)) s H locs → ∀ ls : Array Slot, lv_has ls 8 [(0, .ref (a 0)), (1, .int (kind)), (2, .int (key)), (3, .int (v)), (4, .int (fr)), (5, .int (to)), (6, .ref (oa))] → W p l e (rmx 8 170) s m args below meth c H locs 0 0 Q (F0 m 0 ls []) from hgo _ _ hI ls hl
  intro H locs hI ls hl
  refine lv_aload hx hb dL_state_0 (lv_at hl 6 rfl) ?_
  refine lv_iconst (v := nI 0) hx hb dL_state_2 (by decide) ?_
  refine lv_aload_n hx hb dL_state_3 rfl (lv_at hl 0 rfl) ?_
  refine lv_iload_n hx hb dL_state_4 rfl (lv_at hl 1 rfl) ?_
  refine lv_iload_n hx hb dL_state_5 rfl (lv_at hl 2 rfl) ?_
  refine lv_iload_n hx hb dL_state_6 rfl (lv_at hl 3 rfl) ?_
  refine lv_iload hx hb dL_state_7 (lv_at hl 4 rfl) ?_
  refine lv_iload hx hb dL_state_9 (lv_at hl 5 rfl) ?_
  refine k_tri (run_xv (As := [.int (kind), .int (key), .int (v), .int (fr), .int (to)]) (rest := [.int (nI 0), .ref (oa)]) hF hK hKx hZ hI (c_X2_state hst hA ht hR) cf_X2_state k199 0 2 rfl rfl ⟨Nat.le_of_ble_eq_true rfl, Nat.le_of_ble_eq_true rfl⟩ ⟨rfl, rfl⟩ ⟨Nat.le_of_ble_eq_true rfl, Nat.le_of_ble_eq_true rfl⟩ rfl hl.1 rfl (Nat.le_of_ble_eq_true rfl) dL_state_11) hI (fun E ce q9 u hp H locs hI hcell hvm9 hcl => ?_) (fun r u hp H locs hI => ?_)
  · obtain ⟨hx1, hA2, hR2⟩ := hp
    have hI : wi D z (Ar z) (cw a cI (u.1) (u.2.1) (u.2.2) (nI t) wo cnt fn (Xo oa cJ og X)) s H locs := hI
    rcases hx1 with ⟨hc, rfl⟩ | ⟨hc, rfl⟩ | ⟨hc, rfl⟩
    · refine vx_catch (own := RL) (name := xIAE) hown [] ⟨0, 16, 19, 19⟩ [⟨0, 16, 23, 13⟩, ⟨0, 16, 27, 21⟩] (htab.trans rfl) (fun z hz => absurd hz List.not_mem_nil) (by decide) (by decide) (hts _ k197) (va_Nw.use rfl hKx.2.1.1) hcell hvm9 hcl ?_
      refine lv_astore (lv' := [(7, .ref (q9)), (0, .ref (a 0)), (1, .int (kind)), (2, .int (key)), (3, .int (v)), (4, .int (fr)), (5, .int (to)), (6, .ref (oa))]) hx hb dL_state_19 hl (by decide) rfl (fun ls hl => ?_)
      refine lv_iconst (v := nI 1) hx hb dL_state_21 (by decide) ?_
      exact hret (u.1, u.2.1, u.2.2, og) (by decide) (by decide) hI dL_state_22 (⟨by rw [hc], fun q9 => absurd (hc.symm.trans q9) (by decide), by rw [if_neg (by rw [hc]; decide)]; exact hA2, by rw [if_neg (by rw [hc]; decide)]; exact hR2⟩)
    · refine vx_catch (own := RL) (name := xISE) hown [⟨0, 16, 19, 19⟩] ⟨0, 16, 23, 13⟩ [⟨0, 16, 27, 21⟩] (htab.trans rfl) (fun z hz => by cases List.mem_singleton.mp hz; exact Or.inr ⟨by decide, xIAE, hts _ k197, hKx.2.2.1⟩) (by decide) (by decide) (hts _ k114) (va_Nw.use rfl hKx.2.1.2.1) hcell hvm9 hcl ?_
      refine lv_astore (lv' := [(7, .ref (q9)), (0, .ref (a 0)), (1, .int (kind)), (2, .int (key)), (3, .int (v)), (4, .int (fr)), (5, .int (to)), (6, .ref (oa))]) hx hb dL_state_23 hl (by decide) rfl (fun ls hl => ?_)
      refine lv_iconst (v := nI 2) hx hb dL_state_25 (by decide) ?_
      exact hret (u.1, u.2.1, u.2.2, og) (by decide) (by decide) hI dL_state_26 (⟨by rw [hc], fun q9 => absurd (hc.symm.trans q9) (by decide), by rw [if_neg (by rw [hc]; decide)]; exact hA2, by rw [if_neg (by rw [hc]; decide)]; exact hR2⟩)
    · refine vx_catch (own := RL) (name := xNSE) hown [⟨0, 16, 19, 19⟩, ⟨0, 16, 23, 13⟩] ⟨0, 16, 27, 21⟩ [] (htab.trans rfl) (fun z hz => (List.mem_cons.mp hz).elim (fun q => by cases q; exact Or.inr ⟨by decide, xIAE, hts _ k197, hKx.2.2.2.1⟩) (fun q => by cases List.mem_singleton.mp q; exact Or.inr ⟨by decide, xISE, hts _ k114, hKx.2.2.2.2.1⟩)) (by decide) (by decide) (hts _ k198) (va_Nw.use rfl hKx.2.1.2.2.1) hcell hvm9 hcl ?_
      refine lv_astore (lv' := [(7, .ref (q9)), (0, .ref (a 0)), (1, .int (kind)), (2, .int (key)), (3, .int (v)), (4, .int (fr)), (5, .int (to)), (6, .ref (oa))]) hx hb dL_state_27 hl (by decide) rfl (fun ls hl => ?_)
      refine lv_iconst (v := nI 3) hx hb dL_state_29 (by decide) ?_
      exact hret (u.1, u.2.1, u.2.2, og) (by decide) (by decide) hI dL_state_30 (⟨by rw [hc], fun q9 => absurd (hc.symm.trans q9) (by decide), by rw [if_neg (by rw [hc]; decide)]; exact hA2, by rw [if_neg (by rw [hc]; decide)]; exact hR2⟩)
  · obtain ⟨hc, rfl, hA2, hR2⟩ := hp
    have hI : wi D z (Ar z) (cw a cI (u.1) (u.2.1) (u.2.2) (nI t) wo cnt fn (Xo oa cJ og X)) s H locs := hI
    refine lv_i2l (v := (nI (pN S t kind key v fr to)).toInt64) hx hb dL_state_14 rfl ?_
    refine la_st hx hb hK hI 7 rfl dL_state_15 (fun H locs hI => ?_)
    have hI : wi D z (Ar z) (cw a cI (u.1) (u.2.1) (u.2.2) (nI t) wo cnt fn (Xo oa cJ (vp_updL og 0 ((nI (pN S t kind key v fr to)).toInt64)) X)) s H locs := hI
    refine lv_goto (tgt := 31) hx hb dL_state_16 (by decide) ?_
    refine lv_iconst (v := nI 0) hx hb dL_state_31 (by decide) ?_
    exact hret (u.1, u.2.1, u.2.2, vp_updL og 0 ((nI (pN S t kind key v fr to)).toInt64)) (by decide) (by decide) hI dL_state_32 (⟨by rw [hc], fun _ => rfl, by rw [if_pos hc]; exact hA2, by rw [if_pos hc]; exact hR2⟩)
set_option maxHeartbeats 4000000 in
set_option maxRecDepth 100000 in
theorem c_L_commit {l : Launch} {D : va_G} {cI cZ cJ : ClassId} {z : Nat} {a : Nat → Nat} {X : va_W} {vals fil rb : Nat → Int32} {t : Nat} {wo : Nat → Int32} {fn : Int32} {oa : Nat} {og : Nat → Int64} (hst : l.stackTraces = false) {S : Sta} (hA : cAbs S vals fil t) (ht : t < 40) (hR : rOk S rb t) {w0 : Nat} {q : Nat → Int32} (hw : w0 ≤ 8) (hq : qIs q w0 wo) : hlM (S := (Nat → Int32) × (Nat → Int32) × (Nat → Int32) × (Nat → Int64)) l yL_commit cL_commit 3 [(0, 8, 11, 19), (0, 8, 14, 13), (0, 8, 17, 21)] 8 168 [.ref (a 0), .ref (oa)] (pz D cI cZ cJ z (cw a cI vals fil rb (nI t) wo (nI w0) fn (Xo oa cJ og X))) D z (fun u => cw a cI (u.1) (u.2.1) (u.2.2.1) (nI t) wo (nI 0) (if (cmt t q w0 0 S 0).1 = 0 then (-1 : Int32) else nI (cmt t q w0 0 S 0).2.1) (Xo oa cJ (u.2.2.2) X)) (fun r u => r = nI ((cmt t q w0 0 S 0).1) ∧ ((cmt t q w0 0 S 0).1 = 0 → u.2.2.2 0 = (nI ((cmt t q w0 0 S 0).2.2.2)).toInt64) ∧ cAbs (if (cmt t q w0 0 S 0).1 = 0 then (cmt t q w0 0 S 0).2.2.1 else S) u.1 u.2.1 t ∧ rOk (if (cmt t q w0 0 S 0).1 = 0 then (cmt t q w0 0 S 0).2.2.1 else S) u.2.2.1 t) := by
  refine bd_h (by decide) (Nat.le_of_ble_eq_true rfl) ?_
  intro p e s m args below meth c Q hF htab hpw hret ls hl
  obtain ⟨hx, hb, hml, hown, hts, hr, hlocks⟩ := id hF
  have hKx := hpw.2.1
  have hZ := hpw.2.2
  have hK := hpw.1.2.2.2
  have hI : wi D z (Ar z) (cw a cI vals fil rb (nI t) wo (nI w0) fn (Xo oa cJ og X)) s s.heap [] := hpw.1.wi
  have hl : lv_has ls 3 [(0, .ref (a 0)), (1, .ref (oa))] := hl
  suffices hgo : ∀ (H : Heap) (locs : List Loc), wi D z (Ar z) (cw a cI vals fil rb (nI t) wo (nI w0) fn (Xo oa cJ og X)) s H locs → ∀ ls : Array Slot, lv_has ls 3 [(0, .ref (a 0)), (1, .ref (oa))] → W p l e (rmx 8 168) s m args below meth c H locs 0 0 Q (F0 m 0 ls []) from hgo _ _ hI ls hl
  intro H locs hI ls hl
  refine lv_aload_n hx hb dL_commit_0 rfl (lv_at hl 1 rfl) ?_
  refine lv_iconst (v := nI 0) hx hb dL_commit_1 (by decide) ?_
  refine lv_aload_n hx hb dL_commit_2 rfl (lv_at hl 0 rfl) ?_
  refine k_tri (run_xv (As := []) (rest := [.int (nI 0), .ref (oa)]) hF hK hKx hZ hI (c_X2_commit hst hA ht hR hw hq) cf_X2_commit k293 0 2 rfl rfl ⟨Nat.le_of_ble_eq_true rfl, Nat.le_of_ble_eq_true rfl⟩ ⟨rfl, rfl⟩ ⟨Nat.le_of_ble_eq_true rfl, Nat.le_of_ble_eq_true rfl⟩ rfl hl.1 rfl (Nat.le_of_ble_eq_true rfl) dL_commit_3) hI (fun E ce q9 u hp H locs hI hcell hvm9 hcl => ?_) (fun r u hp H locs hI => ?_)
  · obtain ⟨hx1, hA2, hR2⟩ := hp
    have hI : wi D z (Ar z) (cw a cI (u.1) (u.2.1) (u.2.2) (nI t) wo (nI 0) (if (cmt t q w0 0 S 0).1 = 0 then (-1 : Int32) else nI (cmt t q w0 0 S 0).2.1) (Xo oa cJ og X)) s H locs := hI
    rcases hx1 with ⟨hc, rfl⟩ | ⟨hc, rfl⟩ | ⟨hc, rfl⟩
    · refine vx_catch (own := RL) (name := xIAE) hown [] ⟨0, 8, 11, 19⟩ [⟨0, 8, 14, 13⟩, ⟨0, 8, 17, 21⟩] (htab.trans rfl) (fun z hz => absurd hz List.not_mem_nil) (by decide) (by decide) (hts _ k197) (va_Nw.use rfl hKx.2.1.1) hcell hvm9 hcl ?_
      refine lv_astore_n (lv' := [(2, .ref (q9)), (0, .ref (a 0)), (1, .ref (oa))]) hx hb dL_commit_11 rfl hl (by decide) rfl (fun ls hl => ?_)
      refine lv_iconst (v := nI 1) hx hb dL_commit_12 (by decide) ?_
      exact hret (u.1, u.2.1, u.2.2, og) (by decide) (by decide) hI dL_commit_13 (⟨by rw [hc], fun q9 => absurd (hc.symm.trans q9) (by decide), by rw [if_neg (by rw [hc]; decide)]; exact hA2, by rw [if_neg (by rw [hc]; decide)]; exact hR2⟩)
    · refine vx_catch (own := RL) (name := xISE) hown [⟨0, 8, 11, 19⟩] ⟨0, 8, 14, 13⟩ [⟨0, 8, 17, 21⟩] (htab.trans rfl) (fun z hz => by cases List.mem_singleton.mp hz; exact Or.inr ⟨by decide, xIAE, hts _ k197, hKx.2.2.1⟩) (by decide) (by decide) (hts _ k114) (va_Nw.use rfl hKx.2.1.2.1) hcell hvm9 hcl ?_
      refine lv_astore_n (lv' := [(2, .ref (q9)), (0, .ref (a 0)), (1, .ref (oa))]) hx hb dL_commit_14 rfl hl (by decide) rfl (fun ls hl => ?_)
      refine lv_iconst (v := nI 2) hx hb dL_commit_15 (by decide) ?_
      exact hret (u.1, u.2.1, u.2.2, og) (by decide) (by decide) hI dL_commit_16 (⟨by rw [hc], fun q9 => absurd (hc.symm.trans q9) (by decide), by rw [if_neg (by rw [hc]; decide)]; exact hA2, by rw [if_neg (by rw [hc]; decide)]; exact hR2⟩)
    · refine vx_catch (own := RL) (name := xNSE) hown [⟨0, 8, 11, 19⟩, ⟨0, 8, 14, 13⟩] ⟨0, 8, 17, 21⟩ [] (htab.trans rfl) (fun z hz => (List.mem_cons.mp hz).elim (fun q => by cases q; exact Or.inr ⟨by decide, xIAE, hts _ k197, hKx.2.2.2.1⟩) (fun q => by cases List.mem_singleton.mp q; exact Or.inr ⟨by decide, xISE, hts _ k114, hKx.2.2.2.2.1⟩)) (by decide) (by decide) (hts _ k198) (va_Nw.use rfl hKx.2.1.2.2.1) hcell hvm9 hcl ?_
      refine lv_astore_n (lv' := [(2, .ref (q9)), (0, .ref (a 0)), (1, .ref (oa))]) hx hb dL_commit_17 rfl hl (by decide) rfl (fun ls hl => ?_)
      refine lv_iconst (v := nI 3) hx hb dL_commit_18 (by decide) ?_
      exact hret (u.1, u.2.1, u.2.2, og) (by decide) (by decide) hI dL_commit_19 (⟨by rw [hc], fun q9 => absurd (hc.symm.trans q9) (by decide), by rw [if_neg (by rw [hc]; decide)]; exact hA2, by rw [if_neg (by rw [hc]; decide)]; exact hR2⟩)
  · obtain ⟨hc, rfl, hA2, hR2⟩ := hp
    have hI : wi D z (Ar z) (cw a cI (u.1) (u.2.1) (u.2.2) (nI t) wo (nI 0) (if (cmt t q w0 0 S 0).1 = 0 then (-1 : Int32) else nI (cmt t q w0 0 S 0).2.1) (Xo oa cJ og X)) s H locs := hI
    refine lv_i2l (v := (nI ((cmt t q w0 0 S 0).2.2.2)).toInt64) hx hb dL_commit_6 rfl ?_
    refine la_st hx hb hK hI 7 rfl dL_commit_7 (fun H locs hI => ?_)
    have hI : wi D z (Ar z) (cw a cI (u.1) (u.2.1) (u.2.2) (nI t) wo (nI 0) (if (cmt t q w0 0 S 0).1 = 0 then (-1 : Int32) else nI (cmt t q w0 0 S 0).2.1) (Xo oa cJ (vp_updL og 0 ((nI ((cmt t q w0 0 S 0).2.2.2)).toInt64)) X)) s H locs := hI
    refine lv_goto (tgt := 20) hx hb dL_commit_8 (by decide) ?_
    refine lv_iconst (v := nI 0) hx hb dL_commit_20 (by decide) ?_
    exact hret (u.1, u.2.1, u.2.2, vp_updL og 0 ((nI ((cmt t q w0 0 S 0).2.2.2)).toInt64)) (by decide) (by decide) hI dL_commit_21 (⟨by rw [hc], fun _ => rfl, by rw [if_pos hc]; exact hA2, by rw [if_pos hc]; exact hR2⟩)
theorem cf_L_tick : cfH yL_tick cL_tick 3 (some .int) [(0, 8, 11, 13)] 2 := ⟨k113, k112, k0, ⟨by decide +kernel, by decide +kernel⟩, by decide +kernel⟩
theorem cf_L_state : cfH yL_state cL_state 8 (some .int) [(0, 16, 19, 19), (0, 16, 23, 13), (0, 16, 27, 21)] 7 := ⟨k196, k195, k0, ⟨by decide +kernel, by decide +kernel⟩, by decide +kernel⟩
theorem cf_L_commit : cfH yL_commit cL_commit 3 (some .int) [(0, 8, 11, 19), (0, 8, 14, 13), (0, 8, 17, 21)] 2 := ⟨k292, k291, k0, ⟨by decide +kernel, by decide +kernel⟩, by decide +kernel⟩
theorem cf_L_value : cfH yL_value cL_value 6 (some .int) [(0, 12, 15, 19), (0, 12, 19, 21)] 5 := ⟨k303, k302, k0, ⟨by decide +kernel, by decide +kernel⟩, by decide +kernel⟩
theorem cf_L_sum : cfH yL_sum cL_sum 7 (some .int) [(0, 13, 16, 19)] 6 := ⟨k311, k310, k0, ⟨by decide +kernel, by decide +kernel⟩, by decide +kernel⟩
theorem cf_L_runs : cfH yL_runs cL_runs 5 (some .int) [(0, 10, 13, 19)] 4 := ⟨k319, k318, k0, ⟨by decide +kernel, by decide +kernel⟩, by decide +kernel⟩
theorem cf_L_run : cfH yL_run cL_run 7 (some .int) [(0, 14, 17, 19), (0, 14, 21, 42)] 6 := ⟨k330, k329, k0, ⟨by decide +kernel, by decide +kernel⟩, by decide +kernel⟩
theorem cf_L_row : cfH yL_row cL_row 5 (some .int) [(0, 10, 13, 19), (0, 10, 17, 42)] 4 := ⟨k358, k357, k0, ⟨by decide +kernel, by decide +kernel⟩, by decide +kernel⟩
theorem cf_L_changes : cfH yL_changes cL_changes 5 (some .int) [(0, 10, 13, 19)] 4 := ⟨k381, k380, k0, ⟨by decide +kernel, by decide +kernel⟩, by decide +kernel⟩
theorem cf_L_relation : cfH yL_relation cL_relation 7 (some .int) [(0, 14, 17, 19)] 6 := ⟨k392, k391, k0, ⟨by decide +kernel, by decide +kernel⟩, by decide +kernel⟩
theorem cf_L_join : cfH yL_join cL_join 7 (some .int) [(0, 14, 17, 19)] 6 := ⟨k405, k404, k0, ⟨by decide +kernel, by decide +kernel⟩, by decide +kernel⟩
