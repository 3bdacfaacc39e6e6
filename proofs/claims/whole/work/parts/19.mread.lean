set_option maxHeartbeats 4000000 in
set_option maxRecDepth 100000 in
theorem c_X3_isKey {l : Launch} {key : Int32}  : roM l yX3_isKey cX3_isKey 1 (some .boolean) 0 0 [.int (key)] (fun _ => True) (bi (okK key)) := by
  refine bd_rz (by decide) (Nat.le_of_ble_eq_true rfl) ?_
  intro p e s m args below meth c Q hF hpw hret ls hl
  obtain ⟨hx, hb, hml, hown, hts, hr, hlocks⟩ := id hF
  have hI : va_S noA s.heap s.heap [] := va_S.rf
  have hl : lv_has ls 1 [(0, .int (key))] := hl
  suffices hgo : ∀ (H : Heap) (locs : List Loc), va_S noA s.heap H locs → ∀ ls : Array Slot, lv_has ls 1 [(0, .int (key))] → W p l e (rmv 0 0) s m args below meth c H locs 0 0 Q (F0 m 0 ls []) from hgo _ _ hI ls hl
  intro H locs hI ls hl
  refine lv_iload_n hx hb dX3_isKey_0 rfl (lv_at hl 0 rfl) ?_
  refine lv_if_lt (tgt := 13) hx hb dX3_isKey_1 (by decide) (fun c1 => ?_) (fun c1 => ?_)
  · refine lv_iconst (v := nI 0) hx hb dX3_isKey_13 (by decide) ?_
    exact hret hI dX3_isKey_14 (bi_f (by simp only [okK, okD, okP, okT, q_lt0, q_le4, q_lt3, q_le32, q_lt32, q_lt31, decide_eq_true_eq, decide_eq_false_iff_not] at *; (try simp only [fa_lt, fa_le] at *); omega)).symm
  · refine lv_iload_n hx hb dX3_isKey_4 rfl (lv_at hl 0 rfl) ?_
    refine lv_iconst (v := nI 3) hx hb dX3_isKey_5 (by decide) ?_
    refine lv_icmp_gt (tgt := 13) hx hb dX3_isKey_6 (by decide) (fun c6 => ?_) (fun c6 => ?_)
    · refine lv_iconst (v := nI 0) hx hb dX3_isKey_13 (by decide) ?_
      exact hret hI dX3_isKey_14 (bi_f (by simp only [okK, okD, okP, okT, q_lt0, q_le4, q_lt3, q_le32, q_lt32, q_lt31, decide_eq_true_eq, decide_eq_false_iff_not] at *; (try simp only [fa_lt, fa_le] at *); omega)).symm
    · refine lv_iconst (v := nI 1) hx hb dX3_isKey_9 (by decide) ?_
      refine lv_goto (tgt := 14) hx hb dX3_isKey_10 (by decide) ?_
      exact hret hI dX3_isKey_14 (bi_t (by simp only [okK, okD, okP, okT, q_lt0, q_le4, q_lt3, q_le32, q_lt32, q_lt31, decide_eq_true_eq, decide_eq_false_iff_not] at *; (try simp only [fa_lt, fa_le] at *); omega)).symm
set_option maxHeartbeats 4000000 in
set_option maxRecDepth 100000 in
theorem c_X3_isDay {l : Launch} {day : Int32}  : roM l yX3_isDay cX3_isDay 1 (some .boolean) 0 0 [.int (day)] (fun _ => True) (bi (okD day)) := by
  refine bd_rz (by decide) (Nat.le_of_ble_eq_true rfl) ?_
  intro p e s m args below meth c Q hF hpw hret ls hl
  obtain ⟨hx, hb, hml, hown, hts, hr, hlocks⟩ := id hF
  have hI : va_S noA s.heap s.heap [] := va_S.rf
  have hl : lv_has ls 1 [(0, .int (day))] := hl
  suffices hgo : ∀ (H : Heap) (locs : List Loc), va_S noA s.heap H locs → ∀ ls : Array Slot, lv_has ls 1 [(0, .int (day))] → W p l e (rmv 0 0) s m args below meth c H locs 0 0 Q (F0 m 0 ls []) from hgo _ _ hI ls hl
  intro H locs hI ls hl
  refine lv_iload_n hx hb dX3_isDay_0 rfl (lv_at hl 0 rfl) ?_
  refine lv_if_lt (tgt := 14) hx hb dX3_isDay_1 (by decide) (fun c1 => ?_) (fun c1 => ?_)
  · refine lv_iconst (v := nI 0) hx hb dX3_isDay_14 (by decide) ?_
    exact hret hI dX3_isDay_15 (bi_f (by simp only [okK, okD, okP, okT, q_lt0, q_le4, q_lt3, q_le32, q_lt32, q_lt31, decide_eq_true_eq, decide_eq_false_iff_not] at *; (try simp only [fa_lt, fa_le] at *); omega)).symm
  · refine lv_iload_n hx hb dX3_isDay_4 rfl (lv_at hl 0 rfl) ?_
    refine lv_bipush (v := nI 31) hx hb dX3_isDay_5 (by decide) ?_
    refine lv_icmp_gt (tgt := 14) hx hb dX3_isDay_7 (by decide) (fun c7 => ?_) (fun c7 => ?_)
    · refine lv_iconst (v := nI 0) hx hb dX3_isDay_14 (by decide) ?_
      exact hret hI dX3_isDay_15 (bi_f (by simp only [okK, okD, okP, okT, q_lt0, q_le4, q_lt3, q_le32, q_lt32, q_lt31, decide_eq_true_eq, decide_eq_false_iff_not] at *; (try simp only [fa_lt, fa_le] at *); omega)).symm
    · refine lv_iconst (v := nI 1) hx hb dX3_isDay_10 (by decide) ?_
      refine lv_goto (tgt := 15) hx hb dX3_isDay_11 (by decide) ?_
      exact hret hI dX3_isDay_15 (bi_t (by simp only [okK, okD, okP, okT, q_lt0, q_le4, q_lt3, q_le32, q_lt32, q_lt31, decide_eq_true_eq, decide_eq_false_iff_not] at *; (try simp only [fa_lt, fa_le] at *); omega)).symm
set_option maxHeartbeats 4000000 in
set_option maxRecDepth 100000 in
theorem c_X3_isPeriod {l : Launch} {fr to : Int32}  : roM l yX3_isPeriod cX3_isPeriod 2 (some .boolean) 0 0 [.int (fr), .int (to)] (fun _ => True) (bi (okP fr to)) := by
  refine bd_rz (by decide) (Nat.le_of_ble_eq_true rfl) ?_
  intro p e s m args below meth c Q hF hpw hret ls hl
  obtain ⟨hx, hb, hml, hown, hts, hr, hlocks⟩ := id hF
  have hI : va_S noA s.heap s.heap [] := va_S.rf
  have hl : lv_has ls 2 [(0, .int (fr)), (1, .int (to))] := hl
  suffices hgo : ∀ (H : Heap) (locs : List Loc), va_S noA s.heap H locs → ∀ ls : Array Slot, lv_has ls 2 [(0, .int (fr)), (1, .int (to))] → W p l e (rmv 0 0) s m args below meth c H locs 0 0 Q (F0 m 0 ls []) from hgo _ _ hI ls hl
  intro H locs hI ls hl
  refine lv_iload_n hx hb dX3_isPeriod_0 rfl (lv_at hl 0 rfl) ?_
  refine lv_if_lt (tgt := 19) hx hb dX3_isPeriod_1 (by decide) (fun c1 => ?_) (fun c1 => ?_)
  · refine lv_iconst (v := nI 0) hx hb dX3_isPeriod_19 (by decide) ?_
    exact hret hI dX3_isPeriod_20 (bi_f (by simp only [okK, okD, okP, okT, q_lt0, q_le4, q_lt3, q_le32, q_lt32, q_lt31, decide_eq_true_eq, decide_eq_false_iff_not] at *; (try simp only [fa_lt, fa_le] at *); omega)).symm
  · refine lv_iload_n hx hb dX3_isPeriod_4 rfl (lv_at hl 0 rfl) ?_
    refine lv_iload_n hx hb dX3_isPeriod_5 rfl (lv_at hl 1 rfl) ?_
    refine lv_icmp_ge (tgt := 19) hx hb dX3_isPeriod_6 (by decide) (fun c6 => ?_) (fun c6 => ?_)
    · refine lv_iconst (v := nI 0) hx hb dX3_isPeriod_19 (by decide) ?_
      exact hret hI dX3_isPeriod_20 (bi_f (by simp only [okK, okD, okP, okT, q_lt0, q_le4, q_lt3, q_le32, q_lt32, q_lt31, decide_eq_true_eq, decide_eq_false_iff_not] at *; (try simp only [fa_lt, fa_le] at *); omega)).symm
    · refine lv_iload_n hx hb dX3_isPeriod_9 rfl (lv_at hl 1 rfl) ?_
      refine lv_bipush (v := nI 32) hx hb dX3_isPeriod_10 (by decide) ?_
      refine lv_icmp_gt (tgt := 19) hx hb dX3_isPeriod_12 (by decide) (fun c12 => ?_) (fun c12 => ?_)
      · refine lv_iconst (v := nI 0) hx hb dX3_isPeriod_19 (by decide) ?_
        exact hret hI dX3_isPeriod_20 (bi_f (by simp only [okK, okD, okP, okT, q_lt0, q_le4, q_lt3, q_le32, q_lt32, q_lt31, decide_eq_true_eq, decide_eq_false_iff_not] at *; (try simp only [fa_lt, fa_le] at *); omega)).symm
      · refine lv_iconst (v := nI 1) hx hb dX3_isPeriod_15 (by decide) ?_
        refine lv_goto (tgt := 20) hx hb dX3_isPeriod_16 (by decide) ?_
        exact hret hI dX3_isPeriod_20 (bi_t (by simp only [okK, okD, okP, okT, q_lt0, q_le4, q_lt3, q_le32, q_lt32, q_lt31, decide_eq_true_eq, decide_eq_false_iff_not] at *; (try simp only [fa_lt, fa_le] at *); omega)).symm
set_option maxHeartbeats 4000000 in
set_option maxRecDepth 100000 in
theorem c_X3_place {l : Launch} {tm ky dy : Nat}  : roM l yX3_place cX3_place 3 (some .int) 0 0 [.int (nI tm), .int (nI ky), .int (nI dy)] (fun _ => True) (nI (128 * tm + 32 * ky + dy)) := by
  refine bd_ro (by decide) (Nat.le_of_ble_eq_true rfl) ?_
  intro p e s m args below meth c Q hF hpw hret ls hl
  obtain ⟨hx, hb, hml, hown, hts, hr, hlocks⟩ := id hF
  have hI : va_S noA s.heap s.heap [] := va_S.rf
  have hl : lv_has ls 3 [(0, .int (nI tm)), (1, .int (nI ky)), (2, .int (nI dy))] := hl
  suffices hgo : ∀ (H : Heap) (locs : List Loc), va_S noA s.heap H locs → ∀ ls : Array Slot, lv_has ls 3 [(0, .int (nI tm)), (1, .int (nI ky)), (2, .int (nI dy))] → W p l e (rmv 0 0) s m args below meth c H locs 0 0 Q (F0 m 0 ls []) from hgo _ _ hI ls hl
  intro H locs hI ls hl
  refine lv_sipush (v := nI 128) hx hb dX3_place_0 (by decide) ?_
  refine lv_iload_n hx hb dX3_place_3 rfl (lv_at hl 0 rfl) ?_
  refine lv_imul hx hb dX3_place_4 ?_
  refine tp (pk_mul _ _) ?_
  refine lv_bipush (v := nI 32) hx hb dX3_place_5 (by decide) ?_
  refine lv_iload_n hx hb dX3_place_7 rfl (lv_at hl 1 rfl) ?_
  refine lv_imul hx hb dX3_place_8 ?_
  refine tp (pk_mul _ _) ?_
  refine lv_iadd hx hb dX3_place_9 ?_
  refine tp (nI_add _ _) ?_
  refine lv_iload_n hx hb dX3_place_10 rfl (lv_at hl 2 rfl) ?_
  refine lv_iadd hx hb dX3_place_11 ?_
  refine tp (nI_add _ _) ?_
  exact hret hI dX3_place_12 (rfl)
set_option maxHeartbeats 4000000 in
set_option maxRecDepth 100000 in
theorem c_X3_isTime {l : Launch} {D : va_G} {cI cZ cJ : ClassId} {z : Nat} {b : Nat → Nat} {X : va_W} {t : Nat} {th : Nat → Bool} {vs : Nat → Int32} {kt : Nat → Bool} {kv : Nat → Int32} {wt : Int32} {wa : Nat → Int32} {fl tr ch : Int32} (ht : t < 40) {time : Int32}  : roM l yX3_isTime cX3_isTime 2 (some .boolean) 0 0 [.ref (b 0), .int (time)] (pw D cI cZ cJ z (mw b cI cZ (nI t) th vs kt kv wt wa fl tr ch X)) (bi (okT t time)) := by
  refine bd_rz (by decide) (Nat.le_of_ble_eq_true rfl) ?_
  intro p e s m args below meth c Q hF hpw hret ls hl
  obtain ⟨hx, hb, hml, hown, hts, hr, hlocks⟩ := id hF
  have hK := hpw.2.2.2
  have hI : wi D z noA (mw b cI cZ (nI t) th vs kt kv wt wa fl tr ch X) s s.heap [] := hpw.wi
  have hl : lv_has ls 2 [(0, .ref (b 0)), (1, .int (time))] := hl
  have ht31 : t < 2 ^ 31 := by omega
  suffices hgo : ∀ (H : Heap) (locs : List Loc), wi D z noA (mw b cI cZ (nI t) th vs kt kv wt wa fl tr ch X) s H locs → ∀ ls : Array Slot, lv_has ls 2 [(0, .ref (b 0)), (1, .int (time))] → W p l e (rmv 0 0) s m args below meth c H locs 0 0 Q (F0 m 0 ls []) from hgo _ _ hI ls hl
  intro H locs hI ls hl
  refine lv_iload_n hx hb dX3_isTime_0 rfl (lv_at hl 1 rfl) ?_
  refine lv_if_lt (tgt := 16) hx hb dX3_isTime_1 (by decide) (fun c1 => ?_) (fun c1 => ?_)
  · refine lv_iconst (v := nI 0) hx hb dX3_isTime_16 (by decide) ?_
    exact hret hI.2.2.2 dX3_isTime_17 (bi_f (by simp only [okK, okD, okP, okT, q_lt0, q_le4, q_lt3, q_le32, q_lt32, q_lt31, q_lt _ ht31, decide_eq_true_eq, decide_eq_false_iff_not] at *; (try simp only [fa_lt, fa_le] at *); omega)).symm
  · refine lv_iload_n hx hb dX3_isTime_4 rfl (lv_at hl 1 rfl) ?_
    refine lv_aload_n hx hb dX3_isTime_5 rfl (lv_at hl 0 rfl) ?_
    refine va_get (D := D) (ci := 3) (v := .int (nI t)) (C := RX3) (T := TX3) (N := 10) hx hb hts inX3 hown hK.1 hI.2.1 0 rfl rfl 0 (by decide) (hts _ k422) (fun _ h9 => h9) rfl dX3_isTime_6 ?_
    refine lv_icmp_gt (tgt := 16) hx hb dX3_isTime_9 (by decide) (fun c9 => ?_) (fun c9 => ?_)
    · refine lv_iconst (v := nI 0) hx hb dX3_isTime_16 (by decide) ?_
      exact hret hI.2.2.2 dX3_isTime_17 (bi_f (by simp only [okK, okD, okP, okT, q_lt0, q_le4, q_lt3, q_le32, q_lt32, q_lt31, q_lt _ ht31, decide_eq_true_eq, decide_eq_false_iff_not] at *; (try simp only [fa_lt, fa_le] at *); omega)).symm
    · refine lv_iconst (v := nI 1) hx hb dX3_isTime_12 (by decide) ?_
      refine lv_goto (tgt := 17) hx hb dX3_isTime_13 (by decide) ?_
      exact hret hI.2.2.2 dX3_isTime_17 (bi_t (by simp only [okK, okD, okP, okT, q_lt0, q_le4, q_lt3, q_le32, q_lt32, q_lt31, q_lt _ ht31, decide_eq_true_eq, decide_eq_false_iff_not] at *; (try simp only [fa_lt, fa_le] at *); omega)).symm
set_option maxHeartbeats 4000000 in
set_option maxRecDepth 100000 in
theorem c_X2_isTime {l : Launch} {D : va_G} {cI cZ cJ : ClassId} {z : Nat} {a : Nat → Nat} {X : va_W} {vals fil rb : Nat → Int32} {t : Nat} {wo : Nat → Int32} {cnt fn : Int32} (ht : t < 40) {time : Int32}  : roM l yX2_isTime cX2_isTime 2 (some .boolean) 0 0 [.ref (a 0), .int (time)] (pw D cI cZ cJ z (cw a cI vals fil rb (nI t) wo cnt fn X)) (bi (okT t time)) := by
  refine bd_rz (by decide) (Nat.le_of_ble_eq_true rfl) ?_
  intro p e s m args below meth c Q hF hpw hret ls hl
  obtain ⟨hx, hb, hml, hown, hts, hr, hlocks⟩ := id hF
  have hK := hpw.2.2.2
  have hI : wi D z noA (cw a cI vals fil rb (nI t) wo cnt fn X) s s.heap [] := hpw.wi
  have hl : lv_has ls 2 [(0, .ref (a 0)), (1, .int (time))] := hl
  have ht31 : t < 2 ^ 31 := by omega
  suffices hgo : ∀ (H : Heap) (locs : List Loc), wi D z noA (cw a cI vals fil rb (nI t) wo cnt fn X) s H locs → ∀ ls : Array Slot, lv_has ls 2 [(0, .ref (a 0)), (1, .int (time))] → W p l e (rmv 0 0) s m args below meth c H locs 0 0 Q (F0 m 0 ls []) from hgo _ _ hI ls hl
  intro H locs hI ls hl
  refine lv_iload_n hx hb dX2_isTime_0 rfl (lv_at hl 1 rfl) ?_
  refine lv_if_lt (tgt := 19) hx hb dX2_isTime_1 (by decide) (fun c1 => ?_) (fun c1 => ?_)
  · refine lv_iconst (v := nI 0) hx hb dX2_isTime_19 (by decide) ?_
    exact hret hI.2.2.2 dX2_isTime_20 (bi_f (by simp only [okK, okD, okP, okT, q_lt0, q_le4, q_lt3, q_le32, q_lt32, q_lt31, q_lt _ ht31, decide_eq_true_eq, decide_eq_false_iff_not] at *; (try simp only [fa_lt, fa_le] at *); omega)).symm
  · refine lv_iload_n hx hb dX2_isTime_4 rfl (lv_at hl 1 rfl) ?_
    refine lv_aload_n hx hb dX2_isTime_5 rfl (lv_at hl 0 rfl) ?_
    refine va_get (D := D) (ci := 2) (v := .ref (a 1)) (C := RX2) (T := TX2) (N := 3) hx hb hts inX2 hown hK.1 hI.2.1 0 rfl rfl 0 (by decide) (hts _ k56) (fun _ h9 => h9) rfl dX2_isTime_6 ?_
    refine va_getN (D := D) (ci := 0) (v := .int (nI t)) (C := RX0) (T := TX0) (N := 4) hx hb hts inX0 hown hK.1 hI.2.1 1 rfl rfl 3 (by decide) (va_Nw.use (w := nwP) rfl hK.2.1) (fun _ h9 => h9) rfl dX2_isTime_9 ?_
    refine lv_icmp_gt (tgt := 19) hx hb dX2_isTime_12 (by decide) (fun c12 => ?_) (fun c12 => ?_)
    · refine lv_iconst (v := nI 0) hx hb dX2_isTime_19 (by decide) ?_
      exact hret hI.2.2.2 dX2_isTime_20 (bi_f (by simp only [okK, okD, okP, okT, q_lt0, q_le4, q_lt3, q_le32, q_lt32, q_lt31, q_lt _ ht31, decide_eq_true_eq, decide_eq_false_iff_not] at *; (try simp only [fa_lt, fa_le] at *); omega)).symm
    · refine lv_iconst (v := nI 1) hx hb dX2_isTime_15 (by decide) ?_
      refine lv_goto (tgt := 20) hx hb dX2_isTime_16 (by decide) ?_
      exact hret hI.2.2.2 dX2_isTime_20 (bi_t (by simp only [okK, okD, okP, okT, q_lt0, q_le4, q_lt3, q_le32, q_lt32, q_lt31, q_lt _ ht31, decide_eq_true_eq, decide_eq_false_iff_not] at *; (try simp only [fa_lt, fa_le] at *); omega)).symm
set_option maxHeartbeats 4000000 in
set_option maxRecDepth 100000 in
theorem c_X3_alike {l : Launch} {D : va_G} {cI cZ cJ : ClassId} {z : Nat} {b : Nat → Nat} {X : va_W} {t : Nat} {th : Nat → Bool} {vs : Nat → Int32} {kt : Nat → Bool} {kv : Nat → Int32} {wt : Int32} {wa : Nat → Int32} {fl tr ch : Int32} {S : Sta} (hM : mAbs S th vs t) (ht : t < 40) {tm ky dy ot : Nat} (h1 : tm ≤ t) (h3 : ky < 4) (h2 : dy < 32) (h4 : ot < 32) : roM l yX3_alike cX3_alike 7 (some .boolean) 1 22 [.ref (b 0), .int (nI tm), .int (nI ky), .int (nI dy), .int (nI ot)] (pw D cI cZ cJ z (mw b cI cZ (nI t) th vs kt kv wt wa fl tr ch X)) (bi (al S (tm * 4 + ky) dy ot)) := by
  refine bd_rz (by decide) (Nat.le_of_ble_eq_true rfl) ?_
  intro p e s m args below meth c Q hF hpw hret ls hl
  obtain ⟨hx, hb, hml, hown, hts, hr, hlocks⟩ := id hF
  have hK := hpw.2.2.2
  have hI : wi D z noA (mw b cI cZ (nI t) th vs kt kv wt wa fl tr ch X) s s.heap [] := hpw.wi
  have hl : lv_has ls 7 [(0, .ref (b 0)), (1, .int (nI tm)), (2, .int (nI ky)), (3, .int (nI dy)), (4, .int (nI ot))] := hl
  suffices hgo : ∀ (H : Heap) (locs : List Loc), wi D z noA (mw b cI cZ (nI t) th vs kt kv wt wa fl tr ch X) s H locs → ∀ ls : Array Slot, lv_has ls 7 [(0, .ref (b 0)), (1, .int (nI tm)), (2, .int (nI ky)), (3, .int (nI dy)), (4, .int (nI ot))] → W p l e (rmv 1 22) s m args below meth c H locs 0 0 Q (F0 m 0 ls []) from hgo _ _ hI ls hl
  intro H locs hI ls hl
  refine lv_iload_n hx hb dX3_alike_0 rfl (lv_at hl 1 rfl) ?_
  refine lv_iload_n hx hb dX3_alike_1 rfl (lv_at hl 2 rfl) ?_
  refine lv_iload_n hx hb dX3_alike_2 rfl (lv_at hl 3 rfl) ?_
  refine k_ro (run_s (As := [.int (nI tm), .int (nI ky), .int (nI dy)]) (rest := []) hF (c_X3_place ) tt_blind (fun _ _ _ => trivial) cf_X3_place k492 ⟨Nat.le_of_ble_eq_true rfl, Nat.le_of_ble_eq_true rfl⟩ ⟨rfl, rfl⟩ ⟨Nat.le_of_ble_eq_true rfl, Nat.le_of_ble_eq_true rfl⟩ rfl hl.1 rfl (Nat.le_of_ble_eq_true rfl) dX3_alike_3) hI (fun H locs hI => ?_)
  refine lv_istore (lv' := [(5, .int (nI (128 * tm + 32 * ky + dy))), (0, .ref (b 0)), (1, .int (nI tm)), (2, .int (nI ky)), (3, .int (nI dy)), (4, .int (nI ot))]) hx hb dX3_alike_6 hl (by decide) rfl (fun ls hl => ?_)
  refine lv_iload_n hx hb dX3_alike_8 rfl (lv_at hl 2 rfl) ?_
  refine lv_iload_n hx hb dX3_alike_9 rfl (lv_at hl 3 rfl) ?_
  refine lv_iload hx hb dX3_alike_10 (lv_at hl 5 rfl) ?_
  refine k_ro (run_s (As := [.int (nI tm), .int (nI ky), .int (nI ot)]) (rest := []) hF (c_X3_place ) tt_blind (fun _ _ _ => trivial) cf_X3_place k492 ⟨Nat.le_of_ble_eq_true rfl, Nat.le_of_ble_eq_true rfl⟩ ⟨rfl, rfl⟩ ⟨Nat.le_of_ble_eq_true rfl, Nat.le_of_ble_eq_true rfl⟩ rfl hl.1 rfl (Nat.le_of_ble_eq_true rfl) dX3_alike_12) hI (fun H locs hI => ?_)
  refine lv_istore (lv' := [(6, .int (nI (128 * tm + 32 * ky + ot))), (5, .int (nI (128 * tm + 32 * ky + dy))), (0, .ref (b 0)), (1, .int (nI tm)), (2, .int (nI ky)), (3, .int (nI dy)), (4, .int (nI ot))]) hx hb dX3_alike_15 hl (by decide) rfl (fun ls hl => ?_)
  refine lv_aload_n hx hb dX3_alike_17 rfl (lv_at hl 2 rfl) ?_
  refine va_get (D := D) (ci := 3) (v := .ref (b 1)) (C := RX3) (T := TX3) (N := 10) hx hb hts inX3 hown hK.1 hI.2.1 0 rfl rfl 1 (by decide) (hts _ k423) (fun _ h9 => h9) rfl dX3_alike_18 ?_
  refine lv_iload hx hb dX3_alike_21 (lv_at hl 1 rfl) ?_
  refine zb_ld (f := th) (k := 128 * tm + 32 * ky + dy) hx hb hK hI 1 rfl dX3_alike_23 (by omega) (by decide) ?_
  refine bz_eq (tgt := 58) hx hb dX3_alike_24 (by decide) (fun c24 => ?_) (fun c24 => ?_)
  · refine lv_iconst (v := nI 0) hx hb dX3_alike_58 (by decide) ?_
    exact hret hI.2.2.2 dX3_alike_59 (bi_f (by rw [al_m hM h1 h3 h2 h4]; simp [*])).symm
  · refine lv_aload_n hx hb dX3_alike_27 rfl (lv_at hl 2 rfl) ?_
    refine va_get (D := D) (ci := 3) (v := .ref (b 1)) (C := RX3) (T := TX3) (N := 10) hx hb hts inX3 hown hK.1 hI.2.1 0 rfl rfl 1 (by decide) (hts _ k423) (fun _ h9 => h9) rfl dX3_alike_28 ?_
    refine lv_iload hx hb dX3_alike_31 (lv_at hl 0 rfl) ?_
    refine zb_ld (f := th) (k := 128 * tm + 32 * ky + ot) hx hb hK hI 1 rfl dX3_alike_33 (by omega) (by decide) ?_
    refine bz_eq (tgt := 58) hx hb dX3_alike_34 (by decide) (fun c34 => ?_) (fun c34 => ?_)
    · refine lv_iconst (v := nI 0) hx hb dX3_alike_58 (by decide) ?_
      exact hret hI.2.2.2 dX3_alike_59 (bi_f (by rw [al_m hM h1 h3 h2 h4]; simp [*])).symm
    · refine lv_aload_n hx hb dX3_alike_37 rfl (lv_at hl 2 rfl) ?_
      refine va_get (D := D) (ci := 3) (v := .ref (b 2)) (C := RX3) (T := TX3) (N := 10) hx hb hts inX3 hown hK.1 hI.2.1 0 rfl rfl 2 (by decide) (hts _ k424) (fun _ h9 => h9) rfl dX3_alike_38 ?_
      refine lv_iload hx hb dX3_alike_41 (lv_at hl 1 rfl) ?_
      refine ia_ld (f := vs) (k := 128 * tm + 32 * ky + dy) hx hb hK hI 2 rfl dX3_alike_43 (by omega) (by decide) ?_
      refine lv_aload_n hx hb dX3_alike_44 rfl (lv_at hl 2 rfl) ?_
      refine va_get (D := D) (ci := 3) (v := .ref (b 2)) (C := RX3) (T := TX3) (N := 10) hx hb hts inX3 hown hK.1 hI.2.1 0 rfl rfl 2 (by decide) (hts _ k424) (fun _ h9 => h9) rfl dX3_alike_45 ?_
      refine lv_iload hx hb dX3_alike_48 (lv_at hl 0 rfl) ?_
      refine ia_ld (f := vs) (k := 128 * tm + 32 * ky + ot) hx hb hK hI 2 rfl dX3_alike_50 (by omega) (by decide) ?_
      refine lv_icmp_ne (tgt := 58) hx hb dX3_alike_51 (by decide) (fun c51 => ?_) (fun c51 => ?_)
      · refine lv_iconst (v := nI 0) hx hb dX3_alike_58 (by decide) ?_
        exact hret hI.2.2.2 dX3_alike_59 (bi_f (by rw [al_m hM h1 h3 h2 h4]; simp [*])).symm
      · refine lv_iconst (v := nI 1) hx hb dX3_alike_54 (by decide) ?_
        refine lv_goto (tgt := 59) hx hb dX3_alike_55 (by decide) ?_
        exact hret hI.2.2.2 dX3_alike_59 (bi_t (by rw [al_m hM h1 h3 h2 h4]; simp [*])).symm
set_option maxHeartbeats 4000000 in
set_option maxRecDepth 100000 in
theorem c_X3_begins {l : Launch} {D : va_G} {cI cZ cJ : ClassId} {z : Nat} {b : Nat → Nat} {X : va_W} {t : Nat} {th : Nat → Bool} {vs : Nat → Int32} {kt : Nat → Bool} {kv : Nat → Int32} {wt : Int32} {wa : Nat → Int32} {fl tr ch : Int32} {S : Sta} (hM : mAbs S th vs t) (ht : t < 40) {tm ky dy : Nat} (h1 : tm ≤ t) (h3 : ky < 4) (h2 : dy < 32) : roM l yX3_begins cX3_begins 4 (some .boolean) 2 48 [.ref (b 0), .int (nI tm), .int (nI ky), .int (nI dy)] (pw D cI cZ cJ z (mw b cI cZ (nI t) th vs kt kv wt wa fl tr ch X)) (bi (beg S (tm * 4 + ky) dy)) := by
  refine bd_rz (by decide) (Nat.le_of_ble_eq_true rfl) ?_
  intro p e s m args below meth c Q hF hpw hret ls hl
  obtain ⟨hx, hb, hml, hown, hts, hr, hlocks⟩ := id hF
  have hK := hpw.2.2.2
  have hI : wi D z noA (mw b cI cZ (nI t) th vs kt kv wt wa fl tr ch X) s s.heap [] := hpw.wi
  have hl : lv_has ls 4 [(0, .ref (b 0)), (1, .int (nI tm)), (2, .int (nI ky)), (3, .int (nI dy))] := hl
  suffices hgo : ∀ (H : Heap) (locs : List Loc), wi D z noA (mw b cI cZ (nI t) th vs kt kv wt wa fl tr ch X) s H locs → ∀ ls : Array Slot, lv_has ls 4 [(0, .ref (b 0)), (1, .int (nI tm)), (2, .int (nI ky)), (3, .int (nI dy))] → W p l e (rmv 2 48) s m args below meth c H locs 0 0 Q (F0 m 0 ls []) from hgo _ _ hI ls hl
  intro H locs hI ls hl
  refine lv_aload_n hx hb dX3_begins_0 rfl (lv_at hl 0 rfl) ?_
  refine va_get (D := D) (ci := 3) (v := .ref (b 1)) (C := RX3) (T := TX3) (N := 10) hx hb hts inX3 hown hK.1 hI.2.1 0 rfl rfl 1 (by decide) (hts _ k423) (fun _ h9 => h9) rfl dX3_begins_1 ?_
  refine lv_iload_n hx hb dX3_begins_4 rfl (lv_at hl 1 rfl) ?_
  refine lv_iload_n hx hb dX3_begins_5 rfl (lv_at hl 2 rfl) ?_
  refine lv_iload_n hx hb dX3_begins_6 rfl (lv_at hl 3 rfl) ?_
  refine k_ro (run_s (As := [.int (nI tm), .int (nI ky), .int (nI dy)]) (rest := [.ref (b 1)]) hF (c_X3_place ) tt_blind (fun _ _ _ => trivial) cf_X3_place k492 ⟨Nat.le_of_ble_eq_true rfl, Nat.le_of_ble_eq_true rfl⟩ ⟨rfl, rfl⟩ ⟨Nat.le_of_ble_eq_true rfl, Nat.le_of_ble_eq_true rfl⟩ rfl hl.1 rfl (Nat.le_of_ble_eq_true rfl) dX3_begins_7) hI (fun H locs hI => ?_)
  refine zb_ld (f := th) (k := 128 * tm + 32 * ky + dy) hx hb hK hI 1 rfl dX3_begins_10 (by omega) (by decide) ?_
  refine bz_eq (tgt := 35) hx hb dX3_begins_11 (by decide) (fun c11 => ?_) (fun c11 => ?_)
  · refine lv_iconst (v := nI 0) hx hb dX3_begins_35 (by decide) ?_
    exact hret hI.2.2.2 dX3_begins_36 (bi_f (by unfold beg; rw [has_m hM h1 h3 h2]; first | (simp [c11]; done) | (rw [con_f1 c15]; simp [c11]; done) | (rw [con_al c15]; simp [c11, c28]))).symm
  · refine lv_iload_n hx hb dX3_begins_14 rfl (lv_at hl 3 rfl) ?_
    refine nz_eq (tgt := 31) hx hb dX3_begins_15 (by decide) (by omega) (fun c15 => ?_) (fun c15 => ?_)
    · refine lv_iconst (v := nI 1) hx hb dX3_begins_31 (by decide) ?_
      refine lv_goto (tgt := 36) hx hb dX3_begins_32 (by decide) ?_
      exact hret hI.2.2.2 dX3_begins_36 (bi_t (by unfold beg; rw [has_m hM h1 h3 h2]; first | (simp [c11]; done) | (rw [con_f1 c15]; simp [c11]; done) | (rw [con_al c15]; simp [c11, c28]))).symm
    · refine lv_aload_n hx hb dX3_begins_18 rfl (lv_at hl 0 rfl) ?_
      refine lv_iload_n hx hb dX3_begins_19 rfl (lv_at hl 1 rfl) ?_
      refine lv_iload_n hx hb dX3_begins_20 rfl (lv_at hl 2 rfl) ?_
      refine lv_iload_n hx hb dX3_begins_21 rfl (lv_at hl 3 rfl) ?_
      refine lv_iconst (v := nI 1) hx hb dX3_begins_22 (by decide) ?_
      refine lv_isub hx hb dX3_begins_23 ?_
      refine tp (pk_sub (by omega)) ?_
      refine lv_iload_n hx hb dX3_begins_24 rfl (lv_at hl 3 rfl) ?_
      refine k_ro (run_v (As := [.int (nI tm), .int (nI ky), .int (nI (dy - 1)), .int (nI dy)]) (rest := []) hF hK hI (c_X3_alike hM ht (by omega) (by omega) (by omega) (by omega)) cf_X3_alike k511 0 3 rfl rfl ⟨Nat.le_of_ble_eq_true rfl, Nat.le_of_ble_eq_true rfl⟩ ⟨rfl, rfl⟩ ⟨Nat.le_of_ble_eq_true rfl, Nat.le_of_ble_eq_true rfl⟩ rfl hl.1 rfl (Nat.le_of_ble_eq_true rfl) dX3_begins_25) hI (fun H locs hI => ?_)
      refine bz_ne (tgt := 35) hx hb dX3_begins_28 (by decide) (fun c28 => ?_) (fun c28 => ?_)
      · refine lv_iconst (v := nI 0) hx hb dX3_begins_35 (by decide) ?_
        exact hret hI.2.2.2 dX3_begins_36 (bi_f (by unfold beg; rw [has_m hM h1 h3 h2]; first | (simp [c11]; done) | (rw [con_f1 c15]; simp [c11]; done) | (rw [con_al c15]; simp [c11, c28]))).symm
      · refine lv_iconst (v := nI 1) hx hb dX3_begins_31 (by decide) ?_
        refine lv_goto (tgt := 36) hx hb dX3_begins_32 (by decide) ?_
        exact hret hI.2.2.2 dX3_begins_36 (bi_t (by unfold beg; rw [has_m hM h1 h3 h2]; first | (simp [c11]; done) | (rw [con_f1 c15]; simp [c11]; done) | (rw [con_al c15]; simp [c11, c28]))).symm
set_option maxHeartbeats 4000000 in
set_option maxRecDepth 100000 in
theorem c_X3_endOf {l : Launch} {D : va_G} {cI cZ cJ : ClassId} {z : Nat} {b : Nat → Nat} {X : va_W} {t : Nat} {th : Nat → Bool} {vs : Nat → Int32} {kt : Nat → Bool} {kv : Nat → Int32} {wt : Int32} {wa : Nat → Int32} {fl tr ch : Int32} {S : Sta} (hM : mAbs S th vs t) (ht : t < 40) {tm ky dy : Nat} (h1 : tm ≤ t) (h3 : ky < 4) (h2 : dy < 32) : roM l yX3_endOf cX3_endOf 5 (some .int) 2 48 [.ref (b 0), .int (nI tm), .int (nI ky), .int (nI dy)] (pw D cI cZ cJ z (mw b cI cZ (nI t) th vs kt kv wt wa fl tr ch X)) (nI (rend S (tm * 4 + ky) dy)) := by
  refine bd_ro (by decide) (Nat.le_of_ble_eq_true rfl) ?_
  intro p e s m args below meth c Q hF hpw hret ls hl
  obtain ⟨hx, hb, hml, hown, hts, hr, hlocks⟩ := id hF
  have hK := hpw.2.2.2
  have hI : wi D z noA (mw b cI cZ (nI t) th vs kt kv wt wa fl tr ch X) s s.heap [] := hpw.wi
  have hl : lv_has ls 5 [(0, .ref (b 0)), (1, .int (nI tm)), (2, .int (nI ky)), (3, .int (nI dy))] := hl
  suffices hgo : ∀ (H : Heap) (locs : List Loc), wi D z noA (mw b cI cZ (nI t) th vs kt kv wt wa fl tr ch X) s H locs → ∀ ls : Array Slot, lv_has ls 5 [(0, .ref (b 0)), (1, .int (nI tm)), (2, .int (nI ky)), (3, .int (nI dy))] → W p l e (rmv 2 48) s m args below meth c H locs 0 0 Q (F0 m 0 ls []) from hgo _ _ hI ls hl
  intro H locs hI ls hl
  refine lv_iload_n hx hb dX3_endOf_0 rfl (lv_at hl 3 rfl) ?_
  refine lv_iconst (v := nI 1) hx hb dX3_endOf_1 (by decide) ?_
  refine lv_iadd hx hb dX3_endOf_2 ?_
  refine tp (nI_add _ _) ?_
  refine lv_istore (lv' := [(4, .int (nI (dy + 1))), (0, .ref (b 0)), (1, .int (nI tm)), (2, .int (nI ky)), (3, .int (nI dy))]) hx hb dX3_endOf_3 hl (by decide) rfl (fun ls hl => ?_)
  have J5 : ∀ (n5_ : Nat) (x : Nat) (hx1 : x ≤ 32) (hx0 : dy < x) (hxs : S (tm * 4 + ky) (x - 1) = S (tm * 4 + ky) dy) (hxe : rend S (tm * 4 + ky) dy = finF S (tm * 4 + ky) (32 - x) x) (hm5 : 32 < x + n5_) (H : Heap) (locs : List Loc), wi D z noA (mw b cI cZ (nI t) th vs kt kv wt wa fl tr ch X) s H locs → ∀ ls : Array Slot, lv_has ls 5 [(0, .ref (b 0)), (1, .int (nI tm)), (2, .int (nI ky)), (3, .int (nI dy)), (4, .int (nI x))] → W p l e (rmv 2 48) s m args below meth c H locs 0 0 Q (F0 m 5 ls []) := by
    intro n5_
    induction n5_ with
    | zero => intro x hx1 hx0 hxs hxe hm5; exact absurd hm5 (by omega)
    | succ n5_ ih5 =>
      intro x hx1 hx0 hxs hxe hm5 H locs hI ls hl
      refine lv_iload hx hb dX3_endOf_5 (lv_at hl 4 rfl) ?_
      refine lv_bipush (v := nI 32) hx hb dX3_endOf_7 (by decide) ?_
      refine nb_ge (tgt := 30) hx hb dX3_endOf_9 (by decide) (by omega) (by omega) (fun c9 => ?_) (fun c9 => ?_)
      · refine lv_iload hx hb dX3_endOf_30 (lv_at hl 4 rfl) ?_
        exact hret hI.2.2.2 dX3_endOf_32 ((by rw [hxe]; first | (rw [show 32 - x = 0 by omega]; rfl) | rw [fin_no ((al_con (by omega) hxs).symm.trans c21)]))
      · refine lv_aload_n hx hb dX3_endOf_12 rfl (lv_at hl 0 rfl) ?_
        refine lv_iload_n hx hb dX3_endOf_13 rfl (lv_at hl 1 rfl) ?_
        refine lv_iload_n hx hb dX3_endOf_14 rfl (lv_at hl 2 rfl) ?_
        refine lv_iload_n hx hb dX3_endOf_15 rfl (lv_at hl 3 rfl) ?_
        refine lv_iload hx hb dX3_endOf_16 (lv_at hl 4 rfl) ?_
        refine k_ro (run_v (As := [.int (nI tm), .int (nI ky), .int (nI dy), .int (nI x)]) (rest := []) hF hK hI (c_X3_alike hM ht (by omega) (by omega) (by omega) (by omega)) cf_X3_alike k511 0 3 rfl rfl ⟨Nat.le_of_ble_eq_true rfl, Nat.le_of_ble_eq_true rfl⟩ ⟨rfl, rfl⟩ ⟨Nat.le_of_ble_eq_true rfl, Nat.le_of_ble_eq_true rfl⟩ rfl hl.1 rfl (Nat.le_of_ble_eq_true rfl) dX3_endOf_18) hI (fun H locs hI => ?_)
        refine bz_eq (tgt := 30) hx hb dX3_endOf_21 (by decide) (fun c21 => ?_) (fun c21 => ?_)
        · refine lv_iload hx hb dX3_endOf_30 (lv_at hl 4 rfl) ?_
          exact hret hI.2.2.2 dX3_endOf_32 ((by rw [hxe]; first | (rw [show 32 - x = 0 by omega]; rfl) | rw [fin_no ((al_con (by omega) hxs).symm.trans c21)]))
        · refine lv_iinc (v := nI (x + 1)) (lv' := [(4, .int (nI (x + 1))), (0, .ref (b 0)), (1, .int (nI tm)), (2, .int (nI ky)), (3, .int (nI dy))]) hx hb dX3_endOf_24 hl (k := 4) rfl (inc_n _ 1) (by decide) rfl (fun ls hl => ?_)
          refine lv_goto (tgt := 5) hx hb dX3_endOf_27 (by decide) ?_
          exact ih5 (x + 1) (by omega) (by omega) (al_eq c21) (hxe.trans (fin_go (by omega) ((al_con (by omega) hxs).symm.trans c21))) (by omega) H locs hI ls (lv_sub hl [1, 2, 3, 4, 0] rfl)
  exact J5 (32 + 1) (dy + 1) (by omega) (by omega) (by rw [Nat.add_sub_cancel]) (rend_eq h2) (by omega) H locs hI ls (lv_sub hl [1, 2, 3, 4, 0] rfl)
set_option maxHeartbeats 4000000 in
set_option maxRecDepth 100000 in
theorem c_X3_isRun {l : Launch} {D : va_G} {cI cZ cJ : ClassId} {z : Nat} {b : Nat → Nat} {X : va_W} {t : Nat} {th : Nat → Bool} {vs : Nat → Int32} {kt : Nat → Bool} {kv : Nat → Int32} {wt : Int32} {wa : Nat → Int32} {fl tr ch : Int32} {S : Sta} (hM : mAbs S th vs t) (ht : t < 40) {tm ky dy : Nat} (h1 : tm ≤ t) (h3 : ky < 4) (h2 : dy < 32) {to : Nat} {v : Int32} (h4 : to ≤ 32) : roM l yX3_isRun cX3_isRun 6 (some .boolean) 3 72 [.ref (b 0), .int (nI tm), .int (nI ky), .int (nI dy), .int (nI to), .int (v)] (pw D cI cZ cJ z (mw b cI cZ (nI t) th vs kt kv wt wa fl tr ch X)) (bi (isRn S (tm * 4 + ky) dy to v)) := by
  refine bd_rz (by decide) (Nat.le_of_ble_eq_true rfl) ?_
  intro p e s m args below meth c Q hF hpw hret ls hl
  obtain ⟨hx, hb, hml, hown, hts, hr, hlocks⟩ := id hF
  have hK := hpw.2.2.2
  have hI : wi D z noA (mw b cI cZ (nI t) th vs kt kv wt wa fl tr ch X) s s.heap [] := hpw.wi
  have hl : lv_has ls 6 [(0, .ref (b 0)), (1, .int (nI tm)), (2, .int (nI ky)), (3, .int (nI dy)), (4, .int (nI to)), (5, .int (v))] := hl
  suffices hgo : ∀ (H : Heap) (locs : List Loc), wi D z noA (mw b cI cZ (nI t) th vs kt kv wt wa fl tr ch X) s H locs → ∀ ls : Array Slot, lv_has ls 6 [(0, .ref (b 0)), (1, .int (nI tm)), (2, .int (nI ky)), (3, .int (nI dy)), (4, .int (nI to)), (5, .int (v))] → W p l e (rmv 3 72) s m args below meth c H locs 0 0 Q (F0 m 0 ls []) from hgo _ _ hI ls hl
  intro H locs hI ls hl
  refine lv_aload_n hx hb dX3_isRun_0 rfl (lv_at hl 0 rfl) ?_
  refine lv_iload_n hx hb dX3_isRun_1 rfl (lv_at hl 1 rfl) ?_
  refine lv_iload_n hx hb dX3_isRun_2 rfl (lv_at hl 2 rfl) ?_
  refine lv_iload_n hx hb dX3_isRun_3 rfl (lv_at hl 3 rfl) ?_
  refine k_ro (run_v (As := [.int (nI tm), .int (nI ky), .int (nI dy)]) (rest := []) hF hK hI (c_X3_begins hM ht (by omega) (by omega) (by omega)) cf_X3_begins k507 0 3 rfl rfl ⟨Nat.le_of_ble_eq_true rfl, Nat.le_of_ble_eq_true rfl⟩ ⟨rfl, rfl⟩ ⟨Nat.le_of_ble_eq_true rfl, Nat.le_of_ble_eq_true rfl⟩ rfl hl.1 rfl (Nat.le_of_ble_eq_true rfl) dX3_isRun_4) hI (fun H locs hI => ?_)
  refine bz_eq (tgt := 42) hx hb dX3_isRun_7 (by decide) (fun c7 => ?_) (fun c7 => ?_)
  · refine lv_iconst (v := nI 0) hx hb dX3_isRun_42 (by decide) ?_
    exact hret hI.2.2.2 dX3_isRun_43 (bi_f (by unfold isRn; first | (simp [c7]; done) | (simp [c7, c19]; done) | (rw [val_m hM h1 h3 h2 (beg_some c7)]; simp [c7, c19, c35]))).symm
  · refine lv_aload_n hx hb dX3_isRun_10 rfl (lv_at hl 0 rfl) ?_
    refine lv_iload_n hx hb dX3_isRun_11 rfl (lv_at hl 1 rfl) ?_
    refine lv_iload_n hx hb dX3_isRun_12 rfl (lv_at hl 2 rfl) ?_
    refine lv_iload_n hx hb dX3_isRun_13 rfl (lv_at hl 3 rfl) ?_
    refine k_ro (run_v (As := [.int (nI tm), .int (nI ky), .int (nI dy)]) (rest := []) hF hK hI (c_X3_endOf hM ht (by omega) (by omega) (by omega)) cf_X3_endOf k515 0 3 rfl rfl ⟨Nat.le_of_ble_eq_true rfl, Nat.le_of_ble_eq_true rfl⟩ ⟨rfl, rfl⟩ ⟨Nat.le_of_ble_eq_true rfl, Nat.le_of_ble_eq_true rfl⟩ rfl hl.1 rfl (Nat.le_of_ble_eq_true rfl) dX3_isRun_14) hI (fun H locs hI => ?_)
    refine lv_iload hx hb dX3_isRun_17 (lv_at hl 4 rfl) ?_
    have g1 := rend_in (S := S) (sl := tm * 4 + ky) h2
    refine nb_ne (tgt := 42) hx hb dX3_isRun_19 (by decide) (by omega) (by omega) (fun c19 => ?_) (fun c19 => ?_)
    · refine lv_iconst (v := nI 0) hx hb dX3_isRun_42 (by decide) ?_
      exact hret hI.2.2.2 dX3_isRun_43 (bi_f (by unfold isRn; first | (simp [c7]; done) | (simp [c7, c19]; done) | (rw [val_m hM h1 h3 h2 (beg_some c7)]; simp [c7, c19, c35]))).symm
    · refine lv_aload_n hx hb dX3_isRun_22 rfl (lv_at hl 0 rfl) ?_
      refine va_get (D := D) (ci := 3) (v := .ref (b 2)) (C := RX3) (T := TX3) (N := 10) hx hb hts inX3 hown hK.1 hI.2.1 0 rfl rfl 2 (by decide) (hts _ k424) (fun _ h9 => h9) rfl dX3_isRun_23 ?_
      refine lv_iload_n hx hb dX3_isRun_26 rfl (lv_at hl 1 rfl) ?_
      refine lv_iload_n hx hb dX3_isRun_27 rfl (lv_at hl 2 rfl) ?_
      refine lv_iload_n hx hb dX3_isRun_28 rfl (lv_at hl 3 rfl) ?_
      refine k_ro (run_s (As := [.int (nI tm), .int (nI ky), .int (nI dy)]) (rest := [.ref (b 2)]) hF (c_X3_place ) tt_blind (fun _ _ _ => trivial) cf_X3_place k492 ⟨Nat.le_of_ble_eq_true rfl, Nat.le_of_ble_eq_true rfl⟩ ⟨rfl, rfl⟩ ⟨Nat.le_of_ble_eq_true rfl, Nat.le_of_ble_eq_true rfl⟩ rfl hl.1 rfl (Nat.le_of_ble_eq_true rfl) dX3_isRun_29) hI (fun H locs hI => ?_)
      refine ia_ld (f := vs) (k := 128 * tm + 32 * ky + dy) hx hb hK hI 2 rfl dX3_isRun_32 (by omega) (by decide) ?_
      refine lv_iload hx hb dX3_isRun_33 (lv_at hl 5 rfl) ?_
      refine lv_icmp_ne (tgt := 42) hx hb dX3_isRun_35 (by decide) (fun c35 => ?_) (fun c35 => ?_)
      · refine lv_iconst (v := nI 0) hx hb dX3_isRun_42 (by decide) ?_
        exact hret hI.2.2.2 dX3_isRun_43 (bi_f (by unfold isRn; first | (simp [c7]; done) | (simp [c7, c19]; done) | (rw [val_m hM h1 h3 h2 (beg_some c7)]; simp [c7, c19, c35]))).symm
      · refine lv_iconst (v := nI 1) hx hb dX3_isRun_38 (by decide) ?_
        refine lv_goto (tgt := 43) hx hb dX3_isRun_39 (by decide) ?_
        exact hret hI.2.2.2 dX3_isRun_43 (bi_t (by unfold isRn; first | (simp [c7]; done) | (simp [c7, c19]; done) | (rw [val_m hM h1 h3 h2 (beg_some c7)]; simp [c7, c19, c35]))).symm
set_option maxHeartbeats 4000000 in
set_option maxRecDepth 100000 in
theorem c_X3_isRow {l : Launch} {D : va_G} {cI cZ cJ : ClassId} {z : Nat} {b : Nat → Nat} {X : va_W} {t : Nat} {th : Nat → Bool} {vs : Nat → Int32} {kt : Nat → Bool} {kv : Nat → Int32} {wt : Int32} {wa : Nat → Int32} {fl tr ch : Int32} {S : Sta} (hM : mAbs S th vs t) (ht : t < 40) {tm ky dy : Nat} (h1 : tm ≤ t) (h3 : ky < 4) (h2 : dy < 32) : roM l yX3_isRow cX3_isRow 4 (some .boolean) 4 97 [.ref (b 0), .int (nI tm), .int (nI ky), .int (nI dy)] (pw D cI cZ cJ z (mw b cI cZ (nI t) th vs kt kv wt wa fl tr ch X)) (bi (isRw S (tm * 4 + ky) dy)) := by
  refine bd_rz (by decide) (Nat.le_of_ble_eq_true rfl) ?_
  intro p e s m args below meth c Q hF hpw hret ls hl
  obtain ⟨hx, hb, hml, hown, hts, hr, hlocks⟩ := id hF
  have hK := hpw.2.2.2
  have hI : wi D z noA (mw b cI cZ (nI t) th vs kt kv wt wa fl tr ch X) s s.heap [] := hpw.wi
  have hl : lv_has ls 4 [(0, .ref (b 0)), (1, .int (nI tm)), (2, .int (nI ky)), (3, .int (nI dy))] := hl
  suffices hgo : ∀ (H : Heap) (locs : List Loc), wi D z noA (mw b cI cZ (nI t) th vs kt kv wt wa fl tr ch X) s H locs → ∀ ls : Array Slot, lv_has ls 4 [(0, .ref (b 0)), (1, .int (nI tm)), (2, .int (nI ky)), (3, .int (nI dy))] → W p l e (rmv 4 97) s m args below meth c H locs 0 0 Q (F0 m 0 ls []) from hgo _ _ hI ls hl
  intro H locs hI ls hl
  refine lv_aload_n hx hb dX3_isRow_0 rfl (lv_at hl 0 rfl) ?_
  refine lv_iload_n hx hb dX3_isRow_1 rfl (lv_at hl 1 rfl) ?_
  refine lv_iload_n hx hb dX3_isRow_2 rfl (lv_at hl 2 rfl) ?_
  refine lv_iload_n hx hb dX3_isRow_3 rfl (lv_at hl 3 rfl) ?_
  refine k_ro (run_v (As := [.int (nI tm), .int (nI ky), .int (nI dy)]) (rest := []) hF hK hI (c_X3_begins hM ht (by omega) (by omega) (by omega)) cf_X3_begins k507 0 3 rfl rfl ⟨Nat.le_of_ble_eq_true rfl, Nat.le_of_ble_eq_true rfl⟩ ⟨rfl, rfl⟩ ⟨Nat.le_of_ble_eq_true rfl, Nat.le_of_ble_eq_true rfl⟩ rfl hl.1 rfl (Nat.le_of_ble_eq_true rfl) dX3_isRow_4) hI (fun H locs hI => ?_)
  refine bz_ne (tgt := 12) hx hb dX3_isRow_7 (by decide) (fun c7 => ?_) (fun c7 => ?_)
  · refine lv_iload_n hx hb dX3_isRow_12 rfl (lv_at hl 1 rfl) ?_
    refine nz_eq (tgt := 46) hx hb dX3_isRow_13 (by decide) (by omega) (fun c13 => ?_) (fun c13 => ?_)
    · refine lv_iconst (v := nI 1) hx hb dX3_isRow_46 (by decide) ?_
      refine lv_goto (tgt := 51) hx hb dX3_isRow_47 (by decide) ?_
      exact hret hI.2.2.2 dX3_isRow_51 (bi_t (by rw [isRw_m h3 c7]; first | (simp [c13]; done) | (rw [← isRn_shr (val_m hM h1 h3 h2 (beg_some c7)), c43]; simp [c13]))).symm
    · refine lv_aload_n hx hb dX3_isRow_16 rfl (lv_at hl 0 rfl) ?_
      refine lv_iload_n hx hb dX3_isRow_17 rfl (lv_at hl 1 rfl) ?_
      refine lv_iconst (v := nI 1) hx hb dX3_isRow_18 (by decide) ?_
      refine lv_isub hx hb dX3_isRow_19 ?_
      refine tp (pk_sub (by omega)) ?_
      refine lv_iload_n hx hb dX3_isRow_20 rfl (lv_at hl 2 rfl) ?_
      refine lv_iload_n hx hb dX3_isRow_21 rfl (lv_at hl 3 rfl) ?_
      refine lv_aload_n hx hb dX3_isRow_22 rfl (lv_at hl 0 rfl) ?_
      refine lv_iload_n hx hb dX3_isRow_23 rfl (lv_at hl 1 rfl) ?_
      refine lv_iload_n hx hb dX3_isRow_24 rfl (lv_at hl 2 rfl) ?_
      refine lv_iload_n hx hb dX3_isRow_25 rfl (lv_at hl 3 rfl) ?_
      refine k_ro (run_v (As := [.int (nI tm), .int (nI ky), .int (nI dy)]) (rest := [.int (nI dy), .int (nI ky), .int (nI (tm - 1)), .ref (b 0)]) hF hK hI (c_X3_endOf hM ht (by omega) (by omega) (by omega)) cf_X3_endOf k515 0 3 rfl rfl ⟨Nat.le_of_ble_eq_true rfl, Nat.le_of_ble_eq_true rfl⟩ ⟨rfl, rfl⟩ ⟨Nat.le_of_ble_eq_true rfl, Nat.le_of_ble_eq_true rfl⟩ rfl hl.1 rfl (Nat.le_of_ble_eq_true rfl) dX3_isRow_26) hI (fun H locs hI => ?_)
      refine lv_aload_n hx hb dX3_isRow_29 rfl (lv_at hl 0 rfl) ?_
      refine va_get (D := D) (ci := 3) (v := .ref (b 2)) (C := RX3) (T := TX3) (N := 10) hx hb hts inX3 hown hK.1 hI.2.1 0 rfl rfl 2 (by decide) (hts _ k424) (fun _ h9 => h9) rfl dX3_isRow_30 ?_
      refine lv_iload_n hx hb dX3_isRow_33 rfl (lv_at hl 1 rfl) ?_
      refine lv_iload_n hx hb dX3_isRow_34 rfl (lv_at hl 2 rfl) ?_
      refine lv_iload_n hx hb dX3_isRow_35 rfl (lv_at hl 3 rfl) ?_
      refine k_ro (run_s (As := [.int (nI tm), .int (nI ky), .int (nI dy)]) (rest := [.ref (b 2), .int (nI (rend S (tm * 4 + ky) dy)), .int (nI dy), .int (nI ky), .int (nI (tm - 1)), .ref (b 0)]) hF (c_X3_place ) tt_blind (fun _ _ _ => trivial) cf_X3_place k492 ⟨Nat.le_of_ble_eq_true rfl, Nat.le_of_ble_eq_true rfl⟩ ⟨rfl, rfl⟩ ⟨Nat.le_of_ble_eq_true rfl, Nat.le_of_ble_eq_true rfl⟩ rfl hl.1 rfl (Nat.le_of_ble_eq_true rfl) dX3_isRow_36) hI (fun H locs hI => ?_)
      refine ia_ld (f := vs) (k := 128 * tm + 32 * ky + dy) hx hb hK hI 2 rfl dX3_isRow_39 (by omega) (by decide) ?_
      have g1 := rend_in (S := S) (sl := tm * 4 + ky) h2
      refine k_ro (run_v (As := [.int (nI (tm - 1)), .int (nI ky), .int (nI dy), .int (nI (rend S (tm * 4 + ky) dy)), .int (vs (128 * tm + 32 * ky + dy))]) (rest := []) hF hK hI (c_X3_isRun hM ht (by omega) (by omega) (by omega) (by omega)) cf_X3_isRun k519 0 3 rfl rfl ⟨Nat.le_of_ble_eq_true rfl, Nat.le_of_ble_eq_true rfl⟩ ⟨rfl, rfl⟩ ⟨Nat.le_of_ble_eq_true rfl, Nat.le_of_ble_eq_true rfl⟩ rfl hl.1 rfl (Nat.le_of_ble_eq_true rfl) dX3_isRow_40) hI (fun H locs hI => ?_)
      refine bz_ne (tgt := 50) hx hb dX3_isRow_43 (by decide) (fun c43 => ?_) (fun c43 => ?_)
      · refine lv_iconst (v := nI 0) hx hb dX3_isRow_50 (by decide) ?_
        exact hret hI.2.2.2 dX3_isRow_51 (bi_f (by rw [isRw_m h3 c7]; first | (simp [c13]; done) | (rw [← isRn_shr (val_m hM h1 h3 h2 (beg_some c7)), c43]; simp [c13]))).symm
      · refine lv_iconst (v := nI 1) hx hb dX3_isRow_46 (by decide) ?_
        refine lv_goto (tgt := 51) hx hb dX3_isRow_47 (by decide) ?_
        exact hret hI.2.2.2 dX3_isRow_51 (bi_t (by rw [isRw_m h3 c7]; first | (simp [c13]; done) | (rw [← isRn_shr (val_m hM h1 h3 h2 (beg_some c7)), c43]; simp [c13]))).symm
  · refine lv_iconst (v := nI 0) hx hb dX3_isRow_10 (by decide) ?_
    exact hret hI.2.2.2 dX3_isRow_11 (bi_f (by simp [isRw, c7])).symm
set_option maxHeartbeats 4000000 in
set_option maxRecDepth 100000 in
theorem c_X3_countRows {l : Launch} {D : va_G} {cI cZ cJ : ClassId} {z : Nat} {b : Nat → Nat} {X : va_W} {t : Nat} {th : Nat → Bool} {vs : Nat → Int32} {kt : Nat → Bool} {kv : Nat → Int32} {wt : Int32} {wa : Nat → Int32} {fl tr ch : Int32} {S : Sta} (hM : mAbs S th vs t) (ht : t < 40)  : roM l yX3_countRows cX3_countRows 5 (some .int) 5 120 [.ref (b 0)] (pw D cI cZ cJ z (mw b cI cZ (nI t) th vs kt kv wt wa fl tr ch X)) (nI (rowsTo S (4 * (t + 1)))) := by
  refine bd_ro (by decide) (Nat.le_of_ble_eq_true rfl) ?_
  intro p e s m args below meth c Q hF hpw hret ls hl
  obtain ⟨hx, hb, hml, hown, hts, hr, hlocks⟩ := id hF
  have hK := hpw.2.2.2
  have hI : wi D z noA (mw b cI cZ (nI t) th vs kt kv wt wa fl tr ch X) s s.heap [] := hpw.wi
  have hl : lv_has ls 5 [(0, .ref (b 0))] := hl
  suffices hgo : ∀ (H : Heap) (locs : List Loc), wi D z noA (mw b cI cZ (nI t) th vs kt kv wt wa fl tr ch X) s H locs → ∀ ls : Array Slot, lv_has ls 5 [(0, .ref (b 0))] → W p l e (rmv 5 120) s m args below meth c H locs 0 0 Q (F0 m 0 ls []) from hgo _ _ hI ls hl
  intro H locs hI ls hl
  refine lv_iconst (v := nI 0) hx hb dX3_countRows_0 (by decide) ?_
  refine lv_istore_n (lv' := [(1, .int (nI 0)), (0, .ref (b 0))]) hx hb dX3_countRows_1 rfl hl (by decide) rfl (fun ls hl => ?_)
  refine lv_iconst (v := nI 0) hx hb dX3_countRows_2 (by decide) ?_
  refine lv_istore_n (lv' := [(2, .int (nI 0)), (1, .int (nI 0)), (0, .ref (b 0))]) hx hb dX3_countRows_3 rfl hl (by decide) rfl (fun ls hl => ?_)
  have J4 : ∀ (n4_ : Nat) (y : Nat) (n1 : Nat) (hy : y ≤ 4) (hn4 : n1 = fb_sm (rowsK S t) y) (hm4 : 4 < y + n4_) (H : Heap) (locs : List Loc), wi D z noA (mw b cI cZ (nI t) th vs kt kv wt wa fl tr ch X) s H locs → ∀ ls : Array Slot, lv_has ls 5 [(0, .ref (b 0)), (1, .int (nI n1)), (2, .int (nI y))] → W p l e (rmv 5 120) s m args below meth c H locs 0 0 Q (F0 m 4 ls []) := by
    intro n4_
    induction n4_ with
    | zero => intro y n1 hy hn4 hm4; exact absurd hm4 (by omega)
    | succ n4_ ih4 =>
      intro y n1 hy hn4 hm4 H locs hI ls hl
      refine lv_iload_n hx hb dX3_countRows_4 rfl (lv_at hl 2 rfl) ?_
      refine lv_iconst (v := nI 4) hx hb dX3_countRows_5 (by decide) ?_
      refine nb_ge (tgt := 66) hx hb dX3_countRows_6 (by decide) (by omega) (by omega) (fun c6 => ?_) (fun c6 => ?_)
      · refine lv_iload_n hx hb dX3_countRows_66 rfl (lv_at hl 1 rfl) ?_
        exact hret hI.2.2.2 dX3_countRows_67 ((by rw [hn4, show y = 4 by omega, rows_all]))
      · refine lv_iconst (v := nI 0) hx hb dX3_countRows_9 (by decide) ?_
        refine lv_istore_n (lv' := [(3, .int (nI 0)), (0, .ref (b 0)), (1, .int (nI n1)), (2, .int (nI y))]) hx hb dX3_countRows_10 rfl hl (by decide) rfl (fun ls hl => ?_)
        have J11 : ∀ (n11_ : Nat) (x : Nat) (n1 : Nat) (hx1 : x ≤ t + 1) (hn11 : n1 = fb_sm (rowsK S t) y + fb_sm (fun w => rowsIn S (w * 4 + y)) x) (hm11 : t + 1 < x + n11_) (H : Heap) (locs : List Loc), wi D z noA (mw b cI cZ (nI t) th vs kt kv wt wa fl tr ch X) s H locs → ∀ ls : Array Slot, lv_has ls 5 [(0, .ref (b 0)), (1, .int (nI n1)), (2, .int (nI y)), (3, .int (nI x))] → W p l e (rmv 5 120) s m args below meth c H locs 0 0 Q (F0 m 11 ls []) := by
          intro n11_
          induction n11_ with
          | zero => intro x n1 hx1 hn11 hm11; exact absurd hm11 (by omega)
          | succ n11_ ih11 =>
            intro x n1 hx1 hn11 hm11 H locs hI ls hl
            refine lv_iload_n hx hb dX3_countRows_11 rfl (lv_at hl 3 rfl) ?_
            refine lv_aload_n hx hb dX3_countRows_12 rfl (lv_at hl 0 rfl) ?_
            refine va_get (D := D) (ci := 3) (v := .int (nI t)) (C := RX3) (T := TX3) (N := 10) hx hb hts inX3 hown hK.1 hI.2.1 0 rfl rfl 0 (by decide) (hts _ k422) (fun _ h9 => h9) rfl dX3_countRows_13 ?_
            refine nb_gt (tgt := 60) hx hb dX3_countRows_16 (by decide) (by omega) (by omega) (fun c16 => ?_) (fun c16 => ?_)
            · refine lv_iinc (v := nI (y + 1)) (lv' := [(2, .int (nI (y + 1))), (0, .ref (b 0)), (1, .int (nI n1)), (3, .int (nI x))]) hx hb dX3_countRows_60 hl (k := 2) rfl (inc_n _ 1) (by decide) rfl (fun ls hl => ?_)
              refine lv_goto (tgt := 4) hx hb dX3_countRows_63 (by decide) ?_
              exact ih4 (y + 1) n1 (by omega) (by have e9 : rowsK S t y = fb_sm (fun w => rowsIn S (w * 4 + y)) x := (by unfold rowsK; rw [show t + 1 = x by omega]); rw [fb_sm_succ]; omega) (by omega) H locs hI ls (lv_sub hl [1, 2, 0] rfl)
            · refine lv_iconst (v := nI 0) hx hb dX3_countRows_19 (by decide) ?_
              refine lv_istore (lv' := [(4, .int (nI 0)), (0, .ref (b 0)), (1, .int (nI n1)), (2, .int (nI y)), (3, .int (nI x))]) hx hb dX3_countRows_20 hl (by decide) rfl (fun ls hl => ?_)
              have J22 : ∀ (n22_ : Nat) (dy : Nat) (n1 : Nat) (hd : dy ≤ 32) (hn22 : n1 = fb_sm (rowsK S t) y + fb_sm (fun w => rowsIn S (w * 4 + y)) x + fb_ct (isRw S (x * 4 + y)) dy) (hm22 : 32 < dy + n22_) (H : Heap) (locs : List Loc), wi D z noA (mw b cI cZ (nI t) th vs kt kv wt wa fl tr ch X) s H locs → ∀ ls : Array Slot, lv_has ls 5 [(0, .ref (b 0)), (1, .int (nI n1)), (2, .int (nI y)), (3, .int (nI x)), (4, .int (nI dy))] → W p l e (rmv 5 120) s m args below meth c H locs 0 0 Q (F0 m 22 ls []) := by
                intro n22_
                induction n22_ with
                | zero => intro dy n1 hd hn22 hm22; exact absurd hm22 (by omega)
                | succ n22_ ih22 =>
                  intro dy n1 hd hn22 hm22 H locs hI ls hl
                  refine lv_iload hx hb dX3_countRows_22 (lv_at hl 4 rfl) ?_
                  refine lv_bipush (v := nI 32) hx hb dX3_countRows_24 (by decide) ?_
                  refine nb_ge (tgt := 54) hx hb dX3_countRows_26 (by decide) (by omega) (by omega) (fun c26 => ?_) (fun c26 => ?_)
                  · refine lv_iinc (v := nI (x + 1)) (lv' := [(3, .int (nI (x + 1))), (0, .ref (b 0)), (1, .int (nI n1)), (2, .int (nI y)), (4, .int (nI dy))]) hx hb dX3_countRows_54 hl (k := 3) rfl (inc_n _ 1) (by decide) rfl (fun ls hl => ?_)
                    refine lv_goto (tgt := 11) hx hb dX3_countRows_57 (by decide) ?_
                    exact ih11 (x + 1) n1 (by omega) (by have e9 : rowsIn S (x * 4 + y) = fb_ct (isRw S (x * 4 + y)) dy := (by unfold rowsIn; rw [show 32 = dy by omega]); rw [fb_sm_succ]; show _ = _ + (_ + rowsIn S (x * 4 + y)); omega) (by omega) H locs hI ls (lv_sub hl [1, 2, 3, 0] rfl)
                  · refine lv_iload_n hx hb dX3_countRows_29 rfl (lv_at hl 1 rfl) ?_
                    refine lv_aload_n hx hb dX3_countRows_30 rfl (lv_at hl 0 rfl) ?_
                    refine lv_iload_n hx hb dX3_countRows_31 rfl (lv_at hl 3 rfl) ?_
                    refine lv_iload_n hx hb dX3_countRows_32 rfl (lv_at hl 2 rfl) ?_
                    refine lv_iload hx hb dX3_countRows_33 (lv_at hl 4 rfl) ?_
                    refine k_ro (run_v (As := [.int (nI x), .int (nI y), .int (nI dy)]) (rest := [.int (nI n1)]) hF hK hI (c_X3_isRow hM ht (by omega) (by omega) (by omega)) cf_X3_isRow k503 0 3 rfl rfl ⟨Nat.le_of_ble_eq_true rfl, Nat.le_of_ble_eq_true rfl⟩ ⟨rfl, rfl⟩ ⟨Nat.le_of_ble_eq_true rfl, Nat.le_of_ble_eq_true rfl⟩ rfl hl.1 rfl (Nat.le_of_ble_eq_true rfl) dX3_countRows_35) hI (fun H locs hI => ?_)
                    refine bz_eq (tgt := 45) hx hb dX3_countRows_38 (by decide) (fun c38 => ?_) (fun c38 => ?_)
                    · refine lv_iconst (v := nI 0) hx hb dX3_countRows_45 (by decide) ?_
                      refine lv_iadd hx hb dX3_countRows_46 ?_
                      refine tp (nI_add _ _) ?_
                      refine lv_istore_n (lv' := [(1, .int (nI (n1 + 0))), (0, .ref (b 0)), (2, .int (nI y)), (3, .int (nI x)), (4, .int (nI dy))]) hx hb dX3_countRows_47 rfl hl (by decide) rfl (fun ls hl => ?_)
                      refine lv_iinc (v := nI (dy + 1)) (lv' := [(4, .int (nI (dy + 1))), (1, .int (nI (n1 + 0))), (0, .ref (b 0)), (2, .int (nI y)), (3, .int (nI x))]) hx hb dX3_countRows_48 hl (k := 4) rfl (inc_n _ 1) (by decide) rfl (fun ls hl => ?_)
                      refine lv_goto (tgt := 22) hx hb dX3_countRows_51 (by decide) ?_
                      exact ih22 (dy + 1) (n1 + 0) (by omega) (by rw [fb_ct_succ, c38]; simp; omega) (by omega) H locs hI ls (lv_sub hl [2, 1, 3, 4, 0] rfl)
                    · refine lv_iconst (v := nI 1) hx hb dX3_countRows_41 (by decide) ?_
                      refine lv_goto (tgt := 46) hx hb dX3_countRows_42 (by decide) ?_
                      refine lv_iadd hx hb dX3_countRows_46 ?_
                      refine tp (nI_add _ _) ?_
                      refine lv_istore_n (lv' := [(1, .int (nI (n1 + 1))), (0, .ref (b 0)), (2, .int (nI y)), (3, .int (nI x)), (4, .int (nI dy))]) hx hb dX3_countRows_47 rfl hl (by decide) rfl (fun ls hl => ?_)
                      refine lv_iinc (v := nI (dy + 1)) (lv' := [(4, .int (nI (dy + 1))), (1, .int (nI (n1 + 1))), (0, .ref (b 0)), (2, .int (nI y)), (3, .int (nI x))]) hx hb dX3_countRows_48 hl (k := 4) rfl (inc_n _ 1) (by decide) rfl (fun ls hl => ?_)
                      refine lv_goto (tgt := 22) hx hb dX3_countRows_51 (by decide) ?_
                      exact ih22 (dy + 1) (n1 + 1) (by omega) (by rw [fb_ct_succ, c38]; simp; omega) (by omega) H locs hI ls (lv_sub hl [2, 1, 3, 4, 0] rfl)
              exact J22 (32 + 1) 0 n1 (by omega) (by rw [fb_ct]; omega) (by omega) H locs hI ls (lv_sub hl [1, 2, 3, 4, 0] rfl)
        exact J11 (t + 1 + 1) 0 n1 (by omega) (by rw [fb_sm]; omega) (by omega) H locs hI ls (lv_sub hl [1, 2, 3, 0] rfl)
  exact J4 (4 + 1) 0 0 (by omega) rfl (by omega) H locs hI ls (lv_sub hl [2, 1, 0] rfl)
set_option maxHeartbeats 4000000 in
set_option maxRecDepth 100000 in
theorem c_X3_heldIn {l : Launch} {D : va_G} {cI cZ cJ : ClassId} {z : Nat} {b : Nat → Nat} {X : va_W} {t : Nat} {th : Nat → Bool} {vs : Nat → Int32} {kt : Nat → Bool} {kv : Nat → Int32} {wt : Int32} {wa : Nat → Int32} {fl tr ch : Int32} {S : Sta} (hM : mAbs S th vs t) (ht : t < 40) {ky fr to : Nat} (h3 : ky < 4) (h4 : fr < to) (h5 : to ≤ 32) : roM l yX3_heldIn cX3_heldIn 6 (some .int) 1 22 [.ref (b 0), .int (nI ky), .int (nI fr), .int (nI to)] (pw D cI cZ cJ z (mw b cI cZ (nI t) th vs kt kv wt wa fl tr ch X)) (nI (held S (t * 4 + ky) fr (to - fr))) := by
  refine bd_ro (by decide) (Nat.le_of_ble_eq_true rfl) ?_
  intro p e s m args below meth c Q hF hpw hret ls hl
  obtain ⟨hx, hb, hml, hown, hts, hr, hlocks⟩ := id hF
  have hK := hpw.2.2.2
  have hI : wi D z noA (mw b cI cZ (nI t) th vs kt kv wt wa fl tr ch X) s s.heap [] := hpw.wi
  have hl : lv_has ls 6 [(0, .ref (b 0)), (1, .int (nI ky)), (2, .int (nI fr)), (3, .int (nI to))] := hl
  suffices hgo : ∀ (H : Heap) (locs : List Loc), wi D z noA (mw b cI cZ (nI t) th vs kt kv wt wa fl tr ch X) s H locs → ∀ ls : Array Slot, lv_has ls 6 [(0, .ref (b 0)), (1, .int (nI ky)), (2, .int (nI fr)), (3, .int (nI to))] → W p l e (rmv 1 22) s m args below meth c H locs 0 0 Q (F0 m 0 ls []) from hgo _ _ hI ls hl
  intro H locs hI ls hl
  refine lv_iconst (v := nI 0) hx hb dX3_heldIn_0 (by decide) ?_
  refine lv_istore (lv' := [(4, .int (nI 0)), (0, .ref (b 0)), (1, .int (nI ky)), (2, .int (nI fr)), (3, .int (nI to))]) hx hb dX3_heldIn_1 hl (by decide) rfl (fun ls hl => ?_)
  refine lv_iload_n hx hb dX3_heldIn_3 rfl (lv_at hl 3 rfl) ?_
  refine lv_istore (lv' := [(5, .int (nI fr)), (4, .int (nI 0)), (0, .ref (b 0)), (1, .int (nI ky)), (2, .int (nI fr)), (3, .int (nI to))]) hx hb dX3_heldIn_4 hl (by decide) rfl (fun ls hl => ?_)
  have J6 : ∀ (n6_ : Nat) (x : Nat) (n1 : Nat) (hx1 : x ≤ to) (hx0 : fr ≤ x) (hn : n1 = held S (t * 4 + ky) fr (x - fr)) (hm6 : to < x + n6_) (H : Heap) (locs : List Loc), wi D z noA (mw b cI cZ (nI t) th vs kt kv wt wa fl tr ch X) s H locs → ∀ ls : Array Slot, lv_has ls 6 [(0, .ref (b 0)), (1, .int (nI ky)), (2, .int (nI fr)), (3, .int (nI to)), (4, .int (nI n1)), (5, .int (nI x))] → W p l e (rmv 1 22) s m args below meth c H locs 0 0 Q (F0 m 6 ls []) := by
    intro n6_
    induction n6_ with
    | zero => intro x n1 hx1 hx0 hn hm6; exact absurd hm6 (by omega)
    | succ n6_ ih6 =>
      intro x n1 hx1 hx0 hn hm6 H locs hI ls hl
      refine lv_iload hx hb dX3_heldIn_6 (lv_at hl 5 rfl) ?_
      refine lv_iload_n hx hb dX3_heldIn_8 rfl (lv_at hl 3 rfl) ?_
      refine nb_ge (tgt := 46) hx hb dX3_heldIn_9 (by decide) (by omega) (by omega) (fun c9 => ?_) (fun c9 => ?_)
      · refine lv_iload hx hb dX3_heldIn_46 (lv_at hl 4 rfl) ?_
        exact hret hI.2.2.2 dX3_heldIn_48 ((by rw [hn, show x = to by omega]))
      · refine lv_iload hx hb dX3_heldIn_12 (lv_at hl 4 rfl) ?_
        refine lv_aload_n hx hb dX3_heldIn_14 rfl (lv_at hl 0 rfl) ?_
        refine va_get (D := D) (ci := 3) (v := .ref (b 1)) (C := RX3) (T := TX3) (N := 10) hx hb hts inX3 hown hK.1 hI.2.1 0 rfl rfl 1 (by decide) (hts _ k423) (fun _ h9 => h9) rfl dX3_heldIn_15 ?_
        refine lv_aload_n hx hb dX3_heldIn_18 rfl (lv_at hl 0 rfl) ?_
        refine va_get (D := D) (ci := 3) (v := .int (nI t)) (C := RX3) (T := TX3) (N := 10) hx hb hts inX3 hown hK.1 hI.2.1 0 rfl rfl 0 (by decide) (hts _ k422) (fun _ h9 => h9) rfl dX3_heldIn_19 ?_
        refine lv_iload_n hx hb dX3_heldIn_22 rfl (lv_at hl 1 rfl) ?_
        refine lv_iload hx hb dX3_heldIn_23 (lv_at hl 5 rfl) ?_
        refine k_ro (run_s (As := [.int (nI t), .int (nI ky), .int (nI x)]) (rest := [.ref (b 1), .int (nI n1)]) hF (c_X3_place ) tt_blind (fun _ _ _ => trivial) cf_X3_place k492 ⟨Nat.le_of_ble_eq_true rfl, Nat.le_of_ble_eq_true rfl⟩ ⟨rfl, rfl⟩ ⟨Nat.le_of_ble_eq_true rfl, Nat.le_of_ble_eq_true rfl⟩ rfl hl.1 rfl (Nat.le_of_ble_eq_true rfl) dX3_heldIn_25) hI (fun H locs hI => ?_)
        refine zb_ld (f := th) (k := 128 * t + 32 * ky + x) hx hb hK hI 1 rfl dX3_heldIn_28 (by omega) (by decide) ?_
        refine bz_eq (tgt := 36) hx hb dX3_heldIn_29 (by decide) (fun c29 => ?_) (fun c29 => ?_)
        · refine lv_iconst (v := nI 0) hx hb dX3_heldIn_36 (by decide) ?_
          refine lv_iadd hx hb dX3_heldIn_37 ?_
          refine tp (nI_add _ _) ?_
          refine lv_istore (lv' := [(4, .int (nI (n1 + 0))), (0, .ref (b 0)), (1, .int (nI ky)), (2, .int (nI fr)), (3, .int (nI to)), (5, .int (nI x))]) hx hb dX3_heldIn_38 hl (by decide) rfl (fun ls hl => ?_)
          refine lv_iinc (v := nI (x + 1)) (lv' := [(5, .int (nI (x + 1))), (4, .int (nI (n1 + 0))), (0, .ref (b 0)), (1, .int (nI ky)), (2, .int (nI fr)), (3, .int (nI to))]) hx hb dX3_heldIn_40 hl (k := 5) rfl (inc_n _ 1) (by decide) rfl (fun ls hl => ?_)
          refine lv_goto (tgt := 6) hx hb dX3_heldIn_43 (by decide) ?_
          exact ih6 (x + 1) (n1 + 0) (by omega) (by omega) (by rw [show x + 1 - fr = x - fr + 1 by omega, held, fb_ct_succ, show fr + (x - fr) = x by omega, has_m hM (Nat.le_refl t) h3 (by omega), c29, ← held, ← hn]; rfl) (by omega) H locs hI ls (lv_sub hl [2, 3, 4, 5, 1, 0] rfl)
        · refine lv_iconst (v := nI 1) hx hb dX3_heldIn_32 (by decide) ?_
          refine lv_goto (tgt := 37) hx hb dX3_heldIn_33 (by decide) ?_
          refine lv_iadd hx hb dX3_heldIn_37 ?_
          refine tp (nI_add _ _) ?_
          refine lv_istore (lv' := [(4, .int (nI (n1 + 1))), (0, .ref (b 0)), (1, .int (nI ky)), (2, .int (nI fr)), (3, .int (nI to)), (5, .int (nI x))]) hx hb dX3_heldIn_38 hl (by decide) rfl (fun ls hl => ?_)
          refine lv_iinc (v := nI (x + 1)) (lv' := [(5, .int (nI (x + 1))), (4, .int (nI (n1 + 1))), (0, .ref (b 0)), (1, .int (nI ky)), (2, .int (nI fr)), (3, .int (nI to))]) hx hb dX3_heldIn_40 hl (k := 5) rfl (inc_n _ 1) (by decide) rfl (fun ls hl => ?_)
          refine lv_goto (tgt := 6) hx hb dX3_heldIn_43 (by decide) ?_
          exact ih6 (x + 1) (n1 + 1) (by omega) (by omega) (by rw [show x + 1 - fr = x - fr + 1 by omega, held, fb_ct_succ, show fr + (x - fr) = x by omega, has_m hM (Nat.le_refl t) h3 (by omega), c29, ← held, ← hn]; rfl) (by omega) H locs hI ls (lv_sub hl [2, 3, 4, 5, 1, 0] rfl)
  exact J6 (to + 1) fr 0 (by omega) (by omega) (by rw [Nat.sub_self]; rfl) (by omega) H locs hI ls (lv_sub hl [2, 3, 4, 5, 1, 0] rfl)
set_option maxHeartbeats 4000000 in
set_option maxRecDepth 100000 in
theorem c_X3_endTime {l : Launch} {D : va_G} {cI cZ cJ : ClassId} {z : Nat} {b : Nat → Nat} {X : va_W} {t : Nat} {th : Nat → Bool} {vs : Nat → Int32} {kt : Nat → Bool} {kv : Nat → Int32} {wt : Int32} {wa : Nat → Int32} {fl tr ch : Int32} {S : Sta} (hM : mAbs S th vs t) (ht : t < 40) {tm ky dy : Nat} (h1 : tm ≤ t) (h3 : ky < 4) (h2 : dy < 32) (hs : (S (tm * 4 + ky) dy).isSome = true) : roM l yX3_endTime cX3_endTime 7 (some .int) 4 97 [.ref (b 0), .int (nI tm), .int (nI ky), .int (nI dy)] (pw D cI cZ cJ z (mw b cI cZ (nI t) th vs kt kv wt wa fl tr ch X)) (endV S t tm ky dy) := by
  refine bd_ro (by decide) (Nat.le_of_ble_eq_true rfl) ?_
  intro p e s m args below meth c Q hF hpw hret ls hl
  obtain ⟨hx, hb, hml, hown, hts, hr, hlocks⟩ := id hF
  have hK := hpw.2.2.2
  have hI : wi D z noA (mw b cI cZ (nI t) th vs kt kv wt wa fl tr ch X) s s.heap [] := hpw.wi
  have hl : lv_has ls 7 [(0, .ref (b 0)), (1, .int (nI tm)), (2, .int (nI ky)), (3, .int (nI dy))] := hl
  suffices hgo : ∀ (H : Heap) (locs : List Loc), wi D z noA (mw b cI cZ (nI t) th vs kt kv wt wa fl tr ch X) s H locs → ∀ ls : Array Slot, lv_has ls 7 [(0, .ref (b 0)), (1, .int (nI tm)), (2, .int (nI ky)), (3, .int (nI dy))] → W p l e (rmv 4 97) s m args below meth c H locs 0 0 Q (F0 m 0 ls []) from hgo _ _ hI ls hl
  intro H locs hI ls hl
  refine lv_aload_n hx hb dX3_endTime_0 rfl (lv_at hl 0 rfl) ?_
  refine lv_iload_n hx hb dX3_endTime_1 rfl (lv_at hl 1 rfl) ?_
  refine lv_iload_n hx hb dX3_endTime_2 rfl (lv_at hl 2 rfl) ?_
  refine lv_iload_n hx hb dX3_endTime_3 rfl (lv_at hl 3 rfl) ?_
  refine k_ro (run_v (As := [.int (nI tm), .int (nI ky), .int (nI dy)]) (rest := []) hF hK hI (c_X3_endOf hM ht (by omega) (by omega) (by omega)) cf_X3_endOf k515 0 3 rfl rfl ⟨Nat.le_of_ble_eq_true rfl, Nat.le_of_ble_eq_true rfl⟩ ⟨rfl, rfl⟩ ⟨Nat.le_of_ble_eq_true rfl, Nat.le_of_ble_eq_true rfl⟩ rfl hl.1 rfl (Nat.le_of_ble_eq_true rfl) dX3_endTime_4) hI (fun H locs hI => ?_)
  refine lv_istore (lv' := [(4, .int (nI (rend S (tm * 4 + ky) dy))), (0, .ref (b 0)), (1, .int (nI tm)), (2, .int (nI ky)), (3, .int (nI dy))]) hx hb dX3_endTime_7 hl (by decide) rfl (fun ls hl => ?_)
  refine lv_aload_n hx hb dX3_endTime_9 rfl (lv_at hl 1 rfl) ?_
  refine va_get (D := D) (ci := 3) (v := .ref (b 2)) (C := RX3) (T := TX3) (N := 10) hx hb hts inX3 hown hK.1 hI.2.1 0 rfl rfl 2 (by decide) (hts _ k424) (fun _ h9 => h9) rfl dX3_endTime_10 ?_
  refine lv_iload_n hx hb dX3_endTime_13 rfl (lv_at hl 2 rfl) ?_
  refine lv_iload_n hx hb dX3_endTime_14 rfl (lv_at hl 3 rfl) ?_
  refine lv_iload_n hx hb dX3_endTime_15 rfl (lv_at hl 4 rfl) ?_
  refine k_ro (run_s (As := [.int (nI tm), .int (nI ky), .int (nI dy)]) (rest := [.ref (b 2)]) hF (c_X3_place ) tt_blind (fun _ _ _ => trivial) cf_X3_place k492 ⟨Nat.le_of_ble_eq_true rfl, Nat.le_of_ble_eq_true rfl⟩ ⟨rfl, rfl⟩ ⟨Nat.le_of_ble_eq_true rfl, Nat.le_of_ble_eq_true rfl⟩ rfl hl.1 rfl (Nat.le_of_ble_eq_true rfl) dX3_endTime_16) hI (fun H locs hI => ?_)
  refine ia_ld (f := vs) (k := 128 * tm + 32 * ky + dy) hx hb hK hI 2 rfl dX3_endTime_19 (by omega) (by decide) ?_
  refine lv_istore (lv' := [(5, .int (vs (128 * tm + 32 * ky + dy))), (4, .int (nI (rend S (tm * 4 + ky) dy))), (0, .ref (b 0)), (1, .int (nI tm)), (2, .int (nI ky)), (3, .int (nI dy))]) hx hb dX3_endTime_20 hl (by decide) rfl (fun ls hl => ?_)
  refine lv_iload_n hx hb dX3_endTime_22 rfl (lv_at hl 3 rfl) ?_
  refine lv_iconst (v := nI 1) hx hb dX3_endTime_23 (by decide) ?_
  refine lv_iadd hx hb dX3_endTime_24 ?_
  refine tp (nI_add _ _) ?_
  refine lv_istore (lv' := [(6, .int (nI (tm + 1))), (5, .int (vs (128 * tm + 32 * ky + dy))), (4, .int (nI (rend S (tm * 4 + ky) dy))), (0, .ref (b 0)), (1, .int (nI tm)), (2, .int (nI ky)), (3, .int (nI dy))]) hx hb dX3_endTime_25 hl (by decide) rfl (fun ls hl => ?_)
  have J27 : ∀ (n27_ : Nat) (x : Nat) (hx1 : x ≤ t + 1) (hx0 : tm < x) (hxe : endV S t tm ky dy = endF S (tm * 4 + ky) ky dy (t + 1 - x) x) (hm27 : t + 1 < x + n27_) (H : Heap) (locs : List Loc), wi D z noA (mw b cI cZ (nI t) th vs kt kv wt wa fl tr ch X) s H locs → ∀ ls : Array Slot, lv_has ls 7 [(0, .ref (b 0)), (1, .int (nI tm)), (2, .int (nI ky)), (3, .int (nI dy)), (4, .int (nI (rend S (tm * 4 + ky) dy))), (5, .int (vs (128 * tm + 32 * ky + dy))), (6, .int (nI x))] → W p l e (rmv 4 97) s m args below meth c H locs 0 0 Q (F0 m 27 ls []) := by
    intro n27_
    induction n27_ with
    | zero => intro x hx1 hx0 hxe hm27; exact absurd hm27 (by omega)
    | succ n27_ ih27 =>
      intro x hx1 hx0 hxe hm27 H locs hI ls hl
      refine lv_iload hx hb dX3_endTime_27 (lv_at hl 6 rfl) ?_
      refine lv_aload_n hx hb dX3_endTime_29 rfl (lv_at hl 0 rfl) ?_
      refine va_get (D := D) (ci := 3) (v := .int (nI t)) (C := RX3) (T := TX3) (N := 10) hx hb hts inX3 hown hK.1 hI.2.1 0 rfl rfl 0 (by decide) (hts _ k422) (fun _ h9 => h9) rfl dX3_endTime_30 ?_
      refine nb_gt (tgt := 57) hx hb dX3_endTime_33 (by decide) (by omega) (by omega) (fun c33 => ?_) (fun c33 => ?_)
      · refine lv_iload hx hb dX3_endTime_57 (lv_at hl 6 rfl) ?_
        refine lv_aload_n hx hb dX3_endTime_59 rfl (lv_at hl 0 rfl) ?_
        refine va_get (D := D) (ci := 3) (v := .int (nI t)) (C := RX3) (T := TX3) (N := 10) hx hb hts inX3 hown hK.1 hI.2.1 0 rfl rfl 0 (by decide) (hts _ k422) (fun _ h9 => h9) rfl dX3_endTime_60 ?_
        refine nb_le (tgt := 70) hx hb dX3_endTime_63 (by decide) (by omega) (by omega) (fun c63 => ?_) (fun c63 => ?_)
        · refine lv_iload hx hb dX3_endTime_70 (lv_at hl 6 rfl) ?_
          exact hret hI.2.2.2 dX3_endTime_72 ((by first | omega | (rw [hxe, show t + 1 - x = 0 by omega]; rfl) | (rw [hxe, end_no (by omega) ((isRn_shr (val_m hM h1 h3 h2 hs)).symm.trans c48)]) | exact absurd c33 (by omega)))
        · refine lv_iconst (v := (-1 : Int32)) hx hb dX3_endTime_66 (by decide) ?_
          refine lv_goto (tgt := 72) hx hb dX3_endTime_67 (by decide) ?_
          exact hret hI.2.2.2 dX3_endTime_72 ((by first | omega | (rw [hxe, show t + 1 - x = 0 by omega]; rfl) | (rw [hxe, end_no (by omega) ((isRn_shr (val_m hM h1 h3 h2 hs)).symm.trans c48)]) | exact absurd c33 (by omega)))
      · refine lv_aload_n hx hb dX3_endTime_36 rfl (lv_at hl 0 rfl) ?_
        refine lv_iload hx hb dX3_endTime_37 (lv_at hl 6 rfl) ?_
        refine lv_iload_n hx hb dX3_endTime_39 rfl (lv_at hl 2 rfl) ?_
        refine lv_iload_n hx hb dX3_endTime_40 rfl (lv_at hl 3 rfl) ?_
        refine lv_iload hx hb dX3_endTime_41 (lv_at hl 4 rfl) ?_
        refine lv_iload hx hb dX3_endTime_43 (lv_at hl 5 rfl) ?_
        have g1 := rend_in (S := S) (sl := tm * 4 + ky) h2
        refine k_ro (run_v (As := [.int (nI x), .int (nI ky), .int (nI dy), .int (nI (rend S (tm * 4 + ky) dy)), .int (vs (128 * tm + 32 * ky + dy))]) (rest := []) hF hK hI (c_X3_isRun hM ht (by omega) (by omega) (by omega) (by omega)) cf_X3_isRun k519 0 3 rfl rfl ⟨Nat.le_of_ble_eq_true rfl, Nat.le_of_ble_eq_true rfl⟩ ⟨rfl, rfl⟩ ⟨Nat.le_of_ble_eq_true rfl, Nat.le_of_ble_eq_true rfl⟩ rfl hl.1 rfl (Nat.le_of_ble_eq_true rfl) dX3_endTime_45) hI (fun H locs hI => ?_)
        refine bz_eq (tgt := 57) hx hb dX3_endTime_48 (by decide) (fun c48 => ?_) (fun c48 => ?_)
        · refine lv_iload hx hb dX3_endTime_57 (lv_at hl 6 rfl) ?_
          refine lv_aload_n hx hb dX3_endTime_59 rfl (lv_at hl 0 rfl) ?_
          refine va_get (D := D) (ci := 3) (v := .int (nI t)) (C := RX3) (T := TX3) (N := 10) hx hb hts inX3 hown hK.1 hI.2.1 0 rfl rfl 0 (by decide) (hts _ k422) (fun _ h9 => h9) rfl dX3_endTime_60 ?_
          refine nb_le (tgt := 70) hx hb dX3_endTime_63 (by decide) (by omega) (by omega) (fun c63 => ?_) (fun c63 => ?_)
          · refine lv_iload hx hb dX3_endTime_70 (lv_at hl 6 rfl) ?_
            exact hret hI.2.2.2 dX3_endTime_72 ((by first | omega | (rw [hxe, show t + 1 - x = 0 by omega]; rfl) | (rw [hxe, end_no (by omega) ((isRn_shr (val_m hM h1 h3 h2 hs)).symm.trans c48)]) | exact absurd c33 (by omega)))
          · refine lv_iconst (v := (-1 : Int32)) hx hb dX3_endTime_66 (by decide) ?_
            refine lv_goto (tgt := 72) hx hb dX3_endTime_67 (by decide) ?_
            exact hret hI.2.2.2 dX3_endTime_72 ((by first | omega | (rw [hxe, show t + 1 - x = 0 by omega]; rfl) | (rw [hxe, end_no (by omega) ((isRn_shr (val_m hM h1 h3 h2 hs)).symm.trans c48)]) | exact absurd c33 (by omega)))
        · refine lv_iinc (v := nI (x + 1)) (lv' := [(6, .int (nI (x + 1))), (0, .ref (b 0)), (1, .int (nI tm)), (2, .int (nI ky)), (3, .int (nI dy)), (4, .int (nI (rend S (tm * 4 + ky) dy))), (5, .int (vs (128 * tm + 32 * ky + dy)))]) hx hb dX3_endTime_51 hl (k := 6) rfl (inc_n _ 1) (by decide) rfl (fun ls hl => ?_)
          refine lv_goto (tgt := 27) hx hb dX3_endTime_54 (by decide) ?_
          exact ih27 (x + 1) (by omega) (by omega) (hxe.trans (end_go (by omega) ((isRn_shr (val_m hM h1 h3 h2 hs)).symm.trans c48))) (by omega) H locs hI ls (lv_sub hl [1, 2, 3, 4, 5, 6, 0] rfl)
  exact J27 (t + 1 + 1) (tm + 1) (by omega) (by omega) (by rw [endV, show t - tm = t + 1 - (tm + 1) by omega]) (by omega) H locs hI ls (lv_sub hl [3, 4, 5, 6, 2, 1, 0] rfl)
set_option maxHeartbeats 4000000 in
set_option maxRecDepth 100000 in
theorem c_X3_early {l : Launch} {fa fb fc fd : Nat} (h1 : fa ≤ 32) (h2 : fb ≤ 32) (h3 : fc ≤ 32) (h4 : fd ≤ 32) (h5 : fa < fb)  : roM l yX3_early cX3_early 4 (some .int) 0 0 [.int (nI fa), .int (nI fb), .int (nI fc), .int (nI fd)] (fun _ => True) (fwdI fa fb fc fd) := by
  refine bd_ro (by decide) (Nat.le_of_ble_eq_true rfl) ?_
  intro p e s m args below meth c Q hF hpw hret ls hl
  obtain ⟨hx, hb, hml, hown, hts, hr, hlocks⟩ := id hF
  have hI : va_S noA s.heap s.heap [] := va_S.rf
  have hl : lv_has ls 4 [(0, .int (nI fa)), (1, .int (nI fb)), (2, .int (nI fc)), (3, .int (nI fd))] := hl
  suffices hgo : ∀ (H : Heap) (locs : List Loc), va_S noA s.heap H locs → ∀ ls : Array Slot, lv_has ls 4 [(0, .int (nI fa)), (1, .int (nI fb)), (2, .int (nI fc)), (3, .int (nI fd))] → W p l e (rmv 0 0) s m args below meth c H locs 0 0 Q (F0 m 0 ls []) from hgo _ _ hI ls hl
  intro H locs hI ls hl
  refine lv_iload_n hx hb dX3_early_0 rfl (lv_at hl 1 rfl) ?_
  refine lv_iload_n hx hb dX3_early_1 rfl (lv_at hl 2 rfl) ?_
  refine nb_ge (tgt := 7) hx hb dX3_early_2 (by decide) (by omega) (by omega) (fun c2 => ?_) (fun c2 => ?_)
  · refine lv_iload_n hx hb dX3_early_7 rfl (lv_at hl 1 rfl) ?_
    refine lv_iload_n hx hb dX3_early_8 rfl (lv_at hl 2 rfl) ?_
    refine nb_ne (tgt := 14) hx hb dX3_early_9 (by decide) (by omega) (by omega) (fun c9 => ?_) (fun c9 => ?_)
    · refine lv_iload_n hx hb dX3_early_14 rfl (lv_at hl 0 rfl) ?_
      refine lv_iload_n hx hb dX3_early_15 rfl (lv_at hl 2 rfl) ?_
      refine nb_ge (tgt := 26) hx hb dX3_early_16 (by decide) (by omega) (by omega) (fun c16 => ?_) (fun c16 => ?_)
      · refine lv_iload_n hx hb dX3_early_26 rfl (lv_at hl 0 rfl) ?_
        refine lv_iload_n hx hb dX3_early_27 rfl (lv_at hl 2 rfl) ?_
        refine nb_ne (tgt := 38) hx hb dX3_early_28 (by decide) (by omega) (by omega) (fun c28 => ?_) (fun c28 => ?_)
        · refine lv_iload_n hx hb dX3_early_38 rfl (lv_at hl 0 rfl) ?_
          refine lv_iload_n hx hb dX3_early_39 rfl (lv_at hl 2 rfl) ?_
          refine nb_le (tgt := 59) hx hb dX3_early_40 (by decide) (by omega) (by omega) (fun c40 => ?_) (fun c40 => ?_)
          · refine lv_iload_n hx hb dX3_early_59 rfl (lv_at hl 0 rfl) ?_
            refine lv_iload_n hx hb dX3_early_60 rfl (lv_at hl 2 rfl) ?_
            refine nb_le (tgt := 71) hx hb dX3_early_61 (by decide) (by omega) (by omega) (fun c61 => ?_) (fun c61 => ?_)
            · refine lv_iload_n hx hb dX3_early_71 rfl (lv_at hl 0 rfl) ?_
              refine lv_iload_n hx hb dX3_early_72 rfl (lv_at hl 2 rfl) ?_
              refine nb_ne (tgt := 86) hx hb dX3_early_73 (by decide) (by omega) (by omega) (fun c73 => ?_) (fun c73 => ?_)
              · refine lv_iconst (v := (-1 : Int32)) hx hb dX3_early_86 (by decide) ?_
                exact hret hI dX3_early_87 ((by first | (exfalso; omega) | (unfold fwdI; repeat (first | rw [if_pos (by omega)] | rw [if_neg (by omega)]))))
              · refine lv_iload_n hx hb dX3_early_76 rfl (lv_at hl 1 rfl) ?_
                refine lv_iload_n hx hb dX3_early_77 rfl (lv_at hl 3 rfl) ?_
                refine nb_ne (tgt := 86) hx hb dX3_early_78 (by decide) (by omega) (by omega) (fun c78 => ?_) (fun c78 => ?_)
                · refine lv_iconst (v := (-1 : Int32)) hx hb dX3_early_86 (by decide) ?_
                  exact hret hI dX3_early_87 ((by first | (exfalso; omega) | (unfold fwdI; repeat (first | rw [if_pos (by omega)] | rw [if_neg (by omega)]))))
                · refine lv_bipush (v := nI 6) hx hb dX3_early_81 (by decide) ?_
                  refine lv_goto (tgt := 87) hx hb dX3_early_83 (by decide) ?_
                  exact hret hI dX3_early_87 ((by first | (exfalso; omega) | (unfold fwdI; repeat (first | rw [if_pos (by omega)] | rw [if_neg (by omega)]))))
            · refine lv_iload_n hx hb dX3_early_64 rfl (lv_at hl 1 rfl) ?_
              refine lv_iload_n hx hb dX3_early_65 rfl (lv_at hl 3 rfl) ?_
              refine nb_ne (tgt := 71) hx hb dX3_early_66 (by decide) (by omega) (by omega) (fun c66 => ?_) (fun c66 => ?_)
              · refine lv_iload_n hx hb dX3_early_71 rfl (lv_at hl 0 rfl) ?_
                refine lv_iload_n hx hb dX3_early_72 rfl (lv_at hl 2 rfl) ?_
                refine nb_ne (tgt := 86) hx hb dX3_early_73 (by decide) (by omega) (by omega) (fun c73 => ?_) (fun c73 => ?_)
                · refine lv_iconst (v := (-1 : Int32)) hx hb dX3_early_86 (by decide) ?_
                  exact hret hI dX3_early_87 ((by first | (exfalso; omega) | (unfold fwdI; repeat (first | rw [if_pos (by omega)] | rw [if_neg (by omega)]))))
                · refine lv_iload_n hx hb dX3_early_76 rfl (lv_at hl 1 rfl) ?_
                  refine lv_iload_n hx hb dX3_early_77 rfl (lv_at hl 3 rfl) ?_
                  refine nb_ne (tgt := 86) hx hb dX3_early_78 (by decide) (by omega) (by omega) (fun c78 => ?_) (fun c78 => ?_)
                  · refine lv_iconst (v := (-1 : Int32)) hx hb dX3_early_86 (by decide) ?_
                    exact hret hI dX3_early_87 ((by first | (exfalso; omega) | (unfold fwdI; repeat (first | rw [if_pos (by omega)] | rw [if_neg (by omega)]))))
                  · refine lv_bipush (v := nI 6) hx hb dX3_early_81 (by decide) ?_
                    refine lv_goto (tgt := 87) hx hb dX3_early_83 (by decide) ?_
                    exact hret hI dX3_early_87 ((by first | (exfalso; omega) | (unfold fwdI; repeat (first | rw [if_pos (by omega)] | rw [if_neg (by omega)]))))
              · refine lv_iconst (v := nI 5) hx hb dX3_early_69 (by decide) ?_
                exact hret hI dX3_early_70 ((by first | (exfalso; omega) | (unfold fwdI; repeat (first | rw [if_pos (by omega)] | rw [if_neg (by omega)]))))
          · refine lv_iload_n hx hb dX3_early_43 rfl (lv_at hl 1 rfl) ?_
            refine lv_iload_n hx hb dX3_early_44 rfl (lv_at hl 3 rfl) ?_
            refine nb_ge (tgt := 59) hx hb dX3_early_45 (by decide) (by omega) (by omega) (fun c45 => ?_) (fun c45 => ?_)
            · refine lv_iload_n hx hb dX3_early_59 rfl (lv_at hl 0 rfl) ?_
              refine lv_iload_n hx hb dX3_early_60 rfl (lv_at hl 2 rfl) ?_
              refine nb_le (tgt := 71) hx hb dX3_early_61 (by decide) (by omega) (by omega) (fun c61 => ?_) (fun c61 => ?_)
              · refine lv_iload_n hx hb dX3_early_71 rfl (lv_at hl 0 rfl) ?_
                refine lv_iload_n hx hb dX3_early_72 rfl (lv_at hl 2 rfl) ?_
                refine nb_ne (tgt := 86) hx hb dX3_early_73 (by decide) (by omega) (by omega) (fun c73 => ?_) (fun c73 => ?_)
                · refine lv_iconst (v := (-1 : Int32)) hx hb dX3_early_86 (by decide) ?_
                  exact hret hI dX3_early_87 ((by first | (exfalso; omega) | (unfold fwdI; repeat (first | rw [if_pos (by omega)] | rw [if_neg (by omega)]))))
                · refine lv_iload_n hx hb dX3_early_76 rfl (lv_at hl 1 rfl) ?_
                  refine lv_iload_n hx hb dX3_early_77 rfl (lv_at hl 3 rfl) ?_
                  refine nb_ne (tgt := 86) hx hb dX3_early_78 (by decide) (by omega) (by omega) (fun c78 => ?_) (fun c78 => ?_)
                  · refine lv_iconst (v := (-1 : Int32)) hx hb dX3_early_86 (by decide) ?_
                    exact hret hI dX3_early_87 ((by first | (exfalso; omega) | (unfold fwdI; repeat (first | rw [if_pos (by omega)] | rw [if_neg (by omega)]))))
                  · refine lv_bipush (v := nI 6) hx hb dX3_early_81 (by decide) ?_
                    refine lv_goto (tgt := 87) hx hb dX3_early_83 (by decide) ?_
                    exact hret hI dX3_early_87 ((by first | (exfalso; omega) | (unfold fwdI; repeat (first | rw [if_pos (by omega)] | rw [if_neg (by omega)]))))
              · refine lv_iload_n hx hb dX3_early_64 rfl (lv_at hl 1 rfl) ?_
                refine lv_iload_n hx hb dX3_early_65 rfl (lv_at hl 3 rfl) ?_
                refine nb_ne (tgt := 71) hx hb dX3_early_66 (by decide) (by omega) (by omega) (fun c66 => ?_) (fun c66 => ?_)
                · refine lv_iload_n hx hb dX3_early_71 rfl (lv_at hl 0 rfl) ?_
                  refine lv_iload_n hx hb dX3_early_72 rfl (lv_at hl 2 rfl) ?_
                  refine nb_ne (tgt := 86) hx hb dX3_early_73 (by decide) (by omega) (by omega) (fun c73 => ?_) (fun c73 => ?_)
                  · refine lv_iconst (v := (-1 : Int32)) hx hb dX3_early_86 (by decide) ?_
                    exact hret hI dX3_early_87 ((by first | (exfalso; omega) | (unfold fwdI; repeat (first | rw [if_pos (by omega)] | rw [if_neg (by omega)]))))
                  · refine lv_iload_n hx hb dX3_early_76 rfl (lv_at hl 1 rfl) ?_
                    refine lv_iload_n hx hb dX3_early_77 rfl (lv_at hl 3 rfl) ?_
                    refine nb_ne (tgt := 86) hx hb dX3_early_78 (by decide) (by omega) (by omega) (fun c78 => ?_) (fun c78 => ?_)
                    · refine lv_iconst (v := (-1 : Int32)) hx hb dX3_early_86 (by decide) ?_
                      exact hret hI dX3_early_87 ((by first | (exfalso; omega) | (unfold fwdI; repeat (first | rw [if_pos (by omega)] | rw [if_neg (by omega)]))))
                    · refine lv_bipush (v := nI 6) hx hb dX3_early_81 (by decide) ?_
                      refine lv_goto (tgt := 87) hx hb dX3_early_83 (by decide) ?_
                      exact hret hI dX3_early_87 ((by first | (exfalso; omega) | (unfold fwdI; repeat (first | rw [if_pos (by omega)] | rw [if_neg (by omega)]))))
                · refine lv_iconst (v := nI 5) hx hb dX3_early_69 (by decide) ?_
                  exact hret hI dX3_early_70 ((by first | (exfalso; omega) | (unfold fwdI; repeat (first | rw [if_pos (by omega)] | rw [if_neg (by omega)]))))
            · refine lv_iload_n hx hb dX3_early_48 rfl (lv_at hl 0 rfl) ?_
              refine lv_iload_n hx hb dX3_early_49 rfl (lv_at hl 3 rfl) ?_
              refine nb_ge (tgt := 57) hx hb dX3_early_50 (by decide) (by omega) (by omega) (fun c50 => ?_) (fun c50 => ?_)
              · refine lv_iconst (v := (-1 : Int32)) hx hb dX3_early_57 (by decide) ?_
                exact hret hI dX3_early_58 ((by first | (exfalso; omega) | (unfold fwdI; repeat (first | rw [if_pos (by omega)] | rw [if_neg (by omega)]))))
              · refine lv_iconst (v := nI 4) hx hb dX3_early_53 (by decide) ?_
                refine lv_goto (tgt := 58) hx hb dX3_early_54 (by decide) ?_
                exact hret hI dX3_early_58 ((by first | (exfalso; omega) | (unfold fwdI; repeat (first | rw [if_pos (by omega)] | rw [if_neg (by omega)]))))
        · refine lv_iload_n hx hb dX3_early_31 rfl (lv_at hl 1 rfl) ?_
          refine lv_iload_n hx hb dX3_early_32 rfl (lv_at hl 3 rfl) ?_
          refine nb_ge (tgt := 38) hx hb dX3_early_33 (by decide) (by omega) (by omega) (fun c33 => ?_) (fun c33 => ?_)
          · refine lv_iload_n hx hb dX3_early_38 rfl (lv_at hl 0 rfl) ?_
            refine lv_iload_n hx hb dX3_early_39 rfl (lv_at hl 2 rfl) ?_
            refine nb_le (tgt := 59) hx hb dX3_early_40 (by decide) (by omega) (by omega) (fun c40 => ?_) (fun c40 => ?_)
            · refine lv_iload_n hx hb dX3_early_59 rfl (lv_at hl 0 rfl) ?_
              refine lv_iload_n hx hb dX3_early_60 rfl (lv_at hl 2 rfl) ?_
              refine nb_le (tgt := 71) hx hb dX3_early_61 (by decide) (by omega) (by omega) (fun c61 => ?_) (fun c61 => ?_)
              · refine lv_iload_n hx hb dX3_early_71 rfl (lv_at hl 0 rfl) ?_
                refine lv_iload_n hx hb dX3_early_72 rfl (lv_at hl 2 rfl) ?_
                refine nb_ne (tgt := 86) hx hb dX3_early_73 (by decide) (by omega) (by omega) (fun c73 => ?_) (fun c73 => ?_)
                · refine lv_iconst (v := (-1 : Int32)) hx hb dX3_early_86 (by decide) ?_
                  exact hret hI dX3_early_87 ((by first | (exfalso; omega) | (unfold fwdI; repeat (first | rw [if_pos (by omega)] | rw [if_neg (by omega)]))))
                · refine lv_iload_n hx hb dX3_early_76 rfl (lv_at hl 1 rfl) ?_
                  refine lv_iload_n hx hb dX3_early_77 rfl (lv_at hl 3 rfl) ?_
                  refine nb_ne (tgt := 86) hx hb dX3_early_78 (by decide) (by omega) (by omega) (fun c78 => ?_) (fun c78 => ?_)
                  · refine lv_iconst (v := (-1 : Int32)) hx hb dX3_early_86 (by decide) ?_
                    exact hret hI dX3_early_87 ((by first | (exfalso; omega) | (unfold fwdI; repeat (first | rw [if_pos (by omega)] | rw [if_neg (by omega)]))))
                  · refine lv_bipush (v := nI 6) hx hb dX3_early_81 (by decide) ?_
                    refine lv_goto (tgt := 87) hx hb dX3_early_83 (by decide) ?_
                    exact hret hI dX3_early_87 ((by first | (exfalso; omega) | (unfold fwdI; repeat (first | rw [if_pos (by omega)] | rw [if_neg (by omega)]))))
              · refine lv_iload_n hx hb dX3_early_64 rfl (lv_at hl 1 rfl) ?_
                refine lv_iload_n hx hb dX3_early_65 rfl (lv_at hl 3 rfl) ?_
                refine nb_ne (tgt := 71) hx hb dX3_early_66 (by decide) (by omega) (by omega) (fun c66 => ?_) (fun c66 => ?_)
                · refine lv_iload_n hx hb dX3_early_71 rfl (lv_at hl 0 rfl) ?_
                  refine lv_iload_n hx hb dX3_early_72 rfl (lv_at hl 2 rfl) ?_
                  refine nb_ne (tgt := 86) hx hb dX3_early_73 (by decide) (by omega) (by omega) (fun c73 => ?_) (fun c73 => ?_)
                  · refine lv_iconst (v := (-1 : Int32)) hx hb dX3_early_86 (by decide) ?_
                    exact hret hI dX3_early_87 ((by first | (exfalso; omega) | (unfold fwdI; repeat (first | rw [if_pos (by omega)] | rw [if_neg (by omega)]))))
                  · refine lv_iload_n hx hb dX3_early_76 rfl (lv_at hl 1 rfl) ?_
                    refine lv_iload_n hx hb dX3_early_77 rfl (lv_at hl 3 rfl) ?_
                    refine nb_ne (tgt := 86) hx hb dX3_early_78 (by decide) (by omega) (by omega) (fun c78 => ?_) (fun c78 => ?_)
                    · refine lv_iconst (v := (-1 : Int32)) hx hb dX3_early_86 (by decide) ?_
                      exact hret hI dX3_early_87 ((by first | (exfalso; omega) | (unfold fwdI; repeat (first | rw [if_pos (by omega)] | rw [if_neg (by omega)]))))
                    · refine lv_bipush (v := nI 6) hx hb dX3_early_81 (by decide) ?_
                      refine lv_goto (tgt := 87) hx hb dX3_early_83 (by decide) ?_
                      exact hret hI dX3_early_87 ((by first | (exfalso; omega) | (unfold fwdI; repeat (first | rw [if_pos (by omega)] | rw [if_neg (by omega)]))))
                · refine lv_iconst (v := nI 5) hx hb dX3_early_69 (by decide) ?_
                  exact hret hI dX3_early_70 ((by first | (exfalso; omega) | (unfold fwdI; repeat (first | rw [if_pos (by omega)] | rw [if_neg (by omega)]))))
            · refine lv_iload_n hx hb dX3_early_43 rfl (lv_at hl 1 rfl) ?_
              refine lv_iload_n hx hb dX3_early_44 rfl (lv_at hl 3 rfl) ?_
              refine nb_ge (tgt := 59) hx hb dX3_early_45 (by decide) (by omega) (by omega) (fun c45 => ?_) (fun c45 => ?_)
              · refine lv_iload_n hx hb dX3_early_59 rfl (lv_at hl 0 rfl) ?_
                refine lv_iload_n hx hb dX3_early_60 rfl (lv_at hl 2 rfl) ?_
                refine nb_le (tgt := 71) hx hb dX3_early_61 (by decide) (by omega) (by omega) (fun c61 => ?_) (fun c61 => ?_)
                · refine lv_iload_n hx hb dX3_early_71 rfl (lv_at hl 0 rfl) ?_
                  refine lv_iload_n hx hb dX3_early_72 rfl (lv_at hl 2 rfl) ?_
                  refine nb_ne (tgt := 86) hx hb dX3_early_73 (by decide) (by omega) (by omega) (fun c73 => ?_) (fun c73 => ?_)
                  · refine lv_iconst (v := (-1 : Int32)) hx hb dX3_early_86 (by decide) ?_
                    exact hret hI dX3_early_87 ((by first | (exfalso; omega) | (unfold fwdI; repeat (first | rw [if_pos (by omega)] | rw [if_neg (by omega)]))))
                  · refine lv_iload_n hx hb dX3_early_76 rfl (lv_at hl 1 rfl) ?_
                    refine lv_iload_n hx hb dX3_early_77 rfl (lv_at hl 3 rfl) ?_
                    refine nb_ne (tgt := 86) hx hb dX3_early_78 (by decide) (by omega) (by omega) (fun c78 => ?_) (fun c78 => ?_)
                    · refine lv_iconst (v := (-1 : Int32)) hx hb dX3_early_86 (by decide) ?_
                      exact hret hI dX3_early_87 ((by first | (exfalso; omega) | (unfold fwdI; repeat (first | rw [if_pos (by omega)] | rw [if_neg (by omega)]))))
                    · refine lv_bipush (v := nI 6) hx hb dX3_early_81 (by decide) ?_
                      refine lv_goto (tgt := 87) hx hb dX3_early_83 (by decide) ?_
                      exact hret hI dX3_early_87 ((by first | (exfalso; omega) | (unfold fwdI; repeat (first | rw [if_pos (by omega)] | rw [if_neg (by omega)]))))
                · refine lv_iload_n hx hb dX3_early_64 rfl (lv_at hl 1 rfl) ?_
                  refine lv_iload_n hx hb dX3_early_65 rfl (lv_at hl 3 rfl) ?_
                  refine nb_ne (tgt := 71) hx hb dX3_early_66 (by decide) (by omega) (by omega) (fun c66 => ?_) (fun c66 => ?_)
                  · refine lv_iload_n hx hb dX3_early_71 rfl (lv_at hl 0 rfl) ?_
                    refine lv_iload_n hx hb dX3_early_72 rfl (lv_at hl 2 rfl) ?_
                    refine nb_ne (tgt := 86) hx hb dX3_early_73 (by decide) (by omega) (by omega) (fun c73 => ?_) (fun c73 => ?_)
                    · refine lv_iconst (v := (-1 : Int32)) hx hb dX3_early_86 (by decide) ?_
                      exact hret hI dX3_early_87 ((by first | (exfalso; omega) | (unfold fwdI; repeat (first | rw [if_pos (by omega)] | rw [if_neg (by omega)]))))
                    · refine lv_iload_n hx hb dX3_early_76 rfl (lv_at hl 1 rfl) ?_
                      refine lv_iload_n hx hb dX3_early_77 rfl (lv_at hl 3 rfl) ?_
                      refine nb_ne (tgt := 86) hx hb dX3_early_78 (by decide) (by omega) (by omega) (fun c78 => ?_) (fun c78 => ?_)
                      · refine lv_iconst (v := (-1 : Int32)) hx hb dX3_early_86 (by decide) ?_
                        exact hret hI dX3_early_87 ((by first | (exfalso; omega) | (unfold fwdI; repeat (first | rw [if_pos (by omega)] | rw [if_neg (by omega)]))))
                      · refine lv_bipush (v := nI 6) hx hb dX3_early_81 (by decide) ?_
                        refine lv_goto (tgt := 87) hx hb dX3_early_83 (by decide) ?_
                        exact hret hI dX3_early_87 ((by first | (exfalso; omega) | (unfold fwdI; repeat (first | rw [if_pos (by omega)] | rw [if_neg (by omega)]))))
                  · refine lv_iconst (v := nI 5) hx hb dX3_early_69 (by decide) ?_
                    exact hret hI dX3_early_70 ((by first | (exfalso; omega) | (unfold fwdI; repeat (first | rw [if_pos (by omega)] | rw [if_neg (by omega)]))))
              · refine lv_iload_n hx hb dX3_early_48 rfl (lv_at hl 0 rfl) ?_
                refine lv_iload_n hx hb dX3_early_49 rfl (lv_at hl 3 rfl) ?_
                refine nb_ge (tgt := 57) hx hb dX3_early_50 (by decide) (by omega) (by omega) (fun c50 => ?_) (fun c50 => ?_)
                · refine lv_iconst (v := (-1 : Int32)) hx hb dX3_early_57 (by decide) ?_
                  exact hret hI dX3_early_58 ((by first | (exfalso; omega) | (unfold fwdI; repeat (first | rw [if_pos (by omega)] | rw [if_neg (by omega)]))))
                · refine lv_iconst (v := nI 4) hx hb dX3_early_53 (by decide) ?_
                  refine lv_goto (tgt := 58) hx hb dX3_early_54 (by decide) ?_
                  exact hret hI dX3_early_58 ((by first | (exfalso; omega) | (unfold fwdI; repeat (first | rw [if_pos (by omega)] | rw [if_neg (by omega)]))))
          · refine lv_iconst (v := nI 3) hx hb dX3_early_36 (by decide) ?_
            exact hret hI dX3_early_37 ((by first | (exfalso; omega) | (unfold fwdI; repeat (first | rw [if_pos (by omega)] | rw [if_neg (by omega)]))))
      · refine lv_iload_n hx hb dX3_early_19 rfl (lv_at hl 1 rfl) ?_
        refine lv_iload_n hx hb dX3_early_20 rfl (lv_at hl 3 rfl) ?_
        refine nb_ge (tgt := 26) hx hb dX3_early_21 (by decide) (by omega) (by omega) (fun c21 => ?_) (fun c21 => ?_)
        · refine lv_iload_n hx hb dX3_early_26 rfl (lv_at hl 0 rfl) ?_
          refine lv_iload_n hx hb dX3_early_27 rfl (lv_at hl 2 rfl) ?_
          refine nb_ne (tgt := 38) hx hb dX3_early_28 (by decide) (by omega) (by omega) (fun c28 => ?_) (fun c28 => ?_)
          · refine lv_iload_n hx hb dX3_early_38 rfl (lv_at hl 0 rfl) ?_
            refine lv_iload_n hx hb dX3_early_39 rfl (lv_at hl 2 rfl) ?_
            refine nb_le (tgt := 59) hx hb dX3_early_40 (by decide) (by omega) (by omega) (fun c40 => ?_) (fun c40 => ?_)
            · refine lv_iload_n hx hb dX3_early_59 rfl (lv_at hl 0 rfl) ?_
              refine lv_iload_n hx hb dX3_early_60 rfl (lv_at hl 2 rfl) ?_
              refine nb_le (tgt := 71) hx hb dX3_early_61 (by decide) (by omega) (by omega) (fun c61 => ?_) (fun c61 => ?_)
              · refine lv_iload_n hx hb dX3_early_71 rfl (lv_at hl 0 rfl) ?_
                refine lv_iload_n hx hb dX3_early_72 rfl (lv_at hl 2 rfl) ?_
                refine nb_ne (tgt := 86) hx hb dX3_early_73 (by decide) (by omega) (by omega) (fun c73 => ?_) (fun c73 => ?_)
                · refine lv_iconst (v := (-1 : Int32)) hx hb dX3_early_86 (by decide) ?_
                  exact hret hI dX3_early_87 ((by first | (exfalso; omega) | (unfold fwdI; repeat (first | rw [if_pos (by omega)] | rw [if_neg (by omega)]))))
                · refine lv_iload_n hx hb dX3_early_76 rfl (lv_at hl 1 rfl) ?_
                  refine lv_iload_n hx hb dX3_early_77 rfl (lv_at hl 3 rfl) ?_
                  refine nb_ne (tgt := 86) hx hb dX3_early_78 (by decide) (by omega) (by omega) (fun c78 => ?_) (fun c78 => ?_)
                  · refine lv_iconst (v := (-1 : Int32)) hx hb dX3_early_86 (by decide) ?_
                    exact hret hI dX3_early_87 ((by first | (exfalso; omega) | (unfold fwdI; repeat (first | rw [if_pos (by omega)] | rw [if_neg (by omega)]))))
                  · refine lv_bipush (v := nI 6) hx hb dX3_early_81 (by decide) ?_
                    refine lv_goto (tgt := 87) hx hb dX3_early_83 (by decide) ?_
                    exact hret hI dX3_early_87 ((by first | (exfalso; omega) | (unfold fwdI; repeat (first | rw [if_pos (by omega)] | rw [if_neg (by omega)]))))
              · refine lv_iload_n hx hb dX3_early_64 rfl (lv_at hl 1 rfl) ?_
                refine lv_iload_n hx hb dX3_early_65 rfl (lv_at hl 3 rfl) ?_
                refine nb_ne (tgt := 71) hx hb dX3_early_66 (by decide) (by omega) (by omega) (fun c66 => ?_) (fun c66 => ?_)
                · refine lv_iload_n hx hb dX3_early_71 rfl (lv_at hl 0 rfl) ?_
                  refine lv_iload_n hx hb dX3_early_72 rfl (lv_at hl 2 rfl) ?_
                  refine nb_ne (tgt := 86) hx hb dX3_early_73 (by decide) (by omega) (by omega) (fun c73 => ?_) (fun c73 => ?_)
                  · refine lv_iconst (v := (-1 : Int32)) hx hb dX3_early_86 (by decide) ?_
                    exact hret hI dX3_early_87 ((by first | (exfalso; omega) | (unfold fwdI; repeat (first | rw [if_pos (by omega)] | rw [if_neg (by omega)]))))
                  · refine lv_iload_n hx hb dX3_early_76 rfl (lv_at hl 1 rfl) ?_
                    refine lv_iload_n hx hb dX3_early_77 rfl (lv_at hl 3 rfl) ?_
                    refine nb_ne (tgt := 86) hx hb dX3_early_78 (by decide) (by omega) (by omega) (fun c78 => ?_) (fun c78 => ?_)
                    · refine lv_iconst (v := (-1 : Int32)) hx hb dX3_early_86 (by decide) ?_
                      exact hret hI dX3_early_87 ((by first | (exfalso; omega) | (unfold fwdI; repeat (first | rw [if_pos (by omega)] | rw [if_neg (by omega)]))))
                    · refine lv_bipush (v := nI 6) hx hb dX3_early_81 (by decide) ?_
                      refine lv_goto (tgt := 87) hx hb dX3_early_83 (by decide) ?_
                      exact hret hI dX3_early_87 ((by first | (exfalso; omega) | (unfold fwdI; repeat (first | rw [if_pos (by omega)] | rw [if_neg (by omega)]))))
                · refine lv_iconst (v := nI 5) hx hb dX3_early_69 (by decide) ?_
                  exact hret hI dX3_early_70 ((by first | (exfalso; omega) | (unfold fwdI; repeat (first | rw [if_pos (by omega)] | rw [if_neg (by omega)]))))
            · refine lv_iload_n hx hb dX3_early_43 rfl (lv_at hl 1 rfl) ?_
              refine lv_iload_n hx hb dX3_early_44 rfl (lv_at hl 3 rfl) ?_
              refine nb_ge (tgt := 59) hx hb dX3_early_45 (by decide) (by omega) (by omega) (fun c45 => ?_) (fun c45 => ?_)
              · refine lv_iload_n hx hb dX3_early_59 rfl (lv_at hl 0 rfl) ?_
                refine lv_iload_n hx hb dX3_early_60 rfl (lv_at hl 2 rfl) ?_
                refine nb_le (tgt := 71) hx hb dX3_early_61 (by decide) (by omega) (by omega) (fun c61 => ?_) (fun c61 => ?_)
                · refine lv_iload_n hx hb dX3_early_71 rfl (lv_at hl 0 rfl) ?_
                  refine lv_iload_n hx hb dX3_early_72 rfl (lv_at hl 2 rfl) ?_
                  refine nb_ne (tgt := 86) hx hb dX3_early_73 (by decide) (by omega) (by omega) (fun c73 => ?_) (fun c73 => ?_)
                  · refine lv_iconst (v := (-1 : Int32)) hx hb dX3_early_86 (by decide) ?_
                    exact hret hI dX3_early_87 ((by first | (exfalso; omega) | (unfold fwdI; repeat (first | rw [if_pos (by omega)] | rw [if_neg (by omega)]))))
                  · refine lv_iload_n hx hb dX3_early_76 rfl (lv_at hl 1 rfl) ?_
                    refine lv_iload_n hx hb dX3_early_77 rfl (lv_at hl 3 rfl) ?_
                    refine nb_ne (tgt := 86) hx hb dX3_early_78 (by decide) (by omega) (by omega) (fun c78 => ?_) (fun c78 => ?_)
                    · refine lv_iconst (v := (-1 : Int32)) hx hb dX3_early_86 (by decide) ?_
                      exact hret hI dX3_early_87 ((by first | (exfalso; omega) | (unfold fwdI; repeat (first | rw [if_pos (by omega)] | rw [if_neg (by omega)]))))
                    · refine lv_bipush (v := nI 6) hx hb dX3_early_81 (by decide) ?_
                      refine lv_goto (tgt := 87) hx hb dX3_early_83 (by decide) ?_
                      exact hret hI dX3_early_87 ((by first | (exfalso; omega) | (unfold fwdI; repeat (first | rw [if_pos (by omega)] | rw [if_neg (by omega)]))))
                · refine lv_iload_n hx hb dX3_early_64 rfl (lv_at hl 1 rfl) ?_
                  refine lv_iload_n hx hb dX3_early_65 rfl (lv_at hl 3 rfl) ?_
                  refine nb_ne (tgt := 71) hx hb dX3_early_66 (by decide) (by omega) (by omega) (fun c66 => ?_) (fun c66 => ?_)
                  · refine lv_iload_n hx hb dX3_early_71 rfl (lv_at hl 0 rfl) ?_
                    refine lv_iload_n hx hb dX3_early_72 rfl (lv_at hl 2 rfl) ?_
                    refine nb_ne (tgt := 86) hx hb dX3_early_73 (by decide) (by omega) (by omega) (fun c73 => ?_) (fun c73 => ?_)
                    · refine lv_iconst (v := (-1 : Int32)) hx hb dX3_early_86 (by decide) ?_
                      exact hret hI dX3_early_87 ((by first | (exfalso; omega) | (unfold fwdI; repeat (first | rw [if_pos (by omega)] | rw [if_neg (by omega)]))))
                    · refine lv_iload_n hx hb dX3_early_76 rfl (lv_at hl 1 rfl) ?_
                      refine lv_iload_n hx hb dX3_early_77 rfl (lv_at hl 3 rfl) ?_
                      refine nb_ne (tgt := 86) hx hb dX3_early_78 (by decide) (by omega) (by omega) (fun c78 => ?_) (fun c78 => ?_)
                      · refine lv_iconst (v := (-1 : Int32)) hx hb dX3_early_86 (by decide) ?_
                        exact hret hI dX3_early_87 ((by first | (exfalso; omega) | (unfold fwdI; repeat (first | rw [if_pos (by omega)] | rw [if_neg (by omega)]))))
                      · refine lv_bipush (v := nI 6) hx hb dX3_early_81 (by decide) ?_
                        refine lv_goto (tgt := 87) hx hb dX3_early_83 (by decide) ?_
                        exact hret hI dX3_early_87 ((by first | (exfalso; omega) | (unfold fwdI; repeat (first | rw [if_pos (by omega)] | rw [if_neg (by omega)]))))
                  · refine lv_iconst (v := nI 5) hx hb dX3_early_69 (by decide) ?_
                    exact hret hI dX3_early_70 ((by first | (exfalso; omega) | (unfold fwdI; repeat (first | rw [if_pos (by omega)] | rw [if_neg (by omega)]))))
              · refine lv_iload_n hx hb dX3_early_48 rfl (lv_at hl 0 rfl) ?_
                refine lv_iload_n hx hb dX3_early_49 rfl (lv_at hl 3 rfl) ?_
                refine nb_ge (tgt := 57) hx hb dX3_early_50 (by decide) (by omega) (by omega) (fun c50 => ?_) (fun c50 => ?_)
                · refine lv_iconst (v := (-1 : Int32)) hx hb dX3_early_57 (by decide) ?_
                  exact hret hI dX3_early_58 ((by first | (exfalso; omega) | (unfold fwdI; repeat (first | rw [if_pos (by omega)] | rw [if_neg (by omega)]))))
                · refine lv_iconst (v := nI 4) hx hb dX3_early_53 (by decide) ?_
                  refine lv_goto (tgt := 58) hx hb dX3_early_54 (by decide) ?_
                  exact hret hI dX3_early_58 ((by first | (exfalso; omega) | (unfold fwdI; repeat (first | rw [if_pos (by omega)] | rw [if_neg (by omega)]))))
          · refine lv_iload_n hx hb dX3_early_31 rfl (lv_at hl 1 rfl) ?_
            refine lv_iload_n hx hb dX3_early_32 rfl (lv_at hl 3 rfl) ?_
            refine nb_ge (tgt := 38) hx hb dX3_early_33 (by decide) (by omega) (by omega) (fun c33 => ?_) (fun c33 => ?_)
            · refine lv_iload_n hx hb dX3_early_38 rfl (lv_at hl 0 rfl) ?_
              refine lv_iload_n hx hb dX3_early_39 rfl (lv_at hl 2 rfl) ?_
              refine nb_le (tgt := 59) hx hb dX3_early_40 (by decide) (by omega) (by omega) (fun c40 => ?_) (fun c40 => ?_)
              · refine lv_iload_n hx hb dX3_early_59 rfl (lv_at hl 0 rfl) ?_
                refine lv_iload_n hx hb dX3_early_60 rfl (lv_at hl 2 rfl) ?_
                refine nb_le (tgt := 71) hx hb dX3_early_61 (by decide) (by omega) (by omega) (fun c61 => ?_) (fun c61 => ?_)
                · refine lv_iload_n hx hb dX3_early_71 rfl (lv_at hl 0 rfl) ?_
                  refine lv_iload_n hx hb dX3_early_72 rfl (lv_at hl 2 rfl) ?_
                  refine nb_ne (tgt := 86) hx hb dX3_early_73 (by decide) (by omega) (by omega) (fun c73 => ?_) (fun c73 => ?_)
                  · refine lv_iconst (v := (-1 : Int32)) hx hb dX3_early_86 (by decide) ?_
                    exact hret hI dX3_early_87 ((by first | (exfalso; omega) | (unfold fwdI; repeat (first | rw [if_pos (by omega)] | rw [if_neg (by omega)]))))
                  · refine lv_iload_n hx hb dX3_early_76 rfl (lv_at hl 1 rfl) ?_
                    refine lv_iload_n hx hb dX3_early_77 rfl (lv_at hl 3 rfl) ?_
                    refine nb_ne (tgt := 86) hx hb dX3_early_78 (by decide) (by omega) (by omega) (fun c78 => ?_) (fun c78 => ?_)
                    · refine lv_iconst (v := (-1 : Int32)) hx hb dX3_early_86 (by decide) ?_
                      exact hret hI dX3_early_87 ((by first | (exfalso; omega) | (unfold fwdI; repeat (first | rw [if_pos (by omega)] | rw [if_neg (by omega)]))))
                    · refine lv_bipush (v := nI 6) hx hb dX3_early_81 (by decide) ?_
                      refine lv_goto (tgt := 87) hx hb dX3_early_83 (by decide) ?_
                      exact hret hI dX3_early_87 ((by first | (exfalso; omega) | (unfold fwdI; repeat (first | rw [if_pos (by omega)] | rw [if_neg (by omega)]))))
                · refine lv_iload_n hx hb dX3_early_64 rfl (lv_at hl 1 rfl) ?_
                  refine lv_iload_n hx hb dX3_early_65 rfl (lv_at hl 3 rfl) ?_
                  refine nb_ne (tgt := 71) hx hb dX3_early_66 (by decide) (by omega) (by omega) (fun c66 => ?_) (fun c66 => ?_)
                  · refine lv_iload_n hx hb dX3_early_71 rfl (lv_at hl 0 rfl) ?_
                    refine lv_iload_n hx hb dX3_early_72 rfl (lv_at hl 2 rfl) ?_
                    refine nb_ne (tgt := 86) hx hb dX3_early_73 (by decide) (by omega) (by omega) (fun c73 => ?_) (fun c73 => ?_)
                    · refine lv_iconst (v := (-1 : Int32)) hx hb dX3_early_86 (by decide) ?_
                      exact hret hI dX3_early_87 ((by first | (exfalso; omega) | (unfold fwdI; repeat (first | rw [if_pos (by omega)] | rw [if_neg (by omega)]))))
                    · refine lv_iload_n hx hb dX3_early_76 rfl (lv_at hl 1 rfl) ?_
                      refine lv_iload_n hx hb dX3_early_77 rfl (lv_at hl 3 rfl) ?_
                      refine nb_ne (tgt := 86) hx hb dX3_early_78 (by decide) (by omega) (by omega) (fun c78 => ?_) (fun c78 => ?_)
                      · refine lv_iconst (v := (-1 : Int32)) hx hb dX3_early_86 (by decide) ?_
                        exact hret hI dX3_early_87 ((by first | (exfalso; omega) | (unfold fwdI; repeat (first | rw [if_pos (by omega)] | rw [if_neg (by omega)]))))
                      · refine lv_bipush (v := nI 6) hx hb dX3_early_81 (by decide) ?_
                        refine lv_goto (tgt := 87) hx hb dX3_early_83 (by decide) ?_
                        exact hret hI dX3_early_87 ((by first | (exfalso; omega) | (unfold fwdI; repeat (first | rw [if_pos (by omega)] | rw [if_neg (by omega)]))))
                  · refine lv_iconst (v := nI 5) hx hb dX3_early_69 (by decide) ?_
                    exact hret hI dX3_early_70 ((by first | (exfalso; omega) | (unfold fwdI; repeat (first | rw [if_pos (by omega)] | rw [if_neg (by omega)]))))
              · refine lv_iload_n hx hb dX3_early_43 rfl (lv_at hl 1 rfl) ?_
                refine lv_iload_n hx hb dX3_early_44 rfl (lv_at hl 3 rfl) ?_
                refine nb_ge (tgt := 59) hx hb dX3_early_45 (by decide) (by omega) (by omega) (fun c45 => ?_) (fun c45 => ?_)
                · refine lv_iload_n hx hb dX3_early_59 rfl (lv_at hl 0 rfl) ?_
                  refine lv_iload_n hx hb dX3_early_60 rfl (lv_at hl 2 rfl) ?_
                  refine nb_le (tgt := 71) hx hb dX3_early_61 (by decide) (by omega) (by omega) (fun c61 => ?_) (fun c61 => ?_)
                  · refine lv_iload_n hx hb dX3_early_71 rfl (lv_at hl 0 rfl) ?_
                    refine lv_iload_n hx hb dX3_early_72 rfl (lv_at hl 2 rfl) ?_
                    refine nb_ne (tgt := 86) hx hb dX3_early_73 (by decide) (by omega) (by omega) (fun c73 => ?_) (fun c73 => ?_)
                    · refine lv_iconst (v := (-1 : Int32)) hx hb dX3_early_86 (by decide) ?_
                      exact hret hI dX3_early_87 ((by first | (exfalso; omega) | (unfold fwdI; repeat (first | rw [if_pos (by omega)] | rw [if_neg (by omega)]))))
                    · refine lv_iload_n hx hb dX3_early_76 rfl (lv_at hl 1 rfl) ?_
                      refine lv_iload_n hx hb dX3_early_77 rfl (lv_at hl 3 rfl) ?_
                      refine nb_ne (tgt := 86) hx hb dX3_early_78 (by decide) (by omega) (by omega) (fun c78 => ?_) (fun c78 => ?_)
                      · refine lv_iconst (v := (-1 : Int32)) hx hb dX3_early_86 (by decide) ?_
                        exact hret hI dX3_early_87 ((by first | (exfalso; omega) | (unfold fwdI; repeat (first | rw [if_pos (by omega)] | rw [if_neg (by omega)]))))
                      · refine lv_bipush (v := nI 6) hx hb dX3_early_81 (by decide) ?_
                        refine lv_goto (tgt := 87) hx hb dX3_early_83 (by decide) ?_
                        exact hret hI dX3_early_87 ((by first | (exfalso; omega) | (unfold fwdI; repeat (first | rw [if_pos (by omega)] | rw [if_neg (by omega)]))))
                  · refine lv_iload_n hx hb dX3_early_64 rfl (lv_at hl 1 rfl) ?_
                    refine lv_iload_n hx hb dX3_early_65 rfl (lv_at hl 3 rfl) ?_
                    refine nb_ne (tgt := 71) hx hb dX3_early_66 (by decide) (by omega) (by omega) (fun c66 => ?_) (fun c66 => ?_)
                    · refine lv_iload_n hx hb dX3_early_71 rfl (lv_at hl 0 rfl) ?_
                      refine lv_iload_n hx hb dX3_early_72 rfl (lv_at hl 2 rfl) ?_
                      refine nb_ne (tgt := 86) hx hb dX3_early_73 (by decide) (by omega) (by omega) (fun c73 => ?_) (fun c73 => ?_)
                      · refine lv_iconst (v := (-1 : Int32)) hx hb dX3_early_86 (by decide) ?_
                        exact hret hI dX3_early_87 ((by first | (exfalso; omega) | (unfold fwdI; repeat (first | rw [if_pos (by omega)] | rw [if_neg (by omega)]))))
                      · refine lv_iload_n hx hb dX3_early_76 rfl (lv_at hl 1 rfl) ?_
                        refine lv_iload_n hx hb dX3_early_77 rfl (lv_at hl 3 rfl) ?_
                        refine nb_ne (tgt := 86) hx hb dX3_early_78 (by decide) (by omega) (by omega) (fun c78 => ?_) (fun c78 => ?_)
                        · refine lv_iconst (v := (-1 : Int32)) hx hb dX3_early_86 (by decide) ?_
                          exact hret hI dX3_early_87 ((by first | (exfalso; omega) | (unfold fwdI; repeat (first | rw [if_pos (by omega)] | rw [if_neg (by omega)]))))
                        · refine lv_bipush (v := nI 6) hx hb dX3_early_81 (by decide) ?_
                          refine lv_goto (tgt := 87) hx hb dX3_early_83 (by decide) ?_
                          exact hret hI dX3_early_87 ((by first | (exfalso; omega) | (unfold fwdI; repeat (first | rw [if_pos (by omega)] | rw [if_neg (by omega)]))))
                    · refine lv_iconst (v := nI 5) hx hb dX3_early_69 (by decide) ?_
                      exact hret hI dX3_early_70 ((by first | (exfalso; omega) | (unfold fwdI; repeat (first | rw [if_pos (by omega)] | rw [if_neg (by omega)]))))
                · refine lv_iload_n hx hb dX3_early_48 rfl (lv_at hl 0 rfl) ?_
                  refine lv_iload_n hx hb dX3_early_49 rfl (lv_at hl 3 rfl) ?_
                  refine nb_ge (tgt := 57) hx hb dX3_early_50 (by decide) (by omega) (by omega) (fun c50 => ?_) (fun c50 => ?_)
                  · refine lv_iconst (v := (-1 : Int32)) hx hb dX3_early_57 (by decide) ?_
                    exact hret hI dX3_early_58 ((by first | (exfalso; omega) | (unfold fwdI; repeat (first | rw [if_pos (by omega)] | rw [if_neg (by omega)]))))
                  · refine lv_iconst (v := nI 4) hx hb dX3_early_53 (by decide) ?_
                    refine lv_goto (tgt := 58) hx hb dX3_early_54 (by decide) ?_
                    exact hret hI dX3_early_58 ((by first | (exfalso; omega) | (unfold fwdI; repeat (first | rw [if_pos (by omega)] | rw [if_neg (by omega)]))))
            · refine lv_iconst (v := nI 3) hx hb dX3_early_36 (by decide) ?_
              exact hret hI dX3_early_37 ((by first | (exfalso; omega) | (unfold fwdI; repeat (first | rw [if_pos (by omega)] | rw [if_neg (by omega)]))))
        · refine lv_iconst (v := nI 2) hx hb dX3_early_24 (by decide) ?_
          exact hret hI dX3_early_25 ((by first | (exfalso; omega) | (unfold fwdI; repeat (first | rw [if_pos (by omega)] | rw [if_neg (by omega)]))))
    · refine lv_iconst (v := nI 1) hx hb dX3_early_12 (by decide) ?_
      exact hret hI dX3_early_13 ((by first | (exfalso; omega) | (unfold fwdI; repeat (first | rw [if_pos (by omega)] | rw [if_neg (by omega)]))))
  · refine lv_iconst (v := nI 0) hx hb dX3_early_5 (by decide) ?_
    exact hret hI dX3_early_6 ((by first | (exfalso; omega) | (unfold fwdI; repeat (first | rw [if_pos (by omega)] | rw [if_neg (by omega)]))))
set_option maxHeartbeats 4000000 in
set_option maxRecDepth 100000 in
theorem c_X3_lies {l : Launch} {fa fb fc fd : Nat} (h1 : fa ≤ 32) (h2 : fb ≤ 32) (h3 : fc ≤ 32) (h4 : fd ≤ 32) (h5 : fa < fb) (h6 : fc < fd) : roM l yX3_lies cX3_lies 5 (some .int) 1 23 [.int (nI fa), .int (nI fb), .int (nI fc), .int (nI fd)] (fun _ => True) (nI (rel fa fb fc fd)) := by
  refine bd_ro (by decide) (Nat.le_of_ble_eq_true rfl) ?_
  intro p e s m args below meth c Q hF hpw hret ls hl
  obtain ⟨hx, hb, hml, hown, hts, hr, hlocks⟩ := id hF
  have hI : va_S noA s.heap s.heap [] := va_S.rf
  have hl : lv_has ls 5 [(0, .int (nI fa)), (1, .int (nI fb)), (2, .int (nI fc)), (3, .int (nI fd))] := hl
  suffices hgo : ∀ (H : Heap) (locs : List Loc), va_S noA s.heap H locs → ∀ ls : Array Slot, lv_has ls 5 [(0, .int (nI fa)), (1, .int (nI fb)), (2, .int (nI fc)), (3, .int (nI fd))] → W p l e (rmv 1 23) s m args below meth c H locs 0 0 Q (F0 m 0 ls []) from hgo _ _ hI ls hl
  intro H locs hI ls hl
  refine lv_iload_n hx hb dX3_lies_0 rfl (lv_at hl 0 rfl) ?_
  refine lv_iload_n hx hb dX3_lies_1 rfl (lv_at hl 1 rfl) ?_
  refine lv_iload_n hx hb dX3_lies_2 rfl (lv_at hl 2 rfl) ?_
  refine lv_iload_n hx hb dX3_lies_3 rfl (lv_at hl 3 rfl) ?_
  refine k_roS (run_s (As := [.int (nI fa), .int (nI fb), .int (nI fc), .int (nI fd)]) (rest := []) hF (c_X3_early (by omega) (by omega) (by omega) (by omega) (by omega)) tt_blind (fun _ _ _ => trivial) cf_X3_early k589 ⟨Nat.le_of_ble_eq_true rfl, Nat.le_of_ble_eq_true rfl⟩ ⟨rfl, rfl⟩ ⟨Nat.le_of_ble_eq_true rfl, Nat.le_of_ble_eq_true rfl⟩ rfl hl.1 rfl (Nat.le_of_ble_eq_true rfl) dX3_lies_4) hI (fun H locs hI => ?_)
  refine lv_istore (lv' := [(4, .int (fwdI fa fb fc fd)), (0, .int (nI fa)), (1, .int (nI fb)), (2, .int (nI fc)), (3, .int (nI fd))]) hx hb dX3_lies_7 hl (by decide) rfl (fun ls hl => ?_)
  refine lv_iload hx hb dX3_lies_9 (lv_at hl 0 rfl) ?_
  refine lv_if_lt (tgt := 19) hx hb dX3_lies_11 (by decide) (fun c11 => ?_) (fun c11 => ?_)
  · refine lv_bipush (v := nI 12) hx hb dX3_lies_19 (by decide) ?_
    refine lv_iload_n hx hb dX3_lies_21 rfl (lv_at hl 3 rfl) ?_
    refine lv_iload_n hx hb dX3_lies_22 rfl (lv_at hl 4 rfl) ?_
    refine lv_iload_n hx hb dX3_lies_23 rfl (lv_at hl 1 rfl) ?_
    refine lv_iload_n hx hb dX3_lies_24 rfl (lv_at hl 2 rfl) ?_
    refine k_roS (run_s (As := [.int (nI fc), .int (nI fd), .int (nI fa), .int (nI fb)]) (rest := [.int (nI 12)]) hF (c_X3_early (by omega) (by omega) (by omega) (by omega) (by omega)) tt_blind (fun _ _ _ => trivial) cf_X3_early k589 ⟨Nat.le_of_ble_eq_true rfl, Nat.le_of_ble_eq_true rfl⟩ ⟨rfl, rfl⟩ ⟨Nat.le_of_ble_eq_true rfl, Nat.le_of_ble_eq_true rfl⟩ rfl hl.1 rfl (Nat.le_of_ble_eq_true rfl) dX3_lies_25) hI (fun H locs hI => ?_)
    refine lv_isub hx hb dX3_lies_28 ?_
    exact hret hI dX3_lies_29 ((by first | exact rel_f (fwd_nlt c11) | exact rel_b h5 h6 (fwd_lt c11)))
  · refine lv_iload hx hb dX3_lies_14 (lv_at hl 0 rfl) ?_
    refine lv_goto (tgt := 29) hx hb dX3_lies_16 (by decide) ?_
    exact hret hI dX3_lies_29 ((by first | exact rel_f (fwd_nlt c11) | exact rel_b h5 h6 (fwd_lt c11)))
