set_option maxHeartbeats 4000000 in
set_option maxRecDepth 100000 in
theorem c_X2_isKey {l : Launch} {key : Int32}  : roM l yX2_isKey cX2_isKey 1 (some .boolean) 0 0 [.int (key)] (fun _ => True) (bi (okK key)) := by
  refine bd_rz (by decide) (Nat.le_of_ble_eq_true rfl) ?_
  intro p e s m args below meth c Q hF hpw hret ls hl
  obtain ⟨hx, hb, hml, hown, hts, hr, hlocks⟩ := id hF
  have hI : va_S noA s.heap s.heap [] := va_S.rf
  have hl : lv_has ls 1 [(0, .int (key))] := hl
  suffices hgo : ∀ (H : Heap) (locs : List Loc), va_S noA s.heap H locs → ∀ ls : Array Slot, lv_has ls 1 [(0, .int (key))] → W p l e (rmv 0 0) s m args below meth c H locs 0 0 Q (F0 m 0 ls []) from hgo _ _ hI ls hl
  intro H locs hI ls hl
  refine lv_iload_n hx hb dX2_isKey_0 rfl (lv_at hl 0 rfl) ?_
  refine lv_if_lt (tgt := 13) hx hb dX2_isKey_1 (by decide) (fun c1 => ?_) (fun c1 => ?_)
  · refine lv_iconst (v := nI 0) hx hb dX2_isKey_13 (by decide) ?_
    exact hret hI dX2_isKey_14 (bi_f (by simp only [okK, okD, okP, okT, q_lt0, q_le4, q_lt3, q_le32, q_lt32, q_lt31, decide_eq_true_eq, decide_eq_false_iff_not] at *; (try simp only [fa_lt, fa_le] at *); omega)).symm
  · refine lv_iload_n hx hb dX2_isKey_4 rfl (lv_at hl 0 rfl) ?_
    refine lv_iconst (v := nI 4) hx hb dX2_isKey_5 (by decide) ?_
    refine lv_icmp_ge (tgt := 13) hx hb dX2_isKey_6 (by decide) (fun c6 => ?_) (fun c6 => ?_)
    · refine lv_iconst (v := nI 0) hx hb dX2_isKey_13 (by decide) ?_
      exact hret hI dX2_isKey_14 (bi_f (by simp only [okK, okD, okP, okT, q_lt0, q_le4, q_lt3, q_le32, q_lt32, q_lt31, decide_eq_true_eq, decide_eq_false_iff_not] at *; (try simp only [fa_lt, fa_le] at *); omega)).symm
    · refine lv_iconst (v := nI 1) hx hb dX2_isKey_9 (by decide) ?_
      refine lv_goto (tgt := 14) hx hb dX2_isKey_10 (by decide) ?_
      exact hret hI dX2_isKey_14 (bi_t (by simp only [okK, okD, okP, okT, q_lt0, q_le4, q_lt3, q_le32, q_lt32, q_lt31, decide_eq_true_eq, decide_eq_false_iff_not] at *; (try simp only [fa_lt, fa_le] at *); omega)).symm
set_option maxHeartbeats 4000000 in
set_option maxRecDepth 100000 in
theorem c_X2_isDay {l : Launch} {day : Int32}  : roM l yX2_isDay cX2_isDay 1 (some .boolean) 0 0 [.int (day)] (fun _ => True) (bi (okD day)) := by
  refine bd_rz (by decide) (Nat.le_of_ble_eq_true rfl) ?_
  intro p e s m args below meth c Q hF hpw hret ls hl
  obtain ⟨hx, hb, hml, hown, hts, hr, hlocks⟩ := id hF
  have hI : va_S noA s.heap s.heap [] := va_S.rf
  have hl : lv_has ls 1 [(0, .int (day))] := hl
  suffices hgo : ∀ (H : Heap) (locs : List Loc), va_S noA s.heap H locs → ∀ ls : Array Slot, lv_has ls 1 [(0, .int (day))] → W p l e (rmv 0 0) s m args below meth c H locs 0 0 Q (F0 m 0 ls []) from hgo _ _ hI ls hl
  intro H locs hI ls hl
  refine lv_iload_n hx hb dX2_isDay_0 rfl (lv_at hl 0 rfl) ?_
  refine lv_if_lt (tgt := 14) hx hb dX2_isDay_1 (by decide) (fun c1 => ?_) (fun c1 => ?_)
  · refine lv_iconst (v := nI 0) hx hb dX2_isDay_14 (by decide) ?_
    exact hret hI dX2_isDay_15 (bi_f (by simp only [okK, okD, okP, okT, q_lt0, q_le4, q_lt3, q_le32, q_lt32, q_lt31, decide_eq_true_eq, decide_eq_false_iff_not] at *; (try simp only [fa_lt, fa_le] at *); omega)).symm
  · refine lv_iload_n hx hb dX2_isDay_4 rfl (lv_at hl 0 rfl) ?_
    refine lv_bipush (v := nI 32) hx hb dX2_isDay_5 (by decide) ?_
    refine lv_icmp_ge (tgt := 14) hx hb dX2_isDay_7 (by decide) (fun c7 => ?_) (fun c7 => ?_)
    · refine lv_iconst (v := nI 0) hx hb dX2_isDay_14 (by decide) ?_
      exact hret hI dX2_isDay_15 (bi_f (by simp only [okK, okD, okP, okT, q_lt0, q_le4, q_lt3, q_le32, q_lt32, q_lt31, decide_eq_true_eq, decide_eq_false_iff_not] at *; (try simp only [fa_lt, fa_le] at *); omega)).symm
    · refine lv_iconst (v := nI 1) hx hb dX2_isDay_10 (by decide) ?_
      refine lv_goto (tgt := 15) hx hb dX2_isDay_11 (by decide) ?_
      exact hret hI dX2_isDay_15 (bi_t (by simp only [okK, okD, okP, okT, q_lt0, q_le4, q_lt3, q_le32, q_lt32, q_lt31, decide_eq_true_eq, decide_eq_false_iff_not] at *; (try simp only [fa_lt, fa_le] at *); omega)).symm
set_option maxHeartbeats 4000000 in
set_option maxRecDepth 100000 in
theorem c_X2_isPeriod {l : Launch} {fr to : Int32}  : roM l yX2_isPeriod cX2_isPeriod 2 (some .boolean) 0 0 [.int (fr), .int (to)] (fun _ => True) (bi (okP fr to)) := by
  refine bd_rz (by decide) (Nat.le_of_ble_eq_true rfl) ?_
  intro p e s m args below meth c Q hF hpw hret ls hl
  obtain ⟨hx, hb, hml, hown, hts, hr, hlocks⟩ := id hF
  have hI : va_S noA s.heap s.heap [] := va_S.rf
  have hl : lv_has ls 2 [(0, .int (fr)), (1, .int (to))] := hl
  suffices hgo : ∀ (H : Heap) (locs : List Loc), va_S noA s.heap H locs → ∀ ls : Array Slot, lv_has ls 2 [(0, .int (fr)), (1, .int (to))] → W p l e (rmv 0 0) s m args below meth c H locs 0 0 Q (F0 m 0 ls []) from hgo _ _ hI ls hl
  intro H locs hI ls hl
  refine lv_iload_n hx hb dX2_isPeriod_0 rfl (lv_at hl 0 rfl) ?_
  refine lv_if_lt (tgt := 19) hx hb dX2_isPeriod_1 (by decide) (fun c1 => ?_) (fun c1 => ?_)
  · refine lv_iconst (v := nI 0) hx hb dX2_isPeriod_19 (by decide) ?_
    exact hret hI dX2_isPeriod_20 (bi_f (by simp only [okK, okD, okP, okT, q_lt0, q_le4, q_lt3, q_le32, q_lt32, q_lt31, decide_eq_true_eq, decide_eq_false_iff_not] at *; (try simp only [fa_lt, fa_le] at *); omega)).symm
  · refine lv_iload_n hx hb dX2_isPeriod_4 rfl (lv_at hl 0 rfl) ?_
    refine lv_iload_n hx hb dX2_isPeriod_5 rfl (lv_at hl 1 rfl) ?_
    refine lv_icmp_ge (tgt := 19) hx hb dX2_isPeriod_6 (by decide) (fun c6 => ?_) (fun c6 => ?_)
    · refine lv_iconst (v := nI 0) hx hb dX2_isPeriod_19 (by decide) ?_
      exact hret hI dX2_isPeriod_20 (bi_f (by simp only [okK, okD, okP, okT, q_lt0, q_le4, q_lt3, q_le32, q_lt32, q_lt31, decide_eq_true_eq, decide_eq_false_iff_not] at *; (try simp only [fa_lt, fa_le] at *); omega)).symm
    · refine lv_iload_n hx hb dX2_isPeriod_9 rfl (lv_at hl 1 rfl) ?_
      refine lv_bipush (v := nI 32) hx hb dX2_isPeriod_10 (by decide) ?_
      refine lv_icmp_gt (tgt := 19) hx hb dX2_isPeriod_12 (by decide) (fun c12 => ?_) (fun c12 => ?_)
      · refine lv_iconst (v := nI 0) hx hb dX2_isPeriod_19 (by decide) ?_
        exact hret hI dX2_isPeriod_20 (bi_f (by simp only [okK, okD, okP, okT, q_lt0, q_le4, q_lt3, q_le32, q_lt32, q_lt31, decide_eq_true_eq, decide_eq_false_iff_not] at *; (try simp only [fa_lt, fa_le] at *); omega)).symm
      · refine lv_iconst (v := nI 1) hx hb dX2_isPeriod_15 (by decide) ?_
        refine lv_goto (tgt := 20) hx hb dX2_isPeriod_16 (by decide) ?_
        exact hret hI dX2_isPeriod_20 (bi_t (by simp only [okK, okD, okP, okT, q_lt0, q_le4, q_lt3, q_le32, q_lt32, q_lt31, decide_eq_true_eq, decide_eq_false_iff_not] at *; (try simp only [fa_lt, fa_le] at *); omega)).symm
set_option maxHeartbeats 4000000 in
set_option maxRecDepth 100000 in
theorem c_X2_forwardRelation {l : Launch} {fa fb fc fd : Nat} (h1 : fa ≤ 32) (h2 : fb ≤ 32) (h3 : fc ≤ 32) (h4 : fd ≤ 32)  : roM l yX2_forwardRelation cX2_forwardRelation 4 (some .int) 0 0 [.int (nI fa), .int (nI fb), .int (nI fc), .int (nI fd)] (fun _ => True) (fwdI fa fb fc fd) := by
  refine bd_ro (by decide) (Nat.le_of_ble_eq_true rfl) ?_
  intro p e s m args below meth c Q hF hpw hret ls hl
  obtain ⟨hx, hb, hml, hown, hts, hr, hlocks⟩ := id hF
  have hI : va_S noA s.heap s.heap [] := va_S.rf
  have hl : lv_has ls 4 [(0, .int (nI fa)), (1, .int (nI fb)), (2, .int (nI fc)), (3, .int (nI fd))] := hl
  suffices hgo : ∀ (H : Heap) (locs : List Loc), va_S noA s.heap H locs → ∀ ls : Array Slot, lv_has ls 4 [(0, .int (nI fa)), (1, .int (nI fb)), (2, .int (nI fc)), (3, .int (nI fd))] → W p l e (rmv 0 0) s m args below meth c H locs 0 0 Q (F0 m 0 ls []) from hgo _ _ hI ls hl
  intro H locs hI ls hl
  refine lv_iload_n hx hb dX2_forwardRelation_0 rfl (lv_at hl 1 rfl) ?_
  refine lv_iload_n hx hb dX2_forwardRelation_1 rfl (lv_at hl 2 rfl) ?_
  refine nb_gt (tgt := 16) hx hb dX2_forwardRelation_2 (by decide) (by omega) (by omega) (fun c2 => ?_) (fun c2 => ?_)
  · refine lv_iload_n hx hb dX2_forwardRelation_16 rfl (lv_at hl 0 rfl) ?_
    refine lv_iload_n hx hb dX2_forwardRelation_17 rfl (lv_at hl 2 rfl) ?_
    refine nb_ge (tgt := 32) hx hb dX2_forwardRelation_18 (by decide) (by omega) (by omega) (fun c18 => ?_) (fun c18 => ?_)
    · refine lv_iload_n hx hb dX2_forwardRelation_32 rfl (lv_at hl 1 rfl) ?_
      refine lv_iload_n hx hb dX2_forwardRelation_33 rfl (lv_at hl 3 rfl) ?_
      refine nb_ge (tgt := 48) hx hb dX2_forwardRelation_34 (by decide) (by omega) (by omega) (fun c34 => ?_) (fun c34 => ?_)
      · refine lv_iload_n hx hb dX2_forwardRelation_48 rfl (lv_at hl 1 rfl) ?_
        refine lv_iload_n hx hb dX2_forwardRelation_49 rfl (lv_at hl 3 rfl) ?_
        refine nb_ne (tgt := 65) hx hb dX2_forwardRelation_50 (by decide) (by omega) (by omega) (fun c50 => ?_) (fun c50 => ?_)
        · refine lv_iconst (v := (-1 : Int32)) hx hb dX2_forwardRelation_65 (by decide) ?_
          exact hret hI dX2_forwardRelation_66 ((by unfold fwdI; repeat (first | rw [if_pos (by omega)] | rw [if_neg (by omega)])))
        · refine lv_iload_n hx hb dX2_forwardRelation_53 rfl (lv_at hl 0 rfl) ?_
          refine lv_iload_n hx hb dX2_forwardRelation_54 rfl (lv_at hl 2 rfl) ?_
          refine nb_le (tgt := 62) hx hb dX2_forwardRelation_55 (by decide) (by omega) (by omega) (fun c55 => ?_) (fun c55 => ?_)
          · refine lv_bipush (v := nI 6) hx hb dX2_forwardRelation_62 (by decide) ?_
            exact hret hI dX2_forwardRelation_64 ((by unfold fwdI; repeat (first | rw [if_pos (by omega)] | rw [if_neg (by omega)])))
          · refine lv_iconst (v := nI 5) hx hb dX2_forwardRelation_58 (by decide) ?_
            refine lv_goto (tgt := 64) hx hb dX2_forwardRelation_59 (by decide) ?_
            exact hret hI dX2_forwardRelation_64 ((by unfold fwdI; repeat (first | rw [if_pos (by omega)] | rw [if_neg (by omega)])))
      · refine lv_iload_n hx hb dX2_forwardRelation_37 rfl (lv_at hl 0 rfl) ?_
        refine lv_iload_n hx hb dX2_forwardRelation_38 rfl (lv_at hl 2 rfl) ?_
        refine nb_ne (tgt := 46) hx hb dX2_forwardRelation_39 (by decide) (by omega) (by omega) (fun c39 => ?_) (fun c39 => ?_)
        · refine lv_iconst (v := nI 4) hx hb dX2_forwardRelation_46 (by decide) ?_
          exact hret hI dX2_forwardRelation_47 ((by unfold fwdI; repeat (first | rw [if_pos (by omega)] | rw [if_neg (by omega)])))
        · refine lv_iconst (v := nI 3) hx hb dX2_forwardRelation_42 (by decide) ?_
          refine lv_goto (tgt := 47) hx hb dX2_forwardRelation_43 (by decide) ?_
          exact hret hI dX2_forwardRelation_47 ((by unfold fwdI; repeat (first | rw [if_pos (by omega)] | rw [if_neg (by omega)])))
    · refine lv_iload_n hx hb dX2_forwardRelation_21 rfl (lv_at hl 1 rfl) ?_
      refine lv_iload_n hx hb dX2_forwardRelation_22 rfl (lv_at hl 3 rfl) ?_
      refine nb_ge (tgt := 30) hx hb dX2_forwardRelation_23 (by decide) (by omega) (by omega) (fun c23 => ?_) (fun c23 => ?_)
      · refine lv_iconst (v := (-1 : Int32)) hx hb dX2_forwardRelation_30 (by decide) ?_
        exact hret hI dX2_forwardRelation_31 ((by unfold fwdI; repeat (first | rw [if_pos (by omega)] | rw [if_neg (by omega)])))
      · refine lv_iconst (v := nI 2) hx hb dX2_forwardRelation_26 (by decide) ?_
        refine lv_goto (tgt := 31) hx hb dX2_forwardRelation_27 (by decide) ?_
        exact hret hI dX2_forwardRelation_31 ((by unfold fwdI; repeat (first | rw [if_pos (by omega)] | rw [if_neg (by omega)])))
  · refine lv_iload_n hx hb dX2_forwardRelation_5 rfl (lv_at hl 1 rfl) ?_
    refine lv_iload_n hx hb dX2_forwardRelation_6 rfl (lv_at hl 2 rfl) ?_
    refine nb_ge (tgt := 14) hx hb dX2_forwardRelation_7 (by decide) (by omega) (by omega) (fun c7 => ?_) (fun c7 => ?_)
    · refine lv_iconst (v := nI 1) hx hb dX2_forwardRelation_14 (by decide) ?_
      exact hret hI dX2_forwardRelation_15 ((by unfold fwdI; repeat (first | rw [if_pos (by omega)] | rw [if_neg (by omega)])))
    · refine lv_iconst (v := nI 0) hx hb dX2_forwardRelation_10 (by decide) ?_
      refine lv_goto (tgt := 15) hx hb dX2_forwardRelation_11 (by decide) ?_
      exact hret hI dX2_forwardRelation_15 ((by unfold fwdI; repeat (first | rw [if_pos (by omega)] | rw [if_neg (by omega)])))
set_option maxHeartbeats 4000000 in
set_option maxRecDepth 100000 in
theorem c_X2_relationOf {l : Launch} {fa fb fc fd : Nat} (h1 : fa ≤ 32) (h2 : fb ≤ 32) (h3 : fc ≤ 32) (h4 : fd ≤ 32) (h5 : fa < fb) (h6 : fc < fd) : roM l yX2_relationOf cX2_relationOf 5 (some .int) 1 23 [.int (nI fa), .int (nI fb), .int (nI fc), .int (nI fd)] (fun _ => True) (nI (rel fa fb fc fd)) := by
  refine bd_ro (by decide) (Nat.le_of_ble_eq_true rfl) ?_
  intro p e s m args below meth c Q hF hpw hret ls hl
  obtain ⟨hx, hb, hml, hown, hts, hr, hlocks⟩ := id hF
  have hI : va_S noA s.heap s.heap [] := va_S.rf
  have hl : lv_has ls 5 [(0, .int (nI fa)), (1, .int (nI fb)), (2, .int (nI fc)), (3, .int (nI fd))] := hl
  suffices hgo : ∀ (H : Heap) (locs : List Loc), va_S noA s.heap H locs → ∀ ls : Array Slot, lv_has ls 5 [(0, .int (nI fa)), (1, .int (nI fb)), (2, .int (nI fc)), (3, .int (nI fd))] → W p l e (rmv 1 23) s m args below meth c H locs 0 0 Q (F0 m 0 ls []) from hgo _ _ hI ls hl
  intro H locs hI ls hl
  refine lv_iload_n hx hb dX2_relationOf_0 rfl (lv_at hl 0 rfl) ?_
  refine lv_iload_n hx hb dX2_relationOf_1 rfl (lv_at hl 1 rfl) ?_
  refine lv_iload_n hx hb dX2_relationOf_2 rfl (lv_at hl 2 rfl) ?_
  refine lv_iload_n hx hb dX2_relationOf_3 rfl (lv_at hl 3 rfl) ?_
  refine k_roS (run_s (As := [.int (nI fa), .int (nI fb), .int (nI fc), .int (nI fd)]) (rest := []) hF (c_X2_forwardRelation (by omega) (by omega) (by omega) (by omega)) tt_blind (fun _ _ _ => trivial) cf_X2_forwardRelation k400 ⟨Nat.le_of_ble_eq_true rfl, Nat.le_of_ble_eq_true rfl⟩ ⟨rfl, rfl⟩ ⟨Nat.le_of_ble_eq_true rfl, Nat.le_of_ble_eq_true rfl⟩ rfl hl.1 rfl (Nat.le_of_ble_eq_true rfl) dX2_relationOf_4) hI (fun H locs hI => ?_)
  refine lv_istore (lv' := [(4, .int (fwdI fa fb fc fd)), (0, .int (nI fa)), (1, .int (nI fb)), (2, .int (nI fc)), (3, .int (nI fd))]) hx hb dX2_relationOf_7 hl (by decide) rfl (fun ls hl => ?_)
  refine lv_iload hx hb dX2_relationOf_9 (lv_at hl 0 rfl) ?_
  refine lv_iconst (v := (-1 : Int32)) hx hb dX2_relationOf_11 (by decide) ?_
  refine lv_icmp_eq (tgt := 20) hx hb dX2_relationOf_12 (by decide) (fun c12 => ?_) (fun c12 => ?_)
  · refine lv_bipush (v := nI 12) hx hb dX2_relationOf_20 (by decide) ?_
    refine lv_iload_n hx hb dX2_relationOf_22 rfl (lv_at hl 3 rfl) ?_
    refine lv_iload_n hx hb dX2_relationOf_23 rfl (lv_at hl 4 rfl) ?_
    refine lv_iload_n hx hb dX2_relationOf_24 rfl (lv_at hl 1 rfl) ?_
    refine lv_iload_n hx hb dX2_relationOf_25 rfl (lv_at hl 2 rfl) ?_
    refine k_roS (run_s (As := [.int (nI fc), .int (nI fd), .int (nI fa), .int (nI fb)]) (rest := [.int (nI 12)]) hF (c_X2_forwardRelation (by omega) (by omega) (by omega) (by omega)) tt_blind (fun _ _ _ => trivial) cf_X2_forwardRelation k400 ⟨Nat.le_of_ble_eq_true rfl, Nat.le_of_ble_eq_true rfl⟩ ⟨rfl, rfl⟩ ⟨Nat.le_of_ble_eq_true rfl, Nat.le_of_ble_eq_true rfl⟩ rfl hl.1 rfl (Nat.le_of_ble_eq_true rfl) dX2_relationOf_26) hI (fun H locs hI => ?_)
    refine lv_isub hx hb dX2_relationOf_29 ?_
    exact hret hI dX2_relationOf_30 ((by first | exact rel_f c12 | exact rel_b h5 h6 c12))
  · refine lv_iload hx hb dX2_relationOf_15 (lv_at hl 0 rfl) ?_
    refine lv_goto (tgt := 30) hx hb dX2_relationOf_17 (by decide) ?_
    exact hret hI dX2_relationOf_30 ((by first | exact rel_f c12 | exact rel_b h5 h6 c12))
set_option maxHeartbeats 4000000 in
set_option maxRecDepth 100000 in
theorem c_X0_sharesRun {l : Launch} {D : va_G} {cI cZ cJ : ClassId} {z : Nat} {a : Nat → Nat} {X : va_W} {vals fil rb : Nat → Int32} {t : Nat} {wo : Nat → Int32} {cnt fn : Int32} {S : Sta} (hA : cAbs S vals fil t) (ht : t < 40) {sl so dy : Nat} (h1 : sl < 4 * (t + 1)) (h3 : so < 4 * (t + 1)) (h2 : dy < 32) (hs : (S sl dy).isSome = true) : roM l yX0_sharesRun cX0_sharesRun 4 (some .boolean) 2 46 [.ref (a 1), .int (nI sl), .int (nI so), .int (nI dy)] (pw D cI cZ cJ z (cw a cI vals fil rb (nI t) wo cnt fn X)) (bi (shr S sl so dy)) := by
  refine bd_rz (by decide) (Nat.le_of_ble_eq_true rfl) ?_
  intro p e s m args below meth c Q hF hpw hret ls hl
  obtain ⟨hx, hb, hml, hown, hts, hr, hlocks⟩ := id hF
  have hK := hpw.2.2.2
  have hI : wi D z noA (cw a cI vals fil rb (nI t) wo cnt fn X) s s.heap [] := hpw.wi
  have hl : lv_has ls 4 [(0, .ref (a 1)), (1, .int (nI sl)), (2, .int (nI so)), (3, .int (nI dy))] := hl
  suffices hgo : ∀ (H : Heap) (locs : List Loc), wi D z noA (cw a cI vals fil rb (nI t) wo cnt fn X) s H locs → ∀ ls : Array Slot, lv_has ls 4 [(0, .ref (a 1)), (1, .int (nI sl)), (2, .int (nI so)), (3, .int (nI dy))] → W p l e (rmv 2 46) s m args below meth c H locs 0 0 Q (F0 m 0 ls []) from hgo _ _ hI ls hl
  intro H locs hI ls hl
  refine lv_aload_n hx hb dX0_sharesRun_0 rfl (lv_at hl 0 rfl) ?_
  refine lv_iload_n hx hb dX0_sharesRun_1 rfl (lv_at hl 2 rfl) ?_
  refine lv_iload_n hx hb dX0_sharesRun_2 rfl (lv_at hl 3 rfl) ?_
  refine k_ro (run_v (As := [.int (nI so), .int (nI dy)]) (rest := []) hF hK hI (c_X0_startsRun hA ht (by omega) (by omega)) cf_X0_startsRun k232 1 0 rfl rfl ⟨Nat.le_of_ble_eq_true rfl, Nat.le_of_ble_eq_true rfl⟩ ⟨rfl, rfl⟩ ⟨Nat.le_of_ble_eq_true rfl, Nat.le_of_ble_eq_true rfl⟩ rfl hl.1 rfl (Nat.le_of_ble_eq_true rfl) dX0_sharesRun_3) hI (fun H locs hI => ?_)
  refine bz_eq (tgt := 43) hx hb dX0_sharesRun_6 (by decide) (fun c6 => ?_) (fun c6 => ?_)
  · refine lv_iconst (v := nI 0) hx hb dX0_sharesRun_43 (by decide) ?_
    exact hret hI.2.2.2 dX0_sharesRun_44 (bi_f (by simp only [shr, c6, Bool.false_and, Bool.true_and] <;> simp_all [shr_v hA h1 h3 h2 hs])).symm
  · refine lv_aload_n hx hb dX0_sharesRun_9 rfl (lv_at hl 0 rfl) ?_
    refine lv_iload_n hx hb dX0_sharesRun_10 rfl (lv_at hl 2 rfl) ?_
    refine lv_iload_n hx hb dX0_sharesRun_11 rfl (lv_at hl 3 rfl) ?_
    refine k_ro (run_v (As := [.int (nI so), .int (nI dy)]) (rest := []) hF hK hI (c_X0_valueOn ht (by omega) (by omega)) cf_X0_valueOn k244 1 0 rfl rfl ⟨Nat.le_of_ble_eq_true rfl, Nat.le_of_ble_eq_true rfl⟩ ⟨rfl, rfl⟩ ⟨Nat.le_of_ble_eq_true rfl, Nat.le_of_ble_eq_true rfl⟩ rfl hl.1 rfl (Nat.le_of_ble_eq_true rfl) dX0_sharesRun_12) hI (fun H locs hI => ?_)
    refine lv_aload_n hx hb dX0_sharesRun_15 rfl (lv_at hl 0 rfl) ?_
    refine lv_iload_n hx hb dX0_sharesRun_16 rfl (lv_at hl 1 rfl) ?_
    refine lv_iload_n hx hb dX0_sharesRun_17 rfl (lv_at hl 3 rfl) ?_
    refine k_ro (run_v (As := [.int (nI sl), .int (nI dy)]) (rest := [.int (vals (so * 32 + dy))]) hF hK hI (c_X0_valueOn ht (by omega) (by omega)) cf_X0_valueOn k244 1 0 rfl rfl ⟨Nat.le_of_ble_eq_true rfl, Nat.le_of_ble_eq_true rfl⟩ ⟨rfl, rfl⟩ ⟨Nat.le_of_ble_eq_true rfl, Nat.le_of_ble_eq_true rfl⟩ rfl hl.1 rfl (Nat.le_of_ble_eq_true rfl) dX0_sharesRun_18) hI (fun H locs hI => ?_)
    refine lv_icmp_ne (tgt := 43) hx hb dX0_sharesRun_21 (by decide) (fun c21 => ?_) (fun c21 => ?_)
    · refine lv_iconst (v := nI 0) hx hb dX0_sharesRun_43 (by decide) ?_
      exact hret hI.2.2.2 dX0_sharesRun_44 (bi_f (by simp only [shr, c6, Bool.false_and, Bool.true_and] <;> simp_all [shr_v hA h1 h3 h2 hs])).symm
    · refine lv_aload_n hx hb dX0_sharesRun_24 rfl (lv_at hl 0 rfl) ?_
      refine lv_iload_n hx hb dX0_sharesRun_25 rfl (lv_at hl 2 rfl) ?_
      refine lv_iload_n hx hb dX0_sharesRun_26 rfl (lv_at hl 3 rfl) ?_
      refine k_ro (run_v (As := [.int (nI so), .int (nI dy)]) (rest := []) hF hK hI (c_X0_runEnd hA ht (by omega) (by omega)) cf_X0_runEnd k248 1 0 rfl rfl ⟨Nat.le_of_ble_eq_true rfl, Nat.le_of_ble_eq_true rfl⟩ ⟨rfl, rfl⟩ ⟨Nat.le_of_ble_eq_true rfl, Nat.le_of_ble_eq_true rfl⟩ rfl hl.1 rfl (Nat.le_of_ble_eq_true rfl) dX0_sharesRun_27) hI (fun H locs hI => ?_)
      refine lv_aload_n hx hb dX0_sharesRun_30 rfl (lv_at hl 0 rfl) ?_
      refine lv_iload_n hx hb dX0_sharesRun_31 rfl (lv_at hl 1 rfl) ?_
      refine lv_iload_n hx hb dX0_sharesRun_32 rfl (lv_at hl 3 rfl) ?_
      refine k_ro (run_v (As := [.int (nI sl), .int (nI dy)]) (rest := [.int (nI (rend S so dy))]) hF hK hI (c_X0_runEnd hA ht (by omega) (by omega)) cf_X0_runEnd k248 1 0 rfl rfl ⟨Nat.le_of_ble_eq_true rfl, Nat.le_of_ble_eq_true rfl⟩ ⟨rfl, rfl⟩ ⟨Nat.le_of_ble_eq_true rfl, Nat.le_of_ble_eq_true rfl⟩ rfl hl.1 rfl (Nat.le_of_ble_eq_true rfl) dX0_sharesRun_33) hI (fun H locs hI => ?_)
      have g1 := rend_in (S := S) (sl := so) h2
      have g2 := rend_in (S := S) (sl := sl) h2
      refine nb_ne (tgt := 43) hx hb dX0_sharesRun_36 (by decide) (by omega) (by omega) (fun c36 => ?_) (fun c36 => ?_)
      · refine lv_iconst (v := nI 0) hx hb dX0_sharesRun_43 (by decide) ?_
        exact hret hI.2.2.2 dX0_sharesRun_44 (bi_f (by simp only [shr, c6, Bool.false_and, Bool.true_and] <;> simp_all [shr_v hA h1 h3 h2 hs])).symm
      · refine lv_iconst (v := nI 1) hx hb dX0_sharesRun_39 (by decide) ?_
        refine lv_goto (tgt := 44) hx hb dX0_sharesRun_40 (by decide) ?_
        exact hret hI.2.2.2 dX0_sharesRun_44 (bi_t (by simp only [shr, c6, Bool.false_and, Bool.true_and] <;> simp_all [shr_v hA h1 h3 h2 hs])).symm
set_option maxHeartbeats 4000000 in
set_option maxRecDepth 100000 in
theorem c_X0_startsRow {l : Launch} {D : va_G} {cI cZ cJ : ClassId} {z : Nat} {a : Nat → Nat} {X : va_W} {vals fil rb : Nat → Int32} {t : Nat} {wo : Nat → Int32} {cnt fn : Int32} {S : Sta} (hA : cAbs S vals fil t) (ht : t < 40) {sl dy : Nat} (h1 : sl < 4 * (t + 1)) (h2 : dy < 32) : roM l yX0_startsRow cX0_startsRow 3 (some .boolean) 3 69 [.ref (a 1), .int (nI sl), .int (nI dy)] (pw D cI cZ cJ z (cw a cI vals fil rb (nI t) wo cnt fn X)) (bi (isRw S sl dy)) := by
  refine bd_rz (by decide) (Nat.le_of_ble_eq_true rfl) ?_
  intro p e s m args below meth c Q hF hpw hret ls hl
  obtain ⟨hx, hb, hml, hown, hts, hr, hlocks⟩ := id hF
  have hK := hpw.2.2.2
  have hI : wi D z noA (cw a cI vals fil rb (nI t) wo cnt fn X) s s.heap [] := hpw.wi
  have hl : lv_has ls 3 [(0, .ref (a 1)), (1, .int (nI sl)), (2, .int (nI dy))] := hl
  suffices hgo : ∀ (H : Heap) (locs : List Loc), wi D z noA (cw a cI vals fil rb (nI t) wo cnt fn X) s H locs → ∀ ls : Array Slot, lv_has ls 3 [(0, .ref (a 1)), (1, .int (nI sl)), (2, .int (nI dy))] → W p l e (rmv 3 69) s m args below meth c H locs 0 0 Q (F0 m 0 ls []) from hgo _ _ hI ls hl
  intro H locs hI ls hl
  refine lv_aload_n hx hb dX0_startsRow_0 rfl (lv_at hl 0 rfl) ?_
  refine lv_iload_n hx hb dX0_startsRow_1 rfl (lv_at hl 1 rfl) ?_
  refine lv_iload_n hx hb dX0_startsRow_2 rfl (lv_at hl 2 rfl) ?_
  refine k_ro (run_v (As := [.int (nI sl), .int (nI dy)]) (rest := []) hF hK hI (c_X0_startsRun hA ht (by omega) (by omega)) cf_X0_startsRun k232 1 0 rfl rfl ⟨Nat.le_of_ble_eq_true rfl, Nat.le_of_ble_eq_true rfl⟩ ⟨rfl, rfl⟩ ⟨Nat.le_of_ble_eq_true rfl, Nat.le_of_ble_eq_true rfl⟩ rfl hl.1 rfl (Nat.le_of_ble_eq_true rfl) dX0_startsRow_3) hI (fun H locs hI => ?_)
  refine bz_ne (tgt := 11) hx hb dX0_startsRow_6 (by decide) (fun c6 => ?_) (fun c6 => ?_)
  · refine lv_iload_n hx hb dX0_startsRow_11 rfl (lv_at hl 1 rfl) ?_
    refine lv_iconst (v := nI 4) hx hb dX0_startsRow_12 (by decide) ?_
    refine nb_lt (tgt := 28) hx hb dX0_startsRow_13 (by decide) (by omega) (by omega) (fun c13 => ?_) (fun c13 => ?_)
    · refine lv_iconst (v := nI 1) hx hb dX0_startsRow_28 (by decide) ?_
      refine lv_goto (tgt := 33) hx hb dX0_startsRow_29 (by decide) ?_
      exact hret hI.2.2.2 dX0_startsRow_33 (bi_t (by simp_all [isRw])).symm
    · refine lv_aload_n hx hb dX0_startsRow_16 rfl (lv_at hl 0 rfl) ?_
      refine lv_iload_n hx hb dX0_startsRow_17 rfl (lv_at hl 1 rfl) ?_
      refine lv_iload_n hx hb dX0_startsRow_18 rfl (lv_at hl 1 rfl) ?_
      refine lv_iconst (v := nI 4) hx hb dX0_startsRow_19 (by decide) ?_
      refine lv_isub hx hb dX0_startsRow_20 ?_
      refine tp (pk_sub (by omega)) ?_
      refine lv_iload_n hx hb dX0_startsRow_21 rfl (lv_at hl 2 rfl) ?_
      have hs := beg_some c6
      refine k_ro (run_v (As := [.int (nI sl), .int (nI (sl - 4)), .int (nI dy)]) (rest := []) hF hK hI (c_X0_sharesRun hA ht (by omega) (by omega) (by omega) hs) cf_X0_sharesRun k240 1 0 rfl rfl ⟨Nat.le_of_ble_eq_true rfl, Nat.le_of_ble_eq_true rfl⟩ ⟨rfl, rfl⟩ ⟨Nat.le_of_ble_eq_true rfl, Nat.le_of_ble_eq_true rfl⟩ rfl hl.1 rfl (Nat.le_of_ble_eq_true rfl) dX0_startsRow_22) hI (fun H locs hI => ?_)
      refine bz_ne (tgt := 32) hx hb dX0_startsRow_25 (by decide) (fun c25 => ?_) (fun c25 => ?_)
      · refine lv_iconst (v := nI 0) hx hb dX0_startsRow_32 (by decide) ?_
        exact hret hI.2.2.2 dX0_startsRow_33 (bi_f (by simp_all [isRw])).symm
      · refine lv_iconst (v := nI 1) hx hb dX0_startsRow_28 (by decide) ?_
        refine lv_goto (tgt := 33) hx hb dX0_startsRow_29 (by decide) ?_
        exact hret hI.2.2.2 dX0_startsRow_33 (bi_t (by simp_all [isRw])).symm
  · refine lv_iconst (v := nI 0) hx hb dX0_startsRow_9 (by decide) ?_
    exact hret hI.2.2.2 dX0_startsRow_10 (bi_f (by simp_all [isRw])).symm
set_option maxHeartbeats 4000000 in
set_option maxRecDepth 100000 in
theorem c_X0_differ {l : Launch} {D : va_G} {cI cZ cJ : ClassId} {z : Nat} {a : Nat → Nat} {X : va_W} {vals fil rb : Nat → Int32} {t : Nat} {wo : Nat → Int32} {cnt fn : Int32} {S : Sta} (hA : cAbs S vals fil t) (ht : t < 40) {sl so dy : Nat} (h1 : sl < 4 * (t + 1)) (h3 : so < 4 * (t + 1)) (h2 : dy < 32) : roM l yX0_differ cX0_differ 5 (some .boolean) 1 22 [.ref (a 1), .int (nI sl), .int (nI so), .int (nI dy)] (pw D cI cZ cJ z (cw a cI vals fil rb (nI t) wo cnt fn X)) (bi (!(decide (S sl dy = S so dy)))) := by
  refine bd_rz (by decide) (Nat.le_of_ble_eq_true rfl) ?_
  intro p e s m args below meth c Q hF hpw hret ls hl
  obtain ⟨hx, hb, hml, hown, hts, hr, hlocks⟩ := id hF
  have hK := hpw.2.2.2
  have hI : wi D z noA (cw a cI vals fil rb (nI t) wo cnt fn X) s s.heap [] := hpw.wi
  have hl : lv_has ls 5 [(0, .ref (a 1)), (1, .int (nI sl)), (2, .int (nI so)), (3, .int (nI dy))] := hl
  suffices hgo : ∀ (H : Heap) (locs : List Loc), wi D z noA (cw a cI vals fil rb (nI t) wo cnt fn X) s H locs → ∀ ls : Array Slot, lv_has ls 5 [(0, .ref (a 1)), (1, .int (nI sl)), (2, .int (nI so)), (3, .int (nI dy))] → W p l e (rmv 1 22) s m args below meth c H locs 0 0 Q (F0 m 0 ls []) from hgo _ _ hI ls hl
  intro H locs hI ls hl
  refine lv_aload_n hx hb dX0_differ_0 rfl (lv_at hl 0 rfl) ?_
  refine lv_iload_n hx hb dX0_differ_1 rfl (lv_at hl 1 rfl) ?_
  refine lv_iload_n hx hb dX0_differ_2 rfl (lv_at hl 3 rfl) ?_
  refine k_ro (run_v (As := [.int (nI sl), .int (nI dy)]) (rest := []) hF hK hI (c_X0_isFilled hA ht (by omega) (by omega)) cf_X0_isFilled k223 1 0 rfl rfl ⟨Nat.le_of_ble_eq_true rfl, Nat.le_of_ble_eq_true rfl⟩ ⟨rfl, rfl⟩ ⟨Nat.le_of_ble_eq_true rfl, Nat.le_of_ble_eq_true rfl⟩ rfl hl.1 rfl (Nat.le_of_ble_eq_true rfl) dX0_differ_3) hI (fun H locs hI => ?_)
  refine lv_istore (lv' := [(4, .int (bi ((S sl dy).isSome))), (0, .ref (a 1)), (1, .int (nI sl)), (2, .int (nI so)), (3, .int (nI dy))]) hx hb dX0_differ_6 hl (by decide) rfl (fun ls hl => ?_)
  refine lv_iload hx hb dX0_differ_8 (lv_at hl 0 rfl) ?_
  refine lv_aload_n hx hb dX0_differ_10 rfl (lv_at hl 1 rfl) ?_
  refine lv_iload_n hx hb dX0_differ_11 rfl (lv_at hl 3 rfl) ?_
  refine lv_iload_n hx hb dX0_differ_12 rfl (lv_at hl 4 rfl) ?_
  refine k_ro (run_v (As := [.int (nI so), .int (nI dy)]) (rest := [.int (bi ((S sl dy).isSome))]) hF hK hI (c_X0_isFilled hA ht (by omega) (by omega)) cf_X0_isFilled k223 1 0 rfl rfl ⟨Nat.le_of_ble_eq_true rfl, Nat.le_of_ble_eq_true rfl⟩ ⟨rfl, rfl⟩ ⟨Nat.le_of_ble_eq_true rfl, Nat.le_of_ble_eq_true rfl⟩ rfl hl.1 rfl (Nat.le_of_ble_eq_true rfl) dX0_differ_13) hI (fun H locs hI => ?_)
  refine lv_icmp_eq (tgt := 21) hx hb dX0_differ_16 (by decide) (fun c16 => ?_) (fun c16 => ?_)
  · refine lv_iload hx hb dX0_differ_21 (lv_at hl 0 rfl) ?_
    refine bz_eq (tgt := 45) hx hb dX0_differ_23 (by decide) (fun c23 => ?_) (fun c23 => ?_)
    · refine lv_iconst (v := nI 0) hx hb dX0_differ_45 (by decide) ?_
      exact hret hI.2.2.2 dX0_differ_46 (bi_f (by first | exact dif_2 hA h1 h3 h2 (bi_inj c16) c23 c38 | exact dif_3 hA h1 h3 h2 (bi_inj c16) c23 c38 | exact dif_4 (bi_inj c16) c23)).symm
    · refine lv_aload_n hx hb dX0_differ_26 rfl (lv_at hl 1 rfl) ?_
      refine lv_iload_n hx hb dX0_differ_27 rfl (lv_at hl 2 rfl) ?_
      refine lv_iload_n hx hb dX0_differ_28 rfl (lv_at hl 4 rfl) ?_
      refine k_ro (run_v (As := [.int (nI sl), .int (nI dy)]) (rest := []) hF hK hI (c_X0_valueOn ht (by omega) (by omega)) cf_X0_valueOn k244 1 0 rfl rfl ⟨Nat.le_of_ble_eq_true rfl, Nat.le_of_ble_eq_true rfl⟩ ⟨rfl, rfl⟩ ⟨Nat.le_of_ble_eq_true rfl, Nat.le_of_ble_eq_true rfl⟩ rfl hl.1 rfl (Nat.le_of_ble_eq_true rfl) dX0_differ_29) hI (fun H locs hI => ?_)
      refine lv_aload_n hx hb dX0_differ_32 rfl (lv_at hl 1 rfl) ?_
      refine lv_iload_n hx hb dX0_differ_33 rfl (lv_at hl 3 rfl) ?_
      refine lv_iload_n hx hb dX0_differ_34 rfl (lv_at hl 4 rfl) ?_
      refine k_ro (run_v (As := [.int (nI so), .int (nI dy)]) (rest := [.int (vals (sl * 32 + dy))]) hF hK hI (c_X0_valueOn ht (by omega) (by omega)) cf_X0_valueOn k244 1 0 rfl rfl ⟨Nat.le_of_ble_eq_true rfl, Nat.le_of_ble_eq_true rfl⟩ ⟨rfl, rfl⟩ ⟨Nat.le_of_ble_eq_true rfl, Nat.le_of_ble_eq_true rfl⟩ rfl hl.1 rfl (Nat.le_of_ble_eq_true rfl) dX0_differ_35) hI (fun H locs hI => ?_)
      refine lv_icmp_eq (tgt := 45) hx hb dX0_differ_38 (by decide) (fun c38 => ?_) (fun c38 => ?_)
      · refine lv_iconst (v := nI 0) hx hb dX0_differ_45 (by decide) ?_
        exact hret hI.2.2.2 dX0_differ_46 (bi_f (by first | exact dif_2 hA h1 h3 h2 (bi_inj c16) c23 c38 | exact dif_3 hA h1 h3 h2 (bi_inj c16) c23 c38 | exact dif_4 (bi_inj c16) c23)).symm
      · refine lv_iconst (v := nI 1) hx hb dX0_differ_41 (by decide) ?_
        refine lv_goto (tgt := 46) hx hb dX0_differ_42 (by decide) ?_
        exact hret hI.2.2.2 dX0_differ_46 (bi_t (by first | exact dif_2 hA h1 h3 h2 (bi_inj c16) c23 c38 | exact dif_3 hA h1 h3 h2 (bi_inj c16) c23 c38 | exact dif_4 (bi_inj c16) c23)).symm
  · refine lv_iconst (v := nI 1) hx hb dX0_differ_19 (by decide) ?_
    exact hret hI.2.2.2 dX0_differ_20 (bi_t (by exact dif_1 c16)).symm
set_option maxHeartbeats 4000000 in
set_option maxRecDepth 100000 in
theorem c_X0_runStart {l : Launch} {D : va_G} {cI cZ cJ : ClassId} {z : Nat} {a : Nat → Nat} {X : va_W} {vals fil rb : Nat → Int32} {t : Nat} {wo : Nat → Int32} {cnt fn : Int32} {S : Sta} (hA : cAbs S vals fil t) (ht : t < 40) {sl : Nat} (h1 : sl < 4 * (t + 1)) {k : Int32} : roM l yX0_runStart cX0_runStart 5 (some .int) 2 45 [.ref (a 1), .int (nI sl), .int (k)] (pw D cI cZ cJ z (cw a cI vals fil rb (nI t) wo cnt fn X)) (fsI (beg S sl) k 32 0) := by
  refine bd_ro (by decide) (Nat.le_of_ble_eq_true rfl) ?_
  intro p e s m args below meth c Q hF hpw hret ls hl
  obtain ⟨hx, hb, hml, hown, hts, hr, hlocks⟩ := id hF
  have hK := hpw.2.2.2
  have hI : wi D z noA (cw a cI vals fil rb (nI t) wo cnt fn X) s s.heap [] := hpw.wi
  have hl : lv_has ls 5 [(0, .ref (a 1)), (1, .int (nI sl)), (2, .int (k))] := hl
  suffices hgo : ∀ (H : Heap) (locs : List Loc), wi D z noA (cw a cI vals fil rb (nI t) wo cnt fn X) s H locs → ∀ ls : Array Slot, lv_has ls 5 [(0, .ref (a 1)), (1, .int (nI sl)), (2, .int (k))] → W p l e (rmv 2 45) s m args below meth c H locs 0 0 Q (F0 m 0 ls []) from hgo _ _ hI ls hl
  intro H locs hI ls hl
  refine lv_iconst (v := nI 0) hx hb dX0_runStart_0 (by decide) ?_
  refine lv_istore_n (lv' := [(3, .int (nI 0)), (0, .ref (a 1)), (1, .int (nI sl)), (2, .int (k))]) hx hb dX0_runStart_1 rfl hl (by decide) rfl (fun ls hl => ?_)
  refine lv_iconst (v := nI 0) hx hb dX0_runStart_2 (by decide) ?_
  refine lv_istore (lv' := [(4, .int (nI 0)), (3, .int (nI 0)), (0, .ref (a 1)), (1, .int (nI sl)), (2, .int (k))]) hx hb dX0_runStart_3 hl (by decide) rfl (fun ls hl => ?_)
  have J5 : ∀ (n5_ : Nat) (dy : Nat) (n3 : Nat) (hd : dy ≤ 32) (hn : n3 = fb_ct (beg S sl) dy) (he : fsI (beg S sl) k 32 0 = fsI (beg S sl) k (32 - dy) dy) (hm5 : 32 < dy + n5_) (H : Heap) (locs : List Loc), wi D z noA (cw a cI vals fil rb (nI t) wo cnt fn X) s H locs → ∀ ls : Array Slot, lv_has ls 5 [(0, .ref (a 1)), (1, .int (nI sl)), (2, .int (k)), (3, .int (nI n3)), (4, .int (nI dy))] → W p l e (rmv 2 45) s m args below meth c H locs 0 0 Q (F0 m 5 ls []) := by
    intro n5_
    induction n5_ with
    | zero => intro dy n3 hd hn he hm5; exact absurd hm5 (by omega)
    | succ n5_ ih5 =>
      intro dy n3 hd hn he hm5 H locs hI ls hl
      refine lv_iload hx hb dX0_runStart_5 (lv_at hl 4 rfl) ?_
      refine lv_bipush (v := nI 32) hx hb dX0_runStart_7 (by decide) ?_
      refine nb_ge (tgt := 39) hx hb dX0_runStart_9 (by decide) (by omega) (by omega) (fun c9 => ?_) (fun c9 => ?_)
      · refine lv_iconst (v := (-1 : Int32)) hx hb dX0_runStart_39 (by decide) ?_
        exact hret hI.2.2.2 dX0_runStart_40 ((by rw [he, show 32 - dy = 0 by omega]; rfl))
      · refine lv_aload_n hx hb dX0_runStart_12 rfl (lv_at hl 0 rfl) ?_
        refine lv_iload_n hx hb dX0_runStart_13 rfl (lv_at hl 1 rfl) ?_
        refine lv_iload hx hb dX0_runStart_14 (lv_at hl 4 rfl) ?_
        refine k_ro (run_v (As := [.int (nI sl), .int (nI dy)]) (rest := []) hF hK hI (c_X0_startsRun hA ht (by omega) (by omega)) cf_X0_startsRun k232 1 0 rfl rfl ⟨Nat.le_of_ble_eq_true rfl, Nat.le_of_ble_eq_true rfl⟩ ⟨rfl, rfl⟩ ⟨Nat.le_of_ble_eq_true rfl, Nat.le_of_ble_eq_true rfl⟩ rfl hl.1 rfl (Nat.le_of_ble_eq_true rfl) dX0_runStart_16) hI (fun H locs hI => ?_)
        refine bz_eq (tgt := 33) hx hb dX0_runStart_19 (by decide) (fun c19 => ?_) (fun c19 => ?_)
        · refine lv_iinc (v := nI (dy + 1)) (lv' := [(4, .int (nI (dy + 1))), (0, .ref (a 1)), (1, .int (nI sl)), (2, .int (k)), (3, .int (nI n3))]) hx hb dX0_runStart_33 hl (k := 4) rfl (inc_n _ 1) (by decide) rfl (fun ls hl => ?_)
          refine lv_goto (tgt := 5) hx hb dX0_runStart_36 (by decide) ?_
          exact ih5 (dy + 1) n3 (by omega) (by rw [fb_ct_succ, c19, hn]; rfl) (he.trans (fsI_go (by omega) (fun g => by first | exact absurd (c19.symm.trans g.1) (by decide) | exact c24 (by rw [hn]; exact g.2)))) (by omega) H locs hI ls (lv_sub hl [1, 2, 3, 4, 0] rfl)
        · refine lv_iload_n hx hb dX0_runStart_22 rfl (lv_at hl 3 rfl) ?_
          refine lv_iload_n hx hb dX0_runStart_23 rfl (lv_at hl 2 rfl) ?_
          refine lv_icmp_ne (tgt := 30) hx hb dX0_runStart_24 (by decide) (fun c24 => ?_) (fun c24 => ?_)
          · refine lv_iinc (v := nI (n3 + 1)) (lv' := [(3, .int (nI (n3 + 1))), (0, .ref (a 1)), (1, .int (nI sl)), (2, .int (k)), (4, .int (nI dy))]) hx hb dX0_runStart_30 hl (k := 3) rfl (inc_n _ 1) (by decide) rfl (fun ls hl => ?_)
            refine lv_iinc (v := nI (dy + 1)) (lv' := [(4, .int (nI (dy + 1))), (3, .int (nI (n3 + 1))), (0, .ref (a 1)), (1, .int (nI sl)), (2, .int (k))]) hx hb dX0_runStart_33 hl (k := 4) rfl (inc_n _ 1) (by decide) rfl (fun ls hl => ?_)
            refine lv_goto (tgt := 5) hx hb dX0_runStart_36 (by decide) ?_
            exact ih5 (dy + 1) (n3 + 1) (by omega) (by rw [fb_ct_succ, c19, hn]; rfl) (he.trans (fsI_go (by omega) (fun g => by first | exact absurd (c19.symm.trans g.1) (by decide) | exact c24 (by rw [hn]; exact g.2)))) (by omega) H locs hI ls (lv_sub hl [2, 3, 4, 1, 0] rfl)
          · refine lv_iload hx hb dX0_runStart_27 (lv_at hl 4 rfl) ?_
            exact hret hI.2.2.2 dX0_runStart_29 ((by rw [he, fsI_at (by omega) c19 (by rw [← hn]; exact c24)]))
  exact J5 (32 + 1) 0 0 (by omega) rfl rfl (by omega) H locs hI ls (lv_sub hl [2, 3, 4, 1, 0] rfl)
set_option maxHeartbeats 4000000 in
set_option maxRecDepth 100000 in
theorem c_X0_rowStart {l : Launch} {D : va_G} {cI cZ cJ : ClassId} {z : Nat} {a : Nat → Nat} {X : va_W} {vals fil rb : Nat → Int32} {t : Nat} {wo : Nat → Int32} {cnt fn : Int32} {S : Sta} (hA : cAbs S vals fil t) (ht : t < 40) {sl : Nat} (h1 : sl < 4 * (t + 1)) {i k : Nat} (hi : i < 32) (hb0 : isRw S sl i = true) (hk : fb_ct (isRw S sl) i = k) : roM l yX0_rowStart cX0_rowStart 5 (some .int) 4 91 [.ref (a 1), .int (nI sl), .int (nI k)] (pw D cI cZ cJ z (cw a cI vals fil rb (nI t) wo cnt fn X)) (nI i) := by
  refine bd_ro (by decide) (Nat.le_of_ble_eq_true rfl) ?_
  intro p e s m args below meth c Q hF hpw hret ls hl
  obtain ⟨hx, hb, hml, hown, hts, hr, hlocks⟩ := id hF
  have hK := hpw.2.2.2
  have hI : wi D z noA (cw a cI vals fil rb (nI t) wo cnt fn X) s s.heap [] := hpw.wi
  have hl : lv_has ls 5 [(0, .ref (a 1)), (1, .int (nI sl)), (2, .int (nI k))] := hl
  suffices hgo : ∀ (H : Heap) (locs : List Loc), wi D z noA (cw a cI vals fil rb (nI t) wo cnt fn X) s H locs → ∀ ls : Array Slot, lv_has ls 5 [(0, .ref (a 1)), (1, .int (nI sl)), (2, .int (nI k))] → W p l e (rmv 4 91) s m args below meth c H locs 0 0 Q (F0 m 0 ls []) from hgo _ _ hI ls hl
  intro H locs hI ls hl
  refine lv_iconst (v := nI 0) hx hb dX0_rowStart_0 (by decide) ?_
  refine lv_istore_n (lv' := [(3, .int (nI 0)), (0, .ref (a 1)), (1, .int (nI sl)), (2, .int (nI k))]) hx hb dX0_rowStart_1 rfl hl (by decide) rfl (fun ls hl => ?_)
  refine lv_iconst (v := nI 0) hx hb dX0_rowStart_2 (by decide) ?_
  refine lv_istore (lv' := [(4, .int (nI 0)), (3, .int (nI 0)), (0, .ref (a 1)), (1, .int (nI sl)), (2, .int (nI k))]) hx hb dX0_rowStart_3 hl (by decide) rfl (fun ls hl => ?_)
  have J5 : ∀ (n5_ : Nat) (dy : Nat) (n3 : Nat) (hd : dy ≤ i) (hn : n3 = fb_ct (isRw S sl) dy) (hm5 : 31 < dy + n5_) (H : Heap) (locs : List Loc), wi D z noA (cw a cI vals fil rb (nI t) wo cnt fn X) s H locs → ∀ ls : Array Slot, lv_has ls 5 [(0, .ref (a 1)), (1, .int (nI sl)), (2, .int (nI k)), (3, .int (nI n3)), (4, .int (nI dy))] → W p l e (rmv 4 91) s m args below meth c H locs 0 0 Q (F0 m 5 ls []) := by
    intro n5_
    induction n5_ with
    | zero => intro dy n3 hd hn hm5; exact absurd hm5 (by omega)
    | succ n5_ ih5 =>
      intro dy n3 hd hn hm5 H locs hI ls hl
      refine lv_iload hx hb dX0_rowStart_5 (lv_at hl 4 rfl) ?_
      refine lv_bipush (v := nI 32) hx hb dX0_rowStart_7 (by decide) ?_
      refine nb_ge (tgt := 39) hx hb dX0_rowStart_9 (by decide) (by omega) (by omega) (fun c9 => ?_) (fun c9 => ?_)
      · refine lv_iconst (v := nI 0) hx hb dX0_rowStart_39 (by decide) ?_
        exact hret hI.2.2.2 dX0_rowStart_40 ((absurd hd (by omega)))
      · have g0 := fb_ct_mono (isRw S sl) hd
        refine lv_aload_n hx hb dX0_rowStart_12 rfl (lv_at hl 0 rfl) ?_
        refine lv_iload_n hx hb dX0_rowStart_13 rfl (lv_at hl 1 rfl) ?_
        refine lv_iload hx hb dX0_rowStart_14 (lv_at hl 4 rfl) ?_
        refine k_ro (run_v (As := [.int (nI sl), .int (nI dy)]) (rest := []) hF hK hI (c_X0_startsRow hA ht (by omega) (by omega)) cf_X0_startsRow k228 1 0 rfl rfl ⟨Nat.le_of_ble_eq_true rfl, Nat.le_of_ble_eq_true rfl⟩ ⟨rfl, rfl⟩ ⟨Nat.le_of_ble_eq_true rfl, Nat.le_of_ble_eq_true rfl⟩ rfl hl.1 rfl (Nat.le_of_ble_eq_true rfl) dX0_rowStart_16) hI (fun H locs hI => ?_)
        refine bz_eq (tgt := 33) hx hb dX0_rowStart_19 (by decide) (fun c19 => ?_) (fun c19 => ?_)
        · refine lv_iinc (v := nI (dy + 1)) (lv' := [(4, .int (nI (dy + 1))), (0, .ref (a 1)), (1, .int (nI sl)), (2, .int (nI k)), (3, .int (nI n3))]) hx hb dX0_rowStart_33 hl (k := 4) rfl (inc_n _ 1) (by decide) rfl (fun ls hl => ?_)
          refine lv_goto (tgt := 5) hx hb dX0_rowStart_36 (by decide) ?_
          exact ih5 (dy + 1) n3 (by have g9 : dy ≠ i := (by first | (intro q9; subst q9; exact absurd (hb0.symm.trans c19) (by decide)) | (intro q9; subst q9; exact c24 (hn.trans hk))); omega) (by rw [fb_ct_succ, c19, hn]; rfl) (by omega) H locs hI ls (lv_sub hl [1, 2, 3, 4, 0] rfl)
        · have g1 := fb_ct_le (isRw S sl) i
          refine lv_iload_n hx hb dX0_rowStart_22 rfl (lv_at hl 3 rfl) ?_
          refine lv_iload_n hx hb dX0_rowStart_23 rfl (lv_at hl 2 rfl) ?_
          refine nb_ne (tgt := 30) hx hb dX0_rowStart_24 (by decide) (by omega) (by omega) (fun c24 => ?_) (fun c24 => ?_)
          · refine lv_iinc (v := nI (n3 + 1)) (lv' := [(3, .int (nI (n3 + 1))), (0, .ref (a 1)), (1, .int (nI sl)), (2, .int (nI k)), (4, .int (nI dy))]) hx hb dX0_rowStart_30 hl (k := 3) rfl (inc_n _ 1) (by decide) rfl (fun ls hl => ?_)
            refine lv_iinc (v := nI (dy + 1)) (lv' := [(4, .int (nI (dy + 1))), (3, .int (nI (n3 + 1))), (0, .ref (a 1)), (1, .int (nI sl)), (2, .int (nI k))]) hx hb dX0_rowStart_33 hl (k := 4) rfl (inc_n _ 1) (by decide) rfl (fun ls hl => ?_)
            refine lv_goto (tgt := 5) hx hb dX0_rowStart_36 (by decide) ?_
            exact ih5 (dy + 1) (n3 + 1) (by have g9 : dy ≠ i := (by first | (intro q9; subst q9; exact absurd (hb0.symm.trans c19) (by decide)) | (intro q9; subst q9; exact c24 (hn.trans hk))); omega) (by rw [fb_ct_succ, c19, hn]; rfl) (by omega) H locs hI ls (lv_sub hl [2, 3, 4, 1, 0] rfl)
          · refine lv_iload hx hb dX0_rowStart_27 (lv_at hl 4 rfl) ?_
            exact hret hI.2.2.2 dX0_rowStart_29 ((by rw [fb_ct_kth_one (p := isRw S sl) c19 hb0 (by omega)]))
  exact J5 (31 + 1) 0 0 (by omega) rfl (by omega) H locs hI ls (lv_sub hl [2, 3, 4, 1, 0] rfl)
set_option maxHeartbeats 4000000 in
set_option maxRecDepth 100000 in
theorem c_X0_countRelated {l : Launch} {D : va_G} {cI cZ cJ : ClassId} {z : Nat} {a : Nat → Nat} {X : va_W} {vals fil rb : Nat → Int32} {t : Nat} {wo : Nat → Int32} {cnt fn : Int32} {S : Sta} (hA : cAbs S vals fil t) (ht : t < 40) {sl : Nat} (h1 : sl < 4 * (t + 1)) {fr to r : Nat} (h3 : fr < to) (h4 : to ≤ 32) (h5 : r ≤ 12) : roM l yX0_countRelated cX0_countRelated 7 (some .int) 2 47 [.ref (a 1), .int (nI fr), .int (nI to), .int (nI sl), .int (nI r)] (pw D cI cZ cJ z (cw a cI vals fil rb (nI t) wo cnt fn X)) (nI (fb_ct (fun y => beg S sl y && decide (rel fr to y (rend S sl y) = r)) 32)) := by
  refine bd_ro (by decide) (Nat.le_of_ble_eq_true rfl) ?_
  intro p e s m args below meth c Q hF hpw hret ls hl
  obtain ⟨hx, hb, hml, hown, hts, hr, hlocks⟩ := id hF
  have hK := hpw.2.2.2
  have hI : wi D z noA (cw a cI vals fil rb (nI t) wo cnt fn X) s s.heap [] := hpw.wi
  have hl : lv_has ls 7 [(0, .ref (a 1)), (1, .int (nI fr)), (2, .int (nI to)), (3, .int (nI sl)), (4, .int (nI r))] := hl
  suffices hgo : ∀ (H : Heap) (locs : List Loc), wi D z noA (cw a cI vals fil rb (nI t) wo cnt fn X) s H locs → ∀ ls : Array Slot, lv_has ls 7 [(0, .ref (a 1)), (1, .int (nI fr)), (2, .int (nI to)), (3, .int (nI sl)), (4, .int (nI r))] → W p l e (rmv 2 47) s m args below meth c H locs 0 0 Q (F0 m 0 ls []) from hgo _ _ hI ls hl
  intro H locs hI ls hl
  refine lv_iconst (v := nI 0) hx hb dX0_countRelated_0 (by decide) ?_
  refine lv_istore (lv' := [(5, .int (nI 0)), (0, .ref (a 1)), (1, .int (nI fr)), (2, .int (nI to)), (3, .int (nI sl)), (4, .int (nI r))]) hx hb dX0_countRelated_1 hl (by decide) rfl (fun ls hl => ?_)
  refine lv_iconst (v := nI 0) hx hb dX0_countRelated_3 (by decide) ?_
  refine lv_istore (lv' := [(6, .int (nI 0)), (5, .int (nI 0)), (0, .ref (a 1)), (1, .int (nI fr)), (2, .int (nI to)), (3, .int (nI sl)), (4, .int (nI r))]) hx hb dX0_countRelated_4 hl (by decide) rfl (fun ls hl => ?_)
  have J6 : ∀ (n6_ : Nat) (dy : Nat) (n2 : Nat) (hd : dy ≤ 32) (hn : n2 = fb_ct (fun y => beg S sl y && decide (rel fr to y (rend S sl y) = r)) dy) (hm6 : 32 < dy + n6_) (H : Heap) (locs : List Loc), wi D z noA (cw a cI vals fil rb (nI t) wo cnt fn X) s H locs → ∀ ls : Array Slot, lv_has ls 7 [(0, .ref (a 1)), (1, .int (nI fr)), (2, .int (nI to)), (3, .int (nI sl)), (4, .int (nI r)), (5, .int (nI n2)), (6, .int (nI dy))] → W p l e (rmv 2 47) s m args below meth c H locs 0 0 Q (F0 m 6 ls []) := by
    intro n6_
    induction n6_ with
    | zero => intro dy n2 hd hn hm6; exact absurd hm6 (by omega)
    | succ n6_ ih6 =>
      intro dy n2 hd hn hm6 H locs hI ls hl
      refine lv_iload hx hb dX0_countRelated_6 (lv_at hl 6 rfl) ?_
      refine lv_bipush (v := nI 32) hx hb dX0_countRelated_8 (by decide) ?_
      refine nb_ge (tgt := 51) hx hb dX0_countRelated_10 (by decide) (by omega) (by omega) (fun c10 => ?_) (fun c10 => ?_)
      · refine lv_iload hx hb dX0_countRelated_51 (lv_at hl 5 rfl) ?_
        exact hret hI.2.2.2 dX0_countRelated_53 ((by rw [hn, show dy = 32 by omega]))
      · refine lv_aload_n hx hb dX0_countRelated_13 rfl (lv_at hl 0 rfl) ?_
        refine lv_iload_n hx hb dX0_countRelated_14 rfl (lv_at hl 3 rfl) ?_
        refine lv_iload hx hb dX0_countRelated_15 (lv_at hl 6 rfl) ?_
        refine k_ro (run_v (As := [.int (nI sl), .int (nI dy)]) (rest := []) hF hK hI (c_X0_startsRun hA ht (by omega) (by omega)) cf_X0_startsRun k232 1 0 rfl rfl ⟨Nat.le_of_ble_eq_true rfl, Nat.le_of_ble_eq_true rfl⟩ ⟨rfl, rfl⟩ ⟨Nat.le_of_ble_eq_true rfl, Nat.le_of_ble_eq_true rfl⟩ rfl hl.1 rfl (Nat.le_of_ble_eq_true rfl) dX0_countRelated_17) hI (fun H locs hI => ?_)
        refine bz_eq (tgt := 45) hx hb dX0_countRelated_20 (by decide) (fun c20 => ?_) (fun c20 => ?_)
        · refine lv_iinc (v := nI (dy + 1)) (lv' := [(6, .int (nI (dy + 1))), (0, .ref (a 1)), (1, .int (nI fr)), (2, .int (nI to)), (3, .int (nI sl)), (4, .int (nI r)), (5, .int (nI n2))]) hx hb dX0_countRelated_45 hl (k := 6) rfl (inc_n _ 1) (by decide) rfl (fun ls hl => ?_)
          refine lv_goto (tgt := 6) hx hb dX0_countRelated_48 (by decide) ?_
          exact ih6 (dy + 1) n2 (by omega) (by rw [fb_ct_succ, hn, c20]; simp_all) (by omega) H locs hI ls (lv_sub hl [1, 2, 3, 4, 5, 6, 0] rfl)
        · refine lv_iload_n hx hb dX0_countRelated_23 rfl (lv_at hl 1 rfl) ?_
          refine lv_iload_n hx hb dX0_countRelated_24 rfl (lv_at hl 2 rfl) ?_
          refine lv_iload hx hb dX0_countRelated_25 (lv_at hl 6 rfl) ?_
          refine lv_aload_n hx hb dX0_countRelated_27 rfl (lv_at hl 0 rfl) ?_
          refine lv_iload_n hx hb dX0_countRelated_28 rfl (lv_at hl 3 rfl) ?_
          refine lv_iload hx hb dX0_countRelated_29 (lv_at hl 6 rfl) ?_
          refine k_ro (run_v (As := [.int (nI sl), .int (nI dy)]) (rest := [.int (nI dy), .int (nI to), .int (nI fr)]) hF hK hI (c_X0_runEnd hA ht (by omega) (by omega)) cf_X0_runEnd k248 1 0 rfl rfl ⟨Nat.le_of_ble_eq_true rfl, Nat.le_of_ble_eq_true rfl⟩ ⟨rfl, rfl⟩ ⟨Nat.le_of_ble_eq_true rfl, Nat.le_of_ble_eq_true rfl⟩ rfl hl.1 rfl (Nat.le_of_ble_eq_true rfl) dX0_countRelated_31) hI (fun H locs hI => ?_)
          have g1 := rend_in (S := S) (sl := sl) (dy := dy) (by omega)
          refine k_ro (run_n (As := [.int (nI fr), .int (nI to), .int (nI dy), .int (nI (rend S sl dy))]) (rest := []) hF (c_X2_relationOf (by omega) (by omega) (by omega) (by omega) (by omega) (by omega)) tt_blind (fun _ _ _ => trivial) cf_X2_relationOf hK.2.2.2.2.2.2 ⟨Nat.le_of_ble_eq_true rfl, Nat.le_of_ble_eq_true rfl⟩ ⟨rfl, rfl⟩ ⟨Nat.le_of_ble_eq_true rfl, Nat.le_of_ble_eq_true rfl⟩ rfl hl.1 rfl (Nat.le_of_ble_eq_true rfl) dX0_countRelated_34) hI (fun H locs hI => ?_)
          refine lv_iload hx hb dX0_countRelated_37 (lv_at hl 4 rfl) ?_
          have g2 := rel_le fr to dy (rend S sl dy)
          refine nb_ne (tgt := 45) hx hb dX0_countRelated_39 (by decide) (by omega) (by omega) (fun c39 => ?_) (fun c39 => ?_)
          · refine lv_iinc (v := nI (dy + 1)) (lv' := [(6, .int (nI (dy + 1))), (0, .ref (a 1)), (1, .int (nI fr)), (2, .int (nI to)), (3, .int (nI sl)), (4, .int (nI r)), (5, .int (nI n2))]) hx hb dX0_countRelated_45 hl (k := 6) rfl (inc_n _ 1) (by decide) rfl (fun ls hl => ?_)
            refine lv_goto (tgt := 6) hx hb dX0_countRelated_48 (by decide) ?_
            exact ih6 (dy + 1) n2 (by omega) (by rw [fb_ct_succ, hn, c20]; simp_all) (by omega) H locs hI ls (lv_sub hl [1, 2, 3, 4, 5, 6, 0] rfl)
          · refine lv_iinc (v := nI (n2 + 1)) (lv' := [(5, .int (nI (n2 + 1))), (0, .ref (a 1)), (1, .int (nI fr)), (2, .int (nI to)), (3, .int (nI sl)), (4, .int (nI r)), (6, .int (nI dy))]) hx hb dX0_countRelated_42 hl (k := 5) rfl (inc_n _ 1) (by decide) rfl (fun ls hl => ?_)
            refine lv_iinc (v := nI (dy + 1)) (lv' := [(6, .int (nI (dy + 1))), (5, .int (nI (n2 + 1))), (0, .ref (a 1)), (1, .int (nI fr)), (2, .int (nI to)), (3, .int (nI sl)), (4, .int (nI r))]) hx hb dX0_countRelated_45 hl (k := 6) rfl (inc_n _ 1) (by decide) rfl (fun ls hl => ?_)
            refine lv_goto (tgt := 6) hx hb dX0_countRelated_48 (by decide) ?_
            exact ih6 (dy + 1) (n2 + 1) (by omega) (by rw [fb_ct_succ, hn, c20]; simp_all) (by omega) H locs hI ls (lv_sub hl [2, 3, 4, 5, 6, 1, 0] rfl)
  exact J6 (32 + 1) 0 0 (by omega) rfl (by omega) H locs hI ls (lv_sub hl [2, 3, 4, 5, 6, 1, 0] rfl)
set_option maxHeartbeats 4000000 in
set_option maxRecDepth 100000 in
theorem c_X0_countRows {l : Launch} {D : va_G} {cI cZ cJ : ClassId} {z : Nat} {a : Nat → Nat} {X : va_W} {vals fil rb : Nat → Int32} {t : Nat} {wo : Nat → Int32} {cnt fn : Int32} {S : Sta} (hA : cAbs S vals fil t) (ht : t < 40) (hR : ∀ x, x < 4 * (t + 1) → rb x = nI (rowsIn S x)) : roM l yX0_countRows cX0_countRows 3 (some .int) 0 0 [.ref (a 1)] (pw D cI cZ cJ z (cw a cI vals fil rb (nI t) wo cnt fn X)) (nI (rowsTo S (4 * (t + 1)))) := by
  refine bd_ro (by decide) (Nat.le_of_ble_eq_true rfl) ?_
  intro p e s m args below meth c Q hF hpw hret ls hl
  obtain ⟨hx, hb, hml, hown, hts, hr, hlocks⟩ := id hF
  have hK := hpw.2.2.2
  have hI : wi D z noA (cw a cI vals fil rb (nI t) wo cnt fn X) s s.heap [] := hpw.wi
  have hl : lv_has ls 3 [(0, .ref (a 1))] := hl
  suffices hgo : ∀ (H : Heap) (locs : List Loc), wi D z noA (cw a cI vals fil rb (nI t) wo cnt fn X) s H locs → ∀ ls : Array Slot, lv_has ls 3 [(0, .ref (a 1))] → W p l e (rmv 0 0) s m args below meth c H locs 0 0 Q (F0 m 0 ls []) from hgo _ _ hI ls hl
  intro H locs hI ls hl
  refine lv_iconst (v := nI 0) hx hb dX0_countRows_0 (by decide) ?_
  refine lv_istore_n (lv' := [(1, .int (nI 0)), (0, .ref (a 1))]) hx hb dX0_countRows_1 rfl hl (by decide) rfl (fun ls hl => ?_)
  refine lv_iconst (v := nI 0) hx hb dX0_countRows_2 (by decide) ?_
  refine lv_istore_n (lv' := [(2, .int (nI 0)), (1, .int (nI 0)), (0, .ref (a 1))]) hx hb dX0_countRows_3 rfl hl (by decide) rfl (fun ls hl => ?_)
  have J4 : ∀ (n4_ : Nat) (x : Nat) (n1 : Nat) (hx1 : x ≤ 4 * (t + 1)) (hn : n1 = rowsTo S x) (hm4 : 4 * (t + 1) < x + n4_) (H : Heap) (locs : List Loc), wi D z noA (cw a cI vals fil rb (nI t) wo cnt fn X) s H locs → ∀ ls : Array Slot, lv_has ls 3 [(0, .ref (a 1)), (1, .int (nI n1)), (2, .int (nI x))] → W p l e (rmv 0 0) s m args below meth c H locs 0 0 Q (F0 m 4 ls []) := by
    intro n4_
    induction n4_ with
    | zero => intro x n1 hx1 hn hm4; exact absurd hm4 (by omega)
    | succ n4_ ih4 =>
      intro x n1 hx1 hn hm4 H locs hI ls hl
      refine lv_iload_n hx hb dX0_countRows_4 rfl (lv_at hl 2 rfl) ?_
      refine lv_aload_n hx hb dX0_countRows_5 rfl (lv_at hl 0 rfl) ?_
      refine va_get (D := D) (ci := 0) (v := .int (nI t)) (C := RX0) (T := TX0) (N := 4) hx hb hts inX0 hown hK.1 hI.2.1 1 rfl rfl 3 (by decide) (hts _ k30) (fun _ h9 => h9) rfl dX0_countRows_6 ?_
      refine lv_iconst (v := nI 1) hx hb dX0_countRows_9 (by decide) ?_
      refine lv_iadd hx hb dX0_countRows_10 ?_
      refine tp (nI_add _ _) ?_
      refine lv_iconst (v := nI 4) hx hb dX0_countRows_11 (by decide) ?_
      refine lv_imul hx hb dX0_countRows_12 ?_
      refine tp (pk_mul _ _) ?_
      refine nb_ge (tgt := 31) hx hb dX0_countRows_13 (by decide) (by omega) (by omega) (fun c13 => ?_) (fun c13 => ?_)
      · refine lv_iload_n hx hb dX0_countRows_31 rfl (lv_at hl 1 rfl) ?_
        exact hret hI.2.2.2 dX0_countRows_32 ((by rw [hn, show x = 4 * (t + 1) by omega]))
      · refine lv_iload_n hx hb dX0_countRows_16 rfl (lv_at hl 1 rfl) ?_
        refine lv_aload_n hx hb dX0_countRows_17 rfl (lv_at hl 0 rfl) ?_
        refine va_get (D := D) (ci := 0) (v := .ref (a 4)) (C := RX0) (T := TX0) (N := 4) hx hb hts inX0 hown hK.1 hI.2.1 1 rfl rfl 2 (by decide) (hts _ k29) (fun _ h9 => h9) rfl dX0_countRows_18 ?_
        refine lv_iload_n hx hb dX0_countRows_21 rfl (lv_at hl 2 rfl) ?_
        refine ia_ld (f := rb) (k := x) hx hb hK hI 4 rfl dX0_countRows_22 (by omega) (by decide) ?_
        refine tp (hR x (by omega)) ?_
        refine lv_iadd hx hb dX0_countRows_23 ?_
        refine tp (nI_add _ _) ?_
        refine lv_istore_n (lv' := [(1, .int (nI (n1 + (rowsIn S x)))), (0, .ref (a 1)), (2, .int (nI x))]) hx hb dX0_countRows_24 rfl hl (by decide) rfl (fun ls hl => ?_)
        refine lv_iinc (v := nI (x + 1)) (lv' := [(2, .int (nI (x + 1))), (1, .int (nI (n1 + (rowsIn S x)))), (0, .ref (a 1))]) hx hb dX0_countRows_25 hl (k := 2) rfl (inc_n _ 1) (by decide) rfl (fun ls hl => ?_)
        refine lv_goto (tgt := 4) hx hb dX0_countRows_28 (by decide) ?_
        exact ih4 (x + 1) (n1 + (rowsIn S x)) (by omega) (by rw [hn]; rfl) (by omega) H locs hI ls (lv_sub hl [2, 1, 0] rfl)
  exact J4 (4 * (t + 1) + 1) 0 0 (by omega) rfl (by omega) H locs hI ls (lv_sub hl [2, 1, 0] rfl)
set_option maxHeartbeats 4000000 in
set_option maxRecDepth 100000 in
theorem c_X0_rowEnd {l : Launch} {D : va_G} {cI cZ cJ : ClassId} {z : Nat} {a : Nat → Nat} {X : va_W} {vals fil rb : Nat → Int32} {t : Nat} {wo : Nat → Int32} {cnt fn : Int32} {S : Sta} (hA : cAbs S vals fil t) (ht : t < 40) {tm ky dy : Nat} (h1 : tm ≤ t) (h3 : ky < 4) (h2 : dy < 32) (hs : (S (tm * 4 + ky) dy).isSome = true) : roM l yX0_rowEnd cX0_rowEnd 6 (some .int) 3 69 [.ref (a 1), .int (nI tm), .int (nI ky), .int (nI dy)] (pw D cI cZ cJ z (cw a cI vals fil rb (nI t) wo cnt fn X)) (endV S t tm ky dy) := by
  refine bd_ro (by decide) (Nat.le_of_ble_eq_true rfl) ?_
  intro p e s m args below meth c Q hF hpw hret ls hl
  obtain ⟨hx, hb, hml, hown, hts, hr, hlocks⟩ := id hF
  have hK := hpw.2.2.2
  have hI : wi D z noA (cw a cI vals fil rb (nI t) wo cnt fn X) s s.heap [] := hpw.wi
  have hl : lv_has ls 6 [(0, .ref (a 1)), (1, .int (nI tm)), (2, .int (nI ky)), (3, .int (nI dy))] := hl
  suffices hgo : ∀ (H : Heap) (locs : List Loc), wi D z noA (cw a cI vals fil rb (nI t) wo cnt fn X) s H locs → ∀ ls : Array Slot, lv_has ls 6 [(0, .ref (a 1)), (1, .int (nI tm)), (2, .int (nI ky)), (3, .int (nI dy))] → W p l e (rmv 3 69) s m args below meth c H locs 0 0 Q (F0 m 0 ls []) from hgo _ _ hI ls hl
  intro H locs hI ls hl
  refine lv_iload_n hx hb dX0_rowEnd_0 rfl (lv_at hl 1 rfl) ?_
  refine lv_iload_n hx hb dX0_rowEnd_1 rfl (lv_at hl 2 rfl) ?_
  refine k_ro (run_n (As := [.int (nI tm), .int (nI ky)]) (rest := []) hF (c_X2_slotOf ) tt_blind (fun _ _ _ => trivial) cf_X2_slotOf hK.2.2.2.2.2.1 ⟨Nat.le_of_ble_eq_true rfl, Nat.le_of_ble_eq_true rfl⟩ ⟨rfl, rfl⟩ ⟨Nat.le_of_ble_eq_true rfl, Nat.le_of_ble_eq_true rfl⟩ rfl hl.1 rfl (Nat.le_of_ble_eq_true rfl) dX0_rowEnd_2) hI (fun H locs hI => ?_)
  refine lv_istore (lv' := [(4, .int (nI (tm * 4 + ky))), (0, .ref (a 1)), (1, .int (nI tm)), (2, .int (nI ky)), (3, .int (nI dy))]) hx hb dX0_rowEnd_5 hl (by decide) rfl (fun ls hl => ?_)
  refine lv_iload_n hx hb dX0_rowEnd_7 rfl (lv_at hl 2 rfl) ?_
  refine lv_iconst (v := nI 1) hx hb dX0_rowEnd_8 (by decide) ?_
  refine lv_iadd hx hb dX0_rowEnd_9 ?_
  refine tp (nI_add _ _) ?_
  refine lv_istore (lv' := [(5, .int (nI (tm + 1))), (4, .int (nI (tm * 4 + ky))), (0, .ref (a 1)), (1, .int (nI tm)), (2, .int (nI ky)), (3, .int (nI dy))]) hx hb dX0_rowEnd_10 hl (by decide) rfl (fun ls hl => ?_)
  have J12 : ∀ (n12_ : Nat) (x : Nat) (hx1 : x ≤ t + 1) (hx0 : tm < x) (hxe : endV S t tm ky dy = endF S (tm * 4 + ky) ky dy (t + 1 - x) x) (hm12 : t + 1 < x + n12_) (H : Heap) (locs : List Loc), wi D z noA (cw a cI vals fil rb (nI t) wo cnt fn X) s H locs → ∀ ls : Array Slot, lv_has ls 6 [(0, .ref (a 1)), (1, .int (nI tm)), (2, .int (nI ky)), (3, .int (nI dy)), (4, .int (nI (tm * 4 + ky))), (5, .int (nI x))] → W p l e (rmv 3 69) s m args below meth c H locs 0 0 Q (F0 m 12 ls []) := by
    intro n12_
    induction n12_ with
    | zero => intro x hx1 hx0 hxe hm12; exact absurd hm12 (by omega)
    | succ n12_ ih12 =>
      intro x hx1 hx0 hxe hm12 H locs hI ls hl
      refine lv_iload hx hb dX0_rowEnd_12 (lv_at hl 5 rfl) ?_
      refine lv_aload_n hx hb dX0_rowEnd_14 rfl (lv_at hl 0 rfl) ?_
      refine va_get (D := D) (ci := 0) (v := .int (nI t)) (C := RX0) (T := TX0) (N := 4) hx hb hts inX0 hown hK.1 hI.2.1 1 rfl rfl 3 (by decide) (hts _ k30) (fun _ h9 => h9) rfl dX0_rowEnd_15 ?_
      refine nb_gt (tgt := 46) hx hb dX0_rowEnd_18 (by decide) (by omega) (by omega) (fun c18 => ?_) (fun c18 => ?_)
      · refine lv_iconst (v := (-1 : Int32)) hx hb dX0_rowEnd_46 (by decide) ?_
        exact hret hI.2.2.2 dX0_rowEnd_47 ((by rw [hxe, show t + 1 - x = 0 by omega]; rfl))
      · refine lv_aload_n hx hb dX0_rowEnd_21 rfl (lv_at hl 0 rfl) ?_
        refine lv_iload hx hb dX0_rowEnd_22 (lv_at hl 4 rfl) ?_
        refine lv_iload hx hb dX0_rowEnd_24 (lv_at hl 5 rfl) ?_
        refine lv_iload_n hx hb dX0_rowEnd_26 rfl (lv_at hl 2 rfl) ?_
        refine k_ro (run_n (As := [.int (nI x), .int (nI ky)]) (rest := [.int (nI (tm * 4 + ky)), .ref (a 1)]) hF (c_X2_slotOf ) tt_blind (fun _ _ _ => trivial) cf_X2_slotOf hK.2.2.2.2.2.1 ⟨Nat.le_of_ble_eq_true rfl, Nat.le_of_ble_eq_true rfl⟩ ⟨rfl, rfl⟩ ⟨Nat.le_of_ble_eq_true rfl, Nat.le_of_ble_eq_true rfl⟩ rfl hl.1 rfl (Nat.le_of_ble_eq_true rfl) dX0_rowEnd_27) hI (fun H locs hI => ?_)
        refine lv_iload_n hx hb dX0_rowEnd_30 rfl (lv_at hl 3 rfl) ?_
        refine k_ro (run_v (As := [.int (nI (tm * 4 + ky)), .int (nI (x * 4 + ky)), .int (nI dy)]) (rest := []) hF hK hI (c_X0_sharesRun hA ht (by omega) (by omega) (by omega) hs) cf_X0_sharesRun k240 1 0 rfl rfl ⟨Nat.le_of_ble_eq_true rfl, Nat.le_of_ble_eq_true rfl⟩ ⟨rfl, rfl⟩ ⟨Nat.le_of_ble_eq_true rfl, Nat.le_of_ble_eq_true rfl⟩ rfl hl.1 rfl (Nat.le_of_ble_eq_true rfl) dX0_rowEnd_31) hI (fun H locs hI => ?_)
        refine bz_ne (tgt := 40) hx hb dX0_rowEnd_34 (by decide) (fun c34 => ?_) (fun c34 => ?_)
        · refine lv_iinc (v := nI (x + 1)) (lv' := [(5, .int (nI (x + 1))), (0, .ref (a 1)), (1, .int (nI tm)), (2, .int (nI ky)), (3, .int (nI dy)), (4, .int (nI (tm * 4 + ky)))]) hx hb dX0_rowEnd_40 hl (k := 5) rfl (inc_n _ 1) (by decide) rfl (fun ls hl => ?_)
          refine lv_goto (tgt := 12) hx hb dX0_rowEnd_43 (by decide) ?_
          exact ih12 (x + 1) (by omega) (by omega) (hxe.trans (end_go (by omega) c34)) (by omega) H locs hI ls (lv_sub hl [1, 2, 3, 4, 5, 0] rfl)
        · refine lv_iload hx hb dX0_rowEnd_37 (lv_at hl 5 rfl) ?_
          exact hret hI.2.2.2 dX0_rowEnd_39 ((by rw [hxe, end_no (by omega) c34]))
  exact J12 (t + 1 + 1) (tm + 1) (by omega) (by omega) (by rw [endV, show t - tm = t + 1 - (tm + 1) by omega]) (by omega) H locs hI ls (lv_sub hl [2, 3, 4, 5, 1, 0] rfl)
set_option maxHeartbeats 4000000 in
set_option maxRecDepth 100000 in
theorem c_X0_partOfRow {l : Launch} {D : va_G} {cI cZ cJ : ClassId} {z : Nat} {a : Nat → Nat} {X : va_W} {vals fil rb : Nat → Int32} {t : Nat} {wo : Nat → Int32} {cnt fn : Int32} {S : Sta} (hA : cAbs S vals fil t) (ht : t < 40) {tm ky dy pt : Nat} (h1 : tm ≤ t) (h3 : ky < 4) (h2 : dy < 32) (hs : (S (tm * 4 + ky) dy).isSome = true) (h4 : pt ≤ 5) : roM l yX0_partOfRow cX0_partOfRow 6 (some .int) 4 94 [.ref (a 1), .int (nI tm), .int (nI ky), .int (nI dy), .int (nI pt)] (pw D cI cZ cJ z (cw a cI vals fil rb (nI t) wo cnt fn X)) (rowV S t tm ky dy pt) := by
  refine bd_ro (by decide) (Nat.le_of_ble_eq_true rfl) ?_
  intro p e s m args below meth c Q hF hpw hret ls hl
  obtain ⟨hx, hb, hml, hown, hts, hr, hlocks⟩ := id hF
  have hK := hpw.2.2.2
  have hI : wi D z noA (cw a cI vals fil rb (nI t) wo cnt fn X) s s.heap [] := hpw.wi
  have hl : lv_has ls 6 [(0, .ref (a 1)), (1, .int (nI tm)), (2, .int (nI ky)), (3, .int (nI dy)), (4, .int (nI pt))] := hl
  suffices hgo : ∀ (H : Heap) (locs : List Loc), wi D z noA (cw a cI vals fil rb (nI t) wo cnt fn X) s H locs → ∀ ls : Array Slot, lv_has ls 6 [(0, .ref (a 1)), (1, .int (nI tm)), (2, .int (nI ky)), (3, .int (nI dy)), (4, .int (nI pt))] → W p l e (rmv 4 94) s m args below meth c H locs 0 0 Q (F0 m 0 ls []) from hgo _ _ hI ls hl
  intro H locs hI ls hl
  refine lv_iload_n hx hb dX0_partOfRow_0 rfl (lv_at hl 1 rfl) ?_
  refine lv_iload_n hx hb dX0_partOfRow_1 rfl (lv_at hl 2 rfl) ?_
  refine k_ro (run_n (As := [.int (nI tm), .int (nI ky)]) (rest := []) hF (c_X2_slotOf ) tt_blind (fun _ _ _ => trivial) cf_X2_slotOf hK.2.2.2.2.2.1 ⟨Nat.le_of_ble_eq_true rfl, Nat.le_of_ble_eq_true rfl⟩ ⟨rfl, rfl⟩ ⟨Nat.le_of_ble_eq_true rfl, Nat.le_of_ble_eq_true rfl⟩ rfl hl.1 rfl (Nat.le_of_ble_eq_true rfl) dX0_partOfRow_2) hI (fun H locs hI => ?_)
  refine lv_istore (lv' := [(5, .int (nI (tm * 4 + ky))), (0, .ref (a 1)), (1, .int (nI tm)), (2, .int (nI ky)), (3, .int (nI dy)), (4, .int (nI pt))]) hx hb dX0_partOfRow_5 hl (by decide) rfl (fun ls hl => ?_)
  refine lv_iload hx hb dX0_partOfRow_7 (lv_at hl 5 rfl) ?_
  rcases (show pt = 0 ∨ pt = 1 ∨ pt = 2 ∨ pt = 3 ∨ pt = 4 ∨ pt = 5 by omega) with rfl | rfl | rfl | rfl | rfl | rfl
  · refine lv_tableIn (off := 35) (tgt := 44) hx hb dX0_partOfRow_9 (by decide) (by decide) rfl (by decide) ?_
    refine lv_iload_n hx hb dX0_partOfRow_44 rfl (lv_at hl 3 rfl) ?_
    exact hret hI.2.2.2 dX0_partOfRow_45 ((by first | rfl | (simp [rowV, val_c hA (by omega) h2 hs])))
  · refine lv_tableIn (off := 37) (tgt := 46) hx hb dX0_partOfRow_9 (by decide) (by decide) rfl (by decide) ?_
    refine lv_aload_n hx hb dX0_partOfRow_46 rfl (lv_at hl 1 rfl) ?_
    refine lv_iload hx hb dX0_partOfRow_47 (lv_at hl 0 rfl) ?_
    refine lv_iload_n hx hb dX0_partOfRow_49 rfl (lv_at hl 4 rfl) ?_
    refine k_ro (run_v (As := [.int (nI (tm * 4 + ky)), .int (nI dy)]) (rest := []) hF hK hI (c_X0_valueOn ht (by omega) (by omega)) cf_X0_valueOn k244 1 0 rfl rfl ⟨Nat.le_of_ble_eq_true rfl, Nat.le_of_ble_eq_true rfl⟩ ⟨rfl, rfl⟩ ⟨Nat.le_of_ble_eq_true rfl, Nat.le_of_ble_eq_true rfl⟩ rfl hl.1 rfl (Nat.le_of_ble_eq_true rfl) dX0_partOfRow_50) hI (fun H locs hI => ?_)
    exact hret hI.2.2.2 dX0_partOfRow_53 ((by first | rfl | (simp [rowV, val_c hA (by omega) h2 hs])))
  · refine lv_tableIn (off := 45) (tgt := 54) hx hb dX0_partOfRow_9 (by decide) (by decide) rfl (by decide) ?_
    refine lv_iload_n hx hb dX0_partOfRow_54 rfl (lv_at hl 4 rfl) ?_
    exact hret hI.2.2.2 dX0_partOfRow_55 ((by first | rfl | (simp [rowV, val_c hA (by omega) h2 hs])))
  · refine lv_tableIn (off := 47) (tgt := 56) hx hb dX0_partOfRow_9 (by decide) (by decide) rfl (by decide) ?_
    refine lv_aload_n hx hb dX0_partOfRow_56 rfl (lv_at hl 1 rfl) ?_
    refine lv_iload hx hb dX0_partOfRow_57 (lv_at hl 0 rfl) ?_
    refine lv_iload_n hx hb dX0_partOfRow_59 rfl (lv_at hl 4 rfl) ?_
    refine k_ro (run_v (As := [.int (nI (tm * 4 + ky)), .int (nI dy)]) (rest := []) hF hK hI (c_X0_runEnd hA ht (by omega) (by omega)) cf_X0_runEnd k248 1 0 rfl rfl ⟨Nat.le_of_ble_eq_true rfl, Nat.le_of_ble_eq_true rfl⟩ ⟨rfl, rfl⟩ ⟨Nat.le_of_ble_eq_true rfl, Nat.le_of_ble_eq_true rfl⟩ rfl hl.1 rfl (Nat.le_of_ble_eq_true rfl) dX0_partOfRow_60) hI (fun H locs hI => ?_)
    exact hret hI.2.2.2 dX0_partOfRow_63 ((by first | rfl | (simp [rowV, val_c hA (by omega) h2 hs])))
  · refine lv_tableIn (off := 55) (tgt := 64) hx hb dX0_partOfRow_9 (by decide) (by decide) rfl (by decide) ?_
    refine lv_iload_n hx hb dX0_partOfRow_64 rfl (lv_at hl 2 rfl) ?_
    exact hret hI.2.2.2 dX0_partOfRow_65 ((by first | rfl | (simp [rowV, val_c hA (by omega) h2 hs])))
  · refine lv_tableOut (tgt := 66) hx hb dX0_partOfRow_9 (by decide) (by decide) ?_
    refine lv_aload_n hx hb dX0_partOfRow_66 rfl (lv_at hl 1 rfl) ?_
    refine lv_iload_n hx hb dX0_partOfRow_67 rfl (lv_at hl 2 rfl) ?_
    refine lv_iload_n hx hb dX0_partOfRow_68 rfl (lv_at hl 3 rfl) ?_
    refine lv_iload_n hx hb dX0_partOfRow_69 rfl (lv_at hl 4 rfl) ?_
    refine k_ro (run_v (As := [.int (nI tm), .int (nI ky), .int (nI dy)]) (rest := []) hF hK hI (c_X0_rowEnd hA ht (by omega) (by omega) (by omega) hs) cf_X0_rowEnd k375 1 0 rfl rfl ⟨Nat.le_of_ble_eq_true rfl, Nat.le_of_ble_eq_true rfl⟩ ⟨rfl, rfl⟩ ⟨Nat.le_of_ble_eq_true rfl, Nat.le_of_ble_eq_true rfl⟩ rfl hl.1 rfl (Nat.le_of_ble_eq_true rfl) dX0_partOfRow_70) hI (fun H locs hI => ?_)
    exact hret hI.2.2.2 dX0_partOfRow_73 ((by first | rfl | (simp [rowV, val_c hA (by omega) h2 hs])))
