set_option maxHeartbeats 4000000 in
set_option maxRecDepth 100000 in
theorem c_X3_fail {l : Launch} {D : va_G} {cI cZ cJ : ClassId} {z : Nat} {b : Nat → Nat} {X : va_W} {t : Nat} {th : Nat → Bool} {vs : Nat → Int32} {kt : Nat → Bool} {kv : Nat → Int32} {wt : Int32} {wa : Nat → Int32} {fl tr ch : Int32} {k : Nat}  : muM (S := Unit) l yX3_fail cX3_fail 2 (some .int) 0 0 [.ref (b 0), .int (nI k)] (pw D cI cZ cJ z (mw b cI cZ (nI t) th vs kt kv wt wa fl tr ch X)) D z (fun _ => mw b cI cZ (nI t) th vs kt kv wt wa fl (nI k) ch X) (fun r _ => r = nI 0) := by
  refine bd_mu (by decide) (Nat.le_of_ble_eq_true rfl) ?_
  intro p e s m args below meth c Q hF hpw hret ls hl
  obtain ⟨hx, hb, hml, hown, hts, hr, hlocks⟩ := id hF
  have hK := hpw.2.2.2
  have hI : wi D z (Ar z) (mw b cI cZ (nI t) th vs kt kv wt wa fl tr ch X) s s.heap [] := hpw.wi
  have hl : lv_has ls 2 [(0, .ref (b 0)), (1, .int (nI k))] := hl
  suffices hgo : ∀ (H : Heap) (locs : List Loc), wi D z (Ar z) (mw b cI cZ (nI t) th vs kt kv wt wa fl tr ch X) s H locs → ∀ ls : Array Slot, lv_has ls 2 [(0, .ref (b 0)), (1, .int (nI k))] → W p l e (rmv 0 0) s m args below meth c H locs 0 0 Q (F0 m 0 ls []) from hgo _ _ hI ls hl
  intro H locs hI ls hl
  refine lv_aload_n hx hb dX3_fail_0 rfl (lv_at hl 0 rfl) ?_
  refine lv_iload_n hx hb dX3_fail_1 rfl (lv_at hl 1 rfl) ?_
  refine va_put (D := D) (ci := 3) (v := .int (nI k)) (ty := .int) (C := RX3) (T := TX3) (N := 10) hx hb hts inX3 tyX3 tyX3_ok nmX3 hown hK.1 hI.2.1 hI.2.2.1 hI.2.2.2 0 rfl rfl 8 (by decide) (hts _ k430) (fun _ h9 => h9) rfl (by decide +kernel) rfl rfl (Nat.le_of_ble_eq_true rfl) dX3_fail_2 (fun H locs hP hD hS => ?_)
  have hI : wi D z (Ar z) (mw b cI cZ (nI t) th vs kt kv wt wa fl (nI k) ch X) s H locs := ⟨hI.1, hP, hD, hS⟩
  refine lv_iconst (v := nI 0) hx hb dX3_fail_5 (by decide) ?_
  exact hret () hI dX3_fail_6 rfl
set_option maxHeartbeats 4000000 in
set_option maxRecDepth 100000 in
theorem c_X3_clock {l : Launch} {D : va_G} {cI cZ cJ : ClassId} {z : Nat} {b : Nat → Nat} {X : va_W} {t : Nat} {th : Nat → Bool} {vs : Nat → Int32} {kt : Nat → Bool} {kv : Nat → Int32} {wt : Int32} {wa : Nat → Int32} {fl tr ch : Int32}   : muM (S := Unit) l yX3_clock cX3_clock 1 (some .int) 0 0 [.ref (b 0)] (pw D cI cZ cJ z (mw b cI cZ (nI t) th vs kt kv wt wa fl tr ch X)) D z (fun _ => mw b cI cZ (nI t) th vs kt kv wt wa fl (nI 0) ch X) (fun r _ => r = nI t) := by
  refine bd_mu (by decide) (Nat.le_of_ble_eq_true rfl) ?_
  intro p e s m args below meth c Q hF hpw hret ls hl
  obtain ⟨hx, hb, hml, hown, hts, hr, hlocks⟩ := id hF
  have hK := hpw.2.2.2
  have hI : wi D z (Ar z) (mw b cI cZ (nI t) th vs kt kv wt wa fl tr ch X) s s.heap [] := hpw.wi
  have hl : lv_has ls 1 [(0, .ref (b 0))] := hl
  suffices hgo : ∀ (H : Heap) (locs : List Loc), wi D z (Ar z) (mw b cI cZ (nI t) th vs kt kv wt wa fl tr ch X) s H locs → ∀ ls : Array Slot, lv_has ls 1 [(0, .ref (b 0))] → W p l e (rmv 0 0) s m args below meth c H locs 0 0 Q (F0 m 0 ls []) from hgo _ _ hI ls hl
  intro H locs hI ls hl
  refine lv_aload_n hx hb dX3_clock_0 rfl (lv_at hl 0 rfl) ?_
  refine lv_iconst (v := nI 0) hx hb dX3_clock_1 (by decide) ?_
  refine va_put (D := D) (ci := 3) (v := .int (nI 0)) (ty := .int) (C := RX3) (T := TX3) (N := 10) hx hb hts inX3 tyX3 tyX3_ok nmX3 hown hK.1 hI.2.1 hI.2.2.1 hI.2.2.2 0 rfl rfl 8 (by decide) (hts _ k430) (fun _ h9 => h9) rfl (by decide +kernel) rfl rfl (Nat.le_of_ble_eq_true rfl) dX3_clock_2 (fun H locs hP hD hS => ?_)
  have hI : wi D z (Ar z) (mw b cI cZ (nI t) th vs kt kv wt wa fl (nI 0) ch X) s H locs := ⟨hI.1, hP, hD, hS⟩
  refine lv_aload_n hx hb dX3_clock_5 rfl (lv_at hl 0 rfl) ?_
  refine va_get (D := D) (ci := 3) (v := .int (nI t)) (C := RX3) (T := TX3) (N := 10) hx hb hts inX3 hown hK.1 hI.2.1 0 rfl rfl 0 (by decide) (hts _ k422) (fun _ h9 => h9) rfl dX3_clock_6 ?_
  exact hret () hI dX3_clock_9 rfl
set_option maxHeartbeats 4000000 in
set_option maxRecDepth 100000 in
theorem c_X3_failed {l : Launch} {D : va_G} {cI cZ cJ : ClassId} {z : Nat} {b : Nat → Nat} {X : va_W} {t : Nat} {th : Nat → Bool} {vs : Nat → Int32} {kt : Nat → Bool} {kv : Nat → Int32} {wt : Int32} {wa : Nat → Int32} {fl tr ch : Int32}   : muM (S := Unit) l yX3_failed cX3_failed 1 (some .int) 0 0 [.ref (b 0)] (pw D cI cZ cJ z (mw b cI cZ (nI t) th vs kt kv wt wa fl tr ch X)) D z (fun _ => mw b cI cZ (nI t) th vs kt kv wt wa fl (nI 0) ch X) (fun r _ => r = fl) := by
  refine bd_mu (by decide) (Nat.le_of_ble_eq_true rfl) ?_
  intro p e s m args below meth c Q hF hpw hret ls hl
  obtain ⟨hx, hb, hml, hown, hts, hr, hlocks⟩ := id hF
  have hK := hpw.2.2.2
  have hI : wi D z (Ar z) (mw b cI cZ (nI t) th vs kt kv wt wa fl tr ch X) s s.heap [] := hpw.wi
  have hl : lv_has ls 1 [(0, .ref (b 0))] := hl
  suffices hgo : ∀ (H : Heap) (locs : List Loc), wi D z (Ar z) (mw b cI cZ (nI t) th vs kt kv wt wa fl tr ch X) s H locs → ∀ ls : Array Slot, lv_has ls 1 [(0, .ref (b 0))] → W p l e (rmv 0 0) s m args below meth c H locs 0 0 Q (F0 m 0 ls []) from hgo _ _ hI ls hl
  intro H locs hI ls hl
  refine lv_aload_n hx hb dX3_failed_0 rfl (lv_at hl 0 rfl) ?_
  refine lv_iconst (v := nI 0) hx hb dX3_failed_1 (by decide) ?_
  refine va_put (D := D) (ci := 3) (v := .int (nI 0)) (ty := .int) (C := RX3) (T := TX3) (N := 10) hx hb hts inX3 tyX3 tyX3_ok nmX3 hown hK.1 hI.2.1 hI.2.2.1 hI.2.2.2 0 rfl rfl 8 (by decide) (hts _ k430) (fun _ h9 => h9) rfl (by decide +kernel) rfl rfl (Nat.le_of_ble_eq_true rfl) dX3_failed_2 (fun H locs hP hD hS => ?_)
  have hI : wi D z (Ar z) (mw b cI cZ (nI t) th vs kt kv wt wa fl (nI 0) ch X) s H locs := ⟨hI.1, hP, hD, hS⟩
  refine lv_aload_n hx hb dX3_failed_5 rfl (lv_at hl 0 rfl) ?_
  refine va_get (D := D) (ci := 3) (v := .int (fl)) (C := RX3) (T := TX3) (N := 10) hx hb hts inX3 hown hK.1 hI.2.1 0 rfl rfl 7 (by decide) (hts _ k429) (fun _ h9 => h9) rfl dX3_failed_6 ?_
  exact hret () hI dX3_failed_9 rfl
set_option maxHeartbeats 4000000 in
set_option maxRecDepth 100000 in
theorem c_X3_keep {l : Launch} {D : va_G} {cI cZ cJ : ClassId} {z : Nat} {b : Nat → Nat} {X : va_W} {t : Nat} {th : Nat → Bool} {vs : Nat → Int32} {kt : Nat → Bool} {kv : Nat → Int32} {wt : Int32} {wa : Nat → Int32} {fl tr ch : Int32} (ht : t < 40)  : mvM (S := (Nat → Bool) × (Nat → Int32)) l yX3_keep cX3_keep 2 0 0 [.ref (b 0)] (pw D cI cZ cJ z (mw b cI cZ (nI t) th vs kt kv wt wa fl tr ch X)) D z (fun u => mw b cI cZ (nI t) th vs (u.1) (u.2) wt wa fl tr ch X) (fun u => (∀ i, i < 128 → u.1 i = th (128 * t + i)) ∧ (∀ i, i < 128 → u.2 i = vs (128 * t + i))) := by
  refine bd_mv (by decide) (Nat.le_of_ble_eq_true rfl) ?_
  intro p e s m args below meth c Q hF hpw hret ls hl
  obtain ⟨hx, hb, hml, hown, hts, hr, hlocks⟩ := id hF
  have hK := hpw.2.2.2
  have hI : wi D z (Ar z) (mw b cI cZ (nI t) th vs kt kv wt wa fl tr ch X) s s.heap [] := hpw.wi
  have hl : lv_has ls 2 [(0, .ref (b 0))] := hl
  suffices hgo : ∀ (H : Heap) (locs : List Loc), wi D z (Ar z) (mw b cI cZ (nI t) th vs kt kv wt wa fl tr ch X) s H locs → ∀ ls : Array Slot, lv_has ls 2 [(0, .ref (b 0))] → W p l e (rmv 0 0) s m args below meth c H locs 0 0 Q (F0 m 0 ls []) from hgo _ _ hI ls hl
  intro H locs hI ls hl
  refine lv_iconst (v := nI 0) hx hb dX3_keep_0 (by decide) ?_
  refine lv_istore_n (lv' := [(1, .int (nI 0)), (0, .ref (b 0))]) hx hb dX3_keep_1 rfl hl (by decide) rfl (fun ls hl => ?_)
  have J2 : ∀ (n2_ : Nat) (x : Nat) (k1 : Nat → Bool) (k2 : Nat → Int32) (hx1 : x ≤ 128) (g1 : ∀ i, i < x → k1 i = th (128 * t + i)) (g2 : ∀ i, i < x → k2 i = vs (128 * t + i)) (hm2 : 128 < x + n2_) (H : Heap) (locs : List Loc), wi D z (Ar z) (mw b cI cZ (nI t) th vs k1 k2 wt wa fl tr ch X) s H locs → ∀ ls : Array Slot, lv_has ls 2 [(0, .ref (b 0)), (1, .int (nI x))] → W p l e (rmv 0 0) s m args below meth c H locs 0 0 Q (F0 m 2 ls []) := by
    intro n2_
    induction n2_ with
    | zero => intro x k1 k2 hx1 g1 g2 hm2; exact absurd hm2 (by omega)
    | succ n2_ ih2 =>
      intro x k1 k2 hx1 g1 g2 hm2 H locs hI ls hl
      refine lv_iload_n hx hb dX3_keep_2 rfl (lv_at hl 1 rfl) ?_
      refine lv_sipush (v := nI 128) hx hb dX3_keep_3 (by decide) ?_
      refine nb_ge (tgt := 57) hx hb dX3_keep_6 (by decide) (by omega) (by omega) (fun c6 => ?_) (fun c6 => ?_)
      · exact hret (k1, k2) hI dX3_keep_57 ⟨fun i h => g1 i (by omega), fun i h => g2 i (by omega)⟩
      · refine lv_aload_n hx hb dX3_keep_9 rfl (lv_at hl 0 rfl) ?_
        refine va_get (D := D) (ci := 3) (v := .ref (b 3)) (C := RX3) (T := TX3) (N := 10) hx hb hts inX3 hown hK.1 hI.2.1 0 rfl rfl 3 (by decide) (hts _ k425) (fun _ h9 => h9) rfl dX3_keep_10 ?_
        refine lv_iload_n hx hb dX3_keep_13 rfl (lv_at hl 1 rfl) ?_
        refine lv_aload_n hx hb dX3_keep_14 rfl (lv_at hl 0 rfl) ?_
        refine va_get (D := D) (ci := 3) (v := .ref (b 1)) (C := RX3) (T := TX3) (N := 10) hx hb hts inX3 hown hK.1 hI.2.1 0 rfl rfl 1 (by decide) (hts _ k423) (fun _ h9 => h9) rfl dX3_keep_15 ?_
        refine lv_sipush (v := nI 128) hx hb dX3_keep_18 (by decide) ?_
        refine lv_aload_n hx hb dX3_keep_21 rfl (lv_at hl 0 rfl) ?_
        refine va_get (D := D) (ci := 3) (v := .int (nI t)) (C := RX3) (T := TX3) (N := 10) hx hb hts inX3 hown hK.1 hI.2.1 0 rfl rfl 0 (by decide) (hts _ k422) (fun _ h9 => h9) rfl dX3_keep_22 ?_
        refine lv_imul hx hb dX3_keep_25 ?_
        refine tp (pk_mul _ _) ?_
        refine lv_iload_n hx hb dX3_keep_26 rfl (lv_at hl 1 rfl) ?_
        refine lv_iadd hx hb dX3_keep_27 ?_
        refine tp (nI_add _ _) ?_
        refine zb_ld (f := th) (k := 128 * t + x) hx hb hK hI 1 rfl dX3_keep_28 (by omega) (by decide) ?_
        refine zb_st (f := k1) (k := x) hx hb hK hI 3 rfl dX3_keep_29 (by omega) (by decide) (fun H locs hI => ?_)
        have hI : wi D z (Ar z) (mw b cI cZ (nI t) th vs (updB k1 x (th (128 * t + x))) k2 wt wa fl tr ch X) s H locs := hI
        refine lv_aload_n hx hb dX3_keep_30 rfl (lv_at hl 0 rfl) ?_
        refine va_get (D := D) (ci := 3) (v := .ref (b 4)) (C := RX3) (T := TX3) (N := 10) hx hb hts inX3 hown hK.1 hI.2.1 0 rfl rfl 4 (by decide) (hts _ k426) (fun _ h9 => h9) rfl dX3_keep_31 ?_
        refine lv_iload_n hx hb dX3_keep_34 rfl (lv_at hl 1 rfl) ?_
        refine lv_aload_n hx hb dX3_keep_35 rfl (lv_at hl 0 rfl) ?_
        refine va_get (D := D) (ci := 3) (v := .ref (b 2)) (C := RX3) (T := TX3) (N := 10) hx hb hts inX3 hown hK.1 hI.2.1 0 rfl rfl 2 (by decide) (hts _ k424) (fun _ h9 => h9) rfl dX3_keep_36 ?_
        refine lv_sipush (v := nI 128) hx hb dX3_keep_39 (by decide) ?_
        refine lv_aload_n hx hb dX3_keep_42 rfl (lv_at hl 0 rfl) ?_
        refine va_get (D := D) (ci := 3) (v := .int (nI t)) (C := RX3) (T := TX3) (N := 10) hx hb hts inX3 hown hK.1 hI.2.1 0 rfl rfl 0 (by decide) (hts _ k422) (fun _ h9 => h9) rfl dX3_keep_43 ?_
        refine lv_imul hx hb dX3_keep_46 ?_
        refine tp (pk_mul _ _) ?_
        refine lv_iload_n hx hb dX3_keep_47 rfl (lv_at hl 1 rfl) ?_
        refine lv_iadd hx hb dX3_keep_48 ?_
        refine tp (nI_add _ _) ?_
        refine ia_ld (f := vs) (k := 128 * t + x) hx hb hK hI 2 rfl dX3_keep_49 (by omega) (by decide) ?_
        refine ia_st (f := k2) (k := x) hx hb hK hI 4 rfl dX3_keep_50 (by omega) (by decide) (fun H locs hI => ?_)
        have hI : wi D z (Ar z) (mw b cI cZ (nI t) th vs (updB k1 x (th (128 * t + x))) (upd k2 x (vs (128 * t + x))) wt wa fl tr ch X) s H locs := hI
        refine lv_iinc (v := nI (x + 1)) (lv' := [(1, .int (nI (x + 1))), (0, .ref (b 0))]) hx hb dX3_keep_51 hl (k := 1) rfl (inc_n _ 1) (by decide) rfl (fun ls hl => ?_)
        refine lv_goto (tgt := 2) hx hb dX3_keep_54 (by decide) ?_
        exact ih2 (x + 1) _ _ (by omega) (kp_B (f := fun i => th (128 * t + i)) g1) (kp_I (f := fun i => vs (128 * t + i)) g2) (by omega) H locs hI ls (lv_sub hl [1, 0] rfl)
  exact J2 (128 + 1) 0 kt kv (by omega) (fun i h => absurd h (by omega)) (fun i h => absurd h (by omega)) (by omega) H locs hI ls (lv_sub hl [1, 0] rfl)
set_option maxHeartbeats 4000000 in
set_option maxRecDepth 100000 in
theorem c_X3_goBack {l : Launch} {D : va_G} {cI cZ cJ : ClassId} {z : Nat} {b : Nat → Nat} {X : va_W} {t : Nat} {th : Nat → Bool} {vs : Nat → Int32} {kt : Nat → Bool} {kv : Nat → Int32} {wt : Int32} {wa : Nat → Int32} {fl tr ch : Int32} (ht : t < 40)  : mvM (S := (Nat → Bool) × (Nat → Int32)) l yX3_goBack cX3_goBack 2 0 0 [.ref (b 0)] (pw D cI cZ cJ z (mw b cI cZ (nI t) th vs kt kv wt wa fl tr ch X)) D z (fun u => mw b cI cZ (nI t) (u.1) (u.2) kt kv wt wa fl tr ch X) (fun u => stB (128 * t) 128 kt th u.1 ∧ stI (128 * t) 128 kv vs u.2) := by
  refine bd_mv (by decide) (Nat.le_of_ble_eq_true rfl) ?_
  intro p e s m args below meth c Q hF hpw hret ls hl
  obtain ⟨hx, hb, hml, hown, hts, hr, hlocks⟩ := id hF
  have hK := hpw.2.2.2
  have hI : wi D z (Ar z) (mw b cI cZ (nI t) th vs kt kv wt wa fl tr ch X) s s.heap [] := hpw.wi
  have hl : lv_has ls 2 [(0, .ref (b 0))] := hl
  suffices hgo : ∀ (H : Heap) (locs : List Loc), wi D z (Ar z) (mw b cI cZ (nI t) th vs kt kv wt wa fl tr ch X) s H locs → ∀ ls : Array Slot, lv_has ls 2 [(0, .ref (b 0))] → W p l e (rmv 0 0) s m args below meth c H locs 0 0 Q (F0 m 0 ls []) from hgo _ _ hI ls hl
  intro H locs hI ls hl
  refine lv_iconst (v := nI 0) hx hb dX3_goBack_0 (by decide) ?_
  refine lv_istore_n (lv' := [(1, .int (nI 0)), (0, .ref (b 0))]) hx hb dX3_goBack_1 rfl hl (by decide) rfl (fun ls hl => ?_)
  have J2 : ∀ (n2_ : Nat) (x : Nat) (k1 : Nat → Bool) (k2 : Nat → Int32) (hx1 : x ≤ 128) (g1 : stB (128 * t) x kt th k1) (g2 : stI (128 * t) x kv vs k2) (hm2 : 128 < x + n2_) (H : Heap) (locs : List Loc), wi D z (Ar z) (mw b cI cZ (nI t) k1 k2 kt kv wt wa fl tr ch X) s H locs → ∀ ls : Array Slot, lv_has ls 2 [(0, .ref (b 0)), (1, .int (nI x))] → W p l e (rmv 0 0) s m args below meth c H locs 0 0 Q (F0 m 2 ls []) := by
    intro n2_
    induction n2_ with
    | zero => intro x k1 k2 hx1 g1 g2 hm2; exact absurd hm2 (by omega)
    | succ n2_ ih2 =>
      intro x k1 k2 hx1 g1 g2 hm2 H locs hI ls hl
      refine lv_iload_n hx hb dX3_goBack_2 rfl (lv_at hl 1 rfl) ?_
      refine lv_sipush (v := nI 128) hx hb dX3_goBack_3 (by decide) ?_
      refine nb_ge (tgt := 57) hx hb dX3_goBack_6 (by decide) (by omega) (by omega) (fun c6 => ?_) (fun c6 => ?_)
      · exact hret (k1, k2) hI dX3_goBack_57 ⟨(show x = 128 by omega) ▸ g1, (show x = 128 by omega) ▸ g2⟩
      · refine lv_aload_n hx hb dX3_goBack_9 rfl (lv_at hl 0 rfl) ?_
        refine va_get (D := D) (ci := 3) (v := .ref (b 1)) (C := RX3) (T := TX3) (N := 10) hx hb hts inX3 hown hK.1 hI.2.1 0 rfl rfl 1 (by decide) (hts _ k423) (fun _ h9 => h9) rfl dX3_goBack_10 ?_
        refine lv_sipush (v := nI 128) hx hb dX3_goBack_13 (by decide) ?_
        refine lv_aload_n hx hb dX3_goBack_16 rfl (lv_at hl 0 rfl) ?_
        refine va_get (D := D) (ci := 3) (v := .int (nI t)) (C := RX3) (T := TX3) (N := 10) hx hb hts inX3 hown hK.1 hI.2.1 0 rfl rfl 0 (by decide) (hts _ k422) (fun _ h9 => h9) rfl dX3_goBack_17 ?_
        refine lv_imul hx hb dX3_goBack_20 ?_
        refine tp (pk_mul _ _) ?_
        refine lv_iload_n hx hb dX3_goBack_21 rfl (lv_at hl 1 rfl) ?_
        refine lv_iadd hx hb dX3_goBack_22 ?_
        refine tp (nI_add _ _) ?_
        refine lv_aload_n hx hb dX3_goBack_23 rfl (lv_at hl 0 rfl) ?_
        refine va_get (D := D) (ci := 3) (v := .ref (b 3)) (C := RX3) (T := TX3) (N := 10) hx hb hts inX3 hown hK.1 hI.2.1 0 rfl rfl 3 (by decide) (hts _ k425) (fun _ h9 => h9) rfl dX3_goBack_24 ?_
        refine lv_iload_n hx hb dX3_goBack_27 rfl (lv_at hl 1 rfl) ?_
        refine zb_ld (f := kt) (k := x) hx hb hK hI 3 rfl dX3_goBack_28 (by omega) (by decide) ?_
        refine zb_st (f := k1) (k := 128 * t + x) hx hb hK hI 1 rfl dX3_goBack_29 (by omega) (by decide) (fun H locs hI => ?_)
        have hI : wi D z (Ar z) (mw b cI cZ (nI t) (updB k1 (128 * t + x) (kt x)) k2 kt kv wt wa fl tr ch X) s H locs := hI
        refine lv_aload_n hx hb dX3_goBack_30 rfl (lv_at hl 0 rfl) ?_
        refine va_get (D := D) (ci := 3) (v := .ref (b 2)) (C := RX3) (T := TX3) (N := 10) hx hb hts inX3 hown hK.1 hI.2.1 0 rfl rfl 2 (by decide) (hts _ k424) (fun _ h9 => h9) rfl dX3_goBack_31 ?_
        refine lv_sipush (v := nI 128) hx hb dX3_goBack_34 (by decide) ?_
        refine lv_aload_n hx hb dX3_goBack_37 rfl (lv_at hl 0 rfl) ?_
        refine va_get (D := D) (ci := 3) (v := .int (nI t)) (C := RX3) (T := TX3) (N := 10) hx hb hts inX3 hown hK.1 hI.2.1 0 rfl rfl 0 (by decide) (hts _ k422) (fun _ h9 => h9) rfl dX3_goBack_38 ?_
        refine lv_imul hx hb dX3_goBack_41 ?_
        refine tp (pk_mul _ _) ?_
        refine lv_iload_n hx hb dX3_goBack_42 rfl (lv_at hl 1 rfl) ?_
        refine lv_iadd hx hb dX3_goBack_43 ?_
        refine tp (nI_add _ _) ?_
        refine lv_aload_n hx hb dX3_goBack_44 rfl (lv_at hl 0 rfl) ?_
        refine va_get (D := D) (ci := 3) (v := .ref (b 4)) (C := RX3) (T := TX3) (N := 10) hx hb hts inX3 hown hK.1 hI.2.1 0 rfl rfl 4 (by decide) (hts _ k426) (fun _ h9 => h9) rfl dX3_goBack_45 ?_
        refine lv_iload_n hx hb dX3_goBack_48 rfl (lv_at hl 1 rfl) ?_
        refine ia_ld (f := kv) (k := x) hx hb hK hI 4 rfl dX3_goBack_49 (by omega) (by decide) ?_
        refine ia_st (f := k2) (k := 128 * t + x) hx hb hK hI 2 rfl dX3_goBack_50 (by omega) (by decide) (fun H locs hI => ?_)
        have hI : wi D z (Ar z) (mw b cI cZ (nI t) (updB k1 (128 * t + x) (kt x)) (upd k2 (128 * t + x) (kv x)) kt kv wt wa fl tr ch X) s H locs := hI
        refine lv_iinc (v := nI (x + 1)) (lv' := [(1, .int (nI (x + 1))), (0, .ref (b 0))]) hx hb dX3_goBack_51 hl (k := 1) rfl (inc_n _ 1) (by decide) rfl (fun ls hl => ?_)
        refine lv_goto (tgt := 2) hx hb dX3_goBack_54 (by decide) ?_
        exact ih2 (x + 1) _ _ (by omega) (stB_s g1 (by omega) rfl) (stI_s g2 (by omega) rfl) (by omega) H locs hI ls (lv_sub hl [1, 0] rfl)
  exact J2 (128 + 1) 0 th vs (by omega) stB_0 stI_0 (by omega) H locs hI ls (lv_sub hl [1, 0] rfl)
set_option maxHeartbeats 4000000 in
set_option maxRecDepth 100000 in
theorem c_X3_tick {l : Launch} {D : va_G} {cI cZ cJ : ClassId} {z : Nat} {b : Nat → Nat} {X : va_W} {t : Nat} {th : Nat → Bool} {vs : Nat → Int32} {kt : Nat → Bool} {kv : Nat → Int32} {wt : Int32} {wa : Nat → Int32} {fl tr ch : Int32} {S : Sta} (hM : mAbs S th vs t) (ht : t < 40) (ht9 : t < 39) : muM (S := (Nat → Bool) × (Nat → Int32)) l yX3_tick cX3_tick 2 (some .int) 1 21 [.ref (b 0)] (pw D cI cZ cJ z (mw b cI cZ (nI t) th vs kt kv wt wa fl tr ch X)) D z (fun u => mw b cI cZ (nI (t + 1)) (u.1) (u.2) kt kv wt wa fl (nI 0) ch X) (fun r u => r = nI (t + 1) ∧ mAbs (tkS S t) u.1 u.2 (t + 1)) := by
  refine bd_mu (by decide) (Nat.le_of_ble_eq_true rfl) ?_
  intro p e s m args below meth c Q hF hpw hret ls hl
  obtain ⟨hx, hb, hml, hown, hts, hr, hlocks⟩ := id hF
  have hK := hpw.2.2.2
  have hI : wi D z (Ar z) (mw b cI cZ (nI t) th vs kt kv wt wa fl tr ch X) s s.heap [] := hpw.wi
  have hl : lv_has ls 2 [(0, .ref (b 0))] := hl
  suffices hgo : ∀ (H : Heap) (locs : List Loc), wi D z (Ar z) (mw b cI cZ (nI t) th vs kt kv wt wa fl tr ch X) s H locs → ∀ ls : Array Slot, lv_has ls 2 [(0, .ref (b 0))] → W p l e (rmv 1 21) s m args below meth c H locs 0 0 Q (F0 m 0 ls []) from hgo _ _ hI ls hl
  intro H locs hI ls hl
  refine lv_aload_n hx hb dX3_tick_0 rfl (lv_at hl 0 rfl) ?_
  refine va_get (D := D) (ci := 3) (v := .int (nI t)) (C := RX3) (T := TX3) (N := 10) hx hb hts inX3 hown hK.1 hI.2.1 0 rfl rfl 0 (by decide) (hts _ k422) (fun _ h9 => h9) rfl dX3_tick_1 ?_
  refine lv_bipush (v := nI 39) hx hb dX3_tick_4 (by decide) ?_
  refine nb_ne (tgt := 15) hx hb dX3_tick_6 (by decide) (by omega) (by omega) (fun c6 => ?_) (fun c6 => ?_)
  · refine lv_aload_n hx hb dX3_tick_15 rfl (lv_at hl 0 rfl) ?_
    refine lv_iconst (v := nI 0) hx hb dX3_tick_16 (by decide) ?_
    refine va_put (D := D) (ci := 3) (v := .int (nI 0)) (ty := .int) (C := RX3) (T := TX3) (N := 10) hx hb hts inX3 tyX3 tyX3_ok nmX3 hown hK.1 hI.2.1 hI.2.2.1 hI.2.2.2 0 rfl rfl 8 (by decide) (hts _ k430) (fun _ h9 => h9) rfl (by decide +kernel) rfl rfl (Nat.le_of_ble_eq_true rfl) dX3_tick_17 (fun H locs hP hD hS => ?_)
    have hI : wi D z (Ar z) (mw b cI cZ (nI t) th vs kt kv wt wa fl (nI 0) ch X) s H locs := ⟨hI.1, hP, hD, hS⟩
    refine lv_iconst (v := nI 0) hx hb dX3_tick_20 (by decide) ?_
    refine lv_istore_n (lv' := [(1, .int (nI 0)), (0, .ref (b 0))]) hx hb dX3_tick_21 rfl hl (by decide) rfl (fun ls hl => ?_)
    have J22 : ∀ (n22_ : Nat) (x : Nat) (k1 : Nat → Bool) (k2 : Nat → Int32) (hx1 : x ≤ 128) (g1 : stB (128 * t + 128) x (fun i => th (128 * t + i)) th k1) (g2 : stI (128 * t + 128) x (fun i => vs (128 * t + i)) vs k2) (hm22 : 128 < x + n22_) (H : Heap) (locs : List Loc), wi D z (Ar z) (mw b cI cZ (nI t) k1 k2 kt kv wt wa fl (nI 0) ch X) s H locs → ∀ ls : Array Slot, lv_has ls 2 [(0, .ref (b 0)), (1, .int (nI x))] → W p l e (rmv 1 21) s m args below meth c H locs 0 0 Q (F0 m 22 ls []) := by
      intro n22_
      induction n22_ with
      | zero => intro x k1 k2 hx1 g1 g2 hm22; exact absurd hm22 (by omega)
      | succ n22_ ih22 =>
        intro x k1 k2 hx1 g1 g2 hm22 H locs hI ls hl
        refine lv_iload_n hx hb dX3_tick_22 rfl (lv_at hl 1 rfl) ?_
        refine lv_sipush (v := nI 128) hx hb dX3_tick_23 (by decide) ?_
        refine nb_ge (tgt := 103) hx hb dX3_tick_26 (by decide) (by omega) (by omega) (fun c26 => ?_) (fun c26 => ?_)
        · refine lv_aload_n hx hb dX3_tick_103 rfl (lv_at hl 0 rfl) ?_
          refine lv_dup hx hb dX3_tick_104 rfl ?_
          refine va_get (D := D) (ci := 3) (v := .int (nI t)) (C := RX3) (T := TX3) (N := 10) hx hb hts inX3 hown hK.1 hI.2.1 0 rfl rfl 0 (by decide) (hts _ k422) (fun _ h9 => h9) rfl dX3_tick_105 ?_
          refine lv_iconst (v := nI 1) hx hb dX3_tick_108 (by decide) ?_
          refine lv_iadd hx hb dX3_tick_109 ?_
          refine tp (nI_add _ _) ?_
          refine va_put (D := D) (ci := 3) (v := .int (nI (t + 1))) (ty := .int) (C := RX3) (T := TX3) (N := 10) hx hb hts inX3 tyX3 tyX3_ok nmX3 hown hK.1 hI.2.1 hI.2.2.1 hI.2.2.2 0 rfl rfl 0 (by decide) (hts _ k422) (fun _ h9 => h9) rfl (by decide +kernel) rfl rfl (Nat.le_of_ble_eq_true rfl) dX3_tick_110 (fun H locs hP hD hS => ?_)
          have hI : wi D z (Ar z) (mw b cI cZ (nI (t + 1)) k1 k2 kt kv wt wa fl (nI 0) ch X) s H locs := ⟨hI.1, hP, hD, hS⟩
          refine lv_aload_n hx hb dX3_tick_113 rfl (lv_at hl 0 rfl) ?_
          refine va_get (D := D) (ci := 3) (v := .int (nI (t + 1))) (C := RX3) (T := TX3) (N := 10) hx hb hts inX3 hown hK.1 hI.2.1 0 rfl rfl 0 (by decide) (hts _ k422) (fun _ h9 => h9) rfl dX3_tick_114 ?_
          exact hret (k1, k2) hI dX3_tick_117 ⟨rfl, mAbs_tk hM ((show x = 128 by omega) ▸ g1) ((show x = 128 by omega) ▸ g2)⟩
        · refine lv_aload_n hx hb dX3_tick_29 rfl (lv_at hl 0 rfl) ?_
          refine va_get (D := D) (ci := 3) (v := .ref (b 1)) (C := RX3) (T := TX3) (N := 10) hx hb hts inX3 hown hK.1 hI.2.1 0 rfl rfl 1 (by decide) (hts _ k423) (fun _ h9 => h9) rfl dX3_tick_30 ?_
          refine lv_sipush (v := nI 128) hx hb dX3_tick_33 (by decide) ?_
          refine lv_aload_n hx hb dX3_tick_36 rfl (lv_at hl 0 rfl) ?_
          refine va_get (D := D) (ci := 3) (v := .int (nI t)) (C := RX3) (T := TX3) (N := 10) hx hb hts inX3 hown hK.1 hI.2.1 0 rfl rfl 0 (by decide) (hts _ k422) (fun _ h9 => h9) rfl dX3_tick_37 ?_
          refine lv_imul hx hb dX3_tick_40 ?_
          refine tp (pk_mul _ _) ?_
          refine lv_sipush (v := nI 128) hx hb dX3_tick_41 (by decide) ?_
          refine lv_iadd hx hb dX3_tick_44 ?_
          refine tp (nI_add _ _) ?_
          refine lv_iload_n hx hb dX3_tick_45 rfl (lv_at hl 1 rfl) ?_
          refine lv_iadd hx hb dX3_tick_46 ?_
          refine tp (nI_add _ _) ?_
          refine lv_aload_n hx hb dX3_tick_47 rfl (lv_at hl 0 rfl) ?_
          refine va_get (D := D) (ci := 3) (v := .ref (b 1)) (C := RX3) (T := TX3) (N := 10) hx hb hts inX3 hown hK.1 hI.2.1 0 rfl rfl 1 (by decide) (hts _ k423) (fun _ h9 => h9) rfl dX3_tick_48 ?_
          refine lv_sipush (v := nI 128) hx hb dX3_tick_51 (by decide) ?_
          refine lv_aload_n hx hb dX3_tick_54 rfl (lv_at hl 0 rfl) ?_
          refine va_get (D := D) (ci := 3) (v := .int (nI t)) (C := RX3) (T := TX3) (N := 10) hx hb hts inX3 hown hK.1 hI.2.1 0 rfl rfl 0 (by decide) (hts _ k422) (fun _ h9 => h9) rfl dX3_tick_55 ?_
          refine lv_imul hx hb dX3_tick_58 ?_
          refine tp (pk_mul _ _) ?_
          refine lv_iload_n hx hb dX3_tick_59 rfl (lv_at hl 1 rfl) ?_
          refine lv_iadd hx hb dX3_tick_60 ?_
          refine tp (nI_add _ _) ?_
          refine zb_ld (f := k1) (k := 128 * t + x) hx hb hK hI 1 rfl dX3_tick_61 (by omega) (by decide) ?_
          refine zb_st (f := k1) (k := 128 * t + 128 + x) hx hb hK hI 1 rfl dX3_tick_62 (by omega) (by decide) (fun H locs hI => ?_)
          have hI : wi D z (Ar z) (mw b cI cZ (nI t) (updB k1 (128 * t + 128 + x) (k1 (128 * t + x))) k2 kt kv wt wa fl (nI 0) ch X) s H locs := hI
          refine lv_aload_n hx hb dX3_tick_63 rfl (lv_at hl 0 rfl) ?_
          refine va_get (D := D) (ci := 3) (v := .ref (b 2)) (C := RX3) (T := TX3) (N := 10) hx hb hts inX3 hown hK.1 hI.2.1 0 rfl rfl 2 (by decide) (hts _ k424) (fun _ h9 => h9) rfl dX3_tick_64 ?_
          refine lv_sipush (v := nI 128) hx hb dX3_tick_67 (by decide) ?_
          refine lv_aload_n hx hb dX3_tick_70 rfl (lv_at hl 0 rfl) ?_
          refine va_get (D := D) (ci := 3) (v := .int (nI t)) (C := RX3) (T := TX3) (N := 10) hx hb hts inX3 hown hK.1 hI.2.1 0 rfl rfl 0 (by decide) (hts _ k422) (fun _ h9 => h9) rfl dX3_tick_71 ?_
          refine lv_imul hx hb dX3_tick_74 ?_
          refine tp (pk_mul _ _) ?_
          refine lv_sipush (v := nI 128) hx hb dX3_tick_75 (by decide) ?_
          refine lv_iadd hx hb dX3_tick_78 ?_
          refine tp (nI_add _ _) ?_
          refine lv_iload_n hx hb dX3_tick_79 rfl (lv_at hl 1 rfl) ?_
          refine lv_iadd hx hb dX3_tick_80 ?_
          refine tp (nI_add _ _) ?_
          refine lv_aload_n hx hb dX3_tick_81 rfl (lv_at hl 0 rfl) ?_
          refine va_get (D := D) (ci := 3) (v := .ref (b 2)) (C := RX3) (T := TX3) (N := 10) hx hb hts inX3 hown hK.1 hI.2.1 0 rfl rfl 2 (by decide) (hts _ k424) (fun _ h9 => h9) rfl dX3_tick_82 ?_
          refine lv_sipush (v := nI 128) hx hb dX3_tick_85 (by decide) ?_
          refine lv_aload_n hx hb dX3_tick_88 rfl (lv_at hl 0 rfl) ?_
          refine va_get (D := D) (ci := 3) (v := .int (nI t)) (C := RX3) (T := TX3) (N := 10) hx hb hts inX3 hown hK.1 hI.2.1 0 rfl rfl 0 (by decide) (hts _ k422) (fun _ h9 => h9) rfl dX3_tick_89 ?_
          refine lv_imul hx hb dX3_tick_92 ?_
          refine tp (pk_mul _ _) ?_
          refine lv_iload_n hx hb dX3_tick_93 rfl (lv_at hl 1 rfl) ?_
          refine lv_iadd hx hb dX3_tick_94 ?_
          refine tp (nI_add _ _) ?_
          refine ia_ld (f := k2) (k := 128 * t + x) hx hb hK hI 2 rfl dX3_tick_95 (by omega) (by decide) ?_
          refine ia_st (f := k2) (k := 128 * t + 128 + x) hx hb hK hI 2 rfl dX3_tick_96 (by omega) (by decide) (fun H locs hI => ?_)
          have hI : wi D z (Ar z) (mw b cI cZ (nI t) (updB k1 (128 * t + 128 + x) (k1 (128 * t + x))) (upd k2 (128 * t + 128 + x) (k2 (128 * t + x))) kt kv wt wa fl (nI 0) ch X) s H locs := hI
          refine lv_iinc (v := nI (x + 1)) (lv' := [(1, .int (nI (x + 1))), (0, .ref (b 0))]) hx hb dX3_tick_97 hl (k := 1) rfl (inc_n _ 1) (by decide) rfl (fun ls hl => ?_)
          refine lv_goto (tgt := 22) hx hb dX3_tick_100 (by decide) ?_
          exact ih22 (x + 1) _ _ (by omega) (stB_s g1 (by omega) (g1.2 _ (by omega))) (stI_s g2 (by omega) (g2.2 _ (by omega))) (by omega) H locs hI ls (lv_sub hl [1, 0] rfl)
    exact J22 (128 + 1) 0 th vs (by omega) stB_0 stI_0 (by omega) H locs hI ls (lv_sub hl [1, 0] rfl)
  · exact absurd c6 (by omega)
set_option maxHeartbeats 4000000 in
set_option maxRecDepth 100000 in
theorem c_X3_tick39 {l : Launch} {D : va_G} {cI cZ cJ : ClassId} {z : Nat} {b : Nat → Nat} {X : va_W} {t : Nat} {th : Nat → Bool} {vs : Nat → Int32} {kt : Nat → Bool} {kv : Nat → Int32} {wt : Int32} {wa : Nat → Int32} {fl tr ch : Int32} (ht9 : t = 39)  : muM (S := Unit) l yX3_tick cX3_tick 2 (some .int) 1 21 [.ref (b 0)] (pw D cI cZ cJ z (mw b cI cZ (nI t) th vs kt kv wt wa fl tr ch X)) D z (fun _ => mw b cI cZ (nI t) th vs kt kv wt wa fl (nI 1) ch X) (fun _ _ => True) := by
  refine bd_mu (by decide) (Nat.le_of_ble_eq_true rfl) ?_
  intro p e s m args below meth c Q hF hpw hret ls hl
  obtain ⟨hx, hb, hml, hown, hts, hr, hlocks⟩ := id hF
  have hK := hpw.2.2.2
  have hI : wi D z (Ar z) (mw b cI cZ (nI t) th vs kt kv wt wa fl tr ch X) s s.heap [] := hpw.wi
  have hl : lv_has ls 2 [(0, .ref (b 0))] := hl
  suffices hgo : ∀ (H : Heap) (locs : List Loc), wi D z (Ar z) (mw b cI cZ (nI t) th vs kt kv wt wa fl tr ch X) s H locs → ∀ ls : Array Slot, lv_has ls 2 [(0, .ref (b 0))] → W p l e (rmv 1 21) s m args below meth c H locs 0 0 Q (F0 m 0 ls []) from hgo _ _ hI ls hl
  intro H locs hI ls hl
  refine lv_aload_n hx hb dX3_tick_0 rfl (lv_at hl 0 rfl) ?_
  refine va_get (D := D) (ci := 3) (v := .int (nI t)) (C := RX3) (T := TX3) (N := 10) hx hb hts inX3 hown hK.1 hI.2.1 0 rfl rfl 0 (by decide) (hts _ k422) (fun _ h9 => h9) rfl dX3_tick_1 ?_
  refine lv_bipush (v := nI 39) hx hb dX3_tick_4 (by decide) ?_
  refine nb_ne (tgt := 15) hx hb dX3_tick_6 (by decide) (by omega) (by omega) (fun c6 => ?_) (fun c6 => ?_)
  · exact absurd ht9 c6
  · refine lv_aload_n hx hb dX3_tick_9 rfl (lv_at hl 0 rfl) ?_
    refine lv_iconst (v := nI 1) hx hb dX3_tick_10 (by decide) ?_
    refine k_mu (run_v (As := [.int (nI 1)]) (rest := []) hF hK hI (c_X3_fail ) cf_X3_fail k462 0 3 rfl rfl ⟨Nat.le_of_ble_eq_true rfl, Nat.le_of_ble_eq_true rfl⟩ ⟨rfl, rfl⟩ ⟨Nat.le_of_ble_eq_true rfl, Nat.le_of_ble_eq_true rfl⟩ rfl hl.1 rfl (Nat.le_of_ble_eq_true rfl) dX3_tick_11) hI (fun r11 u11 hp11 H locs hI => ?_)
    subst hp11
    have hI : wi D z (Ar z) (mw b cI cZ (nI t) th vs kt kv wt wa fl (nI 1) ch X) s H locs := hI
    exact hret () hI dX3_tick_14 trivial
set_option maxHeartbeats 4000000 in
set_option maxRecDepth 100000 in
theorem c_X3_change {l : Launch} {D : va_G} {cI cZ cJ : ClassId} {z : Nat} {b : Nat → Nat} {X : va_W} {t : Nat} {th : Nat → Bool} {vs : Nat → Int32} {kt : Nat → Bool} {kv : Nat → Int32} {wt : Int32} {wa : Nat → Int32} {fl tr : Int32} {kd px n1 : Nat} {v : Int32} {o : Option Int32} (h3 : kd ≤ 4) (hp : px < 5120) (hn1 : n1 < 2 ^ 30) (ho : (if th px = true then some (vs px) else none) = o)  : mvM (S := Unit) l yX3_change cX3_change 8 0 0 [.ref (b 0), .int (nI kd), .int (nI px), .int (v)] (pw D cI cZ cJ z (mw b cI cZ (nI t) th vs kt kv wt wa fl tr (nI n1) X)) D z (fun _ => mw b cI cZ (nI t) (updB th px (nw kd v o).isSome) (upd vs px ((nw kd v o).getD 0)) kt kv wt wa fl tr (nI (n1 + (if (!(decide (nw kd v o = o))) = true then 1 else 0))) X) (fun _ => True) := by
  refine bd_mv (by decide) (Nat.le_of_ble_eq_true rfl) ?_
  intro p e s m args below meth c Q hF hpw hret ls hl
  obtain ⟨hx, hb, hml, hown, hts, hr, hlocks⟩ := id hF
  have hK := hpw.2.2.2
  have hI : wi D z (Ar z) (mw b cI cZ (nI t) th vs kt kv wt wa fl tr (nI n1) X) s s.heap [] := hpw.wi
  have hl : lv_has ls 8 [(0, .ref (b 0)), (1, .int (nI kd)), (2, .int (nI px)), (3, .int (v))] := hl
  suffices hgo : ∀ (H : Heap) (locs : List Loc), wi D z (Ar z) (mw b cI cZ (nI t) th vs kt kv wt wa fl tr (nI n1) X) s H locs → ∀ ls : Array Slot, lv_has ls 8 [(0, .ref (b 0)), (1, .int (nI kd)), (2, .int (nI px)), (3, .int (v))] → W p l e (rmv 0 0) s m args below meth c H locs 0 0 Q (F0 m 0 ls []) from hgo _ _ hI ls hl
  intro H locs hI ls hl
  refine lv_aload_n hx hb dX3_change_0 rfl (lv_at hl 0 rfl) ?_
  refine va_get (D := D) (ci := 3) (v := .ref (b 1)) (C := RX3) (T := TX3) (N := 10) hx hb hts inX3 hown hK.1 hI.2.1 0 rfl rfl 1 (by decide) (hts _ k423) (fun _ h9 => h9) rfl dX3_change_1 ?_
  refine lv_iload_n hx hb dX3_change_4 rfl (lv_at hl 2 rfl) ?_
  refine zb_ld (f := th) (k := px) hx hb hK hI 1 rfl dX3_change_5 (by omega) (by decide) ?_
  refine lv_istore (lv' := [(4, .int (bi (th px))), (0, .ref (b 0)), (1, .int (nI kd)), (2, .int (nI px)), (3, .int (v))]) hx hb dX3_change_6 hl (by decide) rfl (fun ls hl => ?_)
  refine lv_aload_n hx hb dX3_change_8 rfl (lv_at hl 1 rfl) ?_
  refine va_get (D := D) (ci := 3) (v := .ref (b 2)) (C := RX3) (T := TX3) (N := 10) hx hb hts inX3 hown hK.1 hI.2.1 0 rfl rfl 2 (by decide) (hts _ k424) (fun _ h9 => h9) rfl dX3_change_9 ?_
  refine lv_iload_n hx hb dX3_change_12 rfl (lv_at hl 3 rfl) ?_
  refine ia_ld (f := vs) (k := px) hx hb hK hI 2 rfl dX3_change_13 (by omega) (by decide) ?_
  refine lv_istore (lv' := [(5, .int (vs px)), (4, .int (bi (th px))), (0, .ref (b 0)), (1, .int (nI kd)), (2, .int (nI px)), (3, .int (v))]) hx hb dX3_change_14 hl (by decide) rfl (fun ls hl => ?_)
  have J42 : ∀ (q : Bool) (hq : q = (nw kd v o).isSome) (H : Heap) (locs : List Loc), wi D z (Ar z) (mw b cI cZ (nI t) th vs kt kv wt wa fl tr (nI n1) X) s H locs → ∀ ls : Array Slot, lv_has ls 8 [(0, .ref (b 0)), (1, .int (nI kd)), (2, .int (nI px)), (3, .int (v)), (4, .int (bi (th px))), (5, .int (vs px)), (6, .int (bi (q)))] → W p l e (rmv 0 0) s m args below meth c H locs 0 0 Q (F0 m 42 ls []) := by
    intro q hq H locs hI ls hl
    have J57 : ∀ (y7 : Int32) (hy7 : q = true → nw kd v o = some y7) (H : Heap) (locs : List Loc), wi D z (Ar z) (mw b cI cZ (nI t) th vs kt kv wt wa fl tr (nI n1) X) s H locs → ∀ ls : Array Slot, lv_has ls 8 [(0, .ref (b 0)), (1, .int (nI kd)), (2, .int (nI px)), (3, .int (v)), (4, .int (bi (th px))), (5, .int (vs px)), (6, .int (bi (q))), (7, .int (y7))] → W p l e (rmv 0 0) s m args below meth c H locs 0 0 Q (F0 m 57 ls []) := by
      intro y7 hy7 H locs hI ls hl
      have J86 : ∀ (n2 : Nat) (hn2 : n2 = n1 + (if (!(decide (nw kd v o = o))) = true then 1 else 0)) (H : Heap) (locs : List Loc), wi D z (Ar z) (mw b cI cZ (nI t) th vs kt kv wt wa fl tr (nI n2) X) s H locs → ∀ ls : Array Slot, lv_has ls 8 [(0, .ref (b 0)), (1, .int (nI kd)), (2, .int (nI px)), (3, .int (v)), (4, .int (bi (th px))), (5, .int (vs px)), (6, .int (bi (q))), (7, .int (y7))] → W p l e (rmv 0 0) s m args below meth c H locs 0 0 Q (F0 m 86 ls []) := by
        intro n2 hn2 H locs hI ls hl
        refine lv_aload_n hx hb dX3_change_86 rfl (lv_at hl 0 rfl) ?_
        refine va_get (D := D) (ci := 3) (v := .ref (b 1)) (C := RX3) (T := TX3) (N := 10) hx hb hts inX3 hown hK.1 hI.2.1 0 rfl rfl 1 (by decide) (hts _ k423) (fun _ h9 => h9) rfl dX3_change_87 ?_
        refine lv_iload_n hx hb dX3_change_90 rfl (lv_at hl 2 rfl) ?_
        refine lv_iload hx hb dX3_change_91 (lv_at hl 6 rfl) ?_
        refine zb_st (f := th) (k := px) hx hb hK hI 1 rfl dX3_change_93 (by omega) (by decide) (fun H locs hI => ?_)
        have hI : wi D z (Ar z) (mw b cI cZ (nI t) (updB th px (q)) vs kt kv wt wa fl tr (nI n2) X) s H locs := hI
        refine lv_aload_n hx hb dX3_change_94 rfl (lv_at hl 0 rfl) ?_
        refine va_get (D := D) (ci := 3) (v := .ref (b 2)) (C := RX3) (T := TX3) (N := 10) hx hb hts inX3 hown hK.1 hI.2.1 0 rfl rfl 2 (by decide) (hts _ k424) (fun _ h9 => h9) rfl dX3_change_95 ?_
        refine lv_iload_n hx hb dX3_change_98 rfl (lv_at hl 2 rfl) ?_
        refine lv_iload hx hb dX3_change_99 (lv_at hl 6 rfl) ?_
        refine bz_eq (tgt := 109) hx hb dX3_change_101 (by decide) (fun c101 => ?_) (fun c101 => ?_)
        · refine lv_iconst (v := nI 0) hx hb dX3_change_109 (by decide) ?_
          refine ia_st (f := vs) (k := px) hx hb hK hI 2 rfl dX3_change_110 (by omega) (by decide) (fun H locs hI => ?_)
          have hI : wi D z (Ar z) (mw b cI cZ (nI t) (updB th px (q)) (upd vs px (nI 0)) kt kv wt wa fl tr (nI n2) X) s H locs := hI
          subst hn2
          exact hret () (by have e1 := hq; have e2 := vs_end (o := o) hq hy7; first | (have e3 := e2.1 c101; rw [hq, e3] at hI; exact hI) | (have e3 := e2.2 c101; rw [hq, e3] at hI; exact hI)) dX3_change_111 trivial
        · refine lv_iload hx hb dX3_change_104 (lv_at hl 7 rfl) ?_
          refine lv_goto (tgt := 110) hx hb dX3_change_106 (by decide) ?_
          refine ia_st (f := vs) (k := px) hx hb hK hI 2 rfl dX3_change_110 (by omega) (by decide) (fun H locs hI => ?_)
          have hI : wi D z (Ar z) (mw b cI cZ (nI t) (updB th px (q)) (upd vs px y7) kt kv wt wa fl tr (nI n2) X) s H locs := hI
          subst hn2
          exact hret () (by have e1 := hq; have e2 := vs_end (o := o) hq hy7; first | (have e3 := e2.1 c101; rw [hq, e3] at hI; exact hI) | (have e3 := e2.2 c101; rw [hq, e3] at hI; exact hI)) dX3_change_111 trivial
      refine lv_iload hx hb dX3_change_57 (lv_at hl 4 rfl) ?_
      refine lv_iload hx hb dX3_change_59 (lv_at hl 6 rfl) ?_
      refine lv_icmp_ne (tgt := 76) hx hb dX3_change_61 (by decide) (fun c61 => ?_) (fun c61 => ?_)
      · refine lv_aload_n hx hb dX3_change_76 rfl (lv_at hl 0 rfl) ?_
        refine lv_dup hx hb dX3_change_77 rfl ?_
        refine va_get (D := D) (ci := 3) (v := .int (nI n1)) (C := RX3) (T := TX3) (N := 10) hx hb hts inX3 hown hK.1 hI.2.1 0 rfl rfl 9 (by decide) (hts _ k431) (fun _ h9 => h9) rfl dX3_change_78 ?_
        refine lv_iconst (v := nI 1) hx hb dX3_change_81 (by decide) ?_
        refine lv_iadd hx hb dX3_change_82 ?_
        refine tp (nI_add _ _) ?_
        refine va_put (D := D) (ci := 3) (v := .int (nI (n1 + 1))) (ty := .int) (C := RX3) (T := TX3) (N := 10) hx hb hts inX3 tyX3 tyX3_ok nmX3 hown hK.1 hI.2.1 hI.2.2.1 hI.2.2.2 0 rfl rfl 9 (by decide) (hts _ k431) (fun _ h9 => h9) rfl (by decide +kernel) rfl rfl (Nat.le_of_ble_eq_true rfl) dX3_change_83 (fun H locs hP hD hS => ?_)
        have hI : wi D z (Ar z) (mw b cI cZ (nI t) th vs kt kv wt wa fl tr (nI (n1 + 1)) X) s H locs := ⟨hI.1, hP, hD, hS⟩
        exact J86 (n1 + 1) (by first | exact ch_1 (o := o) (w := y7) ho hq hy7 (by first | exact Or.inl c61 | exact Or.inr c73) | exact ch_0 (o := o) (w := y7) ho hq hy7 (bi_inj c61) (by first | exact Or.inl c66 | exact Or.inr c73)) H locs hI ls (lv_sub hl [0, 1, 2, 3, 4, 5, 6, 7] rfl)
      · refine lv_iload hx hb dX3_change_64 (lv_at hl 4 rfl) ?_
        refine bz_eq (tgt := 86) hx hb dX3_change_66 (by decide) (fun c66 => ?_) (fun c66 => ?_)
        · exact J86 n1 (by first | exact ch_1 (o := o) (w := y7) ho hq hy7 (by first | exact Or.inl c61 | exact Or.inr c73) | exact ch_0 (o := o) (w := y7) ho hq hy7 (bi_inj c61) (by first | exact Or.inl c66 | exact Or.inr c73)) H locs hI ls (lv_sub hl [0, 1, 2, 3, 4, 5, 6, 7] rfl)
        · refine lv_iload hx hb dX3_change_69 (lv_at hl 5 rfl) ?_
          refine lv_iload hx hb dX3_change_71 (lv_at hl 7 rfl) ?_
          refine lv_icmp_eq (tgt := 86) hx hb dX3_change_73 (by decide) (fun c73 => ?_) (fun c73 => ?_)
          · exact J86 n1 (by first | exact ch_1 (o := o) (w := y7) ho hq hy7 (by first | exact Or.inl c61 | exact Or.inr c73) | exact ch_0 (o := o) (w := y7) ho hq hy7 (bi_inj c61) (by first | exact Or.inl c66 | exact Or.inr c73)) H locs hI ls (lv_sub hl [0, 1, 2, 3, 4, 5, 6, 7] rfl)
          · refine lv_aload_n hx hb dX3_change_76 rfl (lv_at hl 0 rfl) ?_
            refine lv_dup hx hb dX3_change_77 rfl ?_
            refine va_get (D := D) (ci := 3) (v := .int (nI n1)) (C := RX3) (T := TX3) (N := 10) hx hb hts inX3 hown hK.1 hI.2.1 0 rfl rfl 9 (by decide) (hts _ k431) (fun _ h9 => h9) rfl dX3_change_78 ?_
            refine lv_iconst (v := nI 1) hx hb dX3_change_81 (by decide) ?_
            refine lv_iadd hx hb dX3_change_82 ?_
            refine tp (nI_add _ _) ?_
            refine va_put (D := D) (ci := 3) (v := .int (nI (n1 + 1))) (ty := .int) (C := RX3) (T := TX3) (N := 10) hx hb hts inX3 tyX3 tyX3_ok nmX3 hown hK.1 hI.2.1 hI.2.2.1 hI.2.2.2 0 rfl rfl 9 (by decide) (hts _ k431) (fun _ h9 => h9) rfl (by decide +kernel) rfl rfl (Nat.le_of_ble_eq_true rfl) dX3_change_83 (fun H locs hP hD hS => ?_)
            have hI : wi D z (Ar z) (mw b cI cZ (nI t) th vs kt kv wt wa fl tr (nI (n1 + 1)) X) s H locs := ⟨hI.1, hP, hD, hS⟩
            exact J86 (n1 + 1) (by first | exact ch_1 (o := o) (w := y7) ho hq hy7 (by first | exact Or.inl c61 | exact Or.inr c73) | exact ch_0 (o := o) (w := y7) ho hq hy7 (bi_inj c61) (by first | exact Or.inl c66 | exact Or.inr c73)) H locs hI ls (lv_sub hl [0, 1, 2, 3, 4, 5, 6, 7] rfl)
    refine lv_iload_n hx hb dX3_change_42 rfl (lv_at hl 1 rfl) ?_
    refine lv_iconst (v := nI 3) hx hb dX3_change_43 (by decide) ?_
    refine nb_ne (tgt := 54) hx hb dX3_change_44 (by decide) (by omega) (by omega) (fun c44 => ?_) (fun c44 => ?_)
    · refine lv_iload_n hx hb dX3_change_54 rfl (lv_at hl 3 rfl) ?_
      refine lv_istore (lv' := [(7, .int (v)), (0, .ref (b 0)), (1, .int (nI kd)), (2, .int (nI px)), (3, .int (v)), (4, .int (bi (th px))), (5, .int (vs px)), (6, .int (bi (q)))]) hx hb dX3_change_55 hl (by decide) rfl (fun ls hl => ?_)
      exact J57 (v) (by intro h9; first | exact nw_v3 ho (hq ▸ h9) c44 | exact nw_v (hq ▸ h9) c44) H locs hI ls (lv_sub hl [1, 2, 3, 4, 5, 6, 7, 0] rfl)
    · refine lv_iload hx hb dX3_change_47 (lv_at hl 5 rfl) ?_
      refine lv_iload_n hx hb dX3_change_49 rfl (lv_at hl 3 rfl) ?_
      refine lv_iadd hx hb dX3_change_50 ?_
      refine lv_goto (tgt := 55) hx hb dX3_change_51 (by decide) ?_
      refine lv_istore (lv' := [(7, .int ((vs px) + v)), (0, .ref (b 0)), (1, .int (nI kd)), (2, .int (nI px)), (3, .int (v)), (4, .int (bi (th px))), (5, .int (vs px)), (6, .int (bi (q)))]) hx hb dX3_change_55 hl (by decide) rfl (fun ls hl => ?_)
      exact J57 ((vs px) + v) (by intro h9; first | exact nw_v3 ho (hq ▸ h9) c44 | exact nw_v (hq ▸ h9) c44) H locs hI ls (lv_sub hl [1, 2, 3, 4, 5, 6, 7, 0] rfl)
  refine lv_iload_n hx hb dX3_change_16 rfl (lv_at hl 3 rfl) ?_
  refine nz_eq (tgt := 35) hx hb dX3_change_17 (by decide) (by omega) (fun c17 => ?_) (fun c17 => ?_)
  · refine lv_iconst (v := nI 1) hx hb dX3_change_35 (by decide) ?_
    refine lv_goto (tgt := 40) hx hb dX3_change_36 (by decide) ?_
    refine lv_istore (lv' := [(6, .int (nI 1)), (5, .int (vs px)), (4, .int (bi (th px))), (0, .ref (b 0)), (1, .int (nI kd)), (2, .int (nI px)), (3, .int (v))]) hx hb dX3_change_40 hl (by decide) rfl (fun ls hl => ?_)
    exact J42 true (by symm; first | exact nw_s1 (by omega) | exact nw_s2 ho c27 c32) H locs hI ls (lv_sub hl [3, 4, 5, 6, 2, 1, 0] rfl)
  · refine lv_iload_n hx hb dX3_change_20 rfl (lv_at hl 3 rfl) ?_
    refine lv_iconst (v := nI 1) hx hb dX3_change_21 (by decide) ?_
    refine nb_eq (tgt := 35) hx hb dX3_change_22 (by decide) (by omega) (by omega) (fun c22 => ?_) (fun c22 => ?_)
    · refine lv_iconst (v := nI 1) hx hb dX3_change_35 (by decide) ?_
      refine lv_goto (tgt := 40) hx hb dX3_change_36 (by decide) ?_
      refine lv_istore (lv' := [(6, .int (nI 1)), (5, .int (vs px)), (4, .int (bi (th px))), (0, .ref (b 0)), (1, .int (nI kd)), (2, .int (nI px)), (3, .int (v))]) hx hb dX3_change_40 hl (by decide) rfl (fun ls hl => ?_)
      exact J42 true (by symm; first | exact nw_s1 (by omega) | exact nw_s2 ho c27 c32) H locs hI ls (lv_sub hl [3, 4, 5, 6, 2, 1, 0] rfl)
    · refine lv_iload hx hb dX3_change_25 (lv_at hl 1 rfl) ?_
      refine bz_eq (tgt := 39) hx hb dX3_change_27 (by decide) (fun c27 => ?_) (fun c27 => ?_)
      · refine lv_iconst (v := nI 0) hx hb dX3_change_39 (by decide) ?_
        refine lv_istore (lv' := [(6, .int (nI 0)), (5, .int (vs px)), (4, .int (bi (th px))), (0, .ref (b 0)), (1, .int (nI kd)), (2, .int (nI px)), (3, .int (v))]) hx hb dX3_change_40 hl (by decide) rfl (fun ls hl => ?_)
        exact J42 false (by symm; first | exact nw_n1 ho c27 (by omega) (by omega) | exact nw_n2 c32) H locs hI ls (lv_sub hl [3, 4, 5, 6, 2, 1, 0] rfl)
      · refine lv_iload_n hx hb dX3_change_30 rfl (lv_at hl 3 rfl) ?_
        refine lv_iconst (v := nI 4) hx hb dX3_change_31 (by decide) ?_
        refine nb_eq (tgt := 39) hx hb dX3_change_32 (by decide) (by omega) (by omega) (fun c32 => ?_) (fun c32 => ?_)
        · refine lv_iconst (v := nI 0) hx hb dX3_change_39 (by decide) ?_
          refine lv_istore (lv' := [(6, .int (nI 0)), (5, .int (vs px)), (4, .int (bi (th px))), (0, .ref (b 0)), (1, .int (nI kd)), (2, .int (nI px)), (3, .int (v))]) hx hb dX3_change_40 hl (by decide) rfl (fun ls hl => ?_)
          exact J42 false (by symm; first | exact nw_n1 ho c27 (by omega) (by omega) | exact nw_n2 c32) H locs hI ls (lv_sub hl [3, 4, 5, 6, 2, 1, 0] rfl)
        · refine lv_iconst (v := nI 1) hx hb dX3_change_35 (by decide) ?_
          refine lv_goto (tgt := 40) hx hb dX3_change_36 (by decide) ?_
          refine lv_istore (lv' := [(6, .int (nI 1)), (5, .int (vs px)), (4, .int (bi (th px))), (0, .ref (b 0)), (1, .int (nI kd)), (2, .int (nI px)), (3, .int (v))]) hx hb dX3_change_40 hl (by decide) rfl (fun ls hl => ?_)
          exact J42 true (by symm; first | exact nw_s1 (by omega) | exact nw_s2 ho c27 c32) H locs hI ls (lv_sub hl [3, 4, 5, 6, 2, 1, 0] rfl)
