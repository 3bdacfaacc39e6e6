/-! THE CLAIM OUT OF ONE WALK OF THE LAW'S BODY. Your part is whole_start (and what it stands on); all else here is the same for every law, but numbers. -/
def R_law : String := "TwoTimesTableLaw"
def lw_P (b : Addr) (xs : List Int32) (args : Array Value) (s : State) : Prop := args = #[.ref b] ∧ s.IntsAt b xs ∧ xs.length ≤ 3072 ∧ (Jvm.Cond.and given_1 narrow_1).before args s = true
def lw_Q (_ : Array Value) (s : State) (o : Outcome) (t : State) : Prop := o = .returned (some (.int 1)) ∧ Framed s o t [] 1053 24450
def lw_Z (below : List Frame) (a : Array Value) (s : State) : State → Prop := fun t => ∃ o, t.status = .running ∧ Ended t below o ∧ lw_Q a s o t
/-- the law's own end, with 1 on the stack, nothing written that was there before, its room as the claim has it -/
theorem lw_ret {p : Program} {l : Launch} {e : Env} {s : State} {m : MethodId} {below : List Frame} {meth : Method} {c : Code} {b : Nat} (hx : p.tables.exec = Jvm.exec) (hb : c.code = code) (hr : meth.sig.returnType = ret) (hlocks : meth.locks = false) {pc : Nat} {H : Heap} {ls : Array Slot} (hdg : decode code pc = .ok (.ireturn, 1)) : W p l e room_1 s m #[Value.ref b] below meth c H [] 1053 24450 (lw_Z below #[Value.ref b] s) (F0 m pc ls [.int 1]) := by
  intro T hT X
  obtain ⟨fs, hret, hrun, hended, hW, hframe⟩ := X.leave (v := some (.int 1)) (hlocks := hlocks) (fun h => by rw [hr] at h; cases h)
  have hmeth' : T.vm.method? m = some meth := X.method'
  refine ⟨T.setFrames fs, ?_, .returned (some (.int 1)), hrun, hended, rfl, ⟨_, rfl⟩, hW, hframe⟩
  jvm_step X.here [X.here.top, hx, hb, hdg, hmeth', hr, ret, narrow_b1]
  (try refine ⟨rfl, ?_⟩); (try refine ⟨rfl, ?_⟩)
  first | (intro acts; rw [hret _ acts rfl rfl rfl]) | rw [hret _ _ rfl rfl rfl]
  exact Steps.refl _
/-- what holds at the law's entry: the machine, the code, the tables' words (any of lw_tbl by 'hts w (by decide +kernel)'), the script of L ints xs at the cell b, what the Statement gives of the start (any of its parts by flat_of_before) -/
def lw_At (p : Program) (s : State) (m : MethodId) (meth : Method) (c : Code) (b L : Nat) (xs : Nat → Int32) : Prop :=
  p.tables.exec = Jvm.exec ∧ c.code = code ∧ meth.sig.returnType = ret ∧ c.maxLocals = 8 ∧ s.vm.findClass R_law = some m.cls ∧ (∀ w ∈ lw_tbl, w.before #[Value.ref b] s = true) ∧ va_X b L xs s s.heap ∧ b < s.heap.size ∧ meth.locks = false ∧ (Jvm.Cond.and given_1 narrow_1).before #[Value.ref b] s = true

theorem lw_ge {L j : Nat} (hL : L ≤ 3072) (hj : 6 * j ≤ L) (c : ¬ nI L - nI 6 < nI (6 * j)) : 6 * j + 6 ≤ L := by
  rw [fa_lt, pk_sub_toInt (by omega) (by omega), nI_toInt (by omega)] at c
  omega
set_option maxHeartbeats 4000000 in
set_option maxRecDepth 100000 in
/-- the law's loop: j calls are done, class and reference agree -/
theorem law_loop {p : Program} {l : Launch} {e : Env} {s : State} {m : MethodId} {below : List Frame} {meth : Method} {c : Code} {D : va_G} {a b : Nat → Nat} {oa : Nat} {cI cZ cJ : ClassId} {bs L : Nat} {xs : Nat → Int32} (hst : l.stackTraces = false) (hL : L ≤ 3072) (hF : Fx p s m #[Value.ref bs] meth c cL_law 8 RL ret) (hK : kn D cI cZ cJ s) (hKx : kx s) (hZ : zq s.heap.size s s.heap) (hX : va_X bs L xs s s.heap) (hbl : bs < s.heap.size) :
    ∀ (n j : Nat), 6 * j ≤ L → 512 < j + n → ∀ (S : Sta) (t w0 : Nat) (q vals fil rb wo : Nat → Int32) (fn : Int32) (og : Nat → Int64) (th : Nat → Bool) (vs : Nat → Int32) (kt : Nat → Bool) (kv wa : Nat → Int32) (tr ch : Int32), linv S t w0 q vals fil rb wo th vs wa → ∀ (H : Heap) (locs : List Loc), wi D s.heap.size (Ar s.heap.size) (gw a b oa cI cZ cJ vals fil rb t wo w0 fn og th vs kt kv wa tr ch) s H locs → ∀ ls : Array Slot, lv_has ls 8 [(0, .ref bs), (1, .ref (a 0)), (2, .ref (b 0)), (3, .ref oa), (4, .int (nI (6 * j)))] → W p l e room_1 s m #[Value.ref bs] below meth c H locs (14 + j) (16168 + 6 * j) (lw_Z below #[Value.ref bs] s) (F0 m 23 ls []) := by
  obtain ⟨hx, hb, hml, hown, hts, hr, hlocks⟩ := id hF
  have hbA : ¬ Ar s.heap.size bs := Nat.not_le.mpr hbl
  intro n
  induction n with
  | zero => intro j h1 h2; exact absurd h2 (by omega)
  | succ n ih =>
    intro j hj6 hm S t w0 q vals fil rb wo fn og th vs kt kv wa tr ch hinv H locs hI ls hl
    refine lv_iload hx hb dL_law_23 (lv_at hl 4 rfl) ?_
    refine lv_aload_n hx hb dL_law_25 rfl (lv_at hl 0 rfl) ?_
    refine va_slen hx hb hX hbl hbA hI.2.2.2 dL_law_26 ?_
    refine lv_bipush (v := nI 6) hx hb dL_law_27 (by decide) ?_
    refine lv_isub hx hb dL_law_29 ?_
    refine lv_icmp_gt (tgt := 1130) hx hb dL_law_30 (by decide) (fun c30 => ?_) (fun c30 => ?_)
    · refine lv_iconst (v := 1) hx hb dL_law_1130 (by decide) ?_
      refine va_forget (fun q hq => hI.2.2.2.2.2 q hq) ?_
      refine W.widen (k := 1053) (n := 24450) (by omega) (by omega) ?_
      exact lw_ret hx hb hr hlocks dL_law_1131
    · have hj : 6 * j + 6 ≤ L := lw_ge hL hj6 c30
      have KT : lKT p l e s m #[Value.ref bs] below meth c (lw_Z below #[Value.ref bs] s) D s.heap.size a b oa cI cZ cJ bs j := by
        intro S t w0 q vals fil rb wo fn og th vs kt kv wa tr ch hinv H locs hI ls hl
        refine lv_iinc (v := nI (6 * j + 6)) (lv' := [(4, .int (nI (6 * j + 6))), (0, .ref bs), (1, .ref (a 0)), (2, .ref (b 0)), (3, .ref oa)]) hx hb dL_law_1124 hl (k := 4) rfl (inc_n _ 6) (by decide) rfl (fun ls hl => ?_)
        refine lv_goto (tgt := 23) hx hb dL_law_1127 (by decide) ?_
        rw [show 6 * j + 6 = 6 * (j + 1) by omega] at hl
        rw [show 15 + j = 14 + (j + 1) by omega, show 16174 + 6 * j = 16168 + 6 * (j + 1) by omega]
        exact ih (j + 1) (by omega) (by omega) S t w0 q vals fil rb wo fn og th vs kt kv wa tr ch hinv H locs hI ls (lv_sub hl [1, 2, 3, 4, 0] rfl)
      refine lv_aload_n hx hb dL_law_33 rfl (lv_at hl 0 rfl) ?_
      refine lv_iload hx hb dL_law_34 (lv_at hl 4 rfl) ?_
      refine sl_ld (k := 6 * j) hx hb hX hbl hbA hI dL_law_36 (by omega) (by omega) ?_
      refine lv_bipush (v := nI 15) hx hb dL_law_37 (by decide) ?_
      refine lv_iand hx hb dL_law_39 ?_
      obtain ⟨k, hk, ek⟩ := pk_andE (xs (6 * j)) (m := nI 15) 4 (by decide)
      refine tp ek ?_
      rcases (show k = 0 ∨ k = 1 ∨ k = 2 ∨ k = 3 ∨ k = 4 ∨ k = 5 ∨ k = 6 ∨ k = 7 ∨ k = 8 ∨ k = 9 ∨ k = 10 ∨ k = 11 ∨ k = 12 ∨ k = 13 ∨ k = 14 ∨ k = 15 by omega) with rfl | rfl | rfl | rfl | rfl | rfl | rfl | rfl | rfl | rfl | rfl | rfl | rfl | rfl | rfl | rfl
      · exact lv_tableIn (off := 80) (tgt := 120) hx hb dL_law_40 (by decide) (by decide) rfl (by decide) (lc_tick hst hF hK hKx hZ hX hbl hbA hj hL KT hinv hI hl)
      · exact lv_tableIn (off := 124) (tgt := 164) hx hb dL_law_40 (by decide) (by decide) rfl (by decide) (lc_clock hst hF hK hKx hZ hX hbl hbA hj hL KT hinv hI hl)
      · exact lv_tableIn (off := 137) (tgt := 177) hx hb dL_law_40 (by decide) (by decide) rfl (by decide) (lc_state hst hF hK hKx hZ hX hbl hbA hj hL KT hinv hI hl)
      · exact lv_tableIn (off := 241) (tgt := 281) hx hb dL_law_40 (by decide) (by decide) rfl (by decide) (lc_queue hst hF hK hKx hZ hX hbl hbA hj hL KT hinv hI hl)
      · exact lv_tableIn (off := 314) (tgt := 354) hx hb dL_law_40 (by decide) (by decide) rfl (by decide) (lc_commit hst hF hK hKx hZ hX hbl hbA hj hL KT hinv hI hl)
      · exact lv_tableIn (off := 358) (tgt := 398) hx hb dL_law_40 (by decide) (by decide) rfl (by decide) (lc_failed hst hF hK hKx hZ hX hbl hbA hj hL KT hinv hI hl)
      · exact lv_tableIn (off := 371) (tgt := 411) hx hb dL_law_40 (by decide) (by decide) rfl (by decide) (lc_value hst hF hK hKx hZ hX hbl hbA hj hL KT hinv hI hl)
      · exact lv_tableIn (off := 451) (tgt := 491) hx hb dL_law_40 (by decide) (by decide) rfl (by decide) (lc_has hst hF hK hKx hZ hX hbl hbA hj hL KT hinv hI hl)
      · exact lv_tableIn (off := 500) (tgt := 540) hx hb dL_law_40 (by decide) (by decide) rfl (by decide) (lc_sum hst hF hK hKx hZ hX hbl hbA hj hL KT hinv hI hl)
      · exact lv_tableIn (off := 591) (tgt := 631) hx hb dL_law_40 (by decide) (by decide) rfl (by decide) (lc_runs hst hF hK hKx hZ hX hbl hbA hj hL KT hinv hI hl)
      · exact lv_tableIn (off := 659) (tgt := 699) hx hb dL_law_40 (by decide) (by decide) rfl (by decide) (lc_run hst hF hK hKx hZ hX hbl hbA hj hL KT hinv hI hl)
      · exact lv_tableIn (off := 751) (tgt := 791) hx hb dL_law_40 (by decide) (by decide) rfl (by decide) (lc_rows hst hF hK hKx hZ hX hbl hbA hj hL KT hinv hI hl)
      · exact lv_tableIn (off := 764) (tgt := 804) hx hb dL_law_40 (by decide) (by decide) rfl (by decide) (lc_row hst hF hK hKx hZ hX hbl hbA hj hL KT hinv hI hl)
      · exact lv_tableIn (off := 832) (tgt := 872) hx hb dL_law_40 (by decide) (by decide) rfl (by decide) (lc_changes hst hF hK hKx hZ hX hbl hbA hj hL KT hinv hI hl)
      · exact lv_tableIn (off := 900) (tgt := 940) hx hb dL_law_40 (by decide) (by decide) rfl (by decide) (lc_relation hst hF hK hKx hZ hX hbl hbA hj hL KT hinv hI hl)
      · exact lv_tableIn (off := 992) (tgt := 1032) hx hb dL_law_40 (by decide) (by decide) rfl (by decide) (lc_join hst hF hK hKx hZ hX hbl hbA hj hL KT hinv hI hl)
theorem linv_0 : linv (fun _ _ => none) 0 0 (fun _ => 0) (fun _ => 0) (fun _ => 0) (fun _ => 0) (fun _ => 0) (fun _ => false) (fun _ => 0) (fun _ => 0) := by
  refine ⟨by decide, fun a d _ _ => ?_, ⟨fun x _ => ?_, fun x _ _ => rfl⟩, fun tm ky dy _ _ _ => rfl, by decide, fun p hp => absurd hp (by omega), fun p hp => absurd hp (by omega)⟩
  · rw [b_0]; rfl
  · have : rowsIn (fun _ _ => none) x = 0 := fb_ct_zero.mpr (fun k _ => by simp [isRw, beg])
    rw [this]; rfl
theorem arr_known {args : Array Value} {s : State} {ty : FieldType} (h : (Cond.arrayClass ty).before args s = true) : ∃ cA : ClassId, ArrOfT s cA ty ∧ s.vm.findClass ("[" ++ ty.toString) = some cA := by
  obtain ⟨cA, kA, comp, h1, h2, h3⟩ := Cond.arrayClass_spec h
  exact ⟨cA, fun n z => ⟨fun k h => (by cases h), kA, h2, comp, h3⟩, h1⟩
set_option maxHeartbeats 4000000 in
set_option maxRecDepth 100000 in
/-- THE LAW, from its entry -/
theorem whole_start {p : Program} {e : Env} {s : State} {m : MethodId} {below : List Frame} {meth : Method} {c : Code} (l : Launch) (hst : l.stackTraces = false) {b L : Nat} {xs : Nat → Int32} (hL : L ≤ 3072) (C0 : lw_At p s m meth c b L xs) : W p l e room_1 s m #[Value.ref b] below meth c s.heap [] 0 0 (lw_Z below #[Value.ref b] s) (entryFrame m ([Value.ref b] : List Value).toArray 8) := by
  obtain ⟨hx, hb, hr, hml, hown, hall, hX, hbl, hlocks, hgv⟩ := id C0
  have hts : ∀ w ∈ WT, w.before #[Value.ref b] s = true := fun w h => hall w (wt_in h)
  have hF : Fx p s m #[Value.ref b] meth c cL_law 8 RL ret := ⟨hx, hb, hml, hown, hts, hr, hlocks⟩
  have hs := flat_of_before _ hgv
  obtain ⟨c0, iS0, hKn0⟩ := u_known (C := RX0) (T := TX0) (N := 4) (n := 4) hts inX0 (hts _ k22)
  obtain ⟨c1, iS1, hKn1⟩ := u_known (C := RX1) (T := TX1) (N := 2) (n := 2) hts inX1 (hts _ k43)
  obtain ⟨c2, iS2, hKn2⟩ := u_known (C := RX2) (T := TX2) (N := 3) (n := 3) hts inX2 (hts _ k14)
  obtain ⟨c3, iS3, hKn3⟩ := u_known (C := RX3) (T := TX3) (N := 10) (n := 10) hts inX3 (hts _ k417)
  obtain ⟨cI, aI1, aI2⟩ := arr_known (hts _ k41)
  obtain ⟨cZ, aZ1, aZ2⟩ := arr_known (hts _ k453)
  obtain ⟨cJ, aJ1, aJ2⟩ := arr_known (hts _ k596)
  obtain ⟨D, hKc⟩ : ∃ D : va_G, ∀ (k : Nat) (q : vw_C), vwCl[k]? = some q → u_Kn s q.1 q.2.1 q.2.2 (D.1 k) (D.2 k) := by
    refine ⟨(fun k => if k = 0 then c0 else if k = 1 then c1 else if k = 2 then c2 else c3, fun k => if k = 0 then iS0 else if k = 1 then iS1 else if k = 2 then iS2 else iS3), ?_⟩
    intro k q hq
    match k, hq with
    | 0, hq => cases hq; exact hKn0
    | 1, hq => cases hq; exact hKn1
    | 2, hq => cases hq; exact hKn2
    | 3, hq => cases hq; exact hKn3
    | k + 4, hq => simp [vwCl] at hq
  have hK : kn D cI cZ cJ s := by
    refine ⟨⟨hKc, ?_⟩, va_Nw.of rfl (hall _ k31), va_Nw.of rfl (hall _ k50), va_Nw.of rfl (hall _ k211), va_Nw.of rfl (hall _ k212), va_Nw.of rfl (hall _ k215), va_Nw.of rfl (hall _ k415)⟩
    intro k q hq
    match k, hq with
    | 0, hq => cases hq; exact ⟨aI1, aI2⟩
    | 1, hq => cases hq; exact ⟨aZ1, aZ2⟩
    | 2, hq => cases hq; exact ⟨aJ1, aJ2⟩
    | k + 3, hq => simp at hq
  have hKx : kx s := ⟨⟨va_Nw.of rfl (hall _ k122), va_Nw.of rfl (hall _ k124), va_Nw.of rfl (hall _ k126)⟩, ⟨va_Nw.of rfl (hall _ k262), va_Nw.of rfl (hall _ k121), va_Nw.of rfl (hall _ k277), va_Nw.of rfl (hall _ k342)⟩, ⟨va_Nc.of (hs (.not (.castable xISE xIAE)) (by decide +kernel)), va_Nc.of (hs (.not (.castable xNSE xIAE)) (by decide +kernel)), va_Nc.of (hs (.not (.castable xNSE xISE)) (by decide +kernel)), va_Nc.of (hs (.not (.castable xIOB xIAE)) (by decide +kernel))⟩⟩
  have hlow : ∀ q : Nat, q < s.heap.size → ¬ Ar s.heap.size q := fun q h => Nat.not_le.mpr h
  have hZ : zq s.heap.size s s.heap := ⟨vx_Zqof (hall _ k146) (hts _ k5) (hs _ (by decide +kernel)) hlow, vx_Zqof (hall _ k148) (hts _ k5) (hs _ (by decide +kernel)) hlow⟩
  have hI : wi D s.heap.size (Ar s.heap.size) [] s s.heap [] := ⟨Nat.le_refl _, fun k q h => by simp at h, ⟨fun i j p q h => by simp at h, fun k q h => by simp at h⟩, va_S.rf⟩
  have hl := lv_entry ([.ref b]) (n := 8) (Nat.le_of_ble_eq_true rfl)
  rw [lg_entry_eq]
  generalize (lg_sl ([.ref b]) ++ List.replicate (8 - (lg_sl ([.ref b])).length) Slot.unset).toArray = ls at hl ⊢
  have hl : lv_has ls 8 [(0, .ref b)] := hl
  refine va_new (ci := 2) (fs := [.null, .null, .int 0]) (C := RX2) (T := TX2) (N := 3) hx hb hts inX2 tyX2 tyX2_ok hown (hts _ k13) (hts _ k14) (hts _ k1) hK.1 hI.2.1 hI.2.2.1 hI.2.2.2 (fun q h => h) rfl (fun j hj => by rcases (show j = 0 ∨ j = 1 ∨ j = 2 by omega) with rfl | rfl | rfl <;> rfl) (Nat.le_of_ble_eq_true rfl) (Nat.le_of_ble_eq_true rfl) dL_law_0 (fun q0 H hP hD hS => ?_)
  have hI : wi D s.heap.size (Ar s.heap.size) [(q0, .inr (2, [.null, .null, .int 0]))] s H _ := ⟨hI.1, hP, hD, hS⟩
  refine lv_dup hx hb dL_law_3 rfl ?_
  refine k_mv (run_i (rest := [.ref q0]) hF hK hI c_X2_init cfi_X2 k15 ⟨Nat.le_of_ble_eq_true rfl, Nat.le_of_ble_eq_true rfl⟩ ⟨rfl, rfl⟩ ⟨Nat.le_of_ble_eq_true rfl, Nat.le_of_ble_eq_true rfl⟩ hl.1 rfl (Nat.le_of_ble_eq_true rfl) dL_law_4) hI (fun a ha H locs hI2 => ?_)
  subst ha
  have hI : wi D s.heap.size (Ar s.heap.size) (cw a cI (fun _ => 0) (fun _ => 0) (fun _ => 0) (nI 0) (fun _ => 0) (nI 0) (-1 : Int32) []) s H locs := hI2
  refine lv_astore_n (lv' := [(1, .ref (a 0)), (0, .ref b)]) hx hb dL_law_7 rfl hl (by decide) rfl (fun ls hl => ?_)
  refine va_new (ci := 3) (fs := [.int 0, .null, .null, .null, .null, .int 0, .null, .int 0, .int 0, .int 0]) (C := RX3) (T := TX3) (N := 10) hx hb hts inX3 tyX3 tyX3_ok hown (hts _ k416) (hts _ k417) (hts _ k4) hK.1 hI.2.1 hI.2.2.1 hI.2.2.2 (fun q h => h) rfl (fun j hj => by rcases (show j = 0 ∨ j = 1 ∨ j = 2 ∨ j = 3 ∨ j = 4 ∨ j = 5 ∨ j = 6 ∨ j = 7 ∨ j = 8 ∨ j = 9 by omega) with rfl | rfl | rfl | rfl | rfl | rfl | rfl | rfl | rfl | rfl <;> rfl) (Nat.le_of_ble_eq_true rfl) (Nat.le_of_ble_eq_true rfl) dL_law_8 (fun q1 H hP hD hS => ?_)
  have hI : wi D s.heap.size (Ar s.heap.size) (cw a cI (fun _ => 0) (fun _ => 0) (fun _ => 0) (nI 0) (fun _ => 0) (nI 0) (-1 : Int32) [(q1, .inr (3, [.int 0, .null, .null, .null, .null, .int 0, .null, .int 0, .int 0, .int 0]))]) s H locs := ⟨hI.1, hP, hD, hS⟩
  have hJ : wi D s.heap.size (Ar s.heap.size) ((q1, .inr (3, [.int 0, .null, .null, .null, .null, .int 0, .null, .int 0, .int 0, .int 0])) :: cw a cI (fun _ => 0) (fun _ => 0) (fun _ => 0) (nI 0) (fun _ => 0) (nI 0) (-1 : Int32) []) s H locs := hI.ofP [7, 0, 1, 2, 3, 4, 5, 6] (by decide) rfl rfl
  refine lv_dup hx hb dL_law_11 rfl ?_
  refine k_mv (run_i (rest := [.ref q1]) hF hK hJ c_X3_init cfi_X3 k418 ⟨Nat.le_of_ble_eq_true rfl, Nat.le_of_ble_eq_true rfl⟩ ⟨rfl, rfl⟩ ⟨Nat.le_of_ble_eq_true rfl, Nat.le_of_ble_eq_true rfl⟩ hl.1 rfl (Nat.le_of_ble_eq_true rfl) dL_law_12) hJ (fun d hd H locs hJ2 => ?_)
  subst hd
  have hI : wi D s.heap.size (Ar s.heap.size) (cw a cI (fun _ => 0) (fun _ => 0) (fun _ => 0) (nI 0) (fun _ => 0) (nI 0) (-1 : Int32) (mw d cI cZ (nI 0) (fun _ => false) (fun _ => 0) (fun _ => false) (fun _ => 0) (nI 0) (fun _ => 0) (-1 : Int32) (nI 0) (nI 0) [])) s H locs := hJ2.ofP [1, 2, 3, 4, 5, 6, 7, 0, 8, 9, 10, 11, 12] (by decide) rfl rfl
  refine lv_astore_n (lv' := [(2, .ref (d 0)), (1, .ref (a 0)), (0, .ref b)]) hx hb dL_law_15 rfl hl (by decide) rfl (fun ls hl => ?_)
  refine lv_iconst (v := nI 1) hx hb dL_law_16 (by decide) ?_
  refine na (atype := .long) (ty := .long) (a0 := (1, .inr (.inl (fun _ => 0)))) hF k596 rfl hK hI 2 rfl (fun _ _ h1 h2 => Option.some.inj (h1.symm.trans h2)) (fun _ => rfl) (by decide) (by decide) (Nat.le_of_ble_eq_true rfl) (Nat.le_of_ble_eq_true rfl) dL_law_17 (fun oa H hI => ?_)
  have hI : wi D s.heap.size (Ar s.heap.size) (gw a d oa cI cZ cJ (fun _ => 0) (fun _ => 0) (fun _ => 0) 0 (fun _ => 0) 0 (-1 : Int32) (fun _ => 0) (fun _ => false) (fun _ => 0) (fun _ => false) (fun _ => 0) (fun _ => 0) (nI 0) (nI 0)) s H locs := hI.ofP [0, 1, 2, 3, 4, 5, 6, 13, 7, 8, 9, 10, 11, 12] (by decide) rfl rfl
  refine lv_astore_n (lv' := [(3, .ref oa), (2, .ref (d 0)), (1, .ref (a 0)), (0, .ref b)]) hx hb dL_law_19 rfl hl (by decide) rfl (fun ls hl => ?_)
  refine lv_iconst (v := nI (6 * 0)) hx hb dL_law_20 (by decide) ?_
  refine lv_istore (lv' := [(4, .int (nI (6 * 0))), (3, .ref oa), (2, .ref (d 0)), (1, .ref (a 0)), (0, .ref b)]) hx hb dL_law_21 hl (by decide) rfl (fun ls hl => ?_)
  exact law_loop hst hL hF hK hKx hZ hX hbl 513 0 (Nat.zero_le L) (by omega) _ 0 0 (fun _ => 0) _ _ _ _ _ _ _ _ _ _ _ _ _ linv_0 H locs hI ls (lv_sub hl [4, 3, 2, 1, 0] rfl)
-- ===== YOUR PART ENDS =====
set_option maxHeartbeats 4000000 in
theorem lw_walk (l : Launch) (hst : l.stackTraces = false) (b : Addr) (xs : List Int32) : MetFree l x (headSpec (Jvm.Cond.code x code maxLocals ret :: tables_1) room_1) (lw_P b xs) (fun _ _ _ _ _ => True) lw_Q := by
  refine MetFree.of_bodyS (code := code) (maxLocals := maxLocals) (ret := ret) (by decide) ?_ ?_
  · intro args s m h hn
    obtain ⟨meth, c, h1, h2, h3, h4, h5, h6, -, -⟩ := Cond.code_spec hn (atoms_spec (ws := Jvm.Cond.code x code maxLocals ret :: tables_1) h _ List.mem_cons_self)
    exact ⟨meth, c, h1, h2, h3, h4, h5, h6⟩
  · intro p e s m args below meth c s₁ B hml0 hP _
    obtain ⟨rfl, hx, hbd, hgv⟩ := hP
    obtain ⟨scr, harrAt, hlist, hof, hsmall⟩ := hx
    obtain ⟨hcb, hkn, -, -⟩ := State.arrayAt?_spec harrAt
    have hown : s.vm.findClass R_law = some m.cls := findClass_of_methodNamed B.named
    have hts0 : ∀ c ∈ (Jvm.Cond.code x code maxLocals ret :: tables_1), c.before #[Value.ref b] s = true := atoms_spec (ws := Jvm.Cond.code x code maxLocals ret :: tables_1) B.pre
    have hts : ∀ w ∈ lw_tbl, w.before #[Value.ref b] s = true := k2_hts_sels lw_privs (fun w hw => hts0 w (List.mem_cons_of_mem _ hw)) lw_privs_ok
    have hml : c.maxLocals = 8 := B.maxLocals_eq (hts0 _ List.mem_cons_self)
    have X₀ : Stand p l e room_1 s m #[Value.ref b] below meth c s₁ [] 0 0 := Stand.of_body B
    have hh0 : s₁.heap = s.heap := by rw [B.state]; rfl
    have hsz : scr.slots.size = xs.length := by rw [← Array.length_toList, hlist, List.length_map]
    have hval : ∀ j : Nat, j < xs.length → scr.slots[j]? = some (.int (xs.getD j 0)) := fun j hj => by
      rw [← Array.getElem?_toList, hlist]
      simp [hj]
    have hbl : b < s.heap.size := (Array.getElem?_eq_some_iff.mp hcb).1
    have hX : va_X b xs.length (fun j => xs.getD j 0) s s.heap := ⟨scr, hcb, hof, hkn, hsz, hval⟩
    have K : W p l e room_1 s m #[Value.ref b] below meth c s₁.heap [] 0 0 (lw_Z below #[Value.ref b] s) (entryFrame m ([Value.ref b] : List Value).toArray 8) := by
      rw [hh0]
      exact whole_start l hst hbd ⟨B.exec, B.bytes, B.returns, hml, hown, hts, hX, hbl, B.notSynchronized, hgv⟩
    obtain ⟨t, a1, o, b1, b2, b3⟩ := K s₁ rfl X₀
    exact ⟨t, o, a1, b1, b2, b3⟩
theorem lw_pre_spec {args : Array Value} {s : State} (h : (Jvm.Cond.and given_1 narrow_1).before args s = true) (hr : rest_1_c.before args s = true) : ∃ (b : Addr) (xs : List Int32), lw_P b xs args s := by
  have hs := flat_of_before _ h
  have hq := flat_of_before _ hr
  have hc : (Cond.count 1).before args s = true := hs _ (by decide +kernel)
  have harr : (Cond.arrayOf (.arg 0) .int).before args s = true := hs _ (by decide +kernel)
  have hle : (Cond.le (.length (.arg 0)) (.int 3072)).before args s = true := hs _ (by decide +kernel)
  have hlen : (Cond.isInt (.length (.arg 0))).before args s = true := hq _ (by decide +kernel)
  have hall : (Cond.all (.arg 0) (.isInt (.elem (.arg 0) (.index 0)))).before args s = true := hq _ (by decide +kernel)
  obtain ⟨b, xs, hb, hx⟩ := State.ints_of_pre rfl harr hlen hall
  have hsm : xs.length < 2 ^ 31 := hx.choose_spec.2.2.2
  have hev : (Term.length (.arg 0)).eval args s none [] s = some (.int xs.length.toInt32) := hx.length_eval hb
  have hv := Cond.le_ints hev (show (Term.int 3072).eval args s none [] s = some (.int 3072) from rfl)
  have hd : xs.length.toInt32 ≤ 3072 := by
    simpa [Cond.before, Cond.holds, hv] using hle
  have hN : xs.length ≤ 3072 := (Int32.ofNat_le_ofNat hsm (by decide)).mp (show Int32.ofNat xs.length ≤ Int32.ofNat 3072 from hd)
  exact ⟨b, xs, Cond.one_arg hc (show args[0]? = some (.ref b) from hb), hx, hN, h⟩
theorem lw_comes (l : Launch) (hst : l.stackTraces = false) : Comes l x (Jvm.Cond.code x code maxLocals ret :: tables_1) room_1 (fun tb e args s => Calls_1 tb e args s ∧ rest_1 tb e args s ∧ Pre_1 tb e args s)
    (fun _ _ args s o t => lw_Q args s o t) := by
  intro p e ha hc hk s m args below hf hfit hheap happ hpre
  obtain ⟨b, xs, hP⟩ := lw_pre_spec hpre.2.2 hpre.2.1
  obtain ⟨k, o, h1, h2, h3, hQ⟩ := lw_walk l hst b xs p e ha hc hk s m args below hf ((Spec.applies_iff_loose hf).mp happ).1 hP trivial
  exact ⟨k, o, h1, h2, h3, hQ⟩
theorem lw_frame {s t : State} {o : Outcome} {args : Array Value} (h : Framed s o t [] 1053 24450) :
    Framed s o t (fieldLocs frame_1_writes args s ++ arrayLocs frame_1_arrays args s ++ staticLocs frame_1_statics s) 1053 24450 := h
theorem lw_limb (L : Cond) (hL : ∀ (args : Array Value) (s t : State), L.after args s (.returned (some (.int 1))) t = true) :
    ArmFor flags0 classFile x code maxLocals ret World_1 tables_1 room_1 Calls_1 rest_1 Pre_1
      (fun tb e a s o t => postC L tb e a s o t ∧ Framed s o t (fieldLocs frame_1_writes a s ++ arrayLocs frame_1_arrays a s ++ staticLocs frame_1_statics s) 1053 24450) := by
  intro l hfl _ _ p e ha hc hk s m args below hf hfit hheap happ hpre
  have hst : l.stackTraces = false := by unfold Launch.stackTraces; rw [hfl]; decide +kernel
  obtain ⟨k, o, h1, h2, h3, rfl, hF⟩ := lw_comes l hst p e ha hc hk s m args below hf hfit hheap happ hpre
  exact ⟨k, _, h1, h2, h3, hL args s _, lw_frame hF⟩
theorem i_vc : Claimed_1_1 ∧ Claimed_1_2 := ⟨lw_limb limb_1_1 (fun args s t => by simp [limb_1_1, Cond.after, Cond.holds, Cond.value]), lw_limb limb_1_2 (fun args s t => Cond.after_iff.mpr (by
  first | (rw [show limb_1_2 = Cond.eq .result (.int 1) from rfl, Cond.eq_ints (x := 1) (y := 1) rfl rfl]; simp; done) | (simp [limb_1_2, Cond.value, Term.eval]; done)))⟩

