/-! constructors, and the reference's last reader -/
def cfI (y : MethodName) (b : ByteArray) (mL : Nat) : Prop := Cond.code y b mL none ∈ WT ∧ Cond.instanceMethod y ∈ WT ∧ Cond.initialized y.cls ∈ WT ∧ y.name = "<init>" ∧ (y.cls ≠ "java/lang/invoke/MethodHandle" ∧ y.cls ≠ "java/lang/invoke/VarHandle") ∧ (parseMethodDescriptor y.desc).map (fun d => d.parameters.length) = some 0
section CO
variable {l : Launch} {y : MethodName} {b : ByteArray} {mL mc ms : Nat} {rm : Room} {av : List Value} {B : State → Prop} {S : Type} {D : va_G} {cI cZ cJ : ClassId} {z : Nat} {ws : va_W} {ws' : S → va_W} {post : S → Prop}
theorem bd_c (hy : plainName y.cls = true) (hnm : y.name = "<init>") (hle : (lg_sl av).length ≤ mL) (body : ∀ (p : Program) (e : Env) (s : State) (m : MethodId) (args : Array Value) (below : List Frame) (meth : Method) (c : Code) (Q : State → Prop), Fx p s m args meth c b mL y.cls none → meth.name = "<init>" → B s → (∀ {H : Heap} {locs : List Loc} {ls : Array Slot} {pc : Nat} (u : S), wi D z (Ar z) (ws' u) s H locs → decode b pc = .ok (.return_, 1) → post u → W p l e rm s m args below meth c H locs mc ms Q (F0 m pc ls [])) → ∀ ls : Array Slot, lv_has ls mL (lv_args 0 av) → W p l e rm s m args below meth c s.heap [] 0 0 Q (F0 m 0 ls [])) : Met l y (wd y b mL none) rm (va_Pc av B) (va_Qv post (fun u t => va_P D vwCl (ws' u) t.heap ∧ va_D (Ar z) (ws' u)) (Ar z)) mc ms (Ar z) := by
  refine Met.ofW (cc := b) (maxL := mL) (ret := none) hy rfl ?_
  intro p e s m args below meth c s₁ Bd hml hv
  obtain ⟨rfl, hpw⟩ := hv
  have hts : ∀ w ∈ WT, w.before av.toArray s = true := fun w h => atoms_spec (ws := wd y b mL none) Bd.pre w (List.mem_cons_of_mem _ h)
  have hl := lv_entry av (n := mL) hle
  rw [lg_entry_eq]
  have F : Fx p s m av.toArray meth c b mL y.cls none := ⟨Bd.exec, Bd.bytes, hml, findClass_of_methodNamed Bd.named, hts, Bd.returns, Bd.notSynchronized⟩
  exact body p e s m _ below meth c _ F ((name_of_methodNamed Bd.named Bd.method).1.trans hnm) hpw (fun u hI hdg hp => W.vret F.1 F.2.1 F.2.2.2.2.2.1 (fun t ht hW => ⟨⟨u, rfl, hp, by rw [ht]; exact hI.2.1, hI.2.2.1⟩, hI.2.2.2.F ht⟩) hI.2.2.2.2.2 hdg F.2.2.2.2.2.2) _ hl
variable {p : Program} {e : Env} {R : Room} {s : State} {m : MethodId} {args : Array Value} {below : List Frame} {meth : Method} {c : Code} {H : Heap} {locs : List Loc} {cells slots : Nat} {Q : State → Prop} {cc : ByteArray} {nL n idx : Nat} {ret0 : Option FieldType} {Qc : Array Value → State → Outcome → State → Prop} {free : Addr → Prop} {own : String} {As rest st : List Value} {pc : Nat} {ls : Array Slot}
theorem run_i (F : Fx p s m args meth c cc nL own ret0) (hK : kn D cI cZ cJ s) (hI : wi D z (Ar z) ws s H locs) {ba : Nat} (hM : Met l y (wd y b mL none) rm (va_Pc [.ref ba] (pw D cI cZ cJ z ws)) Qc mc ms free) (f : cfI y b mL) (kl : Cond.methodLink own idx y ∈ WT)
    (hR : rm.frames + 1 ≤ R.frames ∧ 8 + (mL + 11) + rm.locals ≤ R.locals) (hm : rm.cells = mc ∧ rm.slots = ms) (hm2 : cells + mc ≤ R.cells ∧ slots + ms ≤ R.slots) (hsz : ls.size = nL) (hst : st = .ref ba :: rest) (hW : (rest.map fun v => v.category).sum ≤ 8) (hdg : decode cc pc = .ok (.invokespecial idx, 3)) :
    va_Run p l e R s m args below meth c H locs cells slots mc ms (F0 m pc ls st) rest (Qc [Value.ref ba].toArray) free :=
  va_runI (As := []) ⟨F.1, F.2.1, F.2.2.1, F.2.2.2.1, F.2.2.2.2.1⟩ hM ⟨callB_of 0 F.2.2.2.2.1 (gd_wd f.1) rfl hm.1 hm.2 (F.2.2.2.2.1 _ f.2.2.1) (F.2.2.2.2.1 _ kl) ⟨f.2.2.2.2.1.1, f.2.2.2.2.1.2, f.2.2.2.2.2⟩ hR, f.2.2.2.1, F.2.2.2.2.1 _ f.2.1⟩ ⟨pw.blind, fun U hU hW => ⟨rfl, hI.pw hK hU hW⟩⟩ rfl rfl hsz hst (lv_room hW) hdg hm2
theorem na (F : Fx p s m args meth c cc nL own ret0) {atype : ArrayType} (ka : Cond.arrayClass (newarray.typeOf atype) ∈ WT) {ty : FieldType} (hty : newarray.typeOf atype = ty) (hK : kn D cI cZ cJ s) (hI : wi D z (Ar z) ws s H locs) (t0 : Nat) {cA : ClassId} (htt : [(cI, FieldType.int), (cZ, FieldType.boolean), (cJ, FieldType.long)][t0]? = some (cA, ty)) (hu : ∀ c1 c2, va_RA s c1 ty → va_RA s c2 ty → c1 = c2) {N : Nat} {a0 : vp_A} (ha : ∀ cA : ClassId, vp_cell cA a0 = arrV cA N (fun _ => defaultValue ty)) (hN : N < 2 ^ 31) (hbytes : N * componentBytes ty ≤ 536870912) (hcells : cells + 1 ≤ R.cells) (hslots : slots + N ≤ R.slots) (hdg : decode cc pc = .ok (.newarray atype, 2))
    (kk : ∀ (q : Nat) (H : Heap), wi D z (Ar z) (ws ++ [(q, .inl (cA, a0))]) s H locs → W p l e R s m args below meth c H locs (cells + 1) (slots + N) Q (F0 m (pc + 2) ls (.ref q :: rest))) : W p l e R s m args below meth c H locs cells slots Q (F0 m pc ls (.int (nI N) :: rest)) := by
  refine va_newa F.1 F.2.1 (F.2.2.2.2.1 _ ka) hty hK.1 hI.2.1 hI.2.2.1 hI.2.2.2 (fun q h => Nat.le_trans hI.1 h) ha (nI_pos hN) (nI_clamp hN) hbytes hcells hslots hdg (fun q c2 H1 hK2 hP hD hS => ?_)
  have e : c2 = cA := hu c2 cA (hK2.2 3 (c2, ty) rfl).2 (hK.1.2 t0 (cA, ty) htt).2
  subst e
  exact kk q H1 ⟨hI.1, hP, hD, hS⟩
end CO

theorem cfi_X0 : cfI yX0_init cX0_init 1 := ⟨k25, k24, k2, rfl, ⟨by decide +kernel, by decide +kernel⟩, by decide +kernel⟩
theorem cfi_X1 : cfI yX1_init cX1_init 1 := ⟨k46, k45, k3, rfl, ⟨by decide +kernel, by decide +kernel⟩, by decide +kernel⟩
theorem cfi_X2 : cfI yX2_init cX2_init 1 := ⟨k17, k16, k1, rfl, ⟨by decide +kernel, by decide +kernel⟩, by decide +kernel⟩
theorem cfi_X3 : cfI yX3_init cX3_init 1 := ⟨k420, k419, k4, rfl, ⟨by decide +kernel, by decide +kernel⟩, by decide +kernel⟩
def adr7 (x0 x1 x2 x3 x4 x5 x6 : Nat) : Nat → Nat := fun k => match k with | 0 => x0 | 1 => x1 | 2 => x2 | 3 => x3 | 4 => x4 | 5 => x5 | _ => x6
def adr6 (x0 x1 x2 x3 x4 x5 : Nat) : Nat → Nat := fun k => match k with | 0 => x0 | 1 => x1 | 2 => x2 | 3 => x3 | 4 => x4 | _ => x5
set_option maxHeartbeats 4000000 in
set_option maxRecDepth 100000 in
theorem c_X0_init {l : Launch} {D : va_G} {cI cZ cJ : ClassId} {z h0 : Nat} {X : va_W} : Met l yX0_init (wd yX0_init cX0_init 1 none) { frames := 1, cells := 3, slots := 5572, locals := 12 } (va_Pc [.ref h0] (pw D cI cZ cJ z ((h0, .inr (0, [.null, .null, .null, .int 0])) :: X))) (va_Qv (S := Nat × Nat × Nat) (fun _ => True) (fun u t => va_P D vwCl ((fun u => (h0, .inr (0, [.ref u.1, .ref u.2.1, .ref u.2.2, .int (nI 0)])) :: (X ++ [(u.1, .inl (cI, 5248, .inl (fun _ => 0)))] ++ [(u.2.1, .inl (cI, 164, .inl (fun _ => 0)))] ++ [(u.2.2, .inl (cI, 160, .inl (fun _ => 0)))])) u) t.heap ∧ va_D (Ar z) ((fun u => (h0, .inr (0, [.ref u.1, .ref u.2.1, .ref u.2.2, .int (nI 0)])) :: (X ++ [(u.1, .inl (cI, 5248, .inl (fun _ => 0)))] ++ [(u.2.1, .inl (cI, 164, .inl (fun _ => 0)))] ++ [(u.2.2, .inl (cI, 160, .inl (fun _ => 0)))])) u)) (Ar z)) 3 5572 (Ar z) := by
  refine bd_c (by decide) rfl (Nat.le_of_ble_eq_true rfl) ?_
  intro p e s m args below meth c Q hF hin hpw hret ls hl
  obtain ⟨hx, hb, hml, hown, hts, hr, hlocks⟩ := id hF
  have hK := hpw.2.2.2
  have hI : wi D z (Ar z) ((h0, .inr (0, [.null, .null, .null, .int 0])) :: X) s s.heap [] := hpw.wi
  have hl : lv_has ls 1 [(0, .ref h0)] := hl
  refine lv_aload_n hx hb dX0_init_0 rfl (lv_at hl 0 rfl) ?_
  refine W.objInit hx hb hown (hts _ k26) (hts _ k19) (hts _ k20) rfl (by rw [hml]; exact hl.1) rfl dX0_init_1 (Nat.le_of_ble_eq_true rfl) (Nat.le_of_ble_eq_true rfl) ?_
  refine W.eq (g2 := F0 m 4 ls []) rfl ?_
  refine lv_aload_n hx hb dX0_init_4 rfl (lv_at hl 0 rfl) ?_
  refine lv_sipush (v := nI 5248) hx hb dX0_init_5 (by decide) ?_
  refine na (atype := .int) (ty := .int) (a0 := (5248, .inl (fun _ => 0))) hF k41 rfl hK hI 0 rfl (fun _ _ h1 h2 => Option.some.inj (h1.symm.trans h2)) (fun _ => rfl) (by decide) (by decide) (Nat.le_of_ble_eq_true rfl) (Nat.le_of_ble_eq_true rfl) dX0_init_8 (fun q1 H hI => ?_)
  have hI : wi D z (Ar z) ((h0, .inr (0, [.null, .null, .null, .int 0])) :: (X ++ [(q1, .inl (cI, 5248, .inl (fun _ => 0)))])) s H _ := hI
  refine va_putF (D := D) (ci := 0) (v := .ref q1) (ty := .array .int) (C := RX0) (T := TX0) (N := 4) hx hb hts inX0 tyX0 tyX0_ok nmX0 hown hK.1 hI.2.1 hI.2.2.1 hI.2.2.2 0 rfl rfl 0 (by decide) (hts _ k27) (fun _ h9 => h9) rfl hin rfl (by decide +kernel) rfl rfl (Nat.le_of_ble_eq_true rfl) dX0_init_10 (fun H locs hP hD hS => ?_)
  have hI : wi D z (Ar z) ((h0, .inr (0, [.ref q1, .null, .null, .int 0])) :: (X ++ [(q1, .inl (cI, 5248, .inl (fun _ => 0)))])) s H locs := ⟨hI.1, hP, hD, hS⟩
  refine lv_aload_n hx hb dX0_init_13 rfl (lv_at hl 0 rfl) ?_
  refine lv_sipush (v := nI 164) hx hb dX0_init_14 (by decide) ?_
  refine na (atype := .int) (ty := .int) (a0 := (164, .inl (fun _ => 0))) hF k41 rfl hK hI 0 rfl (fun _ _ h1 h2 => Option.some.inj (h1.symm.trans h2)) (fun _ => rfl) (by decide) (by decide) (Nat.le_of_ble_eq_true rfl) (Nat.le_of_ble_eq_true rfl) dX0_init_17 (fun q2 H hI => ?_)
  have hI : wi D z (Ar z) ((h0, .inr (0, [.ref q1, .null, .null, .int 0])) :: (X ++ [(q1, .inl (cI, 5248, .inl (fun _ => 0)))] ++ [(q2, .inl (cI, 164, .inl (fun _ => 0)))])) s H _ := hI
  refine va_putF (D := D) (ci := 0) (v := .ref q2) (ty := .array .int) (C := RX0) (T := TX0) (N := 4) hx hb hts inX0 tyX0 tyX0_ok nmX0 hown hK.1 hI.2.1 hI.2.2.1 hI.2.2.2 0 rfl rfl 1 (by decide) (hts _ k28) (fun _ h9 => h9) rfl hin rfl (by decide +kernel) rfl rfl (Nat.le_of_ble_eq_true rfl) dX0_init_19 (fun H locs hP hD hS => ?_)
  have hI : wi D z (Ar z) ((h0, .inr (0, [.ref q1, .ref q2, .null, .int 0])) :: (X ++ [(q1, .inl (cI, 5248, .inl (fun _ => 0)))] ++ [(q2, .inl (cI, 164, .inl (fun _ => 0)))])) s H locs := ⟨hI.1, hP, hD, hS⟩
  refine lv_aload_n hx hb dX0_init_22 rfl (lv_at hl 0 rfl) ?_
  refine lv_sipush (v := nI 160) hx hb dX0_init_23 (by decide) ?_
  refine na (atype := .int) (ty := .int) (a0 := (160, .inl (fun _ => 0))) hF k41 rfl hK hI 0 rfl (fun _ _ h1 h2 => Option.some.inj (h1.symm.trans h2)) (fun _ => rfl) (by decide) (by decide) (Nat.le_of_ble_eq_true rfl) (Nat.le_of_ble_eq_true rfl) dX0_init_26 (fun q3 H hI => ?_)
  have hI : wi D z (Ar z) ((h0, .inr (0, [.ref q1, .ref q2, .null, .int 0])) :: (X ++ [(q1, .inl (cI, 5248, .inl (fun _ => 0)))] ++ [(q2, .inl (cI, 164, .inl (fun _ => 0)))] ++ [(q3, .inl (cI, 160, .inl (fun _ => 0)))])) s H _ := hI
  refine va_putF (D := D) (ci := 0) (v := .ref q3) (ty := .array .int) (C := RX0) (T := TX0) (N := 4) hx hb hts inX0 tyX0 tyX0_ok nmX0 hown hK.1 hI.2.1 hI.2.2.1 hI.2.2.2 0 rfl rfl 2 (by decide) (hts _ k29) (fun _ h9 => h9) rfl hin rfl (by decide +kernel) rfl rfl (Nat.le_of_ble_eq_true rfl) dX0_init_28 (fun H locs hP hD hS => ?_)
  have hI : wi D z (Ar z) ((h0, .inr (0, [.ref q1, .ref q2, .ref q3, .int 0])) :: (X ++ [(q1, .inl (cI, 5248, .inl (fun _ => 0)))] ++ [(q2, .inl (cI, 164, .inl (fun _ => 0)))] ++ [(q3, .inl (cI, 160, .inl (fun _ => 0)))])) s H locs := ⟨hI.1, hP, hD, hS⟩
  refine lv_aload_n hx hb dX0_init_31 rfl (lv_at hl 0 rfl) ?_
  refine lv_iconst (v := nI 0) hx hb dX0_init_32 (by decide) ?_
  refine va_put (D := D) (ci := 0) (v := .int (nI 0)) (ty := .int) (C := RX0) (T := TX0) (N := 4) hx hb hts inX0 tyX0 tyX0_ok nmX0 hown hK.1 hI.2.1 hI.2.2.1 hI.2.2.2 0 rfl rfl 3 (by decide) (hts _ k30) (fun _ h9 => h9) rfl (by decide +kernel) rfl rfl (Nat.le_of_ble_eq_true rfl) dX0_init_33 (fun H locs hP hD hS => ?_)
  have hI : wi D z (Ar z) ((h0, .inr (0, [.ref q1, .ref q2, .ref q3, .int (nI 0)])) :: (X ++ [(q1, .inl (cI, 5248, .inl (fun _ => 0)))] ++ [(q2, .inl (cI, 164, .inl (fun _ => 0)))] ++ [(q3, .inl (cI, 160, .inl (fun _ => 0)))])) s H locs := ⟨hI.1, hP, hD, hS⟩
  exact hret (q1, q2, q3) hI dX0_init_36 trivial
set_option maxHeartbeats 4000000 in
set_option maxRecDepth 100000 in
theorem c_X1_init {l : Launch} {D : va_G} {cI cZ cJ : ClassId} {z h0 : Nat} {X : va_W} : Met l yX1_init (wd yX1_init cX1_init 1 none) { frames := 1, cells := 1, slots := 40, locals := 12 } (va_Pc [.ref h0] (pw D cI cZ cJ z ((h0, .inr (1, [.null, .int 0])) :: X))) (va_Qv (S := Nat) (fun _ => True) (fun u t => va_P D vwCl ((fun u => (h0, .inr (1, [.ref u, .int (nI 0)])) :: (X ++ [(u, .inl (cI, 40, .inl (fun _ => 0)))])) u) t.heap ∧ va_D (Ar z) ((fun u => (h0, .inr (1, [.ref u, .int (nI 0)])) :: (X ++ [(u, .inl (cI, 40, .inl (fun _ => 0)))])) u)) (Ar z)) 1 40 (Ar z) := by
  refine bd_c (by decide) rfl (Nat.le_of_ble_eq_true rfl) ?_
  intro p e s m args below meth c Q hF hin hpw hret ls hl
  obtain ⟨hx, hb, hml, hown, hts, hr, hlocks⟩ := id hF
  have hK := hpw.2.2.2
  have hI : wi D z (Ar z) ((h0, .inr (1, [.null, .int 0])) :: X) s s.heap [] := hpw.wi
  have hl : lv_has ls 1 [(0, .ref h0)] := hl
  refine lv_aload_n hx hb dX1_init_0 rfl (lv_at hl 0 rfl) ?_
  refine W.objInit hx hb hown (hts _ k47) (hts _ k19) (hts _ k20) rfl (by rw [hml]; exact hl.1) rfl dX1_init_1 (Nat.le_of_ble_eq_true rfl) (Nat.le_of_ble_eq_true rfl) ?_
  refine W.eq (g2 := F0 m 4 ls []) rfl ?_
  refine lv_aload_n hx hb dX1_init_4 rfl (lv_at hl 0 rfl) ?_
  refine lv_bipush (v := nI 40) hx hb dX1_init_5 (by decide) ?_
  refine na (atype := .int) (ty := .int) (a0 := (40, .inl (fun _ => 0))) hF k41 rfl hK hI 0 rfl (fun _ _ h1 h2 => Option.some.inj (h1.symm.trans h2)) (fun _ => rfl) (by decide) (by decide) (Nat.le_of_ble_eq_true rfl) (Nat.le_of_ble_eq_true rfl) dX1_init_7 (fun q1 H hI => ?_)
  have hI : wi D z (Ar z) ((h0, .inr (1, [.null, .int 0])) :: (X ++ [(q1, .inl (cI, 40, .inl (fun _ => 0)))])) s H _ := hI
  refine va_putF (D := D) (ci := 1) (v := .ref q1) (ty := .array .int) (C := RX1) (T := TX1) (N := 2) hx hb hts inX1 tyX1 tyX1_ok nmX1 hown hK.1 hI.2.1 hI.2.2.1 hI.2.2.2 0 rfl rfl 0 (by decide) (hts _ k48) (fun _ h9 => h9) rfl hin rfl (by decide +kernel) rfl rfl (Nat.le_of_ble_eq_true rfl) dX1_init_9 (fun H locs hP hD hS => ?_)
  have hI : wi D z (Ar z) ((h0, .inr (1, [.ref q1, .int 0])) :: (X ++ [(q1, .inl (cI, 40, .inl (fun _ => 0)))])) s H locs := ⟨hI.1, hP, hD, hS⟩
  refine lv_aload_n hx hb dX1_init_12 rfl (lv_at hl 0 rfl) ?_
  refine lv_iconst (v := nI 0) hx hb dX1_init_13 (by decide) ?_
  refine va_put (D := D) (ci := 1) (v := .int (nI 0)) (ty := .int) (C := RX1) (T := TX1) (N := 2) hx hb hts inX1 tyX1 tyX1_ok nmX1 hown hK.1 hI.2.1 hI.2.2.1 hI.2.2.2 0 rfl rfl 1 (by decide) (hts _ k49) (fun _ h9 => h9) rfl (by decide +kernel) rfl rfl (Nat.le_of_ble_eq_true rfl) dX1_init_14 (fun H locs hP hD hS => ?_)
  have hI : wi D z (Ar z) ((h0, .inr (1, [.ref q1, .int (nI 0)])) :: (X ++ [(q1, .inl (cI, 40, .inl (fun _ => 0)))])) s H locs := ⟨hI.1, hP, hD, hS⟩
  exact hret q1 hI dX1_init_17 trivial
set_option maxHeartbeats 4000000 in
set_option maxRecDepth 100000 in
theorem c_X2_init {l : Launch} {D : va_G} {cI cZ cJ : ClassId} {z h0 : Nat} : Met l yX2_init (wd yX2_init cX2_init 1 none) { frames := 2, cells := 6, slots := 5618, locals := 32 } (va_Pc [.ref h0] (pw D cI cZ cJ z ((h0, .inr (2, [.null, .null, .int 0])) :: []))) (va_Qv (S := Nat → Nat) (fun u => u 0 = h0) (fun u t => va_P D vwCl ((fun u => cw u cI (fun _ => 0) (fun _ => 0) (fun _ => 0) (nI 0) (fun _ => 0) (nI 0) (-1 : Int32) []) u) t.heap ∧ va_D (Ar z) ((fun u => cw u cI (fun _ => 0) (fun _ => 0) (fun _ => 0) (nI 0) (fun _ => 0) (nI 0) (-1 : Int32) []) u)) (Ar z)) 6 5618 (Ar z) := by
  refine bd_c (by decide) rfl (Nat.le_of_ble_eq_true rfl) ?_
  intro p e s m args below meth c Q hF hin hpw hret ls hl
  obtain ⟨hx, hb, hml, hown, hts, hr, hlocks⟩ := id hF
  have hK := hpw.2.2.2
  have hI : wi D z (Ar z) ((h0, .inr (2, [.null, .null, .int 0])) :: []) s s.heap [] := hpw.wi
  have hl : lv_has ls 1 [(0, .ref h0)] := hl
  refine lv_aload_n hx hb dX2_init_0 rfl (lv_at hl 0 rfl) ?_
  refine W.objInit hx hb hown (hts _ k18) (hts _ k19) (hts _ k20) rfl (by rw [hml]; exact hl.1) rfl dX2_init_1 (Nat.le_of_ble_eq_true rfl) (Nat.le_of_ble_eq_true rfl) ?_
  refine W.eq (g2 := F0 m 4 ls []) rfl ?_
  refine lv_aload_n hx hb dX2_init_4 rfl (lv_at hl 0 rfl) ?_
  refine va_new (ci := 0) (fs := [.null, .null, .null, .int 0]) (C := RX0) (T := TX0) (N := 4) hx hb hts inX0 tyX0 tyX0_ok hown (hts _ k21) (hts _ k22) (hts _ k2) hK.1 hI.2.1 hI.2.2.1 hI.2.2.2 (fun q h => Nat.le_trans hI.1 h) rfl (fun j hj => by rcases (show j = 0 ∨ j = 1 ∨ j = 2 ∨ j = 3 by omega) with rfl | rfl | rfl | rfl <;> rfl) (Nat.le_of_ble_eq_true rfl) (Nat.le_of_ble_eq_true rfl) dX2_init_5 (fun q1 H hP hD hS => ?_)
  have hI : wi D z (Ar z) ((h0, .inr (2, [.null, .null, .int 0])) :: ([(q1, .inr (0, [.null, .null, .null, .int 0]))])) s H _ := ⟨hI.1, hP, hD, hS⟩
  refine lv_dup hx hb dX2_init_8 rfl ?_
  have hJ := hI.ofP (ws' := (q1, .inr (0, [.null, .null, .null, .int 0])) :: [(h0, .inr (2, [.null, .null, .int 0]))]) [1, 0] (by decide) rfl rfl
  refine k_mv (run_i (rest := [.ref q1, .ref h0]) hF hK hJ c_X0_init cfi_X0 k23 ⟨Nat.le_of_ble_eq_true rfl, Nat.le_of_ble_eq_true rfl⟩ ⟨rfl, rfl⟩ ⟨Nat.le_of_ble_eq_true rfl, Nat.le_of_ble_eq_true rfl⟩ hl.1 rfl (Nat.le_of_ble_eq_true rfl) dX2_init_9) hJ (fun u9 _ H locs hJ => ?_)
  obtain ⟨qv, qf, qr⟩ := u9
  have hI : wi D z (Ar z) ((h0, .inr (2, [.null, .null, .int 0])) :: ([(q1, .inr (0, [.ref qv, .ref qf, .ref qr, .int (nI 0)]))] ++ [(qv, .inl (cI, 5248, .inl (fun _ => 0)))] ++ [(qf, .inl (cI, 164, .inl (fun _ => 0)))] ++ [(qr, .inl (cI, 160, .inl (fun _ => 0)))])) s H locs := hJ.ofP [1, 0, 2, 3, 4] (by decide) rfl rfl
  refine va_putF (D := D) (ci := 2) (v := .ref q1) (ty := .object "TwoTimesTable$States") (C := RX2) (T := TX2) (N := 3) hx hb hts inX2 tyX2 tyX2_ok nmX2 hown hK.1 hI.2.1 hI.2.2.1 hI.2.2.2 0 rfl rfl 0 (by decide) (hts _ k56) (fun _ h9 => h9) rfl hin rfl (by decide +kernel) rfl rfl (Nat.le_of_ble_eq_true rfl) dX2_init_12 (fun H locs hP hD hS => ?_)
  have hI : wi D z (Ar z) ((h0, .inr (2, [.ref q1, .null, .int 0])) :: ([(q1, .inr (0, [.ref qv, .ref qf, .ref qr, .int (nI 0)]))] ++ [(qv, .inl (cI, 5248, .inl (fun _ => 0)))] ++ [(qf, .inl (cI, 164, .inl (fun _ => 0)))] ++ [(qr, .inl (cI, 160, .inl (fun _ => 0)))])) s H locs := ⟨hI.1, hP, hD, hS⟩
  refine lv_aload_n hx hb dX2_init_15 rfl (lv_at hl 0 rfl) ?_
  refine va_new (ci := 1) (fs := [.null, .int 0]) (C := RX1) (T := TX1) (N := 2) hx hb hts inX1 tyX1 tyX1_ok hown (hts _ k42) (hts _ k43) (hts _ k3) hK.1 hI.2.1 hI.2.2.1 hI.2.2.2 (fun q h => Nat.le_trans hI.1 h) rfl (fun j hj => by rcases (show j = 0 ∨ j = 1 by omega) with rfl | rfl <;> rfl) (Nat.le_of_ble_eq_true rfl) (Nat.le_of_ble_eq_true rfl) dX2_init_16 (fun q2 H hP hD hS => ?_)
  have hI : wi D z (Ar z) ((h0, .inr (2, [.ref q1, .null, .int 0])) :: ([(q1, .inr (0, [.ref qv, .ref qf, .ref qr, .int (nI 0)]))] ++ [(qv, .inl (cI, 5248, .inl (fun _ => 0)))] ++ [(qf, .inl (cI, 164, .inl (fun _ => 0)))] ++ [(qr, .inl (cI, 160, .inl (fun _ => 0)))] ++ [(q2, .inr (1, [.null, .int 0]))])) s H _ := ⟨hI.1, hP, hD, hS⟩
  refine lv_dup hx hb dX2_init_19 rfl ?_
  have hJ := hI.ofP (ws' := (q2, .inr (1, [.null, .int 0])) :: [(h0, .inr (2, [.ref q1, .null, .int 0])), (q1, .inr (0, [.ref qv, .ref qf, .ref qr, .int (nI 0)])), (qv, .inl (cI, 5248, .inl (fun _ => 0))), (qf, .inl (cI, 164, .inl (fun _ => 0))), (qr, .inl (cI, 160, .inl (fun _ => 0)))]) [5, 0, 1, 2, 3, 4] (by decide) rfl rfl
  refine k_mv (run_i (rest := [.ref q2, .ref h0]) hF hK hJ c_X1_init cfi_X1 k44 ⟨Nat.le_of_ble_eq_true rfl, Nat.le_of_ble_eq_true rfl⟩ ⟨rfl, rfl⟩ ⟨Nat.le_of_ble_eq_true rfl, Nat.le_of_ble_eq_true rfl⟩ hl.1 rfl (Nat.le_of_ble_eq_true rfl) dX2_init_20) hJ (fun u20 _ H locs hJ => ?_)
  obtain ⟨qw, rfl⟩ : ∃ x, x = u20 := ⟨_, rfl⟩
  have hI : wi D z (Ar z) ((h0, .inr (2, [.ref q1, .null, .int 0])) :: ([(q1, .inr (0, [.ref qv, .ref qf, .ref qr, .int (nI 0)]))] ++ [(qv, .inl (cI, 5248, .inl (fun _ => 0)))] ++ [(qf, .inl (cI, 164, .inl (fun _ => 0)))] ++ [(qr, .inl (cI, 160, .inl (fun _ => 0)))] ++ [(q2, .inr (1, [.ref qw, .int (nI 0)]))] ++ [(qw, .inl (cI, 40, .inl (fun _ => 0)))])) s H locs := hJ.ofP [1, 2, 3, 4, 5, 0, 6] (by decide) rfl rfl
  refine va_putF (D := D) (ci := 2) (v := .ref q2) (ty := .object "TwoTimesTable$Waiting") (C := RX2) (T := TX2) (N := 3) hx hb hts inX2 tyX2 tyX2_ok nmX2 hown hK.1 hI.2.1 hI.2.2.1 hI.2.2.2 0 rfl rfl 1 (by decide) (hts _ k57) (fun _ h9 => h9) rfl hin rfl (by decide +kernel) rfl rfl (Nat.le_of_ble_eq_true rfl) dX2_init_23 (fun H locs hP hD hS => ?_)
  have hI : wi D z (Ar z) ((h0, .inr (2, [.ref q1, .ref q2, .int 0])) :: ([(q1, .inr (0, [.ref qv, .ref qf, .ref qr, .int (nI 0)]))] ++ [(qv, .inl (cI, 5248, .inl (fun _ => 0)))] ++ [(qf, .inl (cI, 164, .inl (fun _ => 0)))] ++ [(qr, .inl (cI, 160, .inl (fun _ => 0)))] ++ [(q2, .inr (1, [.ref qw, .int (nI 0)]))] ++ [(qw, .inl (cI, 40, .inl (fun _ => 0)))])) s H locs := ⟨hI.1, hP, hD, hS⟩
  refine lv_aload_n hx hb dX2_init_26 rfl (lv_at hl 0 rfl) ?_
  refine lv_iconst (v := (-1 : Int32)) hx hb dX2_init_27 (by decide) ?_
  refine va_put (D := D) (ci := 2) (v := .int (-1 : Int32)) (ty := .int) (C := RX2) (T := TX2) (N := 3) hx hb hts inX2 tyX2 tyX2_ok nmX2 hown hK.1 hI.2.1 hI.2.2.1 hI.2.2.2 0 rfl rfl 2 (by decide) (hts _ k58) (fun _ h9 => h9) rfl (by decide +kernel) rfl rfl (Nat.le_of_ble_eq_true rfl) dX2_init_28 (fun H locs hP hD hS => ?_)
  have hI : wi D z (Ar z) ((h0, .inr (2, [.ref q1, .ref q2, .int (-1 : Int32)])) :: ([(q1, .inr (0, [.ref qv, .ref qf, .ref qr, .int (nI 0)]))] ++ [(qv, .inl (cI, 5248, .inl (fun _ => 0)))] ++ [(qf, .inl (cI, 164, .inl (fun _ => 0)))] ++ [(qr, .inl (cI, 160, .inl (fun _ => 0)))] ++ [(q2, .inr (1, [.ref qw, .int (nI 0)]))] ++ [(qw, .inl (cI, 40, .inl (fun _ => 0)))])) s H locs := ⟨hI.1, hP, hD, hS⟩
  exact hret (adr7 h0 q1 qv qf qr q2 qw) hI dX2_init_31 rfl
set_option maxHeartbeats 4000000 in
set_option maxRecDepth 100000 in
theorem c_X3_init {l : Launch} {D : va_G} {cI cZ cJ : ClassId} {z h0 : Nat} {X : va_W} : Met l yX3_init (wd yX3_init cX3_init 1 none) { frames := 1, cells := 5, slots := 10536, locals := 12 } (va_Pc [.ref h0] (pw D cI cZ cJ z ((h0, .inr (3, [.int 0, .null, .null, .null, .null, .int 0, .null, .int 0, .int 0, .int 0])) :: X))) (va_Qv (S := Nat → Nat) (fun u => u 0 = h0) (fun u t => va_P D vwCl ((fun u => (u 0, .inr (3, [.int (nI 0), .ref (u 1), .ref (u 2), .ref (u 3), .ref (u 4), .int (nI 0), .ref (u 5), .int (-1 : Int32), .int (nI 0), .int (nI 0)])) :: (X ++ [(u 1, .inl (cZ, 5120, .inl (bf (fun _ => false))))] ++ [(u 2, .inl (cI, 5120, .inl (fun _ => 0)))] ++ [(u 3, .inl (cZ, 128, .inl (bf (fun _ => false))))] ++ [(u 4, .inl (cI, 128, .inl (fun _ => 0)))] ++ [(u 5, .inl (cI, 40, .inl (fun _ => 0)))])) u) t.heap ∧ va_D (Ar z) ((fun u => (u 0, .inr (3, [.int (nI 0), .ref (u 1), .ref (u 2), .ref (u 3), .ref (u 4), .int (nI 0), .ref (u 5), .int (-1 : Int32), .int (nI 0), .int (nI 0)])) :: (X ++ [(u 1, .inl (cZ, 5120, .inl (bf (fun _ => false))))] ++ [(u 2, .inl (cI, 5120, .inl (fun _ => 0)))] ++ [(u 3, .inl (cZ, 128, .inl (bf (fun _ => false))))] ++ [(u 4, .inl (cI, 128, .inl (fun _ => 0)))] ++ [(u 5, .inl (cI, 40, .inl (fun _ => 0)))])) u)) (Ar z)) 5 10536 (Ar z) := by
  refine bd_c (by decide) rfl (Nat.le_of_ble_eq_true rfl) ?_
  intro p e s m args below meth c Q hF hin hpw hret ls hl
  obtain ⟨hx, hb, hml, hown, hts, hr, hlocks⟩ := id hF
  have hK := hpw.2.2.2
  have hI : wi D z (Ar z) ((h0, .inr (3, [.int 0, .null, .null, .null, .null, .int 0, .null, .int 0, .int 0, .int 0])) :: X) s s.heap [] := hpw.wi
  have hl : lv_has ls 1 [(0, .ref h0)] := hl
  refine lv_aload_n hx hb dX3_init_0 rfl (lv_at hl 0 rfl) ?_
  refine W.objInit hx hb hown (hts _ k421) (hts _ k19) (hts _ k20) rfl (by rw [hml]; exact hl.1) rfl dX3_init_1 (Nat.le_of_ble_eq_true rfl) (Nat.le_of_ble_eq_true rfl) ?_
  refine W.eq (g2 := F0 m 4 ls []) rfl ?_
  refine lv_aload_n hx hb dX3_init_4 rfl (lv_at hl 0 rfl) ?_
  refine lv_sipush (v := nI 5120) hx hb dX3_init_5 (by decide) ?_
  refine na (atype := .boolean) (ty := .boolean) (a0 := (5120, .inl (fun _ => 0))) hF k453 rfl hK hI 1 rfl (fun _ _ h1 h2 => Option.some.inj (h1.symm.trans h2)) (fun _ => rfl) (by decide) (by decide) (Nat.le_of_ble_eq_true rfl) (Nat.le_of_ble_eq_true rfl) dX3_init_8 (fun q1 H hI => ?_)
  have hI : wi D z (Ar z) ((h0, .inr (3, [.int 0, .null, .null, .null, .null, .int 0, .null, .int 0, .int 0, .int 0])) :: (X ++ [(q1, .inl (cZ, 5120, .inl (fun _ => 0)))])) s H _ := hI
  refine va_putF (D := D) (ci := 3) (v := .ref q1) (ty := .array .boolean) (C := RX3) (T := TX3) (N := 10) hx hb hts inX3 tyX3 tyX3_ok nmX3 hown hK.1 hI.2.1 hI.2.2.1 hI.2.2.2 0 rfl rfl 1 (by decide) (hts _ k423) (fun _ h9 => h9) rfl hin rfl (by decide +kernel) rfl rfl (Nat.le_of_ble_eq_true rfl) dX3_init_10 (fun H locs hP hD hS => ?_)
  have hI : wi D z (Ar z) ((h0, .inr (3, [.int 0, .ref q1, .null, .null, .null, .int 0, .null, .int 0, .int 0, .int 0])) :: (X ++ [(q1, .inl (cZ, 5120, .inl (fun _ => 0)))])) s H locs := ⟨hI.1, hP, hD, hS⟩
  refine lv_aload_n hx hb dX3_init_13 rfl (lv_at hl 0 rfl) ?_
  refine lv_sipush (v := nI 5120) hx hb dX3_init_14 (by decide) ?_
  refine na (atype := .int) (ty := .int) (a0 := (5120, .inl (fun _ => 0))) hF k41 rfl hK hI 0 rfl (fun _ _ h1 h2 => Option.some.inj (h1.symm.trans h2)) (fun _ => rfl) (by decide) (by decide) (Nat.le_of_ble_eq_true rfl) (Nat.le_of_ble_eq_true rfl) dX3_init_17 (fun q2 H hI => ?_)
  have hI : wi D z (Ar z) ((h0, .inr (3, [.int 0, .ref q1, .null, .null, .null, .int 0, .null, .int 0, .int 0, .int 0])) :: (X ++ [(q1, .inl (cZ, 5120, .inl (fun _ => 0)))] ++ [(q2, .inl (cI, 5120, .inl (fun _ => 0)))])) s H _ := hI
  refine va_putF (D := D) (ci := 3) (v := .ref q2) (ty := .array .int) (C := RX3) (T := TX3) (N := 10) hx hb hts inX3 tyX3 tyX3_ok nmX3 hown hK.1 hI.2.1 hI.2.2.1 hI.2.2.2 0 rfl rfl 2 (by decide) (hts _ k424) (fun _ h9 => h9) rfl hin rfl (by decide +kernel) rfl rfl (Nat.le_of_ble_eq_true rfl) dX3_init_19 (fun H locs hP hD hS => ?_)
  have hI : wi D z (Ar z) ((h0, .inr (3, [.int 0, .ref q1, .ref q2, .null, .null, .int 0, .null, .int 0, .int 0, .int 0])) :: (X ++ [(q1, .inl (cZ, 5120, .inl (fun _ => 0)))] ++ [(q2, .inl (cI, 5120, .inl (fun _ => 0)))])) s H locs := ⟨hI.1, hP, hD, hS⟩
  refine lv_aload_n hx hb dX3_init_22 rfl (lv_at hl 0 rfl) ?_
  refine lv_sipush (v := nI 128) hx hb dX3_init_23 (by decide) ?_
  refine na (atype := .boolean) (ty := .boolean) (a0 := (128, .inl (fun _ => 0))) hF k453 rfl hK hI 1 rfl (fun _ _ h1 h2 => Option.some.inj (h1.symm.trans h2)) (fun _ => rfl) (by decide) (by decide) (Nat.le_of_ble_eq_true rfl) (Nat.le_of_ble_eq_true rfl) dX3_init_26 (fun q3 H hI => ?_)
  have hI : wi D z (Ar z) ((h0, .inr (3, [.int 0, .ref q1, .ref q2, .null, .null, .int 0, .null, .int 0, .int 0, .int 0])) :: (X ++ [(q1, .inl (cZ, 5120, .inl (fun _ => 0)))] ++ [(q2, .inl (cI, 5120, .inl (fun _ => 0)))] ++ [(q3, .inl (cZ, 128, .inl (fun _ => 0)))])) s H _ := hI
  refine va_putF (D := D) (ci := 3) (v := .ref q3) (ty := .array .boolean) (C := RX3) (T := TX3) (N := 10) hx hb hts inX3 tyX3 tyX3_ok nmX3 hown hK.1 hI.2.1 hI.2.2.1 hI.2.2.2 0 rfl rfl 3 (by decide) (hts _ k425) (fun _ h9 => h9) rfl hin rfl (by decide +kernel) rfl rfl (Nat.le_of_ble_eq_true rfl) dX3_init_28 (fun H locs hP hD hS => ?_)
  have hI : wi D z (Ar z) ((h0, .inr (3, [.int 0, .ref q1, .ref q2, .ref q3, .null, .int 0, .null, .int 0, .int 0, .int 0])) :: (X ++ [(q1, .inl (cZ, 5120, .inl (fun _ => 0)))] ++ [(q2, .inl (cI, 5120, .inl (fun _ => 0)))] ++ [(q3, .inl (cZ, 128, .inl (fun _ => 0)))])) s H locs := ⟨hI.1, hP, hD, hS⟩
  refine lv_aload_n hx hb dX3_init_31 rfl (lv_at hl 0 rfl) ?_
  refine lv_sipush (v := nI 128) hx hb dX3_init_32 (by decide) ?_
  refine na (atype := .int) (ty := .int) (a0 := (128, .inl (fun _ => 0))) hF k41 rfl hK hI 0 rfl (fun _ _ h1 h2 => Option.some.inj (h1.symm.trans h2)) (fun _ => rfl) (by decide) (by decide) (Nat.le_of_ble_eq_true rfl) (Nat.le_of_ble_eq_true rfl) dX3_init_35 (fun q4 H hI => ?_)
  have hI : wi D z (Ar z) ((h0, .inr (3, [.int 0, .ref q1, .ref q2, .ref q3, .null, .int 0, .null, .int 0, .int 0, .int 0])) :: (X ++ [(q1, .inl (cZ, 5120, .inl (fun _ => 0)))] ++ [(q2, .inl (cI, 5120, .inl (fun _ => 0)))] ++ [(q3, .inl (cZ, 128, .inl (fun _ => 0)))] ++ [(q4, .inl (cI, 128, .inl (fun _ => 0)))])) s H _ := hI
  refine va_putF (D := D) (ci := 3) (v := .ref q4) (ty := .array .int) (C := RX3) (T := TX3) (N := 10) hx hb hts inX3 tyX3 tyX3_ok nmX3 hown hK.1 hI.2.1 hI.2.2.1 hI.2.2.2 0 rfl rfl 4 (by decide) (hts _ k426) (fun _ h9 => h9) rfl hin rfl (by decide +kernel) rfl rfl (Nat.le_of_ble_eq_true rfl) dX3_init_37 (fun H locs hP hD hS => ?_)
  have hI : wi D z (Ar z) ((h0, .inr (3, [.int 0, .ref q1, .ref q2, .ref q3, .ref q4, .int 0, .null, .int 0, .int 0, .int 0])) :: (X ++ [(q1, .inl (cZ, 5120, .inl (fun _ => 0)))] ++ [(q2, .inl (cI, 5120, .inl (fun _ => 0)))] ++ [(q3, .inl (cZ, 128, .inl (fun _ => 0)))] ++ [(q4, .inl (cI, 128, .inl (fun _ => 0)))])) s H locs := ⟨hI.1, hP, hD, hS⟩
  refine lv_aload_n hx hb dX3_init_40 rfl (lv_at hl 0 rfl) ?_
  refine lv_bipush (v := nI 40) hx hb dX3_init_41 (by decide) ?_
  refine na (atype := .int) (ty := .int) (a0 := (40, .inl (fun _ => 0))) hF k41 rfl hK hI 0 rfl (fun _ _ h1 h2 => Option.some.inj (h1.symm.trans h2)) (fun _ => rfl) (by decide) (by decide) (Nat.le_of_ble_eq_true rfl) (Nat.le_of_ble_eq_true rfl) dX3_init_43 (fun q5 H hI => ?_)
  have hI : wi D z (Ar z) ((h0, .inr (3, [.int 0, .ref q1, .ref q2, .ref q3, .ref q4, .int 0, .null, .int 0, .int 0, .int 0])) :: (X ++ [(q1, .inl (cZ, 5120, .inl (fun _ => 0)))] ++ [(q2, .inl (cI, 5120, .inl (fun _ => 0)))] ++ [(q3, .inl (cZ, 128, .inl (fun _ => 0)))] ++ [(q4, .inl (cI, 128, .inl (fun _ => 0)))] ++ [(q5, .inl (cI, 40, .inl (fun _ => 0)))])) s H _ := hI
  refine va_putF (D := D) (ci := 3) (v := .ref q5) (ty := .array .int) (C := RX3) (T := TX3) (N := 10) hx hb hts inX3 tyX3 tyX3_ok nmX3 hown hK.1 hI.2.1 hI.2.2.1 hI.2.2.2 0 rfl rfl 6 (by decide) (hts _ k428) (fun _ h9 => h9) rfl hin rfl (by decide +kernel) rfl rfl (Nat.le_of_ble_eq_true rfl) dX3_init_45 (fun H locs hP hD hS => ?_)
  have hI : wi D z (Ar z) ((h0, .inr (3, [.int 0, .ref q1, .ref q2, .ref q3, .ref q4, .int 0, .ref q5, .int 0, .int 0, .int 0])) :: (X ++ [(q1, .inl (cZ, 5120, .inl (fun _ => 0)))] ++ [(q2, .inl (cI, 5120, .inl (fun _ => 0)))] ++ [(q3, .inl (cZ, 128, .inl (fun _ => 0)))] ++ [(q4, .inl (cI, 128, .inl (fun _ => 0)))] ++ [(q5, .inl (cI, 40, .inl (fun _ => 0)))])) s H locs := ⟨hI.1, hP, hD, hS⟩
  refine lv_aload_n hx hb dX3_init_48 rfl (lv_at hl 0 rfl) ?_
  refine lv_iconst (v := (-1 : Int32)) hx hb dX3_init_49 (by decide) ?_
  refine va_put (D := D) (ci := 3) (v := .int (-1 : Int32)) (ty := .int) (C := RX3) (T := TX3) (N := 10) hx hb hts inX3 tyX3 tyX3_ok nmX3 hown hK.1 hI.2.1 hI.2.2.1 hI.2.2.2 0 rfl rfl 7 (by decide) (hts _ k429) (fun _ h9 => h9) rfl (by decide +kernel) rfl rfl (Nat.le_of_ble_eq_true rfl) dX3_init_50 (fun H locs hP hD hS => ?_)
  have hI : wi D z (Ar z) ((h0, .inr (3, [.int 0, .ref q1, .ref q2, .ref q3, .ref q4, .int 0, .ref q5, .int (-1 : Int32), .int 0, .int 0])) :: (X ++ [(q1, .inl (cZ, 5120, .inl (fun _ => 0)))] ++ [(q2, .inl (cI, 5120, .inl (fun _ => 0)))] ++ [(q3, .inl (cZ, 128, .inl (fun _ => 0)))] ++ [(q4, .inl (cI, 128, .inl (fun _ => 0)))] ++ [(q5, .inl (cI, 40, .inl (fun _ => 0)))])) s H locs := ⟨hI.1, hP, hD, hS⟩
  exact hret (adr6 h0 q1 q2 q3 q4 q5) hI dX3_init_53 rfl
set_option maxHeartbeats 4000000 in
set_option maxRecDepth 100000 in
theorem c_X3_thrown {l : Launch} {D : va_G} {cI cZ cJ : ClassId} {z : Nat} {b : Nat → Nat} {X : va_W} {t : Nat} {th : Nat → Bool} {vs : Nat → Int32} {kt : Nat → Bool} {kv : Nat → Int32} {wt : Int32} {wa : Nat → Int32} {fl tr ch : Int32}   : roM l yX3_thrown cX3_thrown 1 (some .int) 0 0 [.ref (b 0)] (pw D cI cZ cJ z (mw b cI cZ (nI t) th vs kt kv wt wa fl tr ch X)) (tr) := by
  refine bd_ro (by decide) (Nat.le_of_ble_eq_true rfl) ?_
  intro p e s m args below meth c Q hF hpw hret ls hl
  obtain ⟨hx, hb, hml, hown, hts, hr, hlocks⟩ := id hF
  have hK := hpw.2.2.2
  have hI : wi D z noA (mw b cI cZ (nI t) th vs kt kv wt wa fl tr ch X) s s.heap [] := hpw.wi
  have hl : lv_has ls 1 [(0, .ref (b 0))] := hl
  suffices hgo : ∀ (H : Heap) (locs : List Loc), wi D z noA (mw b cI cZ (nI t) th vs kt kv wt wa fl tr ch X) s H locs → ∀ ls : Array Slot, lv_has ls 1 [(0, .ref (b 0))] → W p l e (rmv 0 0) s m args below meth c H locs 0 0 Q (F0 m 0 ls []) from hgo _ _ hI ls hl
  intro H locs hI ls hl
  refine lv_aload_n hx hb dX3_thrown_0 rfl (lv_at hl 0 rfl) ?_
  refine va_get (D := D) (ci := 3) (v := .int (tr)) (C := RX3) (T := TX3) (N := 10) hx hb hts inX3 hown hK.1 hI.2.1 0 rfl rfl 8 (by decide) (hts _ k430) (fun _ h9 => h9) rfl dX3_thrown_1 ?_
  exact hret hI.2.2.2 dX3_thrown_4 (rfl)
