/-! a throwing callee whose throw goes on to the caller; pure rows for the class's calls -/
section XT
variable {p : Program} {l : Launch} {e : Env} {R : Room} {s : State} {m : MethodId} {args : Array Value} {below : List Frame} {meth : Method} {c : Code} {H : Heap} {locs : List Loc} {cells slots : Nat} {Q : State → Prop}
variable {y : MethodName} {b cc : ByteArray} {mL nL mc ms n idx fr lo : Nat} {ret ret0 : Option FieldType} {rm : Room} {Qc Qo : Array Value → State → Outcome → State → Prop} {own : String} {As rest st : List Value} {pc : Nat} {ls : Array Slot}
variable {D : va_G} {cI cZ cJ : ClassId} {z : Nat} {ws : va_W} {S : Type} {ws' : S → va_W} {px : String → S → Prop} {px1 : String → Unit → Prop} {XC : String → State → State → Prop} {a' : Array Value}
theorem run_xs (F : Fx p s m args meth c cc nL own ret0) (hK : kn D cI cZ cJ s) (hX : kx s) (hZ : zq z s s.heap) (hI : wi D z (Ar z) ws s H locs) (hM : vx_Met l y (wd y b mL ret) rm (va_Pc As (pz D cI cZ cJ z ws)) Qc XC mc ms (Ar z)) (f : cfS y b mL ret n) (kl : Cond.methodLink own idx y ∈ WT)
    (hR : rm.frames + 1 ≤ R.frames ∧ 8 + (mL + 11) + rm.locals ≤ R.locals) (hm : rm.cells = mc ∧ rm.slots = ms) (hm2 : cells + mc ≤ R.cells ∧ slots + ms ≤ R.slots) (hn : As.length = n) (hsz : ls.size = nL) (hst : st = As.reverse ++ rest) (hW : (rest.map fun v => v.category).sum ≤ 8) (hdg : decode cc pc = .ok (.invokestatic idx, 3)) :
    vx_Run p l e R s m args below meth c H locs cells slots mc ms (F0 m pc ls st) rest (Qc As.toArray) XC (Ar z) :=
  vx_runS ⟨F.1, F.2.1, F.2.2.1, F.2.2.2.1, F.2.2.2.2.1⟩ hM ⟨callB_of n F.2.2.2.2.1 (gd_wd f.1) rfl hm.1 hm.2 (F.2.2.2.2.1 _ f.2.2.1) (F.2.2.2.2.1 _ kl) ⟨f.2.2.2.1.1, f.2.2.2.1.2, f.2.2.2.2⟩ hR, F.2.2.2.2.1 _ f.2.1⟩ ⟨pz.blind, fun U hU hW => ⟨rfl, hI.pz hK hX hZ hU hW⟩⟩ rfl hn hsz hst (lv_room hW) hdg hm2
theorem run_xv (F : Fx p s m args meth c cc nL own ret0) (hK : kn D cI cZ cJ s) (hX : kx s) (hZ : zq z s s.heap) (hI : wi D z (Ar z) ws s H locs) {ba : Nat} (hM : vx_Met l y (wd y b mL ret) rm (va_Pc (.ref ba :: As) (pz D cI cZ cJ z ws)) Qc XC mc ms (Ar z)) (f : cfV y b mL ret n) (kl : Cond.methodLink own idx y ∈ WT) (q0 ci : Nat) {fs : List Value} {T : u_T} {N : Nat} (hc : vwCl[ci]? = some (y.cls, T, N)) (he : ws[q0]? = some (ba, .inr (ci, fs)))
    (hR : rm.frames + 1 ≤ R.frames ∧ 8 + (mL + 11) + rm.locals ≤ R.locals) (hm : rm.cells = mc ∧ rm.slots = ms) (hm2 : cells + mc ≤ R.cells ∧ slots + ms ≤ R.slots) (hn : As.length = n) (hsz : ls.size = nL) (hst : st = As.reverse ++ .ref ba :: rest) (hW : (rest.map fun v => v.category).sum ≤ 8) (hdg : decode cc pc = .ok (.invokevirtual idx, 3)) :
    vx_Run p l e R s m args below meth c H locs cells slots mc ms (F0 m pc ls st) rest (Qc (Value.ref ba :: As).toArray) XC (Ar z) :=
  vx_runV ⟨F.1, F.2.1, F.2.2.1, F.2.2.2.1, F.2.2.2.2.1⟩ hM ⟨callB_of n F.2.2.2.2.1 (gd_wd f.1) rfl hm.1 hm.2 (F.2.2.2.2.1 _ f.2.2.2.1) (F.2.2.2.2.1 _ kl) ⟨f.2.2.2.2.1.1, f.2.2.2.2.1.2, f.2.2.2.2.2⟩ hR, F.2.2.2.2.1 _ f.2.1, F.2.2.2.2.1 _ f.2.2.1⟩ ⟨pz.blind, va_recv hK.1 hI.2.1 hc he, fun U hU hW => ⟨rfl, hI.pz hK hX hZ hU hW⟩⟩ rfl hn hsz hst (lv_room hW) hdg hm2
theorem k_thru (hr : vx_Run p l e (rmx fr lo) s m args below meth c H locs 0 0 1 6 (F0 m pc ls st) rest (va_Qv (fun _ : Unit => False) (fun _ t => va_P D vwCl ws t.heap ∧ va_D (Ar z) ws) (Ar z) a') (XCw D z (fun _ : Unit => ws) px1) (Ar z)) (hI : wi D z (Ar z) ws s H locs) (hno : ∀ x ∈ c.exceptionTable.toList, False) (hlocks : meth.locks = false) (u : S) (hws : ws' u = ws) (hpx : ∀ E, px1 E () → px E u) :
    W p l e (rmx fr lo) s m args below meth c H locs 0 0 (vx_MQ below Qo (XCw D z ws' px) args s 1 6 (Ar z)) (F0 m pc ls st) := by
  refine vx_callv hr hI.2.2.2 (fun q _ h => h) (fun q h => h) (fun q _ h => h) (fun E ce q9 u0 t H1 locs1 ht hvm _ hB hz hk hS hcell hv hcl => ?_) (fun u0 t H1 locs1 ht hvm hw => absurd hw id)
  refine vx_out (fun x hx => (hno x hx).elim) hlocks hcell hv hcl (fun t2 ht2 hvm2 => ⟨u, trivial, ⟨hpx E hB.1, ?_, ?_⟩, hS.F ht2⟩) hS.2.2 (Nat.le_refl 1) (Nat.le_refl 6)
  · rw [ht2, hws, ← ht]; exact hB.2.1
  · rw [hws]; exact hB.2.2
end XT
section CT
variable {S : Sta} {vals fil rb : Nat → Int32} {t : Nat}
theorem cAbs_save (ht : t < 40) (hA : cAbs S vals fil t) : cAbs S (va_cpy vals vals (t * 4 * 32) (40 * 4 * 32) 128) (va_cpy fil fil (t * 4) (40 * 4) 4) t := by
  intro a d ha hd
  rw [hA a d ha hd, pk_cpy_out (by omega), pk_cpy_out (by omega)]
theorem sv_1 (ht : t < 40) : ∀ i, i < 128 → va_cpy vals vals (t * 4 * 32) (40 * 4 * 32) 128 (5120 + i) = va_cpy vals vals (t * 4 * 32) (40 * 4 * 32) 128 (128 * t + i) := by
  intro i hi
  rw [pk_cpy_in (by omega) (by omega), pk_cpy_out (by omega), show t * 4 * 32 + (5120 + i - 40 * 4 * 32) = 128 * t + i by omega]
theorem sv_2 (ht : t < 40) : ∀ i, i < 4 → va_cpy fil fil (t * 4) (40 * 4) 4 (160 + i) = va_cpy fil fil (t * 4) (40 * 4) 4 (4 * t + i) := by
  intro i hi
  rw [pk_cpy_in (by omega) (by omega), pk_cpy_out (by omega), show t * 4 + (160 + i - 40 * 4) = 4 * t + i by omega]
theorem sv_f1 {v1 f1 v2 f2 : Nat → Int32} (ht : t < 40) (h : fr2 t v1 f1 v2 f2) (h1 : ∀ i, i < 128 → v1 (5120 + i) = v1 (128 * t + i)) : ∀ i, i < 128 → v2 (5120 + i) = v1 (128 * t + i) := fun i hi => (h.1 _ (by omega)).trans (h1 i hi)
theorem sv_f2 {v1 f1 v2 f2 : Nat → Int32} (ht : t < 40) (h : fr2 t v1 f1 v2 f2) (h1 : ∀ i, i < 4 → f1 (160 + i) = f1 (4 * t + i)) : ∀ i, i < 4 → f2 (160 + i) = f1 (4 * t + i) := fun i hi => (h.2 _ (by omega)).trans (h1 i hi)
theorem fr2.tr2 {v1 f1 v2 f2 v3 f3 : Nat → Int32} (h : fr2 t v1 f1 v2 f2) (g : fr2 t v2 f2 v3 f3) : fr2 t v1 f1 v3 f3 := ⟨fun p hp => (g.1 p hp).trans (h.1 p hp), fun p hp => (g.2 p hp).trans (h.2 p hp)⟩
theorem frb.tr2 {r1 r2 r3 : Nat → Int32} (h : frb t r1 r2) (g : frb t r2 r3) : frb t r1 r3 := fun x hx => (g x hx).trans (h x hx)
theorem cAbs_tk (ht : t < 39) (hA : cAbs S vals fil t) : cAbs (tkS S t) (va_cpy vals vals (t * 4 * 32) ((t + 1) * 4 * 32) 128) (va_cpy fil fil (t * 4) ((t + 1) * 4) 4) (t + 1) := by
  intro a d ha hd
  unfold tkS
  by_cases h : a < 4 * (t + 1)
  · rw [if_pos h, hA a d h hd, pk_cpy_out (by omega), pk_cpy_out (by omega)]
  · rw [if_neg h, hA (a - 4) d (by omega) hd, pk_cpy_in (by omega) (by omega), pk_cpy_in (by omega) (by omega)]
    rw [show t * 4 + (a - (t + 1) * 4) = a - 4 by omega, show t * 4 * 32 + (a * 32 + d - (t + 1) * 4 * 32) = (a - 4) * 32 + d by omega]
theorem isRw_tk {x dy : Nat} (h : 4 * (t + 1) ≤ x) (h2 : x < 4 * (t + 2)) : isRw (tkS S t) x dy = false := by
  have e : ∀ d, tkS S t x d = tkS S t (x - 4) d := by
    intro d
    unfold tkS
    rw [if_neg (by omega), if_pos (by omega)]
  have eb : beg (tkS S t) x dy = beg (tkS S t) (x - 4) dy := by unfold beg con; rw [e, e]
  have er : ∀ n y, finF (tkS S t) x n y = finF (tkS S t) (x - 4) n y := by
    intro n
    induction n with
    | zero => intro y; rfl
    | succ n ih => intro y; rw [finF, finF, ih]; unfold con; rw [e, e]
  unfold isRw
  rw [decide_eq_false (show ¬ x < 4 by omega)]
  unfold shr rend
  rw [eb, er, e]
  cases beg (tkS S t) (x - 4) dy <;> simp
theorem rOk_tk (ht : t < 39) (hR : rOk S rb t) : rOk (tkS S t) rb (t + 1) := by
  refine ⟨fun x hx => ?_, fun x hx hx2 => hR.2 x (by omega) hx2⟩
  by_cases h : x < 4 * (t + 1)
  · rw [hR.1 x h]
    congr 1
    refine rowsIn_cong (fun d => ?_) (fun _ d => ?_)
    · unfold tkS; rw [if_pos h]
    · unfold tkS; rw [if_pos (by omega)]
  · rw [hR.2 x (by omega) (by omega)]
    congr 1
    exact (fb_ct_zero.mpr (fun k _ => isRw_tk (by omega) (by omega))).symm
end CT
theorem in_raw {n : Nat} {x : Int32} (hn : n < 2 ^ 31) (h1 : ¬ x < 0) (h2 : x < nI n) : inN n x = true := by
  rw [q_lt0] at h1
  rw [q_xlt n hn] at h2
  unfold inN
  simp
  omega
theorem in_f1 {n : Nat} {x : Int32} (h : x < 0) : inN n x = false := by
  rw [q_lt0] at h
  unfold inN
  rw [decide_eq_false_iff_not]
  omega
theorem in_f2 {n : Nat} {x : Int32} (hn : n < 2 ^ 31) (h : ¬ x < nI n) : inN n x = false := by
  rw [q_xlt n hn] at h
  unfold inN
  rw [decide_eq_false_iff_not]
  omega
theorem fs_no {p : Nat → Bool} {k : Int32} (h : inN (fb_ct p 32) k = false) : fsI p k 32 0 = (-1 : Int32) := by
  refine fsI_none (fun y hy hp q => ?_) 32 0 rfl
  have g := fb_ct_mono p (show y + 1 ≤ 32 by omega)
  rw [fb_ct_succ, hp, if_pos rfl] at g
  have g2 := fb_ct_le p 32
  rw [← q, inN_t (by omega) (by omega)] at h
  cases h
def fcode (c : Nat) : Int32 := if c = 1 then (-1 : Int32) else if c = 3 then (-2 : Int32) else (-3 : Int32)
theorem pret_ge {S : Sta} {t : Nat} {kind key v fr to : Int32} (h : 0 ≤ pret S t kind key v fr to) : pcode S t kind key v fr to = 0 := by
  unfold pret at h
  repeat' split at h
  all_goals first | assumption | exact absurd h (by decide)
theorem pret_lt {S : Sta} {t : Nat} {kind key v fr to : Int32} (h : ¬ 0 ≤ pret S t kind key v fr to) : ¬ pcode S t kind key v fr to = 0 ∧ pret S t kind key v fr to = fcode (pcode S t kind key v fr to) := by
  have h0 : ¬ pcode S t kind key v fr to = 0 := by
    intro q
    refine h ?_
    rw [← pret_0 q]
    have := pN_le S t kind key v fr to q
    exact nI_pos' (by omega)
  refine ⟨h0, ?_⟩
  unfold pret fcode
  rw [if_neg h0]
def xOf (c : Nat) (E : String) : Prop := (c = 1 ∧ E = xIAE) ∨ (c = 2 ∧ E = xISE) ∨ (c = 3 ∧ E = xNSE)
theorem xOf_f {c : Nat} {E : String} (h1 : ¬ c = 0) (h3 : c ≤ 3) (h : (fcode c = (-1 : Int32) ∧ E = xIAE) ∨ (¬ fcode c = (-1 : Int32) ∧ fcode c = (-2 : Int32) ∧ E = xNSE) ∨ (¬ fcode c = (-1 : Int32) ∧ ¬ fcode c = (-2 : Int32) ∧ E = xISE)) : xOf c E := by
  rcases (show c = 1 ∨ c = 2 ∨ c = 3 by omega) with rfl | rfl | rfl
  · rcases h with ⟨-, e⟩ | ⟨q, -⟩ | ⟨q, -⟩
    · exact Or.inl ⟨rfl, e⟩
    · exact absurd rfl q
    · exact absurd rfl q
  · rcases h with ⟨q, -⟩ | ⟨-, q, -⟩ | ⟨-, -, e⟩
    · exact absurd q (by decide)
    · exact absurd q (by decide)
    · exact Or.inr (Or.inl ⟨rfl, e⟩)
  · rcases h with ⟨q, -⟩ | ⟨-, -, e⟩ | ⟨-, q, -⟩
    · exact absurd q (by decide)
    · exact Or.inr (Or.inr ⟨rfl, e⟩)
    · exact absurd rfl q
section CMT
variable {A B C : Prop} {w0 x : Nat} {fn2 : Int32} {c1 k : Nat}
theorem nk_ne {k : Nat} (h : k < 8) : ¬ nI k = (-1 : Int32) := by
  intro q
  have := congrArg Int32.toInt q
  rw [nI_toInt (by omega)] at this
  have h2 : ((-1 : Int32)).toInt = -1 := by decide
  omega
theorem run_on (h : (fn2 = (-1 : Int32) ∧ A) ∨ (fn2 = nI k ∧ k < 8 ∧ B)) (c : fn2 = (-1 : Int32)) : fn2 = (-1 : Int32) ∧ A := by
  rcases h with h | ⟨h1, h2, -⟩
  · exact h
  · exact absurd (h1.symm.trans c) (nk_ne h2)
theorem run_off (h : (fn2 = (-1 : Int32) ∧ A) ∨ (fn2 = nI k ∧ B)) (c : ¬ fn2 = (-1 : Int32)) : fn2 = nI k ∧ B := by
  rcases h with h | h
  · exact absurd h.1 c
  · exact h
theorem run_end (h : (fn2 = (-1 : Int32) ∧ A) ∨ (fn2 = nI k ∧ k < 8 ∧ B)) (c : fn2 = (-1 : Int32)) (c2 : w0 ≤ x ∨ ¬ fn2 = (-1 : Int32)) : w0 - x = 0 := by
  rcases c2 with c2 | c2
  · omega
  · exact absurd c c2
end CMT
