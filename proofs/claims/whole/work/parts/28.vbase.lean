/-! methods that throw: knowledge, contracts, bodies with opaque ends -/
def xIAE : String := "java/lang/IllegalArgumentException"
def xISE : String := "java/lang/IllegalStateException"
def xNSE : String := "java/util/NoSuchElementException"
def xIOB : String := "java/lang/IndexOutOfBoundsException"
def xup : List String := ["java/lang/RuntimeException", "java/lang/Exception"]
def dRT : Cond := .declares ⟨"java/lang/RuntimeException", "<init>", "()V"⟩
def dEX : Cond := .declares ⟨"java/lang/Exception", "<init>", "()V"⟩
def dTH : Cond := .declares ⟨"java/lang/Throwable", "<init>", "()V"⟩
def zq (z : Nat) (U : State) (H : Heap) : Prop := vx_Zq Bundle.tN "UNASSIGNED_STACK" Bundle.steD (Ar z) U H ∧ vx_Zq Bundle.tN "SUPPRESSED_SENTINEL" Bundle.listD (Ar z) U H
/-- what is known of the exceptions' classes -/
def kx (U : State) : Prop := (va_Nw dRT U ∧ va_Nw dEX U ∧ va_Nw dTH U) ∧ (va_Nw (.castable xIAE xIAE) U ∧ va_Nw (.castable xISE xISE) U ∧ va_Nw (.castable xNSE xNSE) U ∧ va_Nw (.castable xIOB xIOB) U) ∧ (va_Nc xISE xIAE U ∧ va_Nc xNSE xIAE U ∧ va_Nc xNSE xISE U ∧ va_Nc xIOB xIAE U)
theorem kx.moved {s U : State} (h : kx s) (hW : s.WarmedH U.vm) : kx U := ⟨⟨va_Nw.warmD hW h.1.1, va_Nw.warmD hW h.1.2.1, va_Nw.warmD hW h.1.2.2⟩, ⟨va_Nw.warmC hW h.2.1.1, va_Nw.warmC hW h.2.1.2.1, va_Nw.warmC hW h.2.1.2.2.1, va_Nw.warmC hW h.2.1.2.2.2⟩, ⟨va_Nc.moved hW.alike h.2.2.1, va_Nc.moved hW.alike h.2.2.2.1, va_Nc.moved hW.alike h.2.2.2.2.1, va_Nc.moved hW.alike h.2.2.2.2.2⟩⟩
theorem kx.same {s U : State} (h : kx s) (hv : s.vm = U.vm) : kx U := ⟨⟨va_Nw.same rfl hv h.1.1, va_Nw.same rfl hv h.1.2.1, va_Nw.same rfl hv h.1.2.2⟩, ⟨va_Nw.same rfl hv h.2.1.1, va_Nw.same rfl hv h.2.1.2.1, va_Nw.same rfl hv h.2.1.2.2.1, va_Nw.same rfl hv h.2.1.2.2.2⟩, ⟨va_Nc.moved (by rw [hv]; exact Vm.Alike.refl _) h.2.2.1, va_Nc.moved (by rw [hv]; exact Vm.Alike.refl _) h.2.2.2.1, va_Nc.moved (by rw [hv]; exact Vm.Alike.refl _) h.2.2.2.2.1, va_Nc.moved (by rw [hv]; exact Vm.Alike.refl _) h.2.2.2.2.2⟩⟩
def pz (D : va_G) (cI cZ cJ : ClassId) (z : Nat) (ws : va_W) (U : State) : Prop := pw D cI cZ cJ z ws U ∧ kx U ∧ zq z U U.heap
theorem zq.moved {z : Nat} {s U : State} {H : Heap} (h : zq z s s.heap) (hv : s.vm.Alike U.vm) (hq : ∀ a : Nat, a < s.heap.size → ¬ Ar z a → H[a]? = s.heap[a]?) : zq z U H := ⟨vx_Zq.moved hv (h.1.kept hq), vx_Zq.moved hv (h.2.kept hq)⟩
theorem pz.blind {D : va_G} {cI cZ cJ : ClassId} {z : Nat} {ws : va_W} {av : List Value} : FrameBlind (va_Pc av (pz D cI cZ cJ z ws)) := fun _ U g mk q => ⟨q.1, ⟨q.2.1.1, q.2.1.2.1, q.2.1.2.2.1, q.2.1.2.2.2.same rfl⟩, q.2.2.1.same rfl, ⟨vx_Zq.moved (U := U.calling g mk _) (Vm.Alike.refl U.vm) q.2.2.2.1, vx_Zq.moved (U := U.calling g mk _) (Vm.Alike.refl U.vm) q.2.2.2.2⟩⟩
theorem wi.pz {D : va_G} {cI cZ cJ : ClassId} {z : Nat} {ws : va_W} {s : State} {H : Heap} {locs : List Loc} (h : wi D z (Ar z) ws s H locs) (hK : kn D cI cZ cJ s) (hX : kx s) (hZ : zq z s s.heap) {U : State} (hU : U.heap = H) (hW : s.WarmedH U.vm) : pz D cI cZ cJ z ws U := ⟨h.pw hK hU hW, hX.moved hW, by rw [hU]; exact hZ.moved hW.alike h.2.2.2.2.1⟩
/-- what a throw of a new exception needs -/
def thK (own : String) (ik ic : Nat) (cls : String) : Prop := Bundle.fit cls = true ∧ Cond.classLink own ik cls ∈ WT ∧ Cond.initialized cls ∈ WT ∧ (∀ w ∈ (vx_at0 own ic cls xup).filter goodWord, w ∈ WT) ∧ (∀ w ∈ (vx_at0 own ic cls xup).filter (fun w => !goodWord w), w ∈ [Cond.castable cls cls, dRT, dEX, dTH]) ∧ (∀ w ∈ Cond.classLink own ik cls :: Cond.initialized cls :: vx_at0 own ic cls xup, vx_ot w = true) ∧ (cls = xIAE ∨ cls = xISE ∨ cls = xNSE ∨ cls = xIOB)
abbrev rmx (fr lo : Nat) : Room := { frames := fr, cells := 1, slots := 6, locals := lo }
/-- contracts of methods that return or throw: the class of the exception and the world behind it -/
abbrev XCw {S : Type} (D : va_G) (z : Nat) (ws : S → va_W) (px : String → S → Prop) : String → State → State → Prop := vx_X (fun _ : S => True) (fun E u t => px E u ∧ va_P D vwCl (ws u) t.heap ∧ va_D (Ar z) (ws u)) (Ar z)
abbrev vxI {S : Type} (l : Launch) (y : MethodName) (b : ByteArray) (mL : Nat) (ret : Option FieldType) (fr lo : Nat) (av : List Value) (B : State → Prop) (D : va_G) (z : Nat) (ws : S → va_W) (post : Int32 → S → Prop) (px : String → S → Prop) : Prop := vx_Met l y (wd y b mL ret) (rmx fr lo) (va_Pc av B) (va_Qi post (fun u t => va_P D vwCl (ws u) t.heap ∧ va_D (Ar z) (ws u)) (Ar z)) (XCw D z ws px) 1 6 (Ar z)
abbrev vxL {S : Type} (l : Launch) (y : MethodName) (b : ByteArray) (mL : Nat) (ret : Option FieldType) (fr lo : Nat) (av : List Value) (B : State → Prop) (D : va_G) (z : Nat) (ws : S → va_W) (post : Int64 → S → Prop) (px : String → S → Prop) : Prop := vx_Met l y (wd y b mL ret) (rmx fr lo) (va_Pc av B) (va_Ql post (fun u t => va_P D vwCl (ws u) t.heap ∧ va_D (Ar z) (ws u)) (Ar z)) (XCw D z ws px) 1 6 (Ar z)
abbrev vxV {S : Type} (l : Launch) (y : MethodName) (b : ByteArray) (mL : Nat) (fr lo : Nat) (av : List Value) (B : State → Prop) (D : va_G) (z : Nat) (ws : S → va_W) (post : S → Prop) (px : String → S → Prop) : Prop := vx_Met l y (wd y b mL none) (rmx fr lo) (va_Pc av B) (va_Qv post (fun u t => va_P D vwCl (ws u) t.heap ∧ va_D (Ar z) (ws u)) (Ar z)) (XCw D z ws px) 1 6 (Ar z)
section VB
variable {l : Launch} {y : MethodName} {b : ByteArray} {mL fr lo : Nat} {ret : Option FieldType} {av : List Value} {B : State → Prop} {S : Type} {D : va_G} {cI cZ cJ : ClassId} {z : Nat} {ws : va_W} {ws' : S → va_W} {px : String → S → Prop} {Qc : Array Value → State → Outcome → State → Prop}
theorem th_row {p : Program} {e : Env} {s : State} {m : MethodId} {args : Array Value} {below : List Frame} {meth : Method} {c : Code} {own : String} {ret0 : Option FieldType} (hst : l.stackTraces = false) (F : Fx p s m args meth c b mL own ret0) (hX : kx s) (hZ : zq z s s.heap) (hno : ∀ x ∈ c.exceptionTable.toList, False) (h6 : 6 ≤ fr) (h9 : 89 ≤ lo)
    {H : Heap} {locs : List Loc} {ls : Array Slot} {pc ik ic : Nat} {rest : List Value} {cls : String} (u : S) (hI : wi D z (Ar z) (ws' u) s H locs) (hsz : ls.size = mL) (hk : thK own ik ic cls) (d0 : decode b pc = .ok (.new ik, 3)) (d3 : decode b (pc + 3) = .ok (.dup, 1)) (d4 : decode b (pc + 4) = .ok (.invokespecial ic, 3)) (d7 : decode b (pc + 7) = .ok (.athrow, 1)) (hr8 : (rest.map fun v => v.category).sum ≤ 8) (hp : px cls u) :
    W p l e (rmx fr lo) s m args below meth c H locs 0 0 (vx_MQ below Qc (XCw D z ws' px) args s 1 6 (Ar z)) (F0 m pc ls rest) := by
  obtain ⟨k1, k2, k3, k4, k5, k6, k7⟩ := hk
  have hcast : va_Nw (.castable cls cls) s := by
    rcases k7 with rfl | rfl | rfl | rfl
    · exact hX.2.1.1
    · exact hX.2.1.2.1
    · exact hX.2.1.2.2.1
    · exact hX.2.1.2.2.2
  refine vx_throw0 (A := Ar z) F.1 F.2.1 hst F.2.2.2.1 k1 (names := xup) (by decide +kernel) (F.2.2.2.2.1 _ k2) (F.2.2.2.2.1 _ k3) (vx_hat (fun w hw => F.2.2.2.2.1 _ (k4 w hw)) k5 (vx_c (va_Nw.use rfl hcast) (vx_c (va_Nw.use rfl hX.1.1) (vx_c (va_Nw.use rfl hX.1.2.1) (vx_c (va_Nw.use rfl hX.1.2.2) vx_n))))) k6 hZ.1 hZ.2 hI.2.2.2 (by rw [F.2.2.1, hsz]) d0 d3 d4 d7 (fun x hx => (hno x hx).elim) h6 (by have : 13 * (xup.length + 1) + 42 = 81 := rfl; show _ ≤ lo; omega) (Nat.le_refl 1) (Nat.le_refl 6) F.2.2.2.2.2.2 (fun t hvm hs hq => ⟨u, trivial, ⟨hp, hI.2.1.kept (fun k q hk => hq q.1 (hI.2.1 k q hk).lt), hI.2.2.1⟩, Nat.le_trans hI.2.2.2.1 hs, fun q h1 h2 => (hq q (Nat.lt_of_lt_of_le h1 hI.2.2.2.1)).trans (hI.2.2.2.2.1 q h1 h2)⟩) hI.2.2.2.2.2 (Nat.le_refl 1) (Nat.le_refl 6)
theorem bd_x (hst : l.stackTraces = false) (hy : plainName y.cls = true) (hle : (lg_sl av).length ≤ mL) (h6 : 6 ≤ fr) (h9 : 89 ≤ lo) (hB : ∀ s, B s → kx s ∧ zq z s s.heap)
    (body : ∀ (p : Program) (e : Env) (s : State) (m : MethodId) (args : Array Value) (below : List Frame) (meth : Method) (c : Code) (Q : State → Prop), Q = vx_MQ below Qc (XCw D z ws' px) args s 1 6 (Ar z) → Fx p s m args meth c b mL y.cls ret → (∀ x ∈ c.exceptionTable.toList, False) → B s → (∀ {H : Heap} {locs : List Loc} {ls : Array Slot} {pc ik ic : Nat} {rest : List Value} {cls : String} (u : S), wi D z (Ar z) (ws' u) s H locs → ls.size = mL → thK y.cls ik ic cls → decode b pc = .ok (.new ik, 3) → decode b (pc + 3) = .ok (.dup, 1) → decode b (pc + 4) = .ok (.invokespecial ic, 3) → decode b (pc + 7) = .ok (.athrow, 1) → (rest.map fun v => v.category).sum ≤ 8 → px cls u → W p l e (rmx fr lo) s m args below meth c H locs 0 0 Q (F0 m pc ls rest)) → ∀ ls : Array Slot, lv_has ls mL (lv_args 0 av) → W p l e (rmx fr lo) s m args below meth c s.heap [] 0 0 Q (F0 m 0 ls [])) :
    vx_Met l y (wd y b mL ret) (rmx fr lo) (va_Pc av B) Qc (XCw D z ws' px) 1 6 (Ar z) := by
  refine vx_ofW (cc := b) (maxL := mL) (ret := ret) hy rfl ?_
  intro p e s m args below meth c s₁ Bd hml hno hv
  obtain ⟨rfl, hpw⟩ := hv
  have hts : ∀ w ∈ WT, w.before av.toArray s = true := fun w h => atoms_spec (ws := wd y b mL ret) Bd.pre w (List.mem_cons_of_mem _ h)
  have hl := lv_entry av (n := mL) hle
  rw [lg_entry_eq]
  have F : Fx p s m av.toArray meth c b mL y.cls ret := ⟨Bd.exec, Bd.bytes, hml, findClass_of_methodNamed Bd.named, hts, Bd.returns, Bd.notSynchronized⟩
  exact body p e s m _ below meth c _ rfl F hno hpw (fun u hI hsz hk d0 d3 d4 d7 hr8 hp => th_row hst F (hB s hpw).1 (hB s hpw).2 hno h6 h9 u hI hsz hk d0 d3 d4 d7 hr8 hp) _ hl
variable {p : Program} {e : Env} {s : State} {m : MethodId} {args : Array Value} {below : List Frame} {meth : Method} {c : Code} {H : Heap} {locs : List Loc} {ls : Array Slot} {pc : Nat} {own : String}
theorem r_xi {post : Int32 → S → Prop} (F : Fx p s m args meth c b mL own (some .int)) (u : S) (hI : wi D z (Ar z) (ws' u) s H locs) {x : Int32} (hdg : decode b pc = .ok (.ireturn, 1)) (hp : post x u) : W p l e (rmx fr lo) s m args below meth c H locs 0 0 (vx_MQ below (va_Qi post (fun u t => va_P D vwCl (ws' u) t.heap ∧ va_D (Ar z) (ws' u)) (Ar z)) (XCw D z ws' px) args s 1 6 (Ar z)) (F0 m pc ls [.int x]) :=
  vx_ret (W.widen (k := 1) (n := 6) (Nat.zero_le _) (Nat.zero_le _) (W.iret F.1 F.2.1 F.2.2.2.2.2.1 (fun t ht hW => ⟨⟨x, u, rfl, hp, by rw [ht]; exact hI.2.1, hI.2.2.1⟩, hI.2.2.2.F ht⟩) hI.2.2.2.2.2 hdg F.2.2.2.2.2.2))
theorem r_xl {post : Int64 → S → Prop} (F : Fx p s m args meth c b mL own (some .long)) (u : S) (hI : wi D z (Ar z) (ws' u) s H locs) {x : Int64} (hdg : decode b pc = .ok (.lreturn, 1)) (hp : post x u) : W p l e (rmx fr lo) s m args below meth c H locs 0 0 (vx_MQ below (va_Ql post (fun u t => va_P D vwCl (ws' u) t.heap ∧ va_D (Ar z) (ws' u)) (Ar z)) (XCw D z ws' px) args s 1 6 (Ar z)) (F0 m pc ls [.long x]) :=
  vx_ret (W.widen (k := 1) (n := 6) (Nat.zero_le _) (Nat.zero_le _) (W.lret F.1 F.2.1 F.2.2.2.2.2.1 (fun t ht hW => ⟨⟨x, u, rfl, hp, by rw [ht]; exact hI.2.1, hI.2.2.1⟩, hI.2.2.2.F ht⟩) hI.2.2.2.2.2 hdg F.2.2.2.2.2.2))
end VB
