/-! what statements do, purely; the copy of a stretch -/
abbrev nn (x : Int32) : Nat := x.toNatClampNeg
theorem nn_nI {n : Nat} (h : n < 2 ^ 31) : nn (nI n) = n := nI_clamp h
/-- what a key has on a day behind a statement of a kind -/
def nw (kd : Nat) (v : Int32) (o : Option Int32) : Option Int32 := if kd = 4 then none else if kd ≤ 1 then some v else o.map (fun x => if kd = 3 then x + v else v)
def chg (S : Sta) (sl kd : Nat) (v : Int32) (fr n : Nat) : Sta := fun a d => if a = sl ∧ fr ≤ d ∧ d < fr + n then nw kd v (S a d) else S a d
def chgN (S : Sta) (sl kd : Nat) (v : Int32) (fr n : Nat) : Nat := fb_ct (fun j => !(decide (nw kd v (S sl (fr + j)) = S sl (fr + j)))) n
def okS (kind key fr to : Int32) : Bool := decide (0 ≤ kind.toInt ∧ kind.toInt ≤ 4) && (okK key && okP fr to)
def pS (S : Sta) (t : Nat) (kind key v fr to : Int32) : Sta := chg S (t * 4 + nn key) (nn kind) v (nn fr) (nn to - nn fr)
def pN (S : Sta) (t : Nat) (kind key v fr to : Int32) : Nat := chgN S (t * 4 + nn key) (nn kind) v (nn fr) (nn to - nn fr)
def pH (S : Sta) (t : Nat) (key fr to : Int32) : Nat := held S (t * 4 + nn key) (nn fr) (nn to - nn fr)
def pcode (S : Sta) (t : Nat) (kind key v fr to : Int32) : Nat := if okS kind key fr to = false then 1 else if 2 ≤ nn kind ∧ pH S t key fr to = 0 then 3 else if nn kind = 1 ∧ 0 < pH S t key fr to then 2 else if 150 < rowsTo (pS S t kind key v fr to) (4 * (t + 1)) then 2 else 0
def rOk (S : Sta) (rb : Nat → Int32) (t : Nat) : Prop := (∀ x, x < 4 * (t + 1) → rb x = nI (rowsIn S x)) ∧ (∀ x, 4 * (t + 1) ≤ x → x < 160 → rb x = nI 0)
theorem chg_0 (S : Sta) (sl kd : Nat) (v : Int32) (fr : Nat) : chg S sl kd v fr 0 = S := by
  funext a d
  unfold chg
  rw [if_neg (by omega)]
theorem chg_at {S : Sta} {sl kd : Nat} {v : Int32} {fr n : Nat} : chg S sl kd v fr n sl (fr + n) = S sl (fr + n) := by
  unfold chg
  rw [if_neg (by omega)]
theorem chg_s (S : Sta) (sl kd : Nat) (v : Int32) (fr n : Nat) : chg (chg S sl kd v fr n) sl kd v (fr + n) 1 = chg S sl kd v fr (n + 1) := by
  funext a d
  unfold chg
  by_cases h : a = sl
  · subst h
    by_cases h2 : d = fr + n
    · subst h2
      rw [if_pos (by omega), if_neg (by omega), if_pos (by omega)]
    · rw [if_neg (by omega)]
      by_cases h3 : fr ≤ d ∧ d < fr + n
      · rw [if_pos (by omega), if_pos (by omega)]
      · rw [if_neg (by omega), if_neg (by omega)]
  · simp [h]
theorem chg_o {S : Sta} {sl kd : Nat} {v : Int32} {fr n a d : Nat} (h : a ≠ sl) : chg S sl kd v fr n a d = S a d := by
  unfold chg
  rw [if_neg (by omega)]
theorem chgN_s (S : Sta) (sl kd : Nat) (v : Int32) (fr n : Nat) : chgN S sl kd v fr (n + 1) = chgN S sl kd v fr n + (if (!(decide (nw kd v (S sl (fr + n)) = S sl (fr + n)))) = true then 1 else 0) := fb_ct_succ _ n
theorem chgN_le (S : Sta) (sl kd : Nat) (v : Int32) (fr n : Nat) : chgN S sl kd v fr n ≤ n := fb_ct_le _ n
section CONG
variable {S S' : Sta}
theorem con_cong {x dy : Nat} (h : ∀ d, S x d = S' x d) : con S x dy = con S' x dy := by unfold con; rw [h, h]
theorem beg_cong {x dy : Nat} (h : ∀ d, S x d = S' x d) : beg S x dy = beg S' x dy := by unfold beg; rw [h, con_cong h]
theorem fin_cong {x : Nat} (h : ∀ d, S x d = S' x d) : ∀ n y, finF S x n y = finF S' x n y
  | 0, _ => rfl
  | n + 1, y => by rw [finF, finF, con_cong h, fin_cong h n (y + 1)]
theorem rend_cong {x dy : Nat} (h : ∀ d, S x d = S' x d) : rend S x dy = rend S' x dy := fin_cong h _ _
theorem isRw_cong {x dy : Nat} (h : ∀ d, S x d = S' x d) (h2 : 4 ≤ x → ∀ d, S (x - 4) d = S' (x - 4) d) : isRw S x dy = isRw S' x dy := by
  unfold isRw
  rw [beg_cong h]
  by_cases h4 : x < 4
  · simp [h4]
  · have h2 := h2 (by omega)
    unfold shr
    rw [beg_cong h2, h2, h, rend_cong h2, rend_cong h]
theorem rowsIn_cong {x : Nat} (h : ∀ d, S x d = S' x d) (h2 : 4 ≤ x → ∀ d, S (x - 4) d = S' (x - 4) d) : rowsIn S x = rowsIn S' x := fb_ct_cong (fun _ _ => isRw_cong h h2)
end CONG
theorem held_pos {S : Sta} {sl fr n : Nat} : 0 < held S sl fr n ↔ ∃ d, fr ≤ d ∧ d < fr + n ∧ (S sl d).isSome = true := by
  unfold held
  rw [fb_ct_pos]
  constructor
  · rintro ⟨k, hk, h⟩; exact ⟨fr + k, by omega, by omega, h⟩
  · rintro ⟨d, h1, h2, h⟩; exact ⟨d - fr, by omega, by rw [show fr + (d - fr) = d by omega]; exact h⟩
section CP
variable {p : Program} {l : Launch} {e : Env} {R : Room} {s : State} {m : MethodId} {args : Array Value} {below : List Frame} {meth : Method} {c : Code} {H : Heap} {locs : List Loc} {cells slots : Nat} {Q : State → Prop}
variable {cc : ByteArray} {rest : List Value} {pc nL idx : Nat} {ls : Array Slot} {D : va_G} {cI cZ cJ : ClassId} {z : Nat} {ws : va_W} {own : String} {ret0 : Option FieldType}
theorem cp_i (F : Fx p s m args meth c cc nL own ret0) (hsz : ls.size = nL) (hK : kn D cI cZ cJ s) (hI : wi D z (Ar z) ws s H locs) (q0 : Nat) {a N sp dp n : Nat} {f : Nat → Int32} (ha : ws[q0]? = some (a, .inl (cI, N, .inl f))) (kl : Cond.methodLink own idx arraycopyName ∈ WT) (k1 : Cond.native arraycopyName ∈ WT) (k2 : Cond.static arraycopyName ∈ WT) (k3 : Cond.initialized "java/lang/System" ∈ WT) (hdg : decode cc pc = .ok (.invokestatic idx, 3)) (hf : 1 ≤ R.frames) (hlo : (rest.map fun v => v.category).sum + (nativeFrameWords "java/lang/System" "arraycopy" 5 + 11) ≤ R.locals) (h4 : sp + n ≤ N) (h5 : dp + n ≤ N) (hN : N < 2 ^ 31) (kk : ∀ (H : Heap) (locs : List Loc), wi D z (Ar z) (ws.set q0 (a, .inl (cI, N, .inl (va_cpy f f sp dp n)))) s H locs → W p l e R s m args below meth c H locs cells slots Q (F0 m (pc + 3) ls rest)) : W p l e R s m args below meth c H locs cells slots Q (F0 m pc ls (.int (nI n) :: .int (nI dp) :: .ref a :: .int (nI sp) :: .ref a :: rest)) := by
  have e1 : (nI sp).toNatClampNeg = sp := nI_clamp (by omega)
  have e2 : (nI dp).toNatClampNeg = dp := nI_clamp (by omega)
  have e3 : (nI n).toNatClampNeg = n := nI_clamp (by omega)
  refine va_copyi F.1 F.2.1 (by rw [F.2.2.1, hsz]) F.2.2.2.1 (F.2.2.2.2.1 _ kl) (F.2.2.2.2.1 _ k1) (F.2.2.2.2.1 _ k2) (F.2.2.2.2.1 _ k3) hK.1 hI.2.1 hI.2.2.1 hI.2.2.2 q0 q0 0 0 ha ha rfl rfl rfl (nI_pos (by omega)) (nI_pos (by omega)) (nI_pos (by omega)) (by rw [e1, e3]; exact h4) (by rw [e2, e3]; exact h5) (fun i _ => rfl) hf hlo hdg (fun H1 locs1 hP hD hS => ?_)
  rw [e1, e2, e3] at hP hD
  exact kk H1 locs1 ⟨hI.1, hP, hD, hS⟩
end CP
