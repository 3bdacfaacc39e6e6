/-! PURE: a state of all times: slot (4 * time + key), day -> a value or nothing -/
abbrev Sta := Nat → Nat → Option Int32
/-- the day goes on with the run of the day before -/
def con (S : Sta) (sl dy : Nat) : Bool := decide (dy ≠ 0) && ((S sl dy).isSome && decide (S sl (dy - 1) = S sl dy))
def beg (S : Sta) (sl dy : Nat) : Bool := (S sl dy).isSome && !(con S sl dy)
def finF (S : Sta) (sl : Nat) : Nat → Nat → Nat
  | 0, x => x
  | n + 1, x => if con S sl x = true then finF S sl n (x + 1) else x
def rend (S : Sta) (sl dy : Nat) : Nat := finF S sl (31 - dy) (dy + 1)
def shr (S : Sta) (sl so dy : Nat) : Bool := beg S so dy && (decide (S so dy = S sl dy) && decide (rend S so dy = rend S sl dy))
def isRw (S : Sta) (sl dy : Nat) : Bool := beg S sl dy && (decide (sl < 4) || !(shr S sl (sl - 4) dy))
def rowsIn (S : Sta) (sl : Nat) : Nat := fb_ct (isRw S sl) 32
def rowsTo (S : Sta) (n : Nat) : Nat := fb_sm (rowsIn S) n
/-- the class's arrays hold S up to the time t -/
def cAbs (S : Sta) (vals fil : Nat → Int32) (t : Nat) : Prop := ∀ sl dy, sl < 4 * (t + 1) → dy < 32 → S sl dy = if bt (fil sl) dy = true then some (vals (sl * 32 + dy)) else none
/-- the reference's arrays hold S up to the time t -/
def mAbs (S : Sta) (th : Nat → Bool) (vs : Nat → Int32) (t : Nat) : Prop := ∀ tm ky dy, tm ≤ t → ky < 4 → dy < 32 → S (tm * 4 + ky) dy = if th (128 * tm + 32 * ky + dy) = true then some (vs (128 * tm + 32 * ky + dy)) else none
theorem bt_u (x : Int32) (k : Nat) (hk : k < 32) (i : Nat) : bt (((x).toUInt32 >>> ((nI k).toUInt32 &&& Int32.toUInt32 31)).toInt32) i = bt x (k + i) := b_ushr k hk x i
theorem bt_1 (i : Nat) (h : i < 32) : bt (nI 1) i = decide (i = 0) := by
  have : ∀ i, i < 32 → bt (nI 1) i = decide (i = 0) := by decide
  exact this i h
theorem bt_3 (i : Nat) (h : i < 32) : bt (nI 3) i = decide (i < 2) := by
  have : ∀ i, i < 32 → bt (nI 3) i = decide (i < 2) := by decide
  exact this i h
theorem bit1 (x : Int32) {k : Nat} (hk : k < 32) : (((x).toUInt32 >>> ((nI k).toUInt32 &&& Int32.toUInt32 31)).toInt32 &&& nI 1 = 0) ↔ bt x k = false := by
  constructor
  · intro h
    have := congrArg (fun w => bt w 0) h
    simp only [b_and, bt_u x k hk, b_0, bt_1 0 (by decide)] at this
    simpa using this
  · intro h
    refine b_ext (fun i hi => ?_)
    rw [b_and, bt_u x k hk, b_0, bt_1 i hi]
    by_cases h0 : i = 0
    · subst h0; simp [h]
    · simp [h0]
theorem bit2 (x : Int32) {k : Nat} (hk : k < 31) : (((x).toUInt32 >>> ((nI k).toUInt32 &&& Int32.toUInt32 31)).toInt32 &&& nI 3 = nI 3) ↔ (bt x k = true ∧ bt x (k + 1) = true) := by
  constructor
  · intro h
    have h0 := congrArg (fun w => bt w 0) h
    have h1 := congrArg (fun w => bt w 1) h
    simp only [b_and, bt_u x k (by omega), bt_3 0 (by decide), bt_3 1 (by decide)] at h0 h1
    simp at h0 h1
    exact ⟨h0, h1⟩
  · intro h
    refine b_ext (fun i hi => ?_)
    rw [b_and, bt_u x k (by omega), bt_3 i hi]
    by_cases h2 : i < 2
    · rcases (show i = 0 ∨ i = 1 by omega) with rfl | rfl
      · simp [h.1]
      · simp [h.2]
    · simp [h2]
section PU
variable {S : Sta} {vals fil : Nat → Int32} {t sl so dy : Nat}
theorem has_c (hA : cAbs S vals fil t) (h1 : sl < 4 * (t + 1)) (h2 : dy < 32) : (S sl dy).isSome = bt (fil sl) dy := by
  rw [hA sl dy h1 h2]
  cases bt (fil sl) dy <;> simp
theorem val_c (hA : cAbs S vals fil t) (h1 : sl < 4 * (t + 1)) (h2 : dy < 32) (h : (S sl dy).isSome = true) : S sl dy = some (vals (sl * 32 + dy)) := by
  have h3 := has_c hA h1 h2
  rw [h] at h3
  rw [hA sl dy h1 h2, if_pos h3.symm]
theorem con_c (hA : cAbs S vals fil t) (h1 : sl < 4 * (t + 1)) (h2 : dy < 32) : con S sl dy = (decide (dy ≠ 0) && ((bt (fil sl) (dy - 1) && bt (fil sl) dy) && decide (vals (sl * 32 + dy) = vals (sl * 32 + dy - 1)))) := by
  unfold con
  by_cases h0 : dy = 0
  · simp [h0]
  · rw [hA sl dy h1 h2, hA sl (dy - 1) h1 (by omega)]
    have e : sl * 32 + (dy - 1) = sl * 32 + dy - 1 := by omega
    rw [e]
    cases bt (fil sl) (dy - 1) <;> cases bt (fil sl) dy <;> simp [h0]
    exact eq_comm
theorem beg_some (h : beg S sl dy = true) : (S sl dy).isSome = true := by
  unfold beg at h
  simp only [Bool.and_eq_true] at h
  exact h.1
theorem finF_le : ∀ (n x : Nat), x ≤ finF S sl n x ∧ finF S sl n x ≤ x + n
  | 0, x => by simp [finF]
  | n + 1, x => by
    unfold finF
    have := finF_le n (x + 1)
    split <;> omega
theorem rend_in (h : dy < 32) : dy < rend S sl dy ∧ rend S sl dy ≤ 32 := by
  have := finF_le (S := S) (sl := sl) (31 - dy) (dy + 1)
  unfold rend
  omega
theorem fin_go {x : Nat} (hx : x < 32) (h : con S sl x = true) : finF S sl (32 - x) x = finF S sl (32 - (x + 1)) (x + 1) := by
  rw [show 32 - x = (32 - (x + 1)) + 1 by omega, finF, if_pos h]
theorem fin_no {x : Nat} (h : con S sl x = false) : ∀ n, finF S sl n x = x
  | 0 => rfl
  | n + 1 => by rw [finF, if_neg (by rw [h]; exact Bool.false_ne_true)]
theorem rend_eq (h : dy < 32) : rend S sl dy = finF S sl (32 - (dy + 1)) (dy + 1) := by
  unfold rend
  rw [show 31 - dy = 32 - (dy + 1) by omega]
end PU
section PU2
variable {S : Sta} {vals fil : Nat → Int32} {t sl so dy : Nat}
theorem con_f1 (h : dy = 0) : con S sl dy = false := by simp [con, h]
theorem con_f2 (hA : cAbs S vals fil t) (h1 : sl < 4 * (t + 1)) (h2 : dy < 32) (c1 : ¬ dy = 0) (c17 : ¬ (((fil sl).toUInt32 >>> ((nI (dy - 1)).toUInt32 &&& Int32.toUInt32 31)).toInt32 &&& nI 3 = nI 3)) : con S sl dy = false := by
  rw [bit2 (fil sl) (k := dy - 1) (by omega), show dy - 1 + 1 = dy by omega] at c17
  rw [con_c hA h1 h2]
  cases h8 : bt (fil sl) (dy - 1) <;> cases h9 : bt (fil sl) dy <;> simp_all
theorem con_43 (hA : cAbs S vals fil t) (h1 : sl < 4 * (t + 1)) (h2 : dy < 32) (c1 : ¬ dy = 0) (c17 : ((fil sl).toUInt32 >>> ((nI (dy - 1)).toUInt32 &&& Int32.toUInt32 31)).toInt32 &&& nI 3 = nI 3) : con S sl dy = decide (vals (sl * 32 + dy) = vals (sl * 32 + dy - 1)) := by
  rw [bit2 (fil sl) (k := dy - 1) (by omega), show dy - 1 + 1 = dy by omega] at c17
  rw [con_c hA h1 h2, c17.1, c17.2]
  simp [c1]
end PU2
theorem nf {x : Bool} (h : ¬ x = false) : x = true := by cases x; exact absurd rfl h; rfl
theorem q_lt0 (x : Int32) : x < 0 ↔ x.toInt < 0 := fa_lt x 0
theorem q_le (n : Nat) (h : n < 2 ^ 31) (x : Int32) : nI n ≤ x ↔ (n : Int) ≤ x.toInt := by rw [fa_le, nI_toInt h]
theorem q_lt (n : Nat) (h : n < 2 ^ 31) (x : Int32) : nI n < x ↔ (n : Int) < x.toInt := by rw [fa_lt, nI_toInt h]
theorem q_xle (n : Nat) (h : n < 2 ^ 31) (x : Int32) : x ≤ nI n ↔ x.toInt ≤ (n : Int) := by rw [fa_le, nI_toInt h]
theorem q_xlt (n : Nat) (h : n < 2 ^ 31) (x : Int32) : x < nI n ↔ x.toInt < (n : Int) := by rw [fa_lt, nI_toInt h]
theorem q_le4 (x : Int32) : nI 4 ≤ x ↔ 4 ≤ x.toInt := q_le 4 (by decide) x
theorem q_lt4 (x : Int32) : nI 4 < x ↔ 4 < x.toInt := q_lt 4 (by decide) x
theorem q_lt3 (x : Int32) : nI 3 < x ↔ 3 < x.toInt := q_lt 3 (by decide) x
theorem q_lt2 (x : Int32) : nI 2 < x ↔ 2 < x.toInt := q_lt 2 (by decide) x
theorem q_lt5 (x : Int32) : nI 5 < x ↔ 5 < x.toInt := q_lt 5 (by decide) x
theorem q_lt12 (x : Int32) : nI 12 < x ↔ 12 < x.toInt := q_lt 12 (by decide) x
theorem q_le32 (x : Int32) : nI 32 ≤ x ↔ 32 ≤ x.toInt := q_le 32 (by decide) x
theorem q_lt32 (x : Int32) : nI 32 < x ↔ 32 < x.toInt := q_lt 32 (by decide) x
theorem q_lt31 (x : Int32) : nI 31 < x ↔ 31 < x.toInt := q_lt 31 (by decide) x
def okK (x : Int32) : Bool := decide (0 ≤ x.toInt ∧ x.toInt < 4)
def okD (x : Int32) : Bool := decide (0 ≤ x.toInt ∧ x.toInt < 32)
def okP (x y : Int32) : Bool := decide (0 ≤ x.toInt ∧ x.toInt < y.toInt ∧ y.toInt ≤ 32)
def okT (t : Nat) (x : Int32) : Bool := decide (0 ≤ x.toInt ∧ x.toInt ≤ (t : Int))
theorem nI_ofInt {x : Int32} {n : Nat} (h : x.toInt = (n : Int)) : x = nI n := by
  have h2 := fb_rng x
  rw [fa_eq, nI_toInt (by omega)]
  exact h
theorem nat_of {x : Int32} (h : 0 ≤ x.toInt) : ∃ n : Nat, x = nI n ∧ x.toInt = (n : Int) := ⟨x.toInt.toNat, nI_ofInt (by omega), by omega⟩
theorem okK_n {x : Int32} (h : okK x = true) : ∃ n, n < 4 ∧ x = nI n := by
  have h := of_decide_eq_true h
  obtain ⟨n, e, h2⟩ := nat_of h.1
  exact ⟨n, by omega, e⟩
theorem okD_n {x : Int32} (h : okD x = true) : ∃ n, n < 32 ∧ x = nI n := by
  have h := of_decide_eq_true h
  obtain ⟨n, e, h2⟩ := nat_of h.1
  exact ⟨n, by omega, e⟩
theorem okT_n {t : Nat} {x : Int32} (h : okT t x = true) : ∃ n, n ≤ t ∧ x = nI n := by
  have h := of_decide_eq_true h
  obtain ⟨n, e, h2⟩ := nat_of h.1
  exact ⟨n, by omega, e⟩
theorem okP_n {x y : Int32} (h : okP x y = true) : ∃ n k, n < k ∧ k ≤ 32 ∧ x = nI n ∧ y = nI k := by
  have h := of_decide_eq_true h
  obtain ⟨n, e, h2⟩ := nat_of h.1
  obtain ⟨k, e2, h3⟩ := nat_of (show 0 ≤ y.toInt by omega)
  exact ⟨n, k, by omega, by omega, e, e2⟩
section PU3
variable {S : Sta} {vals fil : Nat → Int32} {t sl so dy : Nat}
theorem shr_v (hA : cAbs S vals fil t) (h1 : sl < 4 * (t + 1)) (h3 : so < 4 * (t + 1)) (h2 : dy < 32) (hs : (S sl dy).isSome = true) (hb : beg S so dy = true) : (S so dy = S sl dy) ↔ vals (so * 32 + dy) = vals (sl * 32 + dy) := by
  rw [val_c hA h1 h2 hs, val_c hA h3 h2 (beg_some hb)]
  simp
def endF (S : Sta) (sl ky dy : Nat) : Nat → Nat → Int32
  | 0, _ => -1
  | n + 1, x => if shr S sl (x * 4 + ky) dy = true then endF S sl ky dy n (x + 1) else nI x
def endV (S : Sta) (t tm ky dy : Nat) : Int32 := endF S (tm * 4 + ky) ky dy (t - tm) (tm + 1)
theorem end_go {ky x : Nat} (hx : x ≤ t) (h : shr S sl (x * 4 + ky) dy = true) : endF S sl ky dy (t + 1 - x) x = endF S sl ky dy (t + 1 - (x + 1)) (x + 1) := by
  rw [show t + 1 - x = (t + 1 - (x + 1)) + 1 by omega, endF, if_pos h]
theorem end_no {ky x : Nat} (hx : x ≤ t) (h : shr S sl (x * 4 + ky) dy = false) : endF S sl ky dy (t + 1 - x) x = nI x := by
  rw [show t + 1 - x = (t - x) + 1 by omega, endF, if_neg (by rw [h]; exact Bool.false_ne_true)]
theorem rowsIn_le : rowsIn S sl ≤ 32 := fb_ct_le _ _
theorem rowsTo_le (n : Nat) : rowsTo S n ≤ n * 32 := fb_sm_bound (fun _ _ => rowsIn_le)
end PU3
def fwdI (fa fb fc fd : Nat) : Int32 := if fb ≤ fc then (if fb < fc then nI 0 else nI 1) else if fa < fc then (if fb < fd then nI 2 else -1) else if fb < fd then (if fa = fc then nI 3 else nI 4) else if fb = fd then (if fc < fa then nI 5 else nI 6) else -1
def rel (fa fb fc fd : Nat) : Nat := if fb < fc then 0 else if fb = fc then 1 else if fa < fc then (if fb < fd then 2 else if fb = fd then 7 else 8) else if fa = fc then (if fb < fd then 3 else if fb = fd then 6 else 9) else (if fb < fd then 4 else if fb = fd then 5 else if fd < fa then 12 else if fd = fa then 11 else 10)
theorem rel_le (fa fb fc fd : Nat) : rel fa fb fc fd ≤ 12 := by
  unfold rel
  repeat' split
  all_goals omega
theorem rel_f {fa fb fc fd : Nat} (hn : ¬ fwdI fa fb fc fd = -1) : fwdI fa fb fc fd = nI (rel fa fb fc fd) := by
  unfold fwdI at *
  unfold rel
  repeat' split at hn
  all_goals first | exact absurd rfl hn | skip
  all_goals (repeat' split)
  all_goals first | rfl | omega
theorem rel_b {fa fb fc fd : Nat} (h1 : fa < fb) (h2 : fc < fd) (hn : fwdI fa fb fc fd = -1) : nI 12 - fwdI fc fd fa fb = nI (rel fa fb fc fd) := by
  have key : ¬ fb ≤ fc ∧ ((fa < fc ∧ ¬ fb < fd) ∨ (¬ fa < fc ∧ ¬ fb < fd ∧ ¬ fb = fd)) := by
    unfold fwdI at hn
    repeat' split at hn
    all_goals first | exact absurd hn (by decide) | omega
  unfold fwdI rel
  obtain ⟨k1, k2⟩ := key
  rcases k2 with ⟨k2, k3⟩ | ⟨k2, k3, k4⟩
  · repeat' split
    all_goals first | rfl | omega
  · repeat' split
    all_goals first | rfl | omega
theorem bi_inj {x y : Bool} (h : bi x = bi y) : x = y := by
  cases x <;> cases y <;> first | rfl | exact absurd h (by decide)
section PU4
variable {S : Sta} {vals fil : Nat → Int32} {t sl so dy : Nat}
theorem dif_1 (c : ¬ bi (S sl dy).isSome = bi (S so dy).isSome) : (!(decide (S sl dy = S so dy))) = true := by
  have : ¬ S sl dy = S so dy := fun q => c (by rw [q])
  simp [this]
theorem dif_2 (hA : cAbs S vals fil t) (h1 : sl < 4 * (t + 1)) (h3 : so < 4 * (t + 1)) (h2 : dy < 32) (c : (S sl dy).isSome = (S so dy).isSome) (c2 : (S sl dy).isSome = true) (c3 : vals (sl * 32 + dy) = vals (so * 32 + dy)) : (!(decide (S sl dy = S so dy))) = false := by
  rw [val_c hA h1 h2 c2, val_c hA h3 h2 (c ▸ c2), c3]
  simp
theorem dif_3 (hA : cAbs S vals fil t) (h1 : sl < 4 * (t + 1)) (h3 : so < 4 * (t + 1)) (h2 : dy < 32) (c : (S sl dy).isSome = (S so dy).isSome) (c2 : (S sl dy).isSome = true) (c3 : ¬ vals (sl * 32 + dy) = vals (so * 32 + dy)) : (!(decide (S sl dy = S so dy))) = true := by
  rw [val_c hA h1 h2 c2, val_c hA h3 h2 (c ▸ c2)]
  simp [c3]
theorem dif_4 (c : (S sl dy).isSome = (S so dy).isSome) (c2 : (S sl dy).isSome = false) : (!(decide (S sl dy = S so dy))) = false := by
  rw [c2] at c
  have e1 : S sl dy = none := by simpa using c2
  have e2 : S so dy = none := by simpa using c.symm
  simp [e1, e2]
end PU4
/-- a part of a row -/
def rowV (S : Sta) (t tm ky dy pt : Nat) : Int32 := if pt = 0 then nI ky else if pt = 1 then (S (tm * 4 + ky) dy).getD 0 else if pt = 2 then nI dy else if pt = 3 then nI (rend S (tm * 4 + ky) dy) else if pt = 4 then nI tm else endV S t tm ky dy
def rowsK (S : Sta) (t y : Nat) : Nat := fb_sm (fun w => rowsIn S (w * 4 + y)) (t + 1)
/-- the number of the row of the key ky that begins at the time tm with the day i -/
def rowAt (S : Sta) (t ky tm i : Nat) : Nat := fb_sm (rowsK S t) ky + fb_sm (fun w => rowsIn S (w * 4 + ky)) tm + fb_ct (isRw S (tm * 4 + ky)) i
section PU5
variable {S : Sta} {t ky tm i x y k n3 : Nat}
theorem isRw_beg {sl dy : Nat} (h : isRw S sl dy = true) : beg S sl dy = true := by
  unfold isRw at h
  simp only [Bool.and_eq_true] at h
  exact h.1
theorem sm_mono (f : Nat → Nat) {a b : Nat} (h : a ≤ b) : fb_sm f a ≤ fb_sm f b := by
  have := fb_sm_mono f a (b - a)
  rwa [Nat.add_sub_cancel' h] at this
theorem rowsK_le : rowsK S t y ≤ (t + 1) * 32 := fb_sm_bound (fun _ _ => rowsIn_le)
theorem rowAt_le (h3 : ky < 4) (h4 : tm ≤ t) (h5 : i < 32) : rowAt S t ky tm i ≤ 3 * ((t + 1) * 32) + t * 32 + 32 := by
  have g1 : fb_sm (rowsK S t) ky ≤ ky * ((t + 1) * 32) := fb_sm_bound (fun _ _ => rowsK_le)
  have g2 : fb_sm (fun w => rowsIn S (w * 4 + ky)) tm ≤ tm * 32 := fb_sm_bound (fun _ _ => rowsIn_le)
  have g3 := fb_ct_le (isRw S (tm * 4 + ky)) i
  have g4 : ky * ((t + 1) * 32) ≤ 3 * ((t + 1) * 32) := Nat.mul_le_mul_right _ (by omega)
  unfold rowAt
  omega
theorem row_here (h4 : tm ≤ t) (hlex : y < ky ∨ (y = ky ∧ x ≤ tm)) (hn : n3 + fb_sm (rowsK S t) y + fb_sm (fun w => rowsIn S (w * 4 + y)) x = k) (hk : k = rowAt S t ky tm i) (c : n3 < rowsIn S (x * 4 + y)) (hx1 : x ≤ t := by omega) : y = ky ∧ x = tm := by
  have g1 : fb_sm (fun w => rowsIn S (w * 4 + y)) (x + 1) ≤ rowsK S t y := sm_mono _ (by omega)
  rw [fb_sm_succ] at g1
  have g1 : fb_sm (fun w => rowsIn S (w * 4 + y)) x + rowsIn S (x * 4 + y) ≤ rowsK S t y := g1
  unfold rowAt at hk
  rcases hlex with h | ⟨h, h2⟩
  · have g2 : fb_sm (rowsK S t) (y + 1) ≤ fb_sm (rowsK S t) ky := sm_mono _ h
    rw [fb_sm_succ] at g2
    omega
  · subst h
    rcases Nat.lt_or_ge x tm with q | q
    · have g2 : fb_sm (fun w => rowsIn S (w * 4 + y)) (x + 1) ≤ fb_sm (fun w => rowsIn S (w * 4 + y)) tm := sm_mono _ q
      rw [fb_sm_succ] at g2
      have g2 : fb_sm (fun w => rowsIn S (w * 4 + y)) x + rowsIn S (x * 4 + y) ≤ fb_sm (fun w => rowsIn S (w * 4 + y)) tm := g2
      omega
    · exact ⟨rfl, by omega⟩
theorem row_past (h5 : i < 32) (hrw : isRw S (tm * 4 + ky) i = true) (hn : n3 + fb_sm (rowsK S t) y + fb_sm (fun w => rowsIn S (w * 4 + y)) x = k) (hk : k = rowAt S t ky tm i) (c : rowsIn S (x * 4 + y) ≤ n3) : ¬ (y = ky ∧ x = tm) := by
  rintro ⟨rfl, rfl⟩
  unfold rowAt at hk
  have g1 : fb_ct (isRw S (x * 4 + y)) (i + 1) ≤ rowsIn S (x * 4 + y) := fb_ct_mono _ (by omega)
  rw [fb_ct_succ, hrw] at g1
  simp at g1
  omega
end PU5
/-- the first day y (of n days from y on) that p begins with k such days before it; -1 where there is none -/
def fsI (p : Nat → Bool) (k : Int32) : Nat → Nat → Int32
  | 0, _ => -1
  | n + 1, y => if p y = true ∧ nI (fb_ct p y) = k then nI y else fsI p k n (y + 1)
section FS
variable {p : Nat → Bool} {k : Int32} {y i : Nat}
theorem nI_one {a b : Nat} (ha : a < 2 ^ 31) (hb : b < 2 ^ 31) (h : nI a = nI b) : a = b := by
  have g := congrArg Int32.toInt h
  rw [nI_toInt ha, nI_toInt hb] at g
  omega
theorem nI_nm {a : Nat} (ha : a < 2 ^ 31) : ¬ nI a = (-1 : Int32) := by
  intro h
  have g := congrArg Int32.toInt h
  rw [nI_toInt ha, show (-1 : Int32).toInt = -1 from by decide] at g
  omega
theorem fsI_go (h : y < 32) (hn : ¬ (p y = true ∧ nI (fb_ct p y) = k)) : fsI p k (32 - y) y = fsI p k (32 - (y + 1)) (y + 1) := by
  rw [show 32 - y = (32 - (y + 1)) + 1 by omega, fsI, if_neg hn]
theorem fsI_at (h : y < 32) (h1 : p y = true) (h2 : nI (fb_ct p y) = k) : fsI p k (32 - y) y = nI y := by
  rw [show 32 - y = (32 - (y + 1)) + 1 by omega, fsI, if_pos ⟨h1, h2⟩]
theorem fsI_none (h : ∀ y, y < 32 → p y = true → ¬ nI (fb_ct p y) = k) : ∀ n y, y + n = 32 → fsI p k n y = (-1 : Int32) := by
  intro n
  induction n with
  | zero => intro y _; rfl
  | succ n ih =>
    intro y hy
    rw [fsI, if_neg (fun g => h y (by omega) g.1 g.2)]
    exact ih (y + 1) (by omega)
theorem fsI_one (hi : i < 32) (hp : p i = true) : ∀ n y, y + n = 32 → y ≤ i → fsI p (nI (fb_ct p i)) n y = nI i := by
  intro n
  induction n with
  | zero => intro y h1 h2; exact absurd h1 (by omega)
  | succ n ih =>
    intro y h1 h2
    rw [fsI]
    by_cases c : p y = true ∧ nI (fb_ct p y) = nI (fb_ct p i)
    · rw [if_pos c]
      have g1 := fb_ct_le p y
      have g2 := fb_ct_le p i
      rw [fb_ct_kth_one c.1 hp (nI_one (by omega) (by omega) c.2)]
    · rw [if_neg c]
      have g : y ≠ i := by
        intro q
        subst q
        exact c ⟨hp, rfl⟩
      exact ih (y + 1) (by omega) (by omega)
theorem fsI_k {k1 : Nat} (hi : i < 32) (hp : p i = true) (hk : fb_ct p i = k1) : fsI p (nI k1) 32 0 = nI i := by
  rw [← hk]
  exact fsI_one hi hp 32 0 rfl (Nat.zero_le _)
end FS
