/-! pure rows for the class's changes -/
def mk (fr to : Nat) : Int32 := ((-1 : Int32) <<< (nI fr &&& 31)) &&& (((-1 : Int32)).toUInt32 >>> ((nI (32 - to)).toUInt32 &&& Int32.toUInt32 31)).toInt32
theorem bt_mk {fr to i : Nat} (h1 : fr < to) (h2 : to ≤ 32) (hi : i < 32) : bt (mk fr to) i = decide (fr ≤ i ∧ i < to) := by
  unfold mk
  rw [b_and, b_shl fr (by omega) _ hi, b_ushr (32 - to) (by omega)]
  by_cases h3 : fr ≤ i
  · rw [b_m1 (i - fr) (by omega)]
    by_cases h4 : i < to
    · rw [b_m1 _ (by omega)]; simp [h3, h4]
    · rw [b_big (by omega)]; simp [h4]
  · simp [h3]
theorem bt_sh {d i : Nat} (hd : d < 32) (hi : i < 32) : bt (nI 1 <<< (nI d &&& 31)) i = decide (i = d) := by
  rw [b_shl d hd _ hi]
  by_cases h : d ≤ i
  · rw [bt_1 _ (by omega)]
    by_cases h2 : i = d
    · subst h2; simp
    · simp [h, h2]; omega
  · have : ¬ i = d := by omega
    simp [h, this]
theorem bt_set (f : Int32) {d i : Nat} (hd : d < 32) (hi : i < 32) : bt (f ||| (nI 1 <<< (nI d &&& 31))) i = (bt f i || decide (i = d)) := by rw [b_or, bt_sh hd hi]
theorem bt_clr (f : Int32) {d i : Nat} (hd : d < 32) (hi : i < 32) : bt (f &&& ((nI 1 <<< (nI d &&& 31)) ^^^ (-1 : Int32))) i = (bt f i && !(decide (i = d))) := by
  rw [b_and, b_xor, bt_sh hd hi, b_m1 i hi]
  cases decide (i = d) <;> simp
theorem mask_0 {S : Sta} {vals fil : Nat → Int32} {t sl fr to : Nat} (hA : cAbs S vals fil t) (h1 : sl < 4 * (t + 1)) (h3 : fr < to) (h4 : to ≤ 32) : (fil sl &&& mk fr to = 0) ↔ ¬ 0 < held S sl fr (to - fr) := by
  rw [held_pos]
  constructor
  · rintro h ⟨d, hd1, hd2, hs⟩
    have := congrArg (fun w => bt w d) h
    simp only [b_and, b_0, bt_mk h3 h4 (show d < 32 by omega)] at this
    rw [has_c hA h1 (by omega)] at hs
    rw [hs] at this
    simp at this
    omega
  · intro h
    refine b_ext (fun i hi => ?_)
    rw [b_and, b_0, bt_mk h3 h4 hi, ← has_c hA h1 hi]
    by_cases h5 : fr ≤ i ∧ i < to
    · have : (S sl i).isSome = false := by
        cases q : (S sl i).isSome
        · rfl
        · exact absurd ⟨i, by omega, by omega, q⟩ h
      simp [this]
    · simp [h5]
theorem chg_at' {S : Sta} {sl kd : Nat} {v : Int32} {fr x : Nat} (h : fr ≤ x) : chg S sl kd v fr (x - fr) sl x = S sl x := by
  unfold chg
  rw [if_neg (by omega)]
theorem chg_s' {S : Sta} {sl kd : Nat} {v : Int32} {fr x : Nat} (h : fr ≤ x) : chg (chg S sl kd v fr (x - fr)) sl kd v x 1 = chg S sl kd v fr (x + 1 - fr) := by
  have := chg_s S sl kd v fr (x - fr)
  rw [show fr + (x - fr) = x by omega] at this
  rw [this, show x + 1 - fr = x - fr + 1 by omega]
theorem chgN_s' {S : Sta} {sl kd : Nat} {v : Int32} {fr x : Nat} (h : fr ≤ x) : chgN S sl kd v fr (x + 1 - fr) = chgN S sl kd v fr (x - fr) + (if (!(decide (nw kd v (S sl x) = S sl x))) = true then 1 else 0) := by
  have := chgN_s S sl kd v fr (x - fr)
  rw [show fr + (x - fr) = x by omega] at this
  rw [show x + 1 - fr = x - fr + 1 by omega, this]
/-- one day changed in the class's arrays -/
theorem cAbs_put {S : Sta} {vals fil : Nat → Int32} {t sl dy kd : Nat} {v w : Int32} (hA : cAbs S vals fil t) (h1 : sl < 4 * (t + 1)) (h2 : dy < 32) (h : nw kd v (S sl dy) = some w) : cAbs (chg S sl kd v dy 1) (upd vals (sl * 32 + dy) w) (upd fil sl (fil sl ||| (nI 1 <<< (nI dy &&& 31)))) t := by
  intro a d ha hd
  unfold chg upd
  by_cases e1 : a = sl
  · subst e1
    rw [if_pos (rfl : a = a), bt_set _ h2 hd]
    by_cases e2 : d = dy
    · subst e2
      rw [if_pos (by omega), h]
      simp
    · rw [if_neg (by omega), hA a d ha hd, if_neg (show ¬ a * 32 + d = a * 32 + dy by omega)]
      simp [e2]
  · rw [if_neg (by omega), hA a d ha hd, if_neg e1, if_neg (show ¬ a * 32 + d = sl * 32 + dy by omega)]
theorem cAbs_del {S : Sta} {vals fil : Nat → Int32} {t sl dy kd : Nat} {v : Int32} (hA : cAbs S vals fil t) (h1 : sl < 4 * (t + 1)) (h2 : dy < 32) (h : nw kd v (S sl dy) = none) : cAbs (chg S sl kd v dy 1) vals (upd fil sl (fil sl &&& ((nI 1 <<< (nI dy &&& 31)) ^^^ (-1 : Int32)))) t := by
  intro a d ha hd
  unfold chg upd
  by_cases e1 : a = sl
  · subst e1
    rw [if_pos (rfl : a = a), bt_clr _ h2 hd]
    by_cases e2 : d = dy
    · subst e2
      rw [if_pos (by omega), h]
      simp
    · rw [if_neg (by omega), hA a d ha hd]
      simp [e2]
  · rw [if_neg (by omega), hA a d ha hd, if_neg e1]
theorem cAbs_same {S : Sta} {vals fil : Nat → Int32} {t sl dy kd : Nat} {v : Int32} (hA : cAbs S vals fil t) (h : nw kd v (S sl dy) = S sl dy) : cAbs (chg S sl kd v dy 1) vals fil t := by
  intro a d ha hd
  rw [← hA a d ha hd]
  unfold chg
  split
  · rename_i q
    obtain ⟨q1, q2, q3⟩ := q
    subst q1
    rw [show d = dy by omega, h]
  · rfl
theorem rOk_chg {S : Sta} {rb : Nat → Int32} {t ky kd fr n : Nat} {v : Int32} (hR : rOk S rb t) (h : ky < 4) : rOk (chg S (t * 4 + ky) kd v fr n) (upd rb (t * 4 + ky) (nI (rowsIn (chg S (t * 4 + ky) kd v fr n) (t * 4 + ky)))) t := by
  refine ⟨fun x hx => ?_, fun x hx hx2 => ?_⟩
  · unfold upd
    by_cases e1 : x = t * 4 + ky
    · rw [if_pos e1, e1]
    · rw [if_neg e1, hR.1 x hx]
      congr 1
      exact rowsIn_cong (fun d => (chg_o e1).symm) (fun h4 d => (chg_o (by omega)).symm)
  · unfold upd
    rw [if_neg (by omega)]
    exact hR.2 x hx hx2
/-- all but the present time's cells stand -/
def fr2 (t : Nat) (vals fil va fi : Nat → Int32) : Prop := (∀ p, p < 128 * t ∨ 128 * (t + 1) ≤ p → va p = vals p) ∧ (∀ x, x < 4 * t ∨ 4 * (t + 1) ≤ x → fi x = fil x)
def frb (t : Nat) (rb r2 : Nat → Int32) : Prop := ∀ x, x < 4 * t ∨ 4 * (t + 1) ≤ x → r2 x = rb x
theorem fr2.rf {t : Nat} {vals fil : Nat → Int32} : fr2 t vals fil vals fil := ⟨fun _ _ => rfl, fun _ _ => rfl⟩
theorem frb.rf {t : Nat} {rb : Nat → Int32} : frb t rb rb := fun _ _ => rfl
theorem frb.upd {t : Nat} {rb r2 : Nat → Int32} {x : Nat} {w : Int32} (h : frb t rb r2) (h1 : 4 * t ≤ x) (h2 : x < 4 * (t + 1)) : frb t rb (upd r2 x w) := fun y hy => by
  rw [pk_un (by omega)]
  exact h y hy
theorem fr2.tr {t : Nat} {vals fil va fi va2 fi2 : Nat → Int32} {ky dy : Nat} (h : fr2 t vals fil va fi) (hk : ky < 4) (hd : dy < 32) (h1 : ∀ p, p ≠ (t * 4 + ky) * 32 + dy → va2 p = va p) (h2 : ∀ x, x ≠ t * 4 + ky → fi2 x = fi x) : fr2 t vals fil va2 fi2 := ⟨fun p hp => (h1 p (by omega)).trans (h.1 p hp), fun x hx => (h2 x (by omega)).trans (h.2 x hx)⟩
def pret (S : Sta) (t : Nat) (kind key v fr to : Int32) : Int32 := if pcode S t kind key v fr to = 0 then nI (pN S t kind key v fr to) else if pcode S t kind key v fr to = 1 then (-1 : Int32) else if pcode S t kind key v fr to = 3 then (-2 : Int32) else (-3 : Int32)
section PC
variable {S : Sta} {t kd ky f1 t1 : Nat} {v kind key fr to : Int32}
theorem pS_n (h2 : kd ≤ 4) (h3 : ky < 4) (h4 : f1 < t1) (h5 : t1 ≤ 32) : pS S t (nI kd) (nI ky) v (nI f1) (nI t1) = chg S (t * 4 + ky) kd v f1 (t1 - f1) := by
  unfold pS
  rw [nn_nI (by omega), nn_nI (by omega), nn_nI (by omega), nn_nI (by omega)]
theorem pN_n (h2 : kd ≤ 4) (h3 : ky < 4) (h4 : f1 < t1) (h5 : t1 ≤ 32) : pN S t (nI kd) (nI ky) v (nI f1) (nI t1) = chgN S (t * 4 + ky) kd v f1 (t1 - f1) := by
  unfold pN
  rw [nn_nI (by omega), nn_nI (by omega), nn_nI (by omega), nn_nI (by omega)]
theorem okS_n (h2 : kd ≤ 4) (h3 : ky < 4) (h4 : f1 < t1) (h5 : t1 ≤ 32) : okS (nI kd) (nI ky) (nI f1) (nI t1) = true := by
  unfold okS okK okP
  rw [nI_toInt (by omega), nI_toInt (by omega), nI_toInt (by omega), nI_toInt (by omega)]
  simp
  omega
theorem pcode_n (h2 : kd ≤ 4) (h3 : ky < 4) (h4 : f1 < t1) (h5 : t1 ≤ 32) : pcode S t (nI kd) (nI ky) v (nI f1) (nI t1) = if 2 ≤ kd ∧ held S (t * 4 + ky) f1 (t1 - f1) = 0 then 3 else if kd = 1 ∧ 0 < held S (t * 4 + ky) f1 (t1 - f1) then 2 else if 150 < rowsTo (chg S (t * 4 + ky) kd v f1 (t1 - f1)) (4 * (t + 1)) then 2 else 0 := by
  unfold pcode
  rw [if_neg (by rw [okS_n h2 h3 h4 h5]; exact Bool.noConfusion), pS_n h2 h3 h4 h5]
  unfold pH
  rw [nn_nI (by omega), nn_nI (by omega), nn_nI (by omega), nn_nI (by omega)]
theorem pcode_bad (h : okS kind key fr to = false) : pcode S t kind key v fr to = 1 := by
  unfold pcode
  rw [if_pos h]
theorem pret_1 (h : pcode S t kind key v fr to = 1) : (-1 : Int32) = pret S t kind key v fr to := by unfold pret; rw [h]; rfl
theorem pret_2 (h : pcode S t kind key v fr to = 2) : (-3 : Int32) = pret S t kind key v fr to := by unfold pret; rw [h]; rfl
theorem pret_3 (h : pcode S t kind key v fr to = 3) : (-2 : Int32) = pret S t kind key v fr to := by unfold pret; rw [h]; rfl
theorem pret_0 (h : pcode S t kind key v fr to = 0) : nI (pN S t kind key v fr to) = pret S t kind key v fr to := by unfold pret; rw [if_pos h]
theorem okS_k1 (h : kind < 0) : okS kind key fr to = false := by
  rw [q_lt0] at h
  unfold okS
  rw [decide_eq_false (by omega)]; rfl
theorem okS_k2 (h : nI 4 < kind) : okS kind key fr to = false := by
  rw [q_lt4] at h
  unfold okS
  rw [decide_eq_false (by omega)]; rfl
theorem okS_k3 (h : okK key = false) : okS kind key fr to = false := by
  unfold okS
  rw [h]; simp
theorem okS_k4 (h : okP fr to = false) : okS kind key fr to = false := by
  unfold okS
  rw [h]; simp
theorem kind_n (h1 : ¬ kind < 0) (h2 : ¬ nI 4 < kind) : ∃ n, n ≤ 4 ∧ kind = nI n := by
  rw [q_lt0] at h1
  rw [q_lt4] at h2
  obtain ⟨n, e, h3⟩ := nat_of (show 0 ≤ kind.toInt by omega)
  exact ⟨n, by omega, e⟩
end PC
theorem cAbs_back {S : Sta} {v0 f0 vals fil : Nat → Int32} {t : Nat} (ht : t < 40) (hA : cAbs S v0 f0 t) (hf : fr2 t v0 f0 vals fil) (hs1 : ∀ i, i < 128 → vals (5120 + i) = v0 (128 * t + i)) (hs2 : ∀ i, i < 4 → fil (160 + i) = f0 (4 * t + i)) : cAbs S (va_cpy vals vals (40 * 4 * 32) (t * 4 * 32) 128) (va_cpy fil fil (40 * 4) (t * 4) 4) t := by
  have e1 : ∀ p, p < 128 * (t + 1) → va_cpy vals vals (40 * 4 * 32) (t * 4 * 32) 128 p = v0 p := by
    intro p hp
    by_cases h : t * 4 * 32 ≤ p
    · rw [pk_cpy_in h (by omega), show 40 * 4 * 32 + (p - t * 4 * 32) = 5120 + (p - 128 * t) by omega, hs1 _ (by omega)]
      congr 1; omega
    · rw [pk_cpy_out (by omega), hf.1 p (by omega)]
  have e2 : ∀ x, x < 4 * (t + 1) → va_cpy fil fil (40 * 4) (t * 4) 4 x = f0 x := by
    intro x hx
    by_cases h : t * 4 ≤ x
    · rw [pk_cpy_in h (by omega), show 40 * 4 + (x - t * 4) = 160 + (x - 4 * t) by omega, hs2 _ (by omega)]
      congr 1; omega
    · rw [pk_cpy_out (by omega), hf.2 x (by omega)]
  intro a d ha hd
  rw [hA a d ha hd, e2 a ha, e1 _ (by omega)]
theorem rb_next {S : Sta} {r2 : Nat → Int32} {t y : Nat} (h : ∀ k, k < y → r2 (t * 4 + k) = nI (rowsIn S (t * 4 + k))) : ∀ k, k < y + 1 → upd r2 (t * 4 + y) (nI (rowsIn S (t * 4 + y))) (t * 4 + k) = nI (rowsIn S (t * 4 + k)) := by
  intro k hk
  by_cases e : k = y
  · subst e; rw [pk_us]
  · rw [pk_un (by omega), h k (by omega)]
theorem rOk_back {S : Sta} {rb0 r2 : Nat → Int32} {t : Nat} (hR : rOk S rb0 t) (hf : frb t rb0 r2) (h : ∀ k, k < 4 → r2 (t * 4 + k) = nI (rowsIn S (t * 4 + k))) : rOk S r2 t := by
  refine ⟨fun x hx => ?_, fun x hx hx2 => by rw [hf x (by omega)]; exact hR.2 x hx hx2⟩
  by_cases e : x < 4 * t
  · rw [hf x (by omega), hR.1 x hx]
  · have := h (x - t * 4) (by omega)
    rwa [show t * 4 + (x - t * 4) = x by omega] at this
section CD
variable {S : Sta} {vals fil : Nat → Int32} {t sl dy kd : Nat} {v : Int32} {o : Option Int32}
theorem cd_1 (ho : S sl dy = o) (c10 : (S sl dy).isSome = false) (c15 : 1 < kd) : bi (!(decide (nw kd v o = o))) = nI 0 ∧ nw kd v o = o := by
  rw [ho] at c10
  have e1 : o = none := by simpa using c10
  have e2 : nw kd v o = o := by
    subst e1
    unfold nw
    split
    · rfl
    · rw [if_neg (by omega)]; rfl
  exact ⟨bi_f (by simp [e2]), e2⟩
theorem cd_2 (ho : S sl dy = o) (c10 : (S sl dy).isSome = true) (c22 : kd = 4) : bi (!(decide (nw kd v o = o))) = nI 1 ∧ nw kd v o = none := by
  rw [ho] at c10
  have e2 : nw kd v o = none := by unfold nw; rw [if_pos c22]
  refine ⟨bi_t ?_, e2⟩
  rw [e2]
  cases o with
  | none => simp at c10
  | some w => simp
/-- what is put there: the value for ADD, else; and whether it is another -/
theorem cd_3 (hA : cAbs S vals fil t) (h1 : sl < 4 * (t + 1)) (h2 : dy < 32) (ho : S sl dy = o) (h3 : kd ≤ 4) (c22 : ¬ kd = 4) (c : (S sl dy).isSome = true ∨ kd ≤ 1) :
    (kd = 3 → nw kd v o = some (vals (sl * 32 + dy) + v)) ∧ (¬ kd = 3 → nw kd v o = some v) ∧ (o = none ∨ o = some (vals (sl * 32 + dy))) ∧ ((S sl dy).isSome = o.isSome) := by
  have e : o = none ∨ o = some (vals (sl * 32 + dy)) := by
    rw [← ho, hA sl dy h1 h2]
    split
    · exact Or.inr rfl
    · exact Or.inl rfl
  refine ⟨fun h => ?_, fun h => ?_, e, by rw [ho]⟩
  · rw [ho] at c
    unfold nw
    rw [if_neg (by omega), if_neg (by omega)]
    rcases c with c | c
    · rcases e with e | e
      · rw [e] at c; simp at c
      · rw [e]; simp [h]
    · omega
  · rw [ho] at c
    unfold nw
    rw [if_neg (by omega)]
    by_cases h5 : kd ≤ 1
    · rw [if_pos h5]
    · rw [if_neg h5]
      rcases c with c | c
      · rcases e with e | e
        · rw [e] at c; simp at c
        · rw [e]; simp [h]
      · omega
end CD
theorem bad_post {S : Sta} {t : Nat} {kind key v fr to : Int32} {vals fil rb : Nat → Int32} (h : okS kind key fr to = false) : (-1 : Int32) = pret S t kind key v fr to ∧ fr2 t vals fil vals fil ∧ frb t rb rb ∧ (pcode S t kind key v fr to = 0 → cAbs (pS S t kind key v fr to) vals fil t ∧ rOk (pS S t kind key v fr to) rb t) :=
  ⟨pret_1 (pcode_bad h), fr2.rf, frb.rf, fun q => absurd q (by rw [pcode_bad h]; decide)⟩
theorem pc_2 {n kd hh a b : Nat} (e : n = if 2 ≤ kd ∧ hh = 0 then 3 else if kd = 1 ∧ 0 < hh then 2 else if a < b then 2 else 0) (h : kd = 1) (h2 : 0 < hh) : n = 2 := by
  rw [e, if_neg (by omega), if_pos ⟨h, h2⟩]
theorem pc_no {q : Bool} {kd hh : Nat} (hq : q = decide (0 < hh)) (h1 : kd ≤ 1 ∨ q = true) (h2 : ¬ kd = 1 ∨ q = false) : ¬ (2 ≤ kd ∧ hh = 0) ∧ ¬ (kd = 1 ∧ 0 < hh) := by
  have e1 : q = true → 0 < hh := fun h => of_decide_eq_true (hq ▸ h)
  have e2 : q = false → ¬ 0 < hh := fun h => of_decide_eq_false (hq ▸ h)
  constructor
  · rintro ⟨g1, g2⟩
    rcases h1 with h1 | h1
    · omega
    · have := e1 h1; omega
  · rintro ⟨g1, g2⟩
    rcases h2 with h2 | h2
    · omega
    · exact e2 h2 g2
theorem cd_t {S : Sta} {sl dy kd : Nat} {v w x : Int32} {o : Option Int32} (hw : nw kd v o = some w) (hx0 : o = none ∨ o = some x) (hs : (S sl dy).isSome = o.isSome) (c : (S sl dy).isSome = false ∨ ¬ x = w) : (!(decide (nw kd v o = o))) = true := by
  rw [hw]
  rcases hx0 with e | e
  · rw [e]; simp
  · rw [e] at hs ⊢
    rcases c with c | c
    · rw [c] at hs; simp at hs
    · simp; exact fun q => c q.symm
theorem cd_f {S : Sta} {sl dy kd : Nat} {v w x : Int32} {o : Option Int32} (hw : nw kd v o = some w) (hx0 : o = none ∨ o = some x) (hs : (S sl dy).isSome = o.isSome) (c : (S sl dy).isSome = true) (c2 : x = w) : (!(decide (nw kd v o = o))) = false := by
  rw [hw]
  rcases hx0 with e | e
  · rw [e, c] at hs; simp at hs
  · rw [e, c2]; simp
