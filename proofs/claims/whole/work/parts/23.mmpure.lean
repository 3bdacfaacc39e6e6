/-! pure rows for the reference's changes, and what the calls answer -/
section KP
variable {α : Type} {x t : Nat}
theorem kp_B {k f : Nat → Bool} (h : ∀ i, i < x → k i = f i) : ∀ i, i < x + 1 → updB k x (f x) i = f i := by
  intro i hi
  unfold updB
  by_cases e : i = x
  · rw [if_pos e, e]
  · rw [if_neg e, h i (by omega)]
theorem kp_I {k f : Nat → Int32} (h : ∀ i, i < x → k i = f i) : ∀ i, i < x + 1 → upd k x (f x) i = f i := by
  intro i hi
  unfold upd
  by_cases e : i = x
  · rw [if_pos e, e]
  · rw [if_neg e, h i (by omega)]
/-- the stretch of 128 from b on, filled up to x by f, the rest as in g -/
def stB (b x : Nat) (f g k : Nat → Bool) : Prop := (∀ i, i < x → k (b + i) = f i) ∧ (∀ p, p < b ∨ b + 128 ≤ p → k p = g p)
def stI (b x : Nat) (f g k : Nat → Int32) : Prop := (∀ i, i < x → k (b + i) = f i) ∧ (∀ p, p < b ∨ b + 128 ≤ p → k p = g p)
theorem stB_0 {b : Nat} {f g : Nat → Bool} : stB b 0 f g g := ⟨fun i h => absurd h (by omega), fun _ _ => rfl⟩
theorem stI_0 {b : Nat} {f g : Nat → Int32} : stI b 0 f g g := ⟨fun i h => absurd h (by omega), fun _ _ => rfl⟩
theorem stB_s {b : Nat} {f g k : Nat → Bool} {w : Bool} (h : stB b x f g k) (hx : x < 128) (hw : w = f x) : stB b (x + 1) f g (updB k (b + x) w) := by
  refine ⟨fun i hi => ?_, fun p hp => ?_⟩
  · unfold updB
    by_cases e : i = x
    · subst e; rw [if_pos rfl, hw]
    · rw [if_neg (by omega), h.1 i (by omega)]
  · unfold updB
    rw [if_neg (by omega), h.2 p hp]
theorem stI_s {b : Nat} {f g k : Nat → Int32} {w : Int32} (h : stI b x f g k) (hx : x < 128) (hw : w = f x) : stI b (x + 1) f g (upd k (b + x) w) := by
  refine ⟨fun i hi => ?_, fun p hp => ?_⟩
  · unfold upd
    by_cases e : i = x
    · subst e; rw [if_pos rfl, hw]
    · rw [if_neg (by omega), h.1 i (by omega)]
  · unfold upd
    rw [if_neg (by omega), h.2 p hp]
end KP
/-- the next time's state is the present one's -/
def tkS (S : Sta) (t : Nat) : Sta := fun sl d => if sl < 4 * (t + 1) then S sl d else S (sl - 4) d
theorem mAbs_tk {S : Sta} {th th2 : Nat → Bool} {vs vs2 : Nat → Int32} {t : Nat} (hM : mAbs S th vs t) (h1 : stB (128 * t + 128) 128 (fun i => th (128 * t + i)) th th2) (h2 : stI (128 * t + 128) 128 (fun i => vs (128 * t + i)) vs vs2) : mAbs (tkS S t) th2 vs2 (t + 1) := by
  intro tm ky dy ht hk hd
  unfold tkS
  by_cases e : tm = t + 1
  · subst e
    rw [if_neg (by omega), show (t + 1) * 4 + ky - 4 = t * 4 + ky by omega, hM t ky dy (Nat.le_refl t) hk hd, show 128 * (t + 1) + 32 * ky + dy = 128 * t + 128 + (32 * ky + dy) by omega, h1.1 _ (by omega), h2.1 _ (by omega)]
    simp only [Nat.add_assoc]
  · rw [if_pos (by omega), hM tm ky dy (by omega) hk hd, h1.2 _ (by omega), h2.2 _ (by omega)]
theorem mAbs_back {S : Sta} {th kt th2 th3 : Nat → Bool} {vs kv vs2 vs3 : Nat → Int32} {t : Nat} (hM : mAbs S th vs t) (k1 : ∀ i, i < 128 → kt i = th (128 * t + i)) (k2 : ∀ i, i < 128 → kv i = vs (128 * t + i)) (f1 : ∀ p, p < 128 * t ∨ 128 * t + 128 ≤ p → th2 p = th p) (f2 : ∀ p, p < 128 * t ∨ 128 * t + 128 ≤ p → vs2 p = vs p) (g1 : stB (128 * t) 128 kt th2 th3) (g2 : stI (128 * t) 128 kv vs2 vs3) : mAbs S th3 vs3 t := by
  have e1 : ∀ p, p < 128 * (t + 1) → th3 p = th p := by
    intro p hp
    by_cases h : 128 * t ≤ p
    · have := g1.1 (p - 128 * t) (by omega)
      rw [show 128 * t + (p - 128 * t) = p by omega] at this
      rw [this, k1 _ (by omega), show 128 * t + (p - 128 * t) = p by omega]
    · rw [g1.2 p (by omega), f1 p (by omega)]
  have e2 : ∀ p, p < 128 * (t + 1) → vs3 p = vs p := by
    intro p hp
    by_cases h : 128 * t ≤ p
    · have := g2.1 (p - 128 * t) (by omega)
      rw [show 128 * t + (p - 128 * t) = p by omega] at this
      rw [this, k2 _ (by omega), show 128 * t + (p - 128 * t) = p by omega]
    · rw [g2.2 p (by omega), f2 p (by omega)]
  intro tm ky dy ht hk hd
  rw [hM tm ky dy ht hk hd, e1 _ (by omega), e2 _ (by omega)]
/-- one day changed in the reference's arrays -/
theorem mAbs_put {S : Sta} {th : Nat → Bool} {vs : Nat → Int32} {t ky dy kd : Nat} {v : Int32} (hM : mAbs S th vs t) (hk : ky < 4) (hd : dy < 32) : mAbs (chg S (t * 4 + ky) kd v dy 1) (updB th (128 * t + 32 * ky + dy) (nw kd v (S (t * 4 + ky) dy)).isSome) (upd vs (128 * t + 32 * ky + dy) ((nw kd v (S (t * 4 + ky) dy)).getD 0)) t := by
  intro tm k2 d2 ht hk2 hd2
  unfold chg updB upd
  by_cases e : tm = t ∧ k2 = ky ∧ d2 = dy
  · obtain ⟨rfl, rfl, rfl⟩ := e
    rw [if_pos (by omega), if_pos rfl, if_pos rfl]
    cases nw kd v (S (tm * 4 + k2) d2) <;> simp
  · have e2 : ¬ 128 * tm + 32 * k2 + d2 = 128 * t + 32 * ky + dy := by omega
    rw [if_neg (by omega), hM tm k2 d2 ht hk2 hd2, if_neg e2, if_neg e2]
def fm (t : Nat) (th : Nat → Bool) (vs : Nat → Int32) (th2 : Nat → Bool) (vs2 : Nat → Int32) : Prop := (∀ p, p < 128 * t ∨ 128 * t + 128 ≤ p → th2 p = th p) ∧ (∀ p, p < 128 * t ∨ 128 * t + 128 ≤ p → vs2 p = vs p)
theorem fm.rf {t : Nat} {th : Nat → Bool} {vs : Nat → Int32} : fm t th vs th vs := ⟨fun _ _ => rfl, fun _ _ => rfl⟩
theorem fm.tr {t : Nat} {th th2 : Nat → Bool} {vs vs2 : Nat → Int32} {ky dy : Nat} {w : Bool} {y : Int32} (h : fm t th vs th2 vs2) (hk : ky < 4) (hd : dy < 32) : fm t th vs (updB th2 (128 * t + 32 * ky + dy) w) (upd vs2 (128 * t + 32 * ky + dy) y) := ⟨fun p hp => by unfold updB; rw [if_neg (by omega)]; exact h.1 p hp, fun p hp => by unfold upd; rw [if_neg (by omega)]; exact h.2 p hp⟩
/-- what waits: statements of five numbers -/
def qput (q : Nat → Int32) (n : Nat) (kind key v fr to : Int32) : Nat → Int32 := fun p => if p = 5 * n then kind else if p = 5 * n + 1 then key else if p = 5 * n + 2 then v else if p = 5 * n + 3 then fr else if p = 5 * n + 4 then to else q p
def qIs (q : Nat → Int32) (n : Nat) (wo : Nat → Int32) : Prop := ∀ p, p < 5 * n → wo p = q p
theorem qIs_put {q wo : Nat → Int32} {n : Nat} {kind key v fr to : Int32} (h : qIs q n wo) : qIs (qput q n kind key v fr to) (n + 1) (upd (upd (upd (upd (upd wo (5 * n) kind) (5 * n + 1) key) (5 * n + 2) v) (5 * n + 3) fr) (5 * n + 4) to) := by
  intro p hp
  unfold qput upd
  repeat' split
  all_goals first | rfl | omega | exact h p (by omega)
/-- the statements from the k-th on: code, number, state, sum -/
def cmt (t : Nat) (q : Nat → Int32) : Nat → Nat → Sta → Nat → Nat × Nat × Sta × Nat
  | 0, k, S, m => (0, k, S, m)
  | n + 1, k, S, m => if pcode S t (q (5 * k)) (q (5 * k + 1)) (q (5 * k + 2)) (q (5 * k + 3)) (q (5 * k + 4)) = 0 then cmt t q n (k + 1) (pS S t (q (5 * k)) (q (5 * k + 1)) (q (5 * k + 2)) (q (5 * k + 3)) (q (5 * k + 4))) (m + pN S t (q (5 * k)) (q (5 * k + 1)) (q (5 * k + 2)) (q (5 * k + 3)) (q (5 * k + 4))) else (pcode S t (q (5 * k)) (q (5 * k + 1)) (q (5 * k + 2)) (q (5 * k + 3)) (q (5 * k + 4)), k, S, m)
-- what the calls answer: a code (0: it returns), and the answer
def vCode (S : Sta) (t : Nat) (key day time : Int32) : Nat := if (okK key && (okD day && okT t time)) = true then (if (S (nn time * 4 + nn key) (nn day)).isSome = true then 0 else 2) else 1
def vVal (S : Sta) (key day time : Int32) : Int32 := (S (nn time * 4 + nn key) (nn day)).getD 0
def hVal (S : Sta) (t : Nat) (key day time : Int32) : Bool := okK key && (okD day && (okT t time && (S (nn time * 4 + nn key) (nn day)).isSome))
def smL (S : Sta) (sl fr : Nat) : Nat → Int64
  | 0 => 0
  | n + 1 => smL S sl fr n + ((S sl (fr + n)).getD 0).toInt64
def sCode (t : Nat) (key fr to time : Int32) : Nat := if (okK key && (okP fr to && okT t time)) = true then 0 else 1
def sVal (S : Sta) (key fr to time : Int32) : Int64 := smL S (nn time * 4 + nn key) (nn fr) (nn to - nn fr)
def rsCode (t : Nat) (key time : Int32) : Nat := if (okK key && okT t time) = true then 0 else 1
def rsVal (S : Sta) (key time : Int32) : Nat := fb_ct (beg S (nn time * 4 + nn key)) 32
def okN (n : Nat) (x : Int32) : Bool := decide (0 ≤ x.toInt ∧ x.toInt ≤ (n : Int))
def inN (n : Nat) (x : Int32) : Bool := decide (0 ≤ x.toInt ∧ x.toInt < (n : Int))
def rnCode (S : Sta) (t : Nat) (key time k part : Int32) : Nat := if (okK key && (okT t time && okN 2 part)) = true then (if inN (rsVal S key time) k = true then 0 else 2) else 1
def rnVal (S : Sta) (sl i pt : Nat) : Int32 := if pt = 0 then nI i else if pt = 1 then nI (rend S sl i) else (S sl i).getD 0
def rwCode (S : Sta) (t : Nat) (k part : Int32) : Nat := if okN 5 part = true then (if inN (rowsTo S (4 * (t + 1))) k = true then 0 else 2) else 1
def chCode (key day : Int32) : Nat := if (okK key && okD day) = true then 0 else 1
def chVal (S : Sta) (ky dy n : Nat) : Nat := fb_ct (fun j => !(decide (S (j * 4 + ky) dy = S ((j + 1) * 4 + ky) dy))) n
def rlCode (a b c d : Int32) : Nat := if (okP a b && okP c d) = true then 0 else 1
def jnCode (t : Nat) (key other time r : Int32) : Nat := if (okK key && (okK other && (okT t time && okN 12 r))) = true then 0 else 1
def jnOne (S : Sta) (s1 s2 r a : Nat) : Nat := if beg S s1 a = true then fb_ct (fun y => beg S s2 y && decide (rel a (rend S s1 a) y (rend S s2 y) = r)) 32 else 0
def jnVal (S : Sta) (s1 s2 r : Nat) : Nat := fb_sm (jnOne S s1 s2 r) 32
theorem okN_n {n : Nat} {x : Int32} (h : okN n x = true) : ∃ k, k ≤ n ∧ x = nI k := by
  have h := of_decide_eq_true h
  obtain ⟨k, e, h2⟩ := nat_of h.1
  exact ⟨k, by omega, e⟩
theorem inN_n {n : Nat} {x : Int32} (h : inN n x = true) : ∃ k, k < n ∧ x = nI k := by
  have h := of_decide_eq_true h
  obtain ⟨k, e, h2⟩ := nat_of h.1
  exact ⟨k, by omega, e⟩
theorem inN_t {n k : Nat} (h : k < n) (hn : n < 2 ^ 31) : inN n (nI k) = true := by
  unfold inN
  rw [nI_toInt (by omega)]
  simp
  omega
theorem inN_f {n : Nat} {x : Int32} (h : ∀ j, j < n → ¬ nI j = x) : inN n x = false := by
  cases q : inN n x
  · rfl
  · obtain ⟨k, hk, e⟩ := inN_n q
    exact absurd e.symm (h k hk)
theorem okT_nI {t n : Nat} (h : n ≤ t) (ht : t < 2 ^ 31) : okT t (nI n) = true := by
  unfold okT
  rw [nI_toInt (by omega)]
  simp
  omega
theorem okK_nI {n : Nat} (h : n < 4) : okK (nI n) = true := by
  unfold okK
  rw [nI_toInt (by omega)]
  simp
  omega
theorem okD_nI {n : Nat} (h : n < 32) : okD (nI n) = true := by
  unfold okD
  rw [nI_toInt (by omega)]
  simp
  omega
theorem okN_nI {m n : Nat} (h : n ≤ m) (hm : m < 2 ^ 31) : okN m (nI n) = true := by
  unfold okN
  rw [nI_toInt (by omega)]
  simp
  omega
theorem okP_nI {m n : Nat} (h : m < n) (hm : n ≤ 32) : okP (nI m) (nI n) = true := by
  unfold okP
  rw [nI_toInt (by omega), nI_toInt (by omega)]
  simp
  omega
section NWS
variable {th : Nat → Bool} {vs : Nat → Int32} {px kd : Nat} {v w : Int32} {o : Option Int32} {q : Bool}
theorem nw_s1 (h : kd ≤ 1) : (nw kd v o).isSome = true := by
  unfold nw
  rw [if_neg (by omega), if_pos h]
  rfl
theorem nw_s2 (ho : (if th px = true then some (vs px) else none) = o) (c : th px = true) (c2 : ¬ kd = 4) : (nw kd v o).isSome = true := by
  rw [if_pos c] at ho
  subst ho
  unfold nw
  rw [if_neg c2]
  split <;> simp
theorem nw_n1 (ho : (if th px = true then some (vs px) else none) = o) (c : th px = false) (h0 : ¬ kd = 0) (h1 : ¬ kd = 1) : (nw kd v o).isSome = false := by
  rw [if_neg (by rw [c]; exact Bool.noConfusion)] at ho
  subst ho
  unfold nw
  split
  · rfl
  · rw [if_neg (by omega)]; rfl
theorem nw_n2 (c : kd = 4) : (nw kd v o).isSome = false := by
  unfold nw
  rw [if_pos c]
  rfl
theorem nw_v3 (ho : (if th px = true then some (vs px) else none) = o) (h : (nw kd v o).isSome = true) (c : kd = 3) : nw kd v o = some (vs px + v) := by
  subst c
  subst ho
  unfold nw at *
  cases e : th px
  · rw [e] at h; simp at h
  · simp
theorem nw_v (h : (nw kd v o).isSome = true) (c : ¬ kd = 3) : nw kd v o = some v := by
  unfold nw at *
  by_cases h4 : kd = 4
  · rw [if_pos h4] at h; simp at h
  · rw [if_neg h4] at *
    by_cases h1 : kd ≤ 1
    · rw [if_pos h1]
    · rw [if_neg h1] at *
      cases o with
      | none => simp at h
      | some y => simp [c]
theorem ch_1 (ho : (if th px = true then some (vs px) else none) = o) (hq : q = (nw kd v o).isSome) (hy : q = true → nw kd v o = some w) {n1 : Nat} (c : ¬ bi (th px) = bi q ∨ ¬ vs px = w) (c2 : th px = true ∨ ¬ bi (th px) = bi q := by first | exact Or.inl c66 | exact Or.inr c61) : n1 + 1 = n1 + (if (!(decide (nw kd v o = o))) = true then 1 else 0) := by
  have : (!(decide (nw kd v o = o))) = true := by
    have hne : ¬ nw kd v o = o := by
      intro e
      have e1 : q = th px := by
        rw [hq, e, ← ho]
        cases th px <;> simp
      rcases c with c | c
      · exact c (by rw [e1])
      · rcases c2 with c2 | c2
        · have e2 := hy (by rw [e1]; exact c2)
          rw [e, ← ho, if_pos c2] at e2
          exact c (Option.some.inj e2)
        · exact c2 (by rw [e1])
    simp [hne]
  rw [this]
  rfl
theorem ch_0 (ho : (if th px = true then some (vs px) else none) = o) (hq : q = (nw kd v o).isSome) (hy : q = true → nw kd v o = some w) {n1 : Nat} (c1 : th px = q) (c : th px = false ∨ vs px = w) : n1 = n1 + (if (!(decide (nw kd v o = o))) = true then 1 else 0) := by
  have : nw kd v o = o := by
    cases e : th px
    · rw [e] at c1 ho
      rw [← c1] at hq
      simp at ho
      rw [← ho] at hq ⊢
      simpa using hq.symm
    · rw [e] at c1
      rw [hy c1.symm, ← ho, if_pos e]
      rcases c with c | c
      · rw [e] at c; exact absurd c Bool.noConfusion
      · rw [c]
  simp [this]
theorem vs_end (hq : q = (nw kd v o).isSome) (hy : q = true → nw kd v o = some w) : (q = true → w = (nw kd v o).getD 0) ∧ (q = false → nI 0 = (nw kd v o).getD 0) := by
  refine ⟨fun h => by rw [hy h]; rfl, fun h => ?_⟩
  rw [h] at hq
  have : nw kd v o = none := by simpa using hq.symm
  rw [this]
  rfl
end NWS
theorem pcode_le (S : Sta) (t : Nat) (kind key v fr to : Int32) : pcode S t kind key v fr to ≤ 3 := by
  unfold pcode
  repeat' split
  all_goals omega
theorem pN_le (S : Sta) (t : Nat) (kind key v fr to : Int32) (h : pcode S t kind key v fr to = 0) : pN S t kind key v fr to ≤ 32 := by
  have h1 : okS kind key fr to = true := by
    cases q : okS kind key fr to
    · rw [pcode_bad q] at h; exact absurd h (by decide)
    · rfl
  unfold okS at h1
  simp only [Bool.and_eq_true] at h1
  obtain ⟨n, k, h2, h3, e1, e2⟩ := okP_n h1.2.2
  unfold pN
  have := chgN_le S (t * 4 + nn key) (nn kind) v (nn fr) (nn to - nn fr)
  rw [e2, nn_nI (by omega)] at *
  omega
theorem fm.tr2 {t : Nat} {th th2 th3 : Nat → Bool} {vs vs2 vs3 : Nat → Int32} (h : fm t th vs th2 vs2) (g : fm t th2 vs2 th3 vs3) : fm t th vs th3 vs3 := ⟨fun p hp => (g.1 p hp).trans (h.1 p hp), fun p hp => (g.2 p hp).trans (h.2 p hp)⟩
theorem cmt_go {t : Nat} {q : Nat → Int32} {n x : Nat} {S : Sta} {m : Nat} (h : x < n) (c : pcode S t (q (5 * x)) (q (5 * x + 1)) (q (5 * x + 2)) (q (5 * x + 3)) (q (5 * x + 4)) = 0) : cmt t q (n - x) x S m = cmt t q (n - (x + 1)) (x + 1) (pS S t (q (5 * x)) (q (5 * x + 1)) (q (5 * x + 2)) (q (5 * x + 3)) (q (5 * x + 4))) (m + pN S t (q (5 * x)) (q (5 * x + 1)) (q (5 * x + 2)) (q (5 * x + 3)) (q (5 * x + 4))) := by
  rw [show n - x = (n - (x + 1)) + 1 by omega, cmt, if_pos c]
theorem cmt_no {t : Nat} {q : Nat → Int32} {n x : Nat} {S : Sta} {m : Nat} (h : x < n) (c : ¬ pcode S t (q (5 * x)) (q (5 * x + 1)) (q (5 * x + 2)) (q (5 * x + 3)) (q (5 * x + 4)) = 0) : cmt t q (n - x) x S m = (pcode S t (q (5 * x)) (q (5 * x + 1)) (q (5 * x + 2)) (q (5 * x + 3)) (q (5 * x + 4)), x, S, m) := by
  rw [show n - x = (n - (x + 1)) + 1 by omega, cmt, if_neg c]
