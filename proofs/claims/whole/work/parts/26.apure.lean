/-! pure rows for what the calls answer -/
theorem okN_raw {n : Nat} {x : Int32} (h1 : ¬ x < 0) (h2 : x ≤ nI n) (hn : n < 2 ^ 31) : okN n x = true := by
  rw [q_lt0] at h1
  rw [q_xle n hn] at h2
  unfold okN
  simp
  omega
theorem okN_f1 {n : Nat} {x : Int32} (h : x < 0) : okN n x = false := by
  rw [q_lt0] at h
  unfold okN
  rw [decide_eq_false_iff_not]
  omega
theorem okN_f2 {n : Nat} {x : Int32} (h : ¬ x ≤ nI n) (hn : n < 2 ^ 31) : okN n x = false := by
  rw [q_xle n hn] at h
  unfold okN
  rw [decide_eq_false_iff_not]
  omega
section AN
variable {S : Sta} {t tm ky dy ko f1 t1 pt rr : Nat}
theorem vCode_n (h1 : tm ≤ t) (h3 : ky < 4) (h2 : dy < 32) (ht : t < 40) : vCode S t (nI ky) (nI dy) (nI tm) = if (S (tm * 4 + ky) dy).isSome = true then 0 else 2 := by
  unfold vCode
  rw [okK_nI h3, okD_nI h2, okT_nI h1 (by omega), nn_nI (by omega), nn_nI (by omega), nn_nI (by omega)]
  rfl
theorem vVal_n (h1 : tm ≤ t) (h3 : ky < 4) (h2 : dy < 32) (ht : t < 40) : vVal S (nI ky) (nI dy) (nI tm) = (S (tm * 4 + ky) dy).getD 0 := by
  unfold vVal
  rw [nn_nI (by omega), nn_nI (by omega), nn_nI (by omega)]
theorem hVal_n (h1 : tm ≤ t) (h3 : ky < 4) (h2 : dy < 32) (ht : t < 40) : hVal S t (nI ky) (nI dy) (nI tm) = (S (tm * 4 + ky) dy).isSome := by
  unfold hVal
  rw [okK_nI h3, okD_nI h2, okT_nI h1 (by omega), nn_nI (by omega), nn_nI (by omega), nn_nI (by omega)]
  simp
theorem sCode_n (h1 : tm ≤ t) (h3 : ky < 4) (h4 : f1 < t1) (h5 : t1 ≤ 32) (ht : t < 40) : sCode t (nI ky) (nI f1) (nI t1) (nI tm) = 0 := by
  unfold sCode
  rw [okK_nI h3, okP_nI h4 h5, okT_nI h1 (by omega)]
  rfl
theorem sVal_n (h1 : tm ≤ t) (h3 : ky < 4) (h4 : f1 < t1) (h5 : t1 ≤ 32) (ht : t < 40) : sVal S (nI ky) (nI f1) (nI t1) (nI tm) = smL S (tm * 4 + ky) f1 (t1 - f1) := by
  unfold sVal
  rw [nn_nI (by omega), nn_nI (by omega), nn_nI (by omega), nn_nI (by omega)]
theorem rsCode_n (h1 : tm ≤ t) (h3 : ky < 4) (ht : t < 40) : rsCode t (nI ky) (nI tm) = 0 := by
  unfold rsCode
  rw [okK_nI h3, okT_nI h1 (by omega)]
  rfl
theorem rsVal_n (h1 : tm ≤ t) (h3 : ky < 4) (ht : t < 40) : rsVal S (nI ky) (nI tm) = fb_ct (beg S (tm * 4 + ky)) 32 := by
  unfold rsVal
  rw [nn_nI (by omega), nn_nI (by omega)]
theorem rnCode_n {k : Int32} (h1 : tm ≤ t) (h3 : ky < 4) (h6 : pt ≤ 2) (ht : t < 40) : rnCode S t (nI ky) (nI tm) k (nI pt) = if inN (fb_ct (beg S (tm * 4 + ky)) 32) k = true then 0 else 2 := by
  unfold rnCode
  rw [okK_nI h3, okT_nI h1 (by omega), okN_nI h6 (by omega), rsVal_n h1 h3 ht]
  rfl
theorem rwCode_n {k : Int32} (h6 : pt ≤ 5) : rwCode S t k (nI pt) = if inN (rowsTo S (4 * (t + 1))) k = true then 0 else 2 := by
  unfold rwCode
  rw [okN_nI h6 (by omega)]
  rfl
theorem chCode_n (h3 : ky < 4) (h2 : dy < 32) : chCode (nI ky) (nI dy) = 0 := by
  unfold chCode
  rw [okK_nI h3, okD_nI h2]
  rfl
theorem jnCode_n (h1 : tm ≤ t) (h3 : ky < 4) (h4 : ko < 4) (h5 : rr ≤ 12) (ht : t < 40) : jnCode t (nI ky) (nI ko) (nI tm) (nI rr) = 0 := by
  unfold jnCode
  rw [okK_nI h3, okK_nI h4, okT_nI h1 (by omega), okN_nI h5 (by omega)]
  rfl
end AN
section RU
variable {S : Sta} {t ky tm i x y k dy : Nat}
theorem rowAt_lt (h3 : ky < 4) (h4 : tm ≤ t) (h5 : i < 32) (hrw : isRw S (tm * 4 + ky) i = true) : rowAt S t ky tm i < rowsTo S (4 * (t + 1)) := by
  rw [← rows_all]
  have g1 : fb_ct (isRw S (tm * 4 + ky)) (i + 1) ≤ rowsIn S (tm * 4 + ky) := fb_ct_mono _ (by omega)
  rw [fb_ct_succ, hrw] at g1
  have g2 : fb_sm (fun w => rowsIn S (w * 4 + ky)) (tm + 1) ≤ rowsK S t ky := sm_mono _ (by omega)
  rw [fb_sm_succ] at g2
  have g3 : fb_sm (rowsK S t) (ky + 1) ≤ fb_sm (rowsK S t) 4 := sm_mono _ (by omega)
  rw [fb_sm_succ] at g3
  unfold rowAt
  simp only [if_true] at g1
  omega
theorem row_uniq (a3 : y < 4) (a4 : x ≤ t) (a5 : dy < 32) (ar : isRw S (x * 4 + y) dy = true) (h3 : ky < 4) (h4 : tm ≤ t) (h5 : i < 32) (hr : isRw S (tm * 4 + ky) i = true) (e : rowAt S t y x dy = rowAt S t ky tm i) : y = ky ∧ x = tm ∧ dy = i := by
  have ct : ∀ {sl d : Nat}, d < 32 → isRw S sl d = true → fb_ct (isRw S sl) d < rowsIn S sl := by
    intro sl d hd hh
    have g1 : fb_ct (isRw S sl) (d + 1) ≤ rowsIn S sl := fb_ct_mono _ (by omega)
    rw [fb_ct_succ, hh] at g1
    simp only [if_true] at g1
    omega
  have key : y = ky ∧ x = tm := by
    by_cases hlex : y < ky ∨ (y = ky ∧ x ≤ tm)
    · exact row_here (n3 := fb_ct (isRw S (x * 4 + y)) dy) h4 hlex (by unfold rowAt; omega) e (ct a5 ar) a4
    · have := row_here (n3 := fb_ct (isRw S (tm * 4 + ky)) i) (ky := y) (tm := x) (x := tm) (y := ky) (i := dy) a4 (by omega) (by unfold rowAt; omega) e.symm (ct h5 hr) h4
      exact ⟨this.1.symm, this.2.symm⟩
  obtain ⟨rfl, rfl⟩ := key
  refine ⟨rfl, rfl, fb_ct_kth_one ar hr ?_⟩
  unfold rowAt at e
  omega
theorem sm_find (f : Nat → Nat) : ∀ {n k : Nat}, k < fb_sm f n → ∃ j, j < n ∧ fb_sm f j ≤ k ∧ k < fb_sm f j + f j
  | 0, k, h => absurd h (Nat.not_lt_zero k)
  | n + 1, k, h => by
    rw [fb_sm_succ] at h
    rcases Nat.lt_or_ge k (fb_sm f n) with q | q
    · obtain ⟨j, h1, h2⟩ := sm_find f q
      exact ⟨j, by omega, h2⟩
    · exact ⟨n, by omega, q, h⟩
theorem row_find (h : k < rowsTo S (4 * (t + 1))) : ∃ ky tm i, ky < 4 ∧ tm ≤ t ∧ i < 32 ∧ isRw S (tm * 4 + ky) i = true ∧ k = rowAt S t ky tm i := by
  rw [← rows_all] at h
  obtain ⟨ky, h1, h2, h3⟩ := sm_find _ h
  obtain ⟨tm, h4, h5, h6⟩ := sm_find (fun w => rowsIn S (w * 4 + ky)) (n := t + 1) (k := k - fb_sm (rowsK S t) ky) (by unfold rowsK at h3 h2 ⊢; omega)
  obtain ⟨i, h7, h8, h9⟩ := fb_ct_kth (p := isRw S (tm * 4 + ky)) (n := 32) (k := k - fb_sm (rowsK S t) ky - fb_sm (fun w => rowsIn S (w * 4 + ky)) tm) (by show _ < rowsIn S (tm * 4 + ky); omega)
  exact ⟨ky, tm, i, h1, by omega, h7, h8, by unfold rowAt; omega⟩
end RU
def jnIn (S : Sta) (s1 s2 r a n : Nat) : Nat := if beg S s1 a = true then fb_ct (fun y => beg S s2 y && decide (rel a (rend S s1 a) y (rend S s2 y) = r)) n else 0
theorem jnIn_32 (S : Sta) (s1 s2 r a : Nat) : jnIn S s1 s2 r a 32 = jnOne S s1 s2 r a := rfl
theorem jnIn_0 (S : Sta) (s1 s2 r a : Nat) : jnIn S s1 s2 r a 0 = 0 := by unfold jnIn; split <;> rfl
theorem jnIn_n {S : Sta} {s1 s2 r a n : Nat} (h : beg S s1 a = false ∨ beg S s2 n = false ∨ ¬ rel a (rend S s1 a) n (rend S s2 n) = r) : jnIn S s1 s2 r a (n + 1) = jnIn S s1 s2 r a n := by
  unfold jnIn
  split
  · rename_i q
    rw [fb_ct_succ]
    rcases h with h | h | h
    · rw [h] at q; exact absurd q Bool.noConfusion
    · simp [h]
    · simp [h]
  · rfl
theorem jnIn_y {S : Sta} {s1 s2 r a n : Nat} (h : beg S s1 a = true) (h2 : beg S s2 n = true) (h3 : rel a (rend S s1 a) n (rend S s2 n) = r) : jnIn S s1 s2 r a (n + 1) = jnIn S s1 s2 r a n + 1 := by
  unfold jnIn
  rw [if_pos h, if_pos h, fb_ct_succ]
  simp [h2, h3]
section CHM
variable {S : Sta} {th : Nat → Bool} {vs : Nat → Int32} {t ky dy x : Nat}
theorem chV_s (h : 0 < x) : chVal S ky dy (x + 1 - 1) = chVal S ky dy (x - 1) + (if (!(decide (S ((x - 1) * 4 + ky) dy = S (x * 4 + ky) dy))) = true then 1 else 0) := by
  unfold chVal
  rw [show x + 1 - 1 = (x - 1) + 1 by omega, fb_ct_succ, show x - 1 + 1 = x by omega]
theorem chm (hM : mAbs S th vs t) (h1 : x ≤ t) (h3 : ky < 4) (h2 : dy < 32) : (!(decide (S ((x - 1) * 4 + ky) dy = S (x * 4 + ky) dy))) = (!(decide (th (128 * (x - 1) + 32 * ky + dy) = th (128 * x + 32 * ky + dy))) || (th (128 * (x - 1) + 32 * ky + dy) && !(decide (vs (128 * (x - 1) + 32 * ky + dy) = vs (128 * x + 32 * ky + dy))))) := by
  rw [hM (x - 1) ky dy (by omega) h3 h2, hM x ky dy h1 h3 h2]
  cases th (128 * (x - 1) + 32 * ky + dy) <;> cases th (128 * x + 32 * ky + dy) <;> simp
theorem chm_t1 (hM : mAbs S th vs t) (h1 : x ≤ t) (h3 : ky < 4) (h2 : dy < 32) (c : ¬ bi (th (128 * (x - 1) + 32 * ky + dy)) = bi (th (128 * x + 32 * ky + dy))) : (!(decide (S ((x - 1) * 4 + ky) dy = S (x * 4 + ky) dy))) = true := by
  have e : ¬ th (128 * (x - 1) + 32 * ky + dy) = th (128 * x + 32 * ky + dy) := fun e => c (by rw [e])
  rw [chm hM h1 h3 h2, decide_eq_false e]
  rfl
theorem chm_f1 (hM : mAbs S th vs t) (h1 : x ≤ t) (h3 : ky < 4) (h2 : dy < 32) (c : bi (th (128 * (x - 1) + 32 * ky + dy)) = bi (th (128 * x + 32 * ky + dy))) (c2 : th (128 * (x - 1) + 32 * ky + dy) = false) : (!(decide (S ((x - 1) * 4 + ky) dy = S (x * 4 + ky) dy))) = false := by
  rw [chm hM h1 h3 h2, ← bi_inj c, c2]
  rfl
theorem chm_f2 (hM : mAbs S th vs t) (h1 : x ≤ t) (h3 : ky < 4) (h2 : dy < 32) (c : bi (th (128 * (x - 1) + 32 * ky + dy)) = bi (th (128 * x + 32 * ky + dy))) (c3 : vs (128 * (x - 1) + 32 * ky + dy) = vs (128 * x + 32 * ky + dy)) : (!(decide (S ((x - 1) * 4 + ky) dy = S (x * 4 + ky) dy))) = false := by
  rw [chm hM h1 h3 h2, ← bi_inj c, decide_eq_true c3]
  simp
theorem chm_t2 (hM : mAbs S th vs t) (h1 : x ≤ t) (h3 : ky < 4) (h2 : dy < 32) (c2 : th (128 * (x - 1) + 32 * ky + dy) = true) (c3 : ¬ vs (128 * (x - 1) + 32 * ky + dy) = vs (128 * x + 32 * ky + dy)) : (!(decide (S ((x - 1) * 4 + ky) dy = S (x * 4 + ky) dy))) = true := by
  rw [chm hM h1 h3 h2, c2, decide_eq_false c3]
  simp
end CHM
theorem run_in {p : Nat → Bool} {dy n5 : Nat} (h : p dy = true) (hd : dy < 32) (hn : n5 = fb_ct p dy) : n5 < fb_ct p 32 := by
  have g1 : fb_ct p (dy + 1) ≤ fb_ct p 32 := fb_ct_mono _ (by omega)
  rw [fb_ct_succ, h] at g1
  simp only [if_true] at g1
  omega
theorem ne_s {n : Nat} {k : Int32} (h : ∀ j, j < n → ¬ nI j = k) (c : ¬ nI n = k) : ∀ j, j < n + 1 → ¬ nI j = k := by
  intro j hj
  by_cases e : j = n
  · rw [e]; exact c
  · exact h j (by omega)
