def al (S : Sta) (sl dy ot : Nat) : Bool := (S sl dy).isSome && decide (S sl dy = S sl ot)
def isRn (S : Sta) (sl dy to : Nat) (v : Int32) : Bool := beg S sl dy && (decide (rend S sl dy = to) && decide (S sl dy = some v))
def held (S : Sta) (sl fr n : Nat) : Nat := fb_ct (fun j => (S sl (fr + j)).isSome) n
section PM
variable {S : Sta} {th : Nat → Bool} {vs : Nat → Int32} {t tm ky dy ot : Nat}
theorem has_m (hM : mAbs S th vs t) (h1 : tm ≤ t) (h3 : ky < 4) (h2 : dy < 32) : (S (tm * 4 + ky) dy).isSome = th (128 * tm + 32 * ky + dy) := by
  rw [hM tm ky dy h1 h3 h2]
  cases th (128 * tm + 32 * ky + dy) <;> simp
theorem val_m (hM : mAbs S th vs t) (h1 : tm ≤ t) (h3 : ky < 4) (h2 : dy < 32) (h : (S (tm * 4 + ky) dy).isSome = true) : S (tm * 4 + ky) dy = some (vs (128 * tm + 32 * ky + dy)) := by
  have h4 := has_m hM h1 h3 h2
  rw [h] at h4
  rw [hM tm ky dy h1 h3 h2, if_pos h4.symm]
theorem al_m (hM : mAbs S th vs t) (h1 : tm ≤ t) (h3 : ky < 4) (h2 : dy < 32) (h4 : ot < 32) : al S (tm * 4 + ky) dy ot = (th (128 * tm + 32 * ky + dy) && (th (128 * tm + 32 * ky + ot) && decide (vs (128 * tm + 32 * ky + dy) = vs (128 * tm + 32 * ky + ot)))) := by
  unfold al
  rw [hM tm ky dy h1 h3 h2, hM tm ky ot h1 h3 h4]
  cases th (128 * tm + 32 * ky + dy) <;> cases th (128 * tm + 32 * ky + ot) <;> simp
theorem con_al {sl : Nat} (h : ¬ dy = 0) : con S sl dy = al S sl (dy - 1) dy := by
  unfold con al
  by_cases e : S sl (dy - 1) = S sl dy
  · rw [e]; simp [h]
  · simp [h, e]
theorem al_con {sl x : Nat} (h0 : 0 < x) (h : S sl (x - 1) = S sl dy) : al S sl dy x = con S sl x := by
  rw [con_al (by omega), al, al, h]
theorem al_eq {sl x : Nat} (h : al S sl dy x = true) : S sl (x + 1 - 1) = S sl dy := by
  unfold al at h
  simp only [Bool.and_eq_true, decide_eq_true_eq] at h
  rw [Nat.add_sub_cancel, h.2]
theorem isRn_shr {sl so : Nat} {v : Int32} (h : S sl dy = some v) : isRn S so dy (rend S sl dy) v = shr S sl so dy := by
  unfold isRn shr
  rw [h]
  cases beg S so dy <;> simp
  exact Bool.and_comm _ _
theorem isRw_m (h3 : ky < 4) (hs : beg S (tm * 4 + ky) dy = true) : isRw S (tm * 4 + ky) dy = (decide (tm = 0) || !(shr S (tm * 4 + ky) ((tm - 1) * 4 + ky) dy)) := by
  unfold isRw
  rw [hs]
  by_cases h : tm = 0
  · have : tm * 4 + ky < 4 := by omega
    simp [h, h3]
  · have e1 : ¬ tm * 4 + ky < 4 := by omega
    have e2 : tm * 4 + ky - 4 = (tm - 1) * 4 + ky := by omega
    simp [h, e1, e2]
theorem sum4 (f : Nat → Nat) : ∀ n, fb_sm f (4 * n) = fb_sm (fun w => f (w * 4 + 0)) n + fb_sm (fun w => f (w * 4 + 1)) n + fb_sm (fun w => f (w * 4 + 2)) n + fb_sm (fun w => f (w * 4 + 3)) n
  | 0 => rfl
  | n + 1 => by
    have a1 : fb_sm f (4 * (n + 1)) = fb_sm f (4 * n) + f (4 * n) + f (4 * n + 1) + f (4 * n + 2) + f (4 * n + 3) := rfl
    rw [a1, fb_sm_succ, fb_sm_succ, fb_sm_succ, fb_sm_succ, sum4 f n]
    simp only [show n * 4 + 0 = 4 * n by omega, show n * 4 + 1 = 4 * n + 1 by omega, show n * 4 + 2 = 4 * n + 2 by omega, show n * 4 + 3 = 4 * n + 3 by omega]
    omega
theorem rows_all : fb_sm (rowsK S t) 4 = rowsTo S (4 * (t + 1)) := by
  rw [rowsTo, sum4, fb_sm, fb_sm, fb_sm, fb_sm, fb_sm]
  simp only [rowsK]
  omega
end PM
theorem fwd_or (fa fb fc fd : Nat) : fwdI fa fb fc fd = -1 ∨ ¬ fwdI fa fb fc fd < 0 := by
  unfold fwdI
  repeat' split
  all_goals first | exact Or.inl rfl | exact Or.inr (by decide)
theorem fwd_lt {fa fb fc fd : Nat} (h : fwdI fa fb fc fd < 0) : fwdI fa fb fc fd = -1 := (fwd_or fa fb fc fd).elim id (fun q => absurd h q)
theorem fwd_nlt {fa fb fc fd : Nat} (h : ¬ fwdI fa fb fc fd < 0) : ¬ fwdI fa fb fc fd = -1 := fun q => h (by rw [q]; decide)
