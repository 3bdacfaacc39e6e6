/-! the law: its world, its invariant, what its cases share -/
def gw (a b : Nat → Nat) (oa : Nat) (cI cZ cJ : ClassId) (vals fil rb : Nat → Int32) (t : Nat) (wo : Nat → Int32) (w0 : Nat) (fn : Int32) (og : Nat → Int64) (th : Nat → Bool) (vs : Nat → Int32) (kt : Nat → Bool) (kv wa : Nat → Int32) (tr ch : Int32) : va_W := cw a cI vals fil rb (nI t) wo (nI w0) fn (Xo oa cJ og (mw b cI cZ (nI t) th vs kt kv (nI w0) wa fn tr ch []))
def linv (S : Sta) (t w0 : Nat) (q vals fil rb wo : Nat → Int32) (th : Nat → Bool) (vs wa : Nat → Int32) : Prop := t < 40 ∧ cAbs S vals fil t ∧ rOk S rb t ∧ mAbs S th vs t ∧ w0 ≤ 8 ∧ qIs q w0 wo ∧ qIs q w0 wa
/-- behind a case: the invariant, at the loop's step -/
def lKT (p : Program) (l : Launch) (e : Env) (s : State) (m : MethodId) (args : Array Value) (below : List Frame) (meth : Method) (c : Code) (Q : State → Prop) (D : va_G) (z : Nat) (a b : Nat → Nat) (oa : Nat) (cI cZ cJ : ClassId) (bs j : Nat) : Prop :=
  ∀ (S : Sta) (t w0 : Nat) (q vals fil rb wo : Nat → Int32) (fn : Int32) (og : Nat → Int64) (th : Nat → Bool) (vs : Nat → Int32) (kt : Nat → Bool) (kv wa : Nat → Int32) (tr ch : Int32), linv S t w0 q vals fil rb wo th vs wa → ∀ (H : Heap) (locs : List Loc), wi D z (Ar z) (gw a b oa cI cZ cJ vals fil rb t wo w0 fn og th vs kt kv wa tr ch) s H locs → ∀ ls : Array Slot, lv_has ls 8 [(0, .ref bs), (1, .ref (a 0)), (2, .ref (b 0)), (3, .ref oa), (4, .int (nI (6 * j)))] → W p l e room_1 s m args below meth c H locs (15 + j) (16174 + 6 * j) Q (F0 m 1124 ls [])
theorem lg_eq {x y : Int64} (h : x = y) : lg_cmp x y = 0 := by
  subst h
  unfold lg_cmp
  rw [if_neg (fun h => Int64.lt_irrefl h), if_pos rfl]
section LS
variable {p : Program} {l : Launch} {e : Env} {R : Room} {s : State} {m : MethodId} {args : Array Value} {below : List Frame} {meth : Method} {c : Code} {H : Heap} {locs : List Loc} {cells slots : Nat} {Q : State → Prop} {cc : ByteArray} {rest : List Value} {pc : Nat} {ls : Array Slot} {D : va_G} {z : Nat} {ws : va_W}
theorem sl_ld (hx : p.tables.exec = Jvm.exec) (hb : c.code = cc) {bs L k : Nat} {xs : Nat → Int32} (hX : va_X bs L xs s s.heap) (hbl : bs < s.heap.size) (hbA : ¬ Ar z bs) (hI : wi D z (Ar z) ws s H locs) (hdg : decode cc pc = .ok (.iaload, 1)) (hk : k < L) (hL : L < 2 ^ 31) (kk : W p l e R s m args below meth c H locs cells slots Q (F0 m (pc + 1) ls (.int (xs k) :: rest))) : W p l e R s m args below meth c H locs cells slots Q (F0 m pc ls (.int (nI k) :: .ref bs :: rest)) :=
  va_sld hx hb hX hbl hbA hI.2.2.2 (vp_in_nI hk hL) hdg (by rw [nI_clamp (Nat.lt_trans hk hL)]; exact kk)
end LS
theorem rn_ex (S : Sta) (t : Nat) (key time k part : Int32) : ∃ i, rnCode S t key time k part = 0 → i < 32 ∧ beg S (nn time * 4 + nn key) i = true ∧ fb_ct (beg S (nn time * 4 + nn key)) i = nn k := by
  by_cases h : rnCode S t key time k part = 0
  · unfold rnCode at h
    split at h
    · split at h
      · rename_i h2
        obtain ⟨k1, h3, e⟩ := inN_n h2
        obtain ⟨i, h4, h5, h6⟩ := fb_ct_kth (p := beg S (nn time * 4 + nn key)) (n := 32) h3
        refine ⟨i, fun _ => ⟨h4, h5, ?_⟩⟩
        have h7 := fb_ct_le (beg S (nn time * 4 + nn key)) 32
        have h8 : k1 < fb_ct (beg S (nn time * 4 + nn key)) 32 := h3
        rw [h6, e, nn_nI (by omega)]
      · exact absurd h (by decide)
    · exact absurd h (by decide)
  · exact ⟨0, fun q => absurd q h⟩
theorem rw_ex (S : Sta) (t : Nat) (ht : t < 40) (k part : Int32) : ∃ ky tm i, rwCode S t k part = 0 → ky < 4 ∧ tm ≤ t ∧ i < 32 ∧ isRw S (tm * 4 + ky) i = true ∧ nn k = rowAt S t ky tm i := by
  by_cases h : rwCode S t k part = 0
  · unfold rwCode at h
    split at h
    · split at h
      · rename_i h2
        obtain ⟨k1, h3, e⟩ := inN_n h2
        obtain ⟨ky, tm, i, h4, h5, h6, h7, h8⟩ := row_find h3
        have h9 := rowsTo_le (S := S) (4 * (t + 1))
        exact ⟨ky, tm, i, fun _ => ⟨h4, h5, h6, h7, by rw [e, nn_nI (by omega), h8]⟩⟩
      · exact absurd h (by decide)
    · exact absurd h (by decide)
  · exact ⟨0, 0, 0, fun q => absurd q h⟩
theorem cd_le (S : Sta) (t : Nat) (a b c d : Int32) : vCode S t a b c ≤ 3 ∧ sCode t a b c d ≤ 3 ∧ rsCode t a b ≤ 3 ∧ rnCode S t a b c d ≤ 3 ∧ rwCode S t a b ≤ 3 ∧ chCode a b ≤ 3 ∧ rlCode a b c d ≤ 3 ∧ jnCode t a b c d ≤ 3 := by
  refine ⟨?_, ?_, ?_, ?_, ?_, ?_, ?_, ?_⟩
  · unfold vCode; repeat' split
    all_goals omega
  · unfold sCode; split <;> omega
  · unfold rsCode; split <;> omega
  · unfold rnCode; repeat' split
    all_goals omega
  · unfold rwCode; repeat' split
    all_goals omega
  · unfold chCode; split <;> omega
  · unfold rlCode; split <;> omega
  · unfold jnCode; split <;> omega
theorem cmt_le (t : Nat) (q : Nat → Int32) : ∀ (n k : Nat) (S : Sta) (m : Nat), (cmt t q n k S m).1 ≤ 3
  | 0, _, _, _ => by unfold cmt; exact Nat.zero_le _
  | n + 1, k, S, m => by
    unfold cmt
    split
    · exact cmt_le t q n _ _ _
    · exact pcode_le _ _ _ _ _ _ _
