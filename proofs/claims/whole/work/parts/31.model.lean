/-! the reference: its picture, its leaves -/
def MV (S : Nat → Nat → Int32) (a : Nat → Nat → Nat) : Prop := S 37 5 = nI (a 0 0) ∧ S 37 6 = nI (a 1 0) ∧ S 37 7 = nI (a 2 0) ∧ S 37 8 = nI (a 3 0 / 8) ∧ S 37 9 = nI (a 3 0 % 8) ∧ S 37 31 = nI (a 4 0) ∧ (∀ i, i < a 0 0 → S 41 i = nI (a 5 i) ∧ S 42 i = nI (a 6 i) ∧ S 43 i = nI (a 7 i)) ∧ (∀ i, i < a 1 0 → S 44 i = nI (a 8 i) ∧ S 45 i = nI (a 9 i)) ∧ ∀ i, i < a 4 0 → S 55 i = nI (a 10 i) ∧ S 56 i = nI (a 11 i)
def FM (S S' : Nat → Nat → Int32) : Prop := (∀ q, q < 37 ∨ (38 ≤ q ∧ q ≤ 40) → S' q = S q) ∧ S' 37 0 = S 37 0 ∧ S' 37 1 = S 37 1
theorem FM_r {S : Nat → Nat → Int32} : FM S S := ⟨fun _ _ => rfl, rfl, rfl⟩
theorem FM_u {S S' : Nat → Nat → Int32} {q k : Nat} {x : Int32} (h : FM S S') (h1 : 41 ≤ q) : FM S (uI S' q k x) :=
  ⟨fun z hz => by rw [uI_p (by omega)]; exact h.1 z hz, by rw [uI_p (by omega)]; exact h.2.1, by rw [uI_p (by omega)]; exact h.2.2⟩
theorem FM_7 {S S' : Nat → Nat → Int32} {k : Nat} {x : Int32} (h : FM S S') (h1 : 2 ≤ k) : FM S (uI S' 37 k x) :=
  ⟨fun z hz => by rw [uI_p (by omega)]; exact h.1 z hz, by rw [uI_k (by omega)]; exact h.2.1, by rw [uI_k (by omega)]; exact h.2.2⟩
def wth (x lo hi : Int32) : Bool := decide (lo ≤ x ∧ x ≤ hi)
theorem wth_0 {x : Int32} {m n : Nat} (hm : m < 2 ^ 30) (e : n = m + 1) : wth x (nI 0) (nI m) = blw x n := by
  subst e
  cases h : blw x (m + 1) with
  | true => obtain ⟨k, hk, rfl⟩ := blw_t h; exact decide_eq_true ⟨nI_le (by omega) (by omega), nI_le (by omega) (by omega)⟩
  | false =>
    refine decide_eq_false (fun q => ?_)
    have h0 : ¬ x < 0 := Int32.not_lt.mpr (by have := q.1; rwa [nI_0] at this)
    obtain ⟨k, hk, rfl⟩ := nI_of h0
    exact blw_f h (by have := (nI_leI hk (by omega)).mp q.2; omega) rfl
theorem stp_mod {g a b : Nat} (ha : a < g) (hb : b < g) : (b + g - a) % g = stp g a b := by
  unfold stp
  by_cases h : a ≤ b
  · rw [if_pos h, show b + g - a = (b - a) + g by omega, Nat.add_mod_right, Nat.mod_eq_of_lt (by omega)]
  · rw [if_neg h, Nat.mod_eq_of_lt (by omega)]
theorem nb_even {g k r : Nat} (hk : k < g) (hr : r % 2 = 0) : (k + g - 1) % g = nb g k r := by
  unfold nb
  rw [if_pos hr]
  by_cases h : k = 0
  · rw [if_pos h, h, Nat.mod_eq_of_lt (by omega)]; omega
  · rw [if_neg h, show k + g - 1 = (k - 1) + g by omega, Nat.add_mod_right, Nat.mod_eq_of_lt (by omega)]
theorem nb_odd {g k r : Nat} (hk : k < g) (hr : ¬ r % 2 = 0) : (k + 1) % g = nb g k r := by
  unfold nb
  rw [if_neg hr]
  by_cases h : k = g - 1
  · rw [if_pos h, show k + 1 = g by omega, Nat.mod_self]
  · rw [if_neg h, Nat.mod_eq_of_lt (by omega)]
set_option maxRecDepth 20000 in
theorem c_X7_within {S : Nat → Nat → Int32} {L : Nat → Nat → Int64} {R : Nat × Nat × Nat} {d : Nat} {x l h : Int32} : TT mX7_within (d + 0) 0 [some (.int (x)), some (.int (l)), some (.int (h))] [] (S, L, R) (rt (some (.int (bI (wth x l h)))) (S, L, R)) := by
  refine T_ild0 dX7_within_0 ?_
  refine T_ild1 dX7_within_1 ?_
  refine T_clt (tgt := 14) dX7_within_2 (by decide) (fun h2 => ?_) (fun h2 => ?_)
  · refine T_iconst (v := bI false) dX7_within_14 (by decide) ?_
    refine T_bretB dX7_within_15 rfl ?_
    first | (rw [show wth x l h = true from decide_eq_true ⟨Int32.not_lt.mp h2, Int32.not_lt.mp h7⟩]; exact rt_i) | (rw [show wth x l h = false from decide_eq_false (fun q => Int32.not_lt.mpr q.2 h7)]; exact rt_i) | (rw [show wth x l h = false from decide_eq_false (fun q => Int32.not_lt.mpr q.1 h2)]; exact rt_i)
  · refine T_ild0 dX7_within_5 ?_
    refine T_ild2 dX7_within_6 ?_
    refine T_cgt (tgt := 14) dX7_within_7 (by decide) (fun h7 => ?_) (fun h7 => ?_)
    · refine T_iconst (v := bI false) dX7_within_14 (by decide) ?_
      refine T_bretB dX7_within_15 rfl ?_
      first | (rw [show wth x l h = true from decide_eq_true ⟨Int32.not_lt.mp h2, Int32.not_lt.mp h7⟩]; exact rt_i) | (rw [show wth x l h = false from decide_eq_false (fun q => Int32.not_lt.mpr q.2 h7)]; exact rt_i) | (rw [show wth x l h = false from decide_eq_false (fun q => Int32.not_lt.mpr q.1 h2)]; exact rt_i)
    · refine T_iconst (v := bI true) dX7_within_10 (by decide) ?_
      refine T_goto (tgt := 15) dX7_within_11 (by decide) ?_
      refine T_bretB dX7_within_15 rfl ?_
      first | (rw [show wth x l h = true from decide_eq_true ⟨Int32.not_lt.mp h2, Int32.not_lt.mp h7⟩]; exact rt_i) | (rw [show wth x l h = false from decide_eq_false (fun q => Int32.not_lt.mpr q.2 h7)]; exact rt_i) | (rw [show wth x l h = false from decide_eq_false (fun q => Int32.not_lt.mpr q.1 h2)]; exact rt_i)
set_option maxRecDepth 20000 in
theorem c_within0 {S : Nat → Nat → Int32} {L : Nat → Nat → Int64} {R : Nat × Nat × Nat} {d : Nat} {x : Int32} {m n : Nat} (hm : m < 2 ^ 30) (e : n = m + 1) : TT mX7_within (d + 0) 0 [some (.int x), some (.int (nI 0)), some (.int (nI m))] [] (S, L, R) (rt (some (.int (bI (blw x n)))) (S, L, R)) := by
  have q := c_X7_within (S := S) (L := L) (R := R) (d := d) (x := x) (l := nI 0) (h := nI m)
  rw [wth_0 hm e] at q; exact q
set_option maxRecDepth 20000 in
theorem c_X7_isSheet {S : Nat → Nat → Int32} {L : Nat → Nat → Int64} {R : Nat × Nat × Nat} {d : Nat} {x : Int32} : TT mX7_isSheet (d + 1) 0 [some (.int (x))] [] (S, L, R) (rt (some (.int (bI (blw x 4)))) (S, L, R)) := by
  refine T_ild0 dX7_isSheet_0 ?_
  refine T_iconst (v := nI 0) dX7_isSheet_1 (by decide) ?_
  refine T_iconst (v := nI 3) dX7_isSheet_2 (by decide) ?_
  refine T_invS3i (M' := mX7_within) dX7_isSheet_3 ml_X7_74 imX7_within (Nat.le_of_ble_eq_true rfl) rfl (Nat.le_of_ble_eq_true rfl) (c_within0 (n := 4) (by decide) rfl) ?_
  refine T_bretB dX7_isSheet_6 rfl ?_
  exact rt_i
set_option maxRecDepth 20000 in
theorem c_X7_isSort {S : Nat → Nat → Int32} {L : Nat → Nat → Int64} {R : Nat × Nat × Nat} {d : Nat} {x : Int32} : TT mX7_isSort (d + 1) 0 [some (.int (x))] [] (S, L, R) (rt (some (.int (bI (blw x 3)))) (S, L, R)) := by
  refine T_ild0 dX7_isSort_0 ?_
  refine T_iconst (v := nI 0) dX7_isSort_1 (by decide) ?_
  refine T_iconst (v := nI 2) dX7_isSort_2 (by decide) ?_
  refine T_invS3i (M' := mX7_within) dX7_isSort_3 ml_X7_74 imX7_within (Nat.le_of_ble_eq_true rfl) rfl (Nat.le_of_ble_eq_true rfl) (c_within0 (n := 3) (by decide) rfl) ?_
  refine T_bretB dX7_isSort_6 rfl ?_
  exact rt_i
set_option maxRecDepth 20000 in
theorem c_X7_isGuest {S : Nat → Nat → Int32} {L : Nat → Nat → Int64} {R : Nat × Nat × Nat} {d : Nat} {x : Int32} {g : Nat} (mg : S 37 5 = nI g) (b8 : g ≤ 8) : TT mX7_isGuest (d + 0) 0 [some (.ref 37), some (.int (x))] [] (S, L, R) (rt (some (.int (bI (blw x g)))) (S, L, R)) := by
  by_cases hx : x < 0
  · skip
    refine T_ild1 dX7_isGuest_0 ?_
    refine T_iflt (tgt := 16) dX7_isGuest_1 (by decide) (fun h1 => ?_) (fun h1 => by exact absurd hx h1)
    refine T_iconst (v := bI false) dX7_isGuest_16 (by decide) ?_
    refine T_bretB dX7_isGuest_17 rfl ?_
    rw [neg_2 (by omega) hx]; exact rt_i
  · obtain ⟨k, hk, rfl⟩ := nI_of hx
    rw [blw_d hk (by omega)]
    refine T_ild1 dX7_isGuest_0 ?_
    refine T_ifltN (tgt := 16) dX7_isGuest_1 (by decide) (by omega) ?_
    refine T_ild1 dX7_isGuest_4 ?_
    refine T_ald0 dX7_isGuest_5 ?_
    refine T_getN dX7_isGuest_6 lf_X7_78 rfl rfl mg ?_
    refine T_cgeN (tgt := 16) dX7_isGuest_9 (by decide) (by omega) (by omega) (fun h9 => ?_) (fun h9 => ?_)
    · refine T_iconst (v := bI false) dX7_isGuest_16 (by decide) ?_
      refine T_bretB dX7_isGuest_17 rfl ?_
      first | (rw [decide_eq_true (by omega)]; exact rt_i) | (rw [decide_eq_false (by omega)]; exact rt_i)
    · refine T_iconst (v := bI true) dX7_isGuest_12 (by decide) ?_
      refine T_goto (tgt := 17) dX7_isGuest_13 (by decide) ?_
      refine T_bretB dX7_isGuest_17 rfl ?_
      first | (rw [decide_eq_true (by omega)]; exact rt_i) | (rw [decide_eq_false (by omega)]; exact rt_i)
set_option maxRecDepth 20000 in
theorem c_X7_isDish {S : Nat → Nat → Int32} {L : Nat → Nat → Int64} {R : Nat × Nat × Nat} {d : Nat} {x : Int32} {g : Nat} (mg : S 37 6 = nI g) (b8 : g ≤ 6) : TT mX7_isDish (d + 0) 0 [some (.ref 37), some (.int (x))] [] (S, L, R) (rt (some (.int (bI (blw x g)))) (S, L, R)) := by
  by_cases hx : x < 0
  · skip
    refine T_ild1 dX7_isDish_0 ?_
    refine T_iflt (tgt := 16) dX7_isDish_1 (by decide) (fun h1 => ?_) (fun h1 => by exact absurd hx h1)
    refine T_iconst (v := bI false) dX7_isDish_16 (by decide) ?_
    refine T_bretB dX7_isDish_17 rfl ?_
    rw [neg_2 (by omega) hx]; exact rt_i
  · obtain ⟨k, hk, rfl⟩ := nI_of hx
    rw [blw_d hk (by omega)]
    refine T_ild1 dX7_isDish_0 ?_
    refine T_ifltN (tgt := 16) dX7_isDish_1 (by decide) (by omega) ?_
    refine T_ild1 dX7_isDish_4 ?_
    refine T_ald0 dX7_isDish_5 ?_
    refine T_getN dX7_isDish_6 lf_X7_81 rfl rfl mg ?_
    refine T_cgeN (tgt := 16) dX7_isDish_9 (by decide) (by omega) (by omega) (fun h9 => ?_) (fun h9 => ?_)
    · refine T_iconst (v := bI false) dX7_isDish_16 (by decide) ?_
      refine T_bretB dX7_isDish_17 rfl ?_
      first | (rw [decide_eq_true (by omega)]; exact rt_i) | (rw [decide_eq_false (by omega)]; exact rt_i)
    · refine T_iconst (v := bI true) dX7_isDish_12 (by decide) ?_
      refine T_goto (tgt := 17) dX7_isDish_13 (by decide) ?_
      refine T_bretB dX7_isDish_17 rfl ?_
      first | (rw [decide_eq_true (by omega)]; exact rt_i) | (rw [decide_eq_false (by omega)]; exact rt_i)
set_option maxRecDepth 20000 in
theorem c_X7_isCountry {S : Nat → Nat → Int32} {L : Nat → Nat → Int64} {R : Nat × Nat × Nat} {d : Nat} {x : Int32} : TT mX7_isCountry (d + 0) 0 [some (.int (x))] [] (S, L, R) (rt (some (.int (bI (blw x 2)))) (S, L, R)) := by
  by_cases h0 : x = 0
  · rw [show blw x 2 = true from decide_eq_true ⟨0, by decide, by rw [h0, nI_0]⟩]
    refine T_ild0 dX7_isCountry_0 ?_
    refine T_ifeq (tgt := 9) dX7_isCountry_1 (by decide) (fun h1 => ?_) (fun h1 => by exact absurd h0 h1)
    refine T_iconst (v := bI true) dX7_isCountry_9 (by decide) ?_
    refine T_goto (tgt := 14) dX7_isCountry_10 (by decide) ?_
    refine T_bretB dX7_isCountry_14 rfl ?_
    exact rt_i
  · by_cases h1x : x = nI 1
    · rw [show blw x 2 = true from decide_eq_true ⟨1, by decide, h1x⟩]
      refine T_ild0 dX7_isCountry_0 ?_
      refine T_ifeq (tgt := 9) dX7_isCountry_1 (by decide) (fun h1 => by exact absurd h1 h0) (fun h1 => ?_)
      refine T_ild0 dX7_isCountry_4 ?_
      refine T_iconst (v := nI 1) dX7_isCountry_5 (by decide) ?_
      refine T_cne (tgt := 13) dX7_isCountry_6 (by decide) (fun h6 => by exact absurd h1x h6) (fun h6 => ?_)
      refine T_iconst (v := bI true) dX7_isCountry_9 (by decide) ?_
      refine T_goto (tgt := 14) dX7_isCountry_10 (by decide) ?_
      refine T_bretB dX7_isCountry_14 rfl ?_
      exact rt_i
    · rw [show blw x 2 = false from decide_eq_false (fun ⟨j, h1, h2⟩ => by rcases (show j = 0 ∨ j = 1 by omega) with e | e <;> subst e <;> first | exact h1x h2 | exact h0 (h2.trans nI_0))]
      refine T_ild0 dX7_isCountry_0 ?_
      refine T_ifeq (tgt := 9) dX7_isCountry_1 (by decide) (fun h1 => by exact absurd h1 h0) (fun h1 => ?_)
      refine T_ild0 dX7_isCountry_4 ?_
      refine T_iconst (v := nI 1) dX7_isCountry_5 (by decide) ?_
      refine T_cne (tgt := 13) dX7_isCountry_6 (by decide) (fun h6 => ?_) (fun h6 => by exact absurd h6 h1x)
      refine T_iconst (v := bI false) dX7_isCountry_13 (by decide) ?_
      refine T_bretB dX7_isCountry_14 rfl ?_
      exact rt_i
set_option maxRecDepth 20000 in
theorem c_X7_fails {S : Nat → Nat → Int32} {L : Nat → Nat → Int64} {R : Nat × Nat × Nat} {d : Nat} {f : Nat} : TT mX7_fails (d + 0) 0 [some (.ref 37), some (.int (nI f))] [] (S, L, R) (rt (some (.int (-10 - nI f))) (uI S 37 0 (nI f), L, R)) := by
  refine T_ald0 dX7_fails_0 ?_
  refine T_ild1 dX7_fails_1 ?_
  refine T_putI dX7_fails_2 lf_X7_68 rfl rfl rfl rfl ?_
  refine T_bipush (v := -10) dX7_fails_5 (by decide) ?_
  refine T_ild1 dX7_fails_7 ?_
  refine T_isub dX7_fails_8 ?_
  refine T_iret dX7_fails_9 rfl ?_
  exact rt_i
set_option maxRecDepth 20000 in
theorem c_X7_lost {S : Nat → Nat → Int32} {L : Nat → Nat → Int64} {R : Nat × Nat × Nat} {d : Nat} {f : Nat} : TT mX7_lost (d + 0) 0 [some (.ref 37), some (.int (nI f))] [] (S, L, R) (rt (some (.long LOSTV)) (uI S 37 0 (nI f), L, R)) := by
  refine T_ald0 dX7_lost_0 ?_
  refine T_ild1 dX7_lost_1 ?_
  refine T_putI dX7_lost_2 lf_X7_68 rfl rfl rfl rfl ?_
  refine T_ldc2 ct_X7_72 dX7_lost_5 ?_
  refine T_lret dX7_lost_8 rfl ?_
  exact rt_i
set_option maxRecDepth 20000 in
theorem c_X7_begins {S : Nat → Nat → Int32} {L : Nat → Nat → Int64} {R : Nat × Nat × Nat} {d : Nat} {n : Nat} : TT mX7_begins (d + 0) 0 [some (.ref 37), some (.int (nI n))] [] (S, L, R) (rt none (uI S 37 1 (tr (S 37 1) n), L, R)) := by
  refine T_ald0 dX7_begins_0 ?_
  refine T_bipush (v := nI 31) dX7_begins_1 (by decide) ?_
  refine T_ald0 dX7_begins_3 ?_
  refine T_getI dX7_begins_4 lf_X7_243 rfl rfl ?_
  refine T_imul dX7_begins_7 ?_
  refine T_ild1 dX7_begins_8 ?_
  refine T_iadd dX7_begins_9 ?_
  refine T_putI dX7_begins_10 lf_X7_243 rfl rfl rfl rfl ?_
  refine T_vret dX7_begins_13 rfl ?_
  exact rt_i
set_option maxRecDepth 20000 in
theorem c_X7_trace {S : Nat → Nat → Int32} {L : Nat → Nat → Int64} {R : Nat × Nat × Nat} {d : Nat}  : TT mX7_trace (d + 0) 0 [some (.ref 37)] [] (S, L, R) (rt (some (.int (S 37 1))) (S, L, R)) := by
  refine T_ald0 dX7_trace_0 ?_
  refine T_getI dX7_trace_1 lf_X7_243 rfl rfl ?_
  refine T_iret dX7_trace_4 rfl ?_
  exact rt_i
set_option maxRecDepth 20000 in
theorem c_X7_fault {S : Nat → Nat → Int32} {L : Nat → Nat → Int64} {R : Nat × Nat × Nat} {d : Nat}  : TT mX7_fault (d + 0) 0 [some (.ref 37)] [] (S, L, R) (rt (some (.int (S 37 0))) (S, L, R)) := by
  refine T_ald0 dX7_fault_0 ?_
  refine T_getI dX7_fault_1 lf_X7_68 rfl rfl ?_
  refine T_iret dX7_fault_4 rfl ?_
  exact rt_i
set_option maxRecDepth 20000 in
theorem c_X7_stateNow {S : Nat → Nat → Int32} {L : Nat → Nat → Int64} {R : Nat × Nat × Nat} {d : Nat} {a : Nat → Nat → Nat} (hM : MV S a) : TT mX7_stateNow (d + 0) 0 [some (.ref 37)] [] (S, L, R) (rt (some (.int (nI (a 3 0)))) (S, L, R)) := by
  obtain ⟨mg, mdn, mso, msa, mpe, mrn, mgu, mdi, mre⟩ := id hM
  refine T_bipush (v := nI 8) dX7_stateNow_0 (by decide) ?_
  refine T_ald0 dX7_stateNow_2 ?_
  refine T_getN dX7_stateNow_3 lf_X7_120 rfl rfl msa ?_
  refine T_imulN dX7_stateNow_6 ?_
  refine T_ald0 dX7_stateNow_7 ?_
  refine T_getN dX7_stateNow_8 lf_X7_126 rfl rfl mpe ?_
  refine T_iaddN dX7_stateNow_11 ?_
  refine T_iret dX7_stateNow_12 rfl ?_
  rw [show 8 * (a 3 0 / 8) + a 3 0 % 8 = a 3 0 by omega]; exact rt_i
set_option maxRecDepth 20000 in
theorem c_X7_minutesOf {S : Nat → Nat → Int32} {L : Nat → Nat → Int64} {R : Nat × Nat × Nat} {d : Nat} {a : Nat → Nat → Nat} (hM : MV S a) (hW : WL a) {k : Nat} (hk : k < a 0 0) : TT mX7_minutesOf (d + 0) 0 [some (.ref 37), some (.int (nI k)), none] [] (S, L, R) (rt (some (.int (nI (miN a k)))) (S, L, R)) := by
  obtain ⟨mg, mdn, mso, msa, mpe, mrn, mgu, mdi, mre⟩ := id hM
  obtain ⟨w3, w8, wd1, wd6, wso, wb, wbs, wbp, wne, wrn, wgu, wdi, wre⟩ := id hW
  have qk := wgu k hk
  refine T_ald0 dX7_minutesOf_0 ?_
  refine T_getR (q := 42) dX7_minutesOf_1 lf_X7_22 rfl rfl rfl ?_
  refine T_ild1 dX7_minutesOf_4 ?_
  refine T_ialdN dX7_minutesOf_5 rfl (by show _ < 8; omega) (mgu _ (by omega)).2.1 ?_
  refine T_ald0 dX7_minutesOf_6 ?_
  refine T_getN dX7_minutesOf_7 lf_X7_111 rfl rfl mso ?_
  refine T_iaddN dX7_minutesOf_10 ?_
  refine T_ist2 dX7_minutesOf_11 (by decide) rfl ?_
  refine T_ald0 dX7_minutesOf_12 ?_
  refine T_getR (q := 41) dX7_minutesOf_13 lf_X7_19 rfl rfl rfl ?_
  refine T_ild1 dX7_minutesOf_16 ?_
  refine T_ialdN dX7_minutesOf_17 rfl (by show _ < 8; omega) (mgu _ (by omega)).1 ?_
  refine T_iconst (v := nI 1) dX7_minutesOf_18 (by decide) ?_
  refine T_cneN (tgt := 34) dX7_minutesOf_19 (by decide) (by omega) (by omega) (fun h19 => ?_) (fun h19 => ?_)
  · refine T_ald0 dX7_minutesOf_34 ?_
    refine T_getR (q := 41) dX7_minutesOf_35 lf_X7_19 rfl rfl rfl ?_
    refine T_ild1 dX7_minutesOf_38 ?_
    refine T_ialdN dX7_minutesOf_39 rfl (by show _ < 8; omega) (mgu _ (by omega)).1 ?_
    refine T_ifneN (tgt := 47) dX7_minutesOf_40 (by decide) (by omega) (fun h40 => ?_) (fun h40 => ?_)
    · refine T_ild2 dX7_minutesOf_47 ?_
      refine T_iconst (v := nI 2) dX7_minutesOf_48 (by decide) ?_
      refine T_idivN dX7_minutesOf_49 (by omega) (by omega) (by omega) ?_
      refine T_iret dX7_minutesOf_50 rfl ?_
      first
        | (rw [show miN a k = a 6 k + a 2 0 - 1 from (if_neg (by omega)).trans (if_pos (by omega))]; exact rt_i)
        | (rw [show miN a k = 0 from (if_neg (by omega)).trans ((if_pos (by omega)).trans (by omega))]; exact rt_i)
        | (rw [show miN a k = a 6 k + a 2 0 from (if_neg (by omega)).trans (if_neg (by omega))]; exact rt_i)
        | (rw [show miN a k = (a 6 k + a 2 0) / 2 from if_pos (by omega)]; exact rt_i)
    · refine T_ild2 dX7_minutesOf_43 ?_
      refine T_goto (tgt := 50) dX7_minutesOf_44 (by decide) ?_
      refine T_iret dX7_minutesOf_50 rfl ?_
      first
        | (rw [show miN a k = a 6 k + a 2 0 - 1 from (if_neg (by omega)).trans (if_pos (by omega))]; exact rt_i)
        | (rw [show miN a k = 0 from (if_neg (by omega)).trans ((if_pos (by omega)).trans (by omega))]; exact rt_i)
        | (rw [show miN a k = a 6 k + a 2 0 from (if_neg (by omega)).trans (if_neg (by omega))]; exact rt_i)
        | (rw [show miN a k = (a 6 k + a 2 0) / 2 from if_pos (by omega)]; exact rt_i)
  · refine T_ild2 dX7_minutesOf_22 ?_
    refine T_ifleN (tgt := 32) dX7_minutesOf_23 (by decide) (by omega) (fun h23 => ?_) (fun h23 => ?_)
    · refine T_iconst (v := nI 0) dX7_minutesOf_32 (by decide) ?_
      refine T_iret dX7_minutesOf_33 rfl ?_
      first
        | (rw [show miN a k = a 6 k + a 2 0 - 1 from (if_neg (by omega)).trans (if_pos (by omega))]; exact rt_i)
        | (rw [show miN a k = 0 from (if_neg (by omega)).trans ((if_pos (by omega)).trans (by omega))]; exact rt_i)
        | (rw [show miN a k = a 6 k + a 2 0 from (if_neg (by omega)).trans (if_neg (by omega))]; exact rt_i)
        | (rw [show miN a k = (a 6 k + a 2 0) / 2 from if_pos (by omega)]; exact rt_i)
    · refine T_ild2 dX7_minutesOf_26 ?_
      refine T_iconst (v := nI 1) dX7_minutesOf_27 (by decide) ?_
      refine T_isubN dX7_minutesOf_28 (by omega) ?_
      refine T_goto (tgt := 33) dX7_minutesOf_29 (by decide) ?_
      refine T_iret dX7_minutesOf_33 rfl ?_
      first
        | (rw [show miN a k = a 6 k + a 2 0 - 1 from (if_neg (by omega)).trans (if_pos (by omega))]; exact rt_i)
        | (rw [show miN a k = 0 from (if_neg (by omega)).trans ((if_pos (by omega)).trans (by omega))]; exact rt_i)
        | (rw [show miN a k = a 6 k + a 2 0 from (if_neg (by omega)).trans (if_neg (by omega))]; exact rt_i)
        | (rw [show miN a k = (a 6 k + a 2 0) / 2 from if_pos (by omega)]; exact rt_i)
set_option maxRecDepth 20000 in
theorem c_X7_whoseBy {S : Nat → Nat → Int32} {L : Nat → Nat → Int64} {R : Nat × Nat × Nat} {d : Nat} {g : Nat} (mg : S 37 5 = nI g) (b8 : g ≤ 8) {k s t : Nat} (hk : k < g) (hs : s < g) (ht : t < g) : TT mX7_whoseBy (d + 0) 0 [some (.ref 37), some (.int (nI k)), some (.int (nI s)), some (.int (nI t)), none, none] [] (S, L, R) (rt (some (.int (who g k s t))) (S, L, R)) := by
  have q1 := stp_lt hs hk
  have q2 := stp_lt hs ht
  refine T_ild1 dX7_whoseBy_0 ?_
  refine T_ild2 dX7_whoseBy_1 ?_
  refine T_ceqN (tgt := 10) dX7_whoseBy_2 (by decide) (by omega) (by omega) (fun h2 => ?_) (fun h2 => ?_)
  · refine T_bipush (v := -9) dX7_whoseBy_10 (by decide) ?_
    refine T_iret dX7_whoseBy_12 rfl ?_
    first | (rw [show who g k s t = -9 from if_pos (by omega)]; exact rt_i) | (rw [show who g k s t = nI 0 from (if_neg (by omega)).trans (if_pos (by omega))]; exact rt_i) | (rw [show who g k s t = nI 1 from (if_neg (by omega)).trans (if_neg (by omega))]; exact rt_i)
  · refine T_ild1 dX7_whoseBy_5 ?_
    refine T_ild3 dX7_whoseBy_6 ?_
    refine T_cneN (tgt := 13) dX7_whoseBy_7 (by decide) (by omega) (by omega) (fun h7 => ?_) (fun h7 => ?_)
    · refine T_ild1 dX7_whoseBy_13 ?_
      refine T_ild2 dX7_whoseBy_14 ?_
      refine T_isub dX7_whoseBy_15 ?_
      refine T_ald0 dX7_whoseBy_16 ?_
      refine T_getN dX7_whoseBy_17 lf_X7_78 rfl rfl mg ?_
      refine T_iadd dX7_whoseBy_20 ?_
      rw [sub_add_n (by omega)]
      refine T_ald0 dX7_whoseBy_21 ?_
      refine T_getN dX7_whoseBy_22 lf_X7_78 rfl rfl mg ?_
      refine T_iremN dX7_whoseBy_25 (by omega) (by omega) (by omega) ?_
      rw [stp_mod hs hk]
      refine T_ist4 dX7_whoseBy_26 (by decide) rfl ?_
      refine T_ild3 dX7_whoseBy_28 ?_
      refine T_ild2 dX7_whoseBy_29 ?_
      refine T_isub dX7_whoseBy_30 ?_
      refine T_ald0 dX7_whoseBy_31 ?_
      refine T_getN dX7_whoseBy_32 lf_X7_78 rfl rfl mg ?_
      refine T_iadd dX7_whoseBy_35 ?_
      rw [sub_add_n (by omega)]
      refine T_ald0 dX7_whoseBy_36 ?_
      refine T_getN dX7_whoseBy_37 lf_X7_78 rfl rfl mg ?_
      refine T_iremN dX7_whoseBy_40 (by omega) (by omega) (by omega) ?_
      rw [stp_mod hs ht]
      refine T_ist5 dX7_whoseBy_41 (by decide) rfl ?_
      refine T_ild4 dX7_whoseBy_43 ?_
      refine T_ild5 dX7_whoseBy_45 ?_
      refine T_cgeN (tgt := 54) dX7_whoseBy_47 (by decide) (by omega) (by omega) (fun h47 => ?_) (fun h47 => ?_)
      · refine T_iconst (v := nI 1) dX7_whoseBy_54 (by decide) ?_
        refine T_iret dX7_whoseBy_55 rfl ?_
        first | (rw [show who g k s t = -9 from if_pos (by omega)]; exact rt_i) | (rw [show who g k s t = nI 0 from (if_neg (by omega)).trans (if_pos (by omega))]; exact rt_i) | (rw [show who g k s t = nI 1 from (if_neg (by omega)).trans (if_neg (by omega))]; exact rt_i)
      · refine T_iconst (v := nI 0) dX7_whoseBy_50 (by decide) ?_
        refine T_goto (tgt := 55) dX7_whoseBy_51 (by decide) ?_
        refine T_iret dX7_whoseBy_55 rfl ?_
        first | (rw [show who g k s t = -9 from if_pos (by omega)]; exact rt_i) | (rw [show who g k s t = nI 0 from (if_neg (by omega)).trans (if_pos (by omega))]; exact rt_i) | (rw [show who g k s t = nI 1 from (if_neg (by omega)).trans (if_neg (by omega))]; exact rt_i)
    · refine T_bipush (v := -9) dX7_whoseBy_10 (by decide) ?_
      refine T_iret dX7_whoseBy_12 rfl ?_
      first | (rw [show who g k s t = -9 from if_pos (by omega)]; exact rt_i) | (rw [show who g k s t = nI 0 from (if_neg (by omega)).trans (if_pos (by omega))]; exact rt_i) | (rw [show who g k s t = nI 1 from (if_neg (by omega)).trans (if_neg (by omega))]; exact rt_i)
set_option maxRecDepth 20000 in
theorem c_X7_landBy {S : Nat → Nat → Int32} {L : Nat → Nat → Int64} {R : Nat × Nat × Nat} {d : Nat} {a : Nat → Nat → Nat} (hM : MV S a) (hW : WL a) {b : Nat} (hb : b < 64) (hs : b / 8 < a 0 0) (hp : b % 8 < a 0 0) {c : Nat} : TT mX7_landBy (d + 1) 0 [some (.ref 37), some (.int (nI c)), some (.int (nI (b / 8))), some (.int (nI (b % 8))), none, none] [] (S, L, R) (rt (some (.int (nI (land a c b)))) (S, L, R)) := by
  obtain ⟨mg, mdn, mso, msa, mpe, mrn, mgu, mdi, mre⟩ := id hM
  obtain ⟨w3, w8, wd1, wd6, wso, wb, wbs, wbp, wne, wrn, wgu, wdi, wre⟩ := id hW
  refine T_iconst (v := nI 0) dX7_landBy_0 (by decide) ?_
  refine T_ist4 dX7_landBy_1 (by decide) rfl ?_
  refine T_iconst (v := nI 0) dX7_landBy_3 (by decide) ?_
  refine T_ist5 dX7_landBy_4 (by decide) rfl ?_
  skip
  refine up_ind (P := fun i => TT mX7_landBy (d + 1) 6 [some (.ref 37), some (.int (nI c)), some (.int (nI (b / 8))), some (.int (nI (b % 8))), some (.int (nI (sm (landF a c b) i))), some (.int (nI i))] [] (S, L, R) (rt (some (.int (nI (land a c b)))) (S, L, R))) (a 1 0) ?_ ?_
  · refine T_ild5 dX7_landBy_6 ?_
    refine T_ald0 dX7_landBy_8 ?_
    refine T_getN dX7_landBy_9 lf_X7_81 rfl rfl mdn ?_
    refine T_cgeN (tgt := 54) dX7_landBy_12 (by decide) (by omega) (by omega) (fun h12 => ?_) (fun h12 => by exfalso; omega)
    refine T_ild4 dX7_landBy_54 ?_
    refine T_iret dX7_landBy_56 rfl ?_
    exact rt_i
  · intro i hi ih
    have q1 := wdi i hi
    refine T_ild5 dX7_landBy_6 ?_
    refine T_ald0 dX7_landBy_8 ?_
    refine T_getN dX7_landBy_9 lf_X7_81 rfl rfl mdn ?_
    refine T_cgeN (tgt := 54) dX7_landBy_12 (by decide) (by omega) (by omega) (fun h12 => by exfalso; omega) (fun h12 => ?_)
    refine T_ild4 dX7_landBy_15 ?_
    refine T_ald0 dX7_landBy_17 ?_
    refine T_ald0 dX7_landBy_18 ?_
    refine T_getR (q := 44) dX7_landBy_19 lf_X7_28 rfl rfl rfl ?_
    refine T_ild5 dX7_landBy_22 ?_
    refine T_ialdN dX7_landBy_24 rfl (by show _ < 6; omega) (mdi _ (by omega)).1 ?_
    refine T_ild2 dX7_landBy_25 ?_
    refine T_ild3 dX7_landBy_26 ?_
    refine T_invV3i (M' := mX7_whoseBy) dX7_landBy_27 ml_X7_149 imX7_whoseBy rfl (Nat.le_of_ble_eq_true rfl) rfl (Nat.le_of_ble_eq_true rfl) rfl (Nat.le_of_ble_eq_true rfl) (c_X7_whoseBy mg w8 (by omega) hs hp) ?_
    refine T_ild1 dX7_landBy_30 ?_
    refine T_cne (tgt := 44) dX7_landBy_31 (by decide) (fun h31 => ?_) (fun h31 => ?_)
    · refine T_iconst (v := nI 0) dX7_landBy_44 (by decide) ?_
      refine T_iaddN dX7_landBy_45 ?_
      refine T_ist4 dX7_landBy_46 (by decide) rfl ?_
      refine T_inc5N dX7_landBy_48 (by decide) rfl ?_
      refine T_goto (tgt := 6) dX7_landBy_51 (by decide) ?_
      first | (rw [sm_t (by assumption)] at ih; exact ih) | (rw [sm_f (by assumption)] at ih; exact ih)
    · refine T_ald0 dX7_landBy_34 ?_
      refine T_getR (q := 45) dX7_landBy_35 lf_X7_31 rfl rfl rfl ?_
      refine T_ild5 dX7_landBy_38 ?_
      refine T_ialdN dX7_landBy_40 rfl (by show _ < 6; omega) (mdi _ (by omega)).2 ?_
      refine T_goto (tgt := 45) dX7_landBy_41 (by decide) ?_
      refine T_iaddN dX7_landBy_45 ?_
      refine T_ist4 dX7_landBy_46 (by decide) rfl ?_
      refine T_inc5N dX7_landBy_48 (by decide) rfl ?_
      refine T_goto (tgt := 6) dX7_landBy_51 (by decide) ?_
      first | (rw [sm_t (by assumption)] at ih; exact ih) | (rw [sm_f (by assumption)] at ih; exact ih)
set_option maxRecDepth 20000 in
theorem c_X7_next {S : Nat → Nat → Int32} {L : Nat → Nat → Int64} {R : Nat × Nat × Nat} {d : Nat} {g : Nat} (mg : S 37 5 = nI g) (b8 : g ≤ 8) {k r : Nat} (hk : k < g) (hr : r < 4) : TT mX7_next (d + 0) 0 [some (.ref 37), some (.int (nI k)), some (.int (nI r))] [] (S, L, R) (rt (some (.int (nI (nb g k r)))) (S, L, R)) := by
  refine T_ild2 dX7_next_0 ?_
  refine T_iconst (v := nI 2) dX7_next_1 (by decide) ?_
  refine T_iremN dX7_next_2 (by omega) (by omega) (by omega) ?_
  refine T_ifneN (tgt := 22) dX7_next_3 (by decide) (by omega) (fun h3 => ?_) (fun h3 => ?_)
  · refine T_ild1 dX7_next_22 ?_
    refine T_iconst (v := nI 1) dX7_next_23 (by decide) ?_
    refine T_iaddN dX7_next_24 ?_
    refine T_ald0 dX7_next_25 ?_
    refine T_getN dX7_next_26 lf_X7_78 rfl rfl mg ?_
    refine T_iremN dX7_next_29 (by omega) (by omega) (by omega) ?_
    refine T_iret dX7_next_30 rfl ?_
    first | (rw [nb_even hk (by omega)]; exact rt_i) | (rw [nb_odd hk (by omega)]; exact rt_i)
  · refine T_ild1 dX7_next_6 ?_
    refine T_ald0 dX7_next_7 ?_
    refine T_getN dX7_next_8 lf_X7_78 rfl rfl mg ?_
    refine T_iaddN dX7_next_11 ?_
    refine T_iconst (v := nI 1) dX7_next_12 (by decide) ?_
    refine T_isubN dX7_next_13 (by omega) ?_
    refine T_ald0 dX7_next_14 ?_
    refine T_getN dX7_next_15 lf_X7_78 rfl rfl mg ?_
    refine T_iremN dX7_next_18 (by omega) (by omega) (by omega) ?_
    refine T_goto (tgt := 30) dX7_next_19 (by decide) ?_
    refine T_iret dX7_next_30 rfl ?_
    first | (rw [nb_even hk (by omega)]; exact rt_i) | (rw [nb_odd hk (by omega)]; exact rt_i)
set_option maxRecDepth 20000 in
theorem c_X7_behind {S : Nat → Nat → Int32} {L : Nat → Nat → Int64} {R : Nat × Nat × Nat} {d : Nat} {g : Nat} (mg : S 37 5 = nI g) (b8 : g ≤ 8) {b r : Nat} (hb : b < 64) (hs : b / 8 < g) (hp : b % 8 < g) (hr : r < 4) : TT mX7_behind (d + 1) 0 [some (.ref 37), some (.int (nI b)), some (.int (nI r)), none, none, none] [] (S, L, R) (rt (some (.int (oI (beh g b r)))) (S, L, R)) := by
  have q1 := nb_lt (r := r) hs
  have q2 := nb_lt (r := r) hp
  refine T_ild1 dX7_behind_0 ?_
  refine T_bipush (v := nI 8) dX7_behind_1 (by decide) ?_
  refine T_idivN dX7_behind_3 (by omega) (by omega) (by omega) ?_
  refine T_ist3 dX7_behind_4 (by decide) rfl ?_
  refine T_ild1 dX7_behind_5 ?_
  refine T_bipush (v := nI 8) dX7_behind_6 (by decide) ?_
  refine T_iremN dX7_behind_8 (by omega) (by omega) (by omega) ?_
  refine T_ist4 dX7_behind_9 (by decide) rfl ?_
  refine T_ald0 dX7_behind_11 ?_
  refine T_ild2 dX7_behind_12 ?_
  refine T_iconst (v := nI 2) dX7_behind_13 (by decide) ?_
  refine T_cgeN (tgt := 21) dX7_behind_14 (by decide) (by omega) (by omega) (fun h14 => ?_) (fun h14 => ?_)
  · refine T_ild4 dX7_behind_21 ?_
    refine T_ild2 dX7_behind_23 ?_
    refine T_invV2i (M' := mX7_next) dX7_behind_24 ml_X7_168 imX7_next rfl (Nat.le_of_ble_eq_true rfl) rfl (Nat.le_of_ble_eq_true rfl) rfl (Nat.le_of_ble_eq_true rfl) (c_X7_next mg b8 (by omega) hr) ?_
    refine T_ist5 dX7_behind_27 (by decide) rfl ?_
    refine T_ild5 dX7_behind_29 ?_
    refine T_ild2 dX7_behind_31 ?_
    refine T_iconst (v := nI 2) dX7_behind_32 (by decide) ?_
    refine T_cgeN (tgt := 41) dX7_behind_33 (by decide) (by omega) (by omega) (fun h33 => ?_) (fun h33 => ?_)
    · refine T_ild3 dX7_behind_41 ?_
      refine T_cneN (tgt := 48) dX7_behind_42 (by decide) (by omega) (by omega) (fun h42 => ?_) (fun h42 => ?_)
      · refine T_ild2 dX7_behind_48 ?_
        refine T_iconst (v := nI 2) dX7_behind_49 (by decide) ?_
        refine T_cgeN (tgt := 64) dX7_behind_50 (by decide) (by omega) (by omega) (fun h50 => ?_) (fun h50 => ?_)
        · refine T_bipush (v := nI 8) dX7_behind_64 (by decide) ?_
          refine T_ild3 dX7_behind_66 ?_
          refine T_imulN dX7_behind_67 ?_
          refine T_ild5 dX7_behind_68 ?_
          refine T_iaddN dX7_behind_70 ?_
          refine T_iret dX7_behind_71 rfl ?_
          first | (rw [show beh g b r = none from (if_pos (by omega)).trans (if_pos (by omega))]; exact rt_i) | (rw [show beh g b r = none from (if_neg (by omega)).trans (if_pos (by omega))]; exact rt_i) | (rw [show beh g b r = some (8 * nb g (b / 8) r + b % 8) from (if_pos (by omega)).trans (if_neg (by omega))]; exact rt_i) | (rw [show beh g b r = some (8 * (b / 8) + nb g (b % 8) r) from (if_neg (by omega)).trans (if_neg (by omega))]; exact rt_i) | (exfalso; omega)
        · refine T_bipush (v := nI 8) dX7_behind_53 (by decide) ?_
          refine T_ild5 dX7_behind_55 ?_
          refine T_imulN dX7_behind_57 ?_
          refine T_ild4 dX7_behind_58 ?_
          refine T_iaddN dX7_behind_60 ?_
          refine T_goto (tgt := 71) dX7_behind_61 (by decide) ?_
          refine T_iret dX7_behind_71 rfl ?_
          first | (rw [show beh g b r = none from (if_pos (by omega)).trans (if_pos (by omega))]; exact rt_i) | (rw [show beh g b r = none from (if_neg (by omega)).trans (if_pos (by omega))]; exact rt_i) | (rw [show beh g b r = some (8 * nb g (b / 8) r + b % 8) from (if_pos (by omega)).trans (if_neg (by omega))]; exact rt_i) | (rw [show beh g b r = some (8 * (b / 8) + nb g (b % 8) r) from (if_neg (by omega)).trans (if_neg (by omega))]; exact rt_i) | (exfalso; omega)
      · refine T_bipush (v := -9) dX7_behind_45 (by decide) ?_
        refine T_iret dX7_behind_47 rfl ?_
        first | (rw [show beh g b r = none from (if_pos (by omega)).trans (if_pos (by omega))]; exact rt_i) | (rw [show beh g b r = none from (if_neg (by omega)).trans (if_pos (by omega))]; exact rt_i) | (rw [show beh g b r = some (8 * nb g (b / 8) r + b % 8) from (if_pos (by omega)).trans (if_neg (by omega))]; exact rt_i) | (rw [show beh g b r = some (8 * (b / 8) + nb g (b % 8) r) from (if_neg (by omega)).trans (if_neg (by omega))]; exact rt_i) | (exfalso; omega)
    · refine T_ild4 dX7_behind_36 ?_
      refine T_goto (tgt := 42) dX7_behind_38 (by decide) ?_
      refine T_cneN (tgt := 48) dX7_behind_42 (by decide) (by omega) (by omega) (fun h42 => ?_) (fun h42 => ?_)
      · refine T_ild2 dX7_behind_48 ?_
        refine T_iconst (v := nI 2) dX7_behind_49 (by decide) ?_
        refine T_cgeN (tgt := 64) dX7_behind_50 (by decide) (by omega) (by omega) (fun h50 => ?_) (fun h50 => ?_)
        · refine T_bipush (v := nI 8) dX7_behind_64 (by decide) ?_
          refine T_ild3 dX7_behind_66 ?_
          refine T_imulN dX7_behind_67 ?_
          refine T_ild5 dX7_behind_68 ?_
          refine T_iaddN dX7_behind_70 ?_
          refine T_iret dX7_behind_71 rfl ?_
          first | (rw [show beh g b r = none from (if_pos (by omega)).trans (if_pos (by omega))]; exact rt_i) | (rw [show beh g b r = none from (if_neg (by omega)).trans (if_pos (by omega))]; exact rt_i) | (rw [show beh g b r = some (8 * nb g (b / 8) r + b % 8) from (if_pos (by omega)).trans (if_neg (by omega))]; exact rt_i) | (rw [show beh g b r = some (8 * (b / 8) + nb g (b % 8) r) from (if_neg (by omega)).trans (if_neg (by omega))]; exact rt_i) | (exfalso; omega)
        · refine T_bipush (v := nI 8) dX7_behind_53 (by decide) ?_
          refine T_ild5 dX7_behind_55 ?_
          refine T_imulN dX7_behind_57 ?_
          refine T_ild4 dX7_behind_58 ?_
          refine T_iaddN dX7_behind_60 ?_
          refine T_goto (tgt := 71) dX7_behind_61 (by decide) ?_
          refine T_iret dX7_behind_71 rfl ?_
          first | (rw [show beh g b r = none from (if_pos (by omega)).trans (if_pos (by omega))]; exact rt_i) | (rw [show beh g b r = none from (if_neg (by omega)).trans (if_pos (by omega))]; exact rt_i) | (rw [show beh g b r = some (8 * nb g (b / 8) r + b % 8) from (if_pos (by omega)).trans (if_neg (by omega))]; exact rt_i) | (rw [show beh g b r = some (8 * (b / 8) + nb g (b % 8) r) from (if_neg (by omega)).trans (if_neg (by omega))]; exact rt_i) | (exfalso; omega)
      · refine T_bipush (v := -9) dX7_behind_45 (by decide) ?_
        refine T_iret dX7_behind_47 rfl ?_
        first | (rw [show beh g b r = none from (if_pos (by omega)).trans (if_pos (by omega))]; exact rt_i) | (rw [show beh g b r = none from (if_neg (by omega)).trans (if_pos (by omega))]; exact rt_i) | (rw [show beh g b r = some (8 * nb g (b / 8) r + b % 8) from (if_pos (by omega)).trans (if_neg (by omega))]; exact rt_i) | (rw [show beh g b r = some (8 * (b / 8) + nb g (b % 8) r) from (if_neg (by omega)).trans (if_neg (by omega))]; exact rt_i) | (exfalso; omega)
  · refine T_ild3 dX7_behind_17 ?_
    refine T_goto (tgt := 23) dX7_behind_18 (by decide) ?_
    refine T_ild2 dX7_behind_23 ?_
    refine T_invV2i (M' := mX7_next) dX7_behind_24 ml_X7_168 imX7_next rfl (Nat.le_of_ble_eq_true rfl) rfl (Nat.le_of_ble_eq_true rfl) rfl (Nat.le_of_ble_eq_true rfl) (c_X7_next mg b8 (by omega) hr) ?_
    refine T_ist5 dX7_behind_27 (by decide) rfl ?_
    refine T_ild5 dX7_behind_29 ?_
    refine T_ild2 dX7_behind_31 ?_
    refine T_iconst (v := nI 2) dX7_behind_32 (by decide) ?_
    refine T_cgeN (tgt := 41) dX7_behind_33 (by decide) (by omega) (by omega) (fun h33 => ?_) (fun h33 => ?_)
    · refine T_ild3 dX7_behind_41 ?_
      refine T_cneN (tgt := 48) dX7_behind_42 (by decide) (by omega) (by omega) (fun h42 => ?_) (fun h42 => ?_)
      · refine T_ild2 dX7_behind_48 ?_
        refine T_iconst (v := nI 2) dX7_behind_49 (by decide) ?_
        refine T_cgeN (tgt := 64) dX7_behind_50 (by decide) (by omega) (by omega) (fun h50 => ?_) (fun h50 => ?_)
        · refine T_bipush (v := nI 8) dX7_behind_64 (by decide) ?_
          refine T_ild3 dX7_behind_66 ?_
          refine T_imulN dX7_behind_67 ?_
          refine T_ild5 dX7_behind_68 ?_
          refine T_iaddN dX7_behind_70 ?_
          refine T_iret dX7_behind_71 rfl ?_
          first | (rw [show beh g b r = none from (if_pos (by omega)).trans (if_pos (by omega))]; exact rt_i) | (rw [show beh g b r = none from (if_neg (by omega)).trans (if_pos (by omega))]; exact rt_i) | (rw [show beh g b r = some (8 * nb g (b / 8) r + b % 8) from (if_pos (by omega)).trans (if_neg (by omega))]; exact rt_i) | (rw [show beh g b r = some (8 * (b / 8) + nb g (b % 8) r) from (if_neg (by omega)).trans (if_neg (by omega))]; exact rt_i) | (exfalso; omega)
        · refine T_bipush (v := nI 8) dX7_behind_53 (by decide) ?_
          refine T_ild5 dX7_behind_55 ?_
          refine T_imulN dX7_behind_57 ?_
          refine T_ild4 dX7_behind_58 ?_
          refine T_iaddN dX7_behind_60 ?_
          refine T_goto (tgt := 71) dX7_behind_61 (by decide) ?_
          refine T_iret dX7_behind_71 rfl ?_
          first | (rw [show beh g b r = none from (if_pos (by omega)).trans (if_pos (by omega))]; exact rt_i) | (rw [show beh g b r = none from (if_neg (by omega)).trans (if_pos (by omega))]; exact rt_i) | (rw [show beh g b r = some (8 * nb g (b / 8) r + b % 8) from (if_pos (by omega)).trans (if_neg (by omega))]; exact rt_i) | (rw [show beh g b r = some (8 * (b / 8) + nb g (b % 8) r) from (if_neg (by omega)).trans (if_neg (by omega))]; exact rt_i) | (exfalso; omega)
      · refine T_bipush (v := -9) dX7_behind_45 (by decide) ?_
        refine T_iret dX7_behind_47 rfl ?_
        first | (rw [show beh g b r = none from (if_pos (by omega)).trans (if_pos (by omega))]; exact rt_i) | (rw [show beh g b r = none from (if_neg (by omega)).trans (if_pos (by omega))]; exact rt_i) | (rw [show beh g b r = some (8 * nb g (b / 8) r + b % 8) from (if_pos (by omega)).trans (if_neg (by omega))]; exact rt_i) | (rw [show beh g b r = some (8 * (b / 8) + nb g (b % 8) r) from (if_neg (by omega)).trans (if_neg (by omega))]; exact rt_i) | (exfalso; omega)
    · refine T_ild4 dX7_behind_36 ?_
      refine T_goto (tgt := 42) dX7_behind_38 (by decide) ?_
      refine T_cneN (tgt := 48) dX7_behind_42 (by decide) (by omega) (by omega) (fun h42 => ?_) (fun h42 => ?_)
      · refine T_ild2 dX7_behind_48 ?_
        refine T_iconst (v := nI 2) dX7_behind_49 (by decide) ?_
        refine T_cgeN (tgt := 64) dX7_behind_50 (by decide) (by omega) (by omega) (fun h50 => ?_) (fun h50 => ?_)
        · refine T_bipush (v := nI 8) dX7_behind_64 (by decide) ?_
          refine T_ild3 dX7_behind_66 ?_
          refine T_imulN dX7_behind_67 ?_
          refine T_ild5 dX7_behind_68 ?_
          refine T_iaddN dX7_behind_70 ?_
          refine T_iret dX7_behind_71 rfl ?_
          first | (rw [show beh g b r = none from (if_pos (by omega)).trans (if_pos (by omega))]; exact rt_i) | (rw [show beh g b r = none from (if_neg (by omega)).trans (if_pos (by omega))]; exact rt_i) | (rw [show beh g b r = some (8 * nb g (b / 8) r + b % 8) from (if_pos (by omega)).trans (if_neg (by omega))]; exact rt_i) | (rw [show beh g b r = some (8 * (b / 8) + nb g (b % 8) r) from (if_neg (by omega)).trans (if_neg (by omega))]; exact rt_i) | (exfalso; omega)
        · refine T_bipush (v := nI 8) dX7_behind_53 (by decide) ?_
          refine T_ild5 dX7_behind_55 ?_
          refine T_imulN dX7_behind_57 ?_
          refine T_ild4 dX7_behind_58 ?_
          refine T_iaddN dX7_behind_60 ?_
          refine T_goto (tgt := 71) dX7_behind_61 (by decide) ?_
          refine T_iret dX7_behind_71 rfl ?_
          first | (rw [show beh g b r = none from (if_pos (by omega)).trans (if_pos (by omega))]; exact rt_i) | (rw [show beh g b r = none from (if_neg (by omega)).trans (if_pos (by omega))]; exact rt_i) | (rw [show beh g b r = some (8 * nb g (b / 8) r + b % 8) from (if_pos (by omega)).trans (if_neg (by omega))]; exact rt_i) | (rw [show beh g b r = some (8 * (b / 8) + nb g (b % 8) r) from (if_neg (by omega)).trans (if_neg (by omega))]; exact rt_i) | (exfalso; omega)
      · refine T_bipush (v := -9) dX7_behind_45 (by decide) ?_
        refine T_iret dX7_behind_47 rfl ?_
        first | (rw [show beh g b r = none from (if_pos (by omega)).trans (if_pos (by omega))]; exact rt_i) | (rw [show beh g b r = none from (if_neg (by omega)).trans (if_pos (by omega))]; exact rt_i) | (rw [show beh g b r = some (8 * nb g (b / 8) r + b % 8) from (if_pos (by omega)).trans (if_neg (by omega))]; exact rt_i) | (rw [show beh g b r = some (8 * (b / 8) + nb g (b % 8) r) from (if_neg (by omega)).trans (if_neg (by omega))]; exact rt_i) | (exfalso; omega)
set_option maxRecDepth 20000 in
theorem c_mb_n {S : Nat → Nat → Int32} {L : Nat → Nat → Int64} {R : Nat × Nat × Nat} {d : Nat} {g : Nat} (mg : S 37 5 = nI g) (b8 : g ≤ 8) {b r : Nat} (hb : b < 64) (hs : b / 8 < g) (hp : b % 8 < g) (hr : r < 4) (h : beh g b r = none) : TT mX7_behind (d + 1) 0 [some (.ref 37), some (.int (nI b)), some (.int (nI r)), none, none, none] [] (S, L, R) (rt (some (.int (-9))) (S, L, R)) := by
  have q := c_X7_behind (L := L) (R := R) (d := d) mg b8 hb hs hp hr
  rw [h] at q; exact q
set_option maxRecDepth 20000 in
theorem c_mb_s {S : Nat → Nat → Int32} {L : Nat → Nat → Int64} {R : Nat × Nat × Nat} {d : Nat} {g : Nat} (mg : S 37 5 = nI g) (b8 : g ≤ 8) {b r : Nat} (hb : b < 64) (hs : b / 8 < g) (hp : b % 8 < g) (hr : r < 4) {b' : Nat} (h : beh g b r = some b') : TT mX7_behind (d + 1) 0 [some (.ref 37), some (.int (nI b)), some (.int (nI r)), none, none, none] [] (S, L, R) (rt (some (.int (nI b'))) (S, L, R)) := by
  have q := c_X7_behind (L := L) (R := R) (d := d) mg b8 hb hs hp hr
  rw [h] at q; exact q
set_option maxRecDepth 20000 in
theorem c_X7_takes {S : Nat → Nat → Int32} {L : Nat → Nat → Int64} {R : Nat × Nat × Nat} {d : Nat} {a : Nat → Nat → Nat} (hM : MV S a) (hW : WL a) {b : Nat} (hb : b < 64) (hs : b / 8 < a 0 0) (hp : b % 8 < a 0 0) {r : Nat} (hr : r < 4) : TT mX7_takes (d + 1) 0 [some (.ref 37), some (.int (nI b)), some (.int (nI r))] [] (S, L, R) (rt (some (.int (nI (miN a (stand b r))))) (S, L, R)) := by
  obtain ⟨mg, mdn, mso, msa, mpe, mrn, mgu, mdi, mre⟩ := id hM
  obtain ⟨w3, w8, wd1, wd6, wso, wb, wbs, wbp, wne, wrn, wgu, wdi, wre⟩ := id hW
  refine T_ald0 dX7_takes_0 ?_
  refine T_ild2 dX7_takes_1 ?_
  refine T_iconst (v := nI 2) dX7_takes_2 (by decide) ?_
  refine T_cgeN (tgt := 13) dX7_takes_3 (by decide) (by omega) (by omega) (fun h3 => ?_) (fun h3 => ?_)
  · refine T_ild1 dX7_takes_13 ?_
    refine T_bipush (v := nI 8) dX7_takes_14 (by decide) ?_
    refine T_iremN dX7_takes_16 (by omega) (by omega) (by omega) ?_
    refine T_invV1i (M' := mX7_minutesOf) dX7_takes_17 ml_X7_156 imX7_minutesOf rfl (Nat.le_of_ble_eq_true rfl) rfl (Nat.le_of_ble_eq_true rfl) rfl (Nat.le_of_ble_eq_true rfl) (c_X7_minutesOf hM hW (by omega)) ?_
    refine T_iret dX7_takes_20 rfl ?_
    first | (rw [show stand b r = b / 8 from if_pos (by omega)]; exact rt_i) | (rw [show stand b r = b % 8 from if_neg (by omega)]; exact rt_i)
  · refine T_ild1 dX7_takes_6 ?_
    refine T_bipush (v := nI 8) dX7_takes_7 (by decide) ?_
    refine T_idivN dX7_takes_9 (by omega) (by omega) (by omega) ?_
    refine T_goto (tgt := 17) dX7_takes_10 (by decide) ?_
    refine T_invV1i (M' := mX7_minutesOf) dX7_takes_17 ml_X7_156 imX7_minutesOf rfl (Nat.le_of_ble_eq_true rfl) rfl (Nat.le_of_ble_eq_true rfl) rfl (Nat.le_of_ble_eq_true rfl) (c_X7_minutesOf hM hW (by omega)) ?_
    refine T_iret dX7_takes_20 rfl ?_
    first | (rw [show stand b r = b / 8 from if_pos (by omega)]; exact rt_i) | (rw [show stand b r = b % 8 from if_neg (by omega)]; exact rt_i)
