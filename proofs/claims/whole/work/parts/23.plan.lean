/-! the class's planner -/
abbrev FAR : Nat := 1000000000
def nxA (a : Nat → Nat → Nat) (b r : Nat) : Option Nat := if isB (a 0 0) b then beh (a 0 0) b r else none
def mfA (a : Nat → Nat → Nat) (b r : Nat) : Nat := if isB (a 0 0) b then miN a (stand b r) else 0
def lv (nx : Nat → Nat → Option Nat) (mf : Nat → Nat → Nat) (K F : Nat) (lb : Nat → Nat) (b r : Nat) : Nat := match nx b r with
  | none => F
  | some t => if lb t = F then F else lb t + (K * mf b r + 1)
def mt (nx : Nat → Nat → Option Nat) (mf : Nat → Nat → Nat) (K : Nat) (lb : Nat → Nat) (b r : Nat) : Bool := match nx b r with
  | none => false
  | some t => decide (lb t + (K * mf b r + 1) = lb b)
def frK (nx : Nat → Nat → Option Nat) (mf : Nat → Nat → Nat) (K : Nat) (lb : Nat → Nat) (b : Nat) : Nat := if mt nx mf K lb b 0 then 0 else if mt nx mf K lb b 1 then 1 else if mt nx mf K lb b 2 then 2 else 3
theorem isB_t {g b : Nat} (h : isB g b = true) : b / 8 < g ∧ b % 8 < g ∧ b / 8 ≠ b % 8 := by
  simp only [isB, Bool.and_eq_true, decide_eq_true_eq] at h; exact ⟨h.1.1, h.1.2, h.2⟩
theorem isB_i {g b : Nat} (h1 : b / 8 < g) (h2 : b % 8 < g) (h3 : b / 8 ≠ b % 8) : isB g b = true := by
  simp only [isB, Bool.and_eq_true, decide_eq_true_eq]; exact ⟨⟨h1, h2⟩, h3⟩
theorem nxA_B {a : Nat → Nat → Nat} {b r : Nat} (h : isB (a 0 0) b = true) : nxA a b r = beh (a 0 0) b r := if_pos h
theorem nxA_ok {a : Nat → Nat → Nat} (hg : a 0 0 ≤ 8) : GOK (nxA a) := by
  intro b r t hb h
  unfold nxA at h
  split at h
  · rename_i q
    have q := isB_t q
    exact (beh_some hg q.1 q.2.1 h).1
  · cases h
theorem nxA_isB {a : Nat → Nat → Nat} (hg : a 0 0 ≤ 8) {b r t : Nat} (h : nxA a b r = some t) : isB (a 0 0) t = true := by
  unfold nxA at h
  split at h
  · rename_i q
    have q := isB_t q
    have z := beh_some hg q.1 q.2.1 h
    exact isB_i z.2.1 z.2.2.1 z.2.2.2
  · cases h
theorem mfA_le {a : Nat → Nat → Nat} (hW : WL a) (b r : Nat) : mfA a b r ≤ 12 := by
  unfold mfA
  split
  · rename_i q
    have q := isB_t q
    have hs : stand b r < a 0 0 := by unfold stand; split <;> omega
    have h1 := hW.2.2.2.2.2.2.2.2.2.2.1 _ hs
    have h2 := minN_le (k := a 5 (stand b r)) (m := a 6 (stand b r)) (so := a 2 0)
    have h3 : a 2 0 ≤ 3 := hW.2.2.2.2.1
    unfold miN; omega
  · omega
/-- labels in the planner's row -/
def LB (S : Nat → Nat → Int32) (q : Nat) (lb : Nat → Nat) : Prop := ∀ x, x < 64 → S q x = nI (lb x)
theorem LB_up {S : Nat → Nat → Int32} {q b v : Nat} {lb : Nat → Nat} (h : LB S q lb) : LB (uI S q b (nI v)) q (upN lb b v) := by
  intro x hx
  simp only [uI, upN, if_true]
  by_cases e : x = b
  · rw [if_pos e, if_pos e]
  · rw [if_neg e, if_neg e]; exact h x hx
section PLT
variable {nx : Nat → Nat → Option Nat} {gl : Nat → Bool} {mf : Nat → Nat → Nat} {K F : Nat} {lb : Nat → Nat}
theorem lv_rch {b r : Nat} (hF : ∀ x, x < 64 → lb x ≤ F) (hok : GOK nx) (hb : b < 64) : lv nx mf K F lb b r < lb b ↔ rch nx mf K lb b r = true := by
  unfold lv rch
  have hbF := hF b hb
  cases e : nx b r with
  | none => simp; exact hbF
  | some t =>
    have htF := hF t (hok _ _ _ hb e)
    simp only [decide_eq_true_eq]
    split <;> omega
theorem rlx_t {b r : Nat} (hF : ∀ x, x < 64 → lb x ≤ F) (hok : GOK nx) (hb : b < 64) (h : rch nx mf K lb b r = true) : rlx nx mf K lb b r = upN lb b (lv nx mf K F lb b r) := by
  unfold rch at h
  unfold rlx lv
  have hbF := hF b hb
  cases e : nx b r with
  | none => rw [e] at h; cases h
  | some t =>
    rw [e] at h
    have h := of_decide_eq_true h
    have : ¬ lb t = F := by omega
    simp only [if_pos h, if_neg this]
theorem rlx_f {b r : Nat} (h : rch nx mf K lb b r = false) : rlx nx mf K lb b r = lb := by
  unfold rch at h
  unfold rlx
  cases e : nx b r with
  | none => rfl
  | some t => rw [e] at h; exact if_neg (of_decide_eq_false h)
theorem skip4 {b : Nat} (h : ∀ r, r < 4 → rch nx mf K (swp nx mf K lb (4 * b)) b r = false) : ∀ i, i ≤ 4 → swp nx mf K lb (4 * b + i) = swp nx mf K lb (4 * b) ∧ swc nx mf K lb (4 * b + i) = swc nx mf K lb (4 * b)
  | 0, _ => ⟨rfl, rfl⟩
  | i + 1, hi => by
    obtain ⟨h1, h2⟩ := skip4 h i (by omega)
    have hh := h i (by omega)
    have e1 : (4 * b + i) / 4 = b := by omega
    have e2 : (4 * b + i) % 4 = i := by omega
    refine ⟨?_, ?_⟩
    · show rlx nx mf K (swp nx mf K lb (4 * b + i)) ((4 * b + i) / 4) ((4 * b + i) % 4) = _
      rw [h1, e1, e2]; exact rlx_f hh
    · show (rch nx mf K (swp nx mf K lb (4 * b + i)) ((4 * b + i) / 4) ((4 * b + i) % 4) || swc nx mf K lb (4 * b + i)) = _
      rw [h1, e1, e2, hh, h2]; rfl
theorem swp_1 {b i : Nat} (hi : i < 4) : swp nx mf K lb (4 * b + (i + 1)) = rlx nx mf K (swp nx mf K lb (4 * b + i)) b i ∧ swc nx mf K lb (4 * b + (i + 1)) = (rch nx mf K (swp nx mf K lb (4 * b + i)) b i || swc nx mf K lb (4 * b + i)) := by
  have e1 : (4 * b + i) / 4 = b := by omega
  have e2 : (4 * b + i) % 4 = i := by omega
  refine ⟨?_, ?_⟩
  · show rlx nx mf K (swp nx mf K lb (4 * b + i)) ((4 * b + i) / 4) ((4 * b + i) % 4) = _
    rw [e1, e2]
  · show (rch nx mf K (swp nx mf K lb (4 * b + i)) ((4 * b + i) / 4) ((4 * b + i) % 4) || swc nx mf K lb (4 * b + i)) = _
    rw [e1, e2]
theorem rch_0 {b r : Nat} (h : lb b = 0) : rch nx mf K lb b r = false := by
  unfold rch
  cases e : nx b r with
  | none => rfl
  | some t => exact decide_eq_false (by omega)
theorem rch_n {b r : Nat} (h : nx b r = none) : rch nx mf K lb b r = false := by
  unfold rch; rw [h]
theorem lv_mt {b r : Nat} (hF : lb b < F) : lv nx mf K F lb b r = lb b ↔ mt nx mf K lb b r = true := by
  unfold lv mt
  cases e : nx b r with
  | none => simp; omega
  | some t => simp only [decide_eq_true_eq]; split <;> omega
theorem mt_iff (hok : GOK nx) (hB : BIG mf K F) (hf : FIN nx gl mf K F lb) {b M k r : Nat} (hb : b < 64) (hl : LX nx gl mf b M (k + 1)) : mt nx mf K lb b r = true ↔ ∃ t M', nx b r = some t ∧ LX nx gl mf t M' k ∧ M = M' + mf b r := by
  have hlb := (hf b hb).1 _ _ hl
  have hF := opt_lt hok hB hb hl
  have hk := LX_k hok hb hl
  unfold mt
  constructor
  · intro h
    cases e : nx b r with
    | none => rw [e] at h; cases h
    | some t =>
      rw [e] at h
      have h := of_decide_eq_true h
      have ht := hok _ _ _ hb e
      have hr : ∃ k M, CC nx gl mf k t M := Classical.byContradiction fun q => by
        have := (hf t ht).2 q
        omega
      obtain ⟨M', k', l'⟩ := LX_ex hr
      have e1 := (hf t ht).1 _ _ l'
      have hk' := LX_k hok ht l'
      have hK := hB.1
      have e2 : K * (M' + mf b r) + (k' + 1) = K * M + (k + 1) := by rw [Nat.mul_add]; omega
      obtain ⟨q1, q2⟩ := enc_inj (by omega) (by omega) e2
      exact ⟨t, M', rfl, (by rw [show k = k' by omega]; exact l'), q1.symm⟩
  · rintro ⟨t, M', h1, h2, h3⟩
    rw [h1]
    refine decide_eq_true ?_
    have e1 := (hf t (hok _ _ _ hb h1)).1 _ _ h2
    rw [e1, hlb, h3, Nat.mul_add]; omega
theorem fr_ok (hok : GOK nx) (hB : BIG mf K F) (hf : FIN nx gl mf K F lb) {b M k : Nat} (hb : b < 64) (hl : LX nx gl mf b M (k + 1)) : frK nx mf K lb b < 4 ∧ mt nx mf K lb b (frK nx mf K lb b) = true ∧ ∀ r, r < frK nx mf K lb b → mt nx mf K lb b r = false := by
  obtain ⟨r, t, M', h1, h2, h3, h4⟩ := LX_step hl
  have hm : mt nx mf K lb b r = true := (mt_iff hok hB hf hb hl).mpr ⟨t, M', h2, h3, h4⟩
  unfold frK
  split
  · rename_i q; exact ⟨by decide, q, fun r h => absurd h (Nat.not_lt_zero r)⟩
  · rename_i q0
    split
    · rename_i q; exact ⟨by decide, q, fun r h => by rw [show r = 0 by omega]; simpa using q0⟩
    · rename_i q1
      split
      · rename_i q; refine ⟨by decide, q, fun r h => ?_⟩
        rcases (show r = 0 ∨ r = 1 by omega) with e | e <;> subst e
        · simpa using q0
        · simpa using q1
      · rename_i q2
        have q0 : mt nx mf K lb b 0 = false := by simpa using q0
        have q1 : mt nx mf K lb b 1 = false := by simpa using q1
        have q2 : mt nx mf K lb b 2 = false := by simpa using q2
        refine ⟨by decide, ?_, fun r h => ?_⟩
        · rcases (show r = 0 ∨ r = 1 ∨ r = 2 ∨ r = 3 by omega) with e | e | e | e <;> subst e
          · rw [q0] at hm; cases hm
          · rw [q1] at hm; cases hm
          · rw [q2] at hm; cases hm
          · exact hm
        · rcases (show r = 0 ∨ r = 1 ∨ r = 2 by omega) with e | e | e <;> subst e <;> assumption
end PLT
set_option maxRecDepth 20000 in
theorem c_X1_leftBy {S : Nat → Nat → Int32} {L : Nat → Nat → Int64} {R : Nat × Nat × Nat} {d : Nat} {T : Nat} (hT : T = 19 ∨ T = 28) {a : Nat → Nat → Nat} (hV : TV S T a) (hW : WL a) {wt : Nat → Nat} {mf : Nat → Nat → Nat} {lb : Nat → Nat} (hw : ∀ i, i < a 0 0 → S 15 i = nI (wt i)) (hwt : ∀ i, i < a 0 0 → wt i ≤ 20000) (hmf : ∀ b r, isB (a 0 0) b = true → r < 4 → wt (stand b r) = 1000 * mf b r + 1) (hL : LB S 14 lb) (hF : ∀ x, x < 64 → lb x ≤ FAR) {b r : Nat} (hb : b < 64) (hB0 : isB (a 0 0) b = true) (hr : r < 4) : TT mX1_leftBy (d + 2) 0 [some (.ref 13), some (.ref T), some (.int (nI b)), some (.int (nI r)), none] [] (S, L, R) (rt (some (.int (nI (lv (nxA a) mf 1000 FAR lb b r)))) (S, L, R)) := by
  obtain ⟨hg, hdn, hso, hbd, hrn, hgu, hdi, hre⟩ := id hV
  obtain ⟨w3, w8, wd1, wd6, wso, wb, wbs, wbp, wne, wrn, wgu, wdi, wre⟩ := id hW
  have hFAR : FAR = 1000000000 := rfl
  have hB := isB_t hB0
  have hst : (if r < 2 then b / 8 else b % 8) < a 0 0 := by split <;> omega
  have hbF := hF b hb
  cases hbe : beh (a 0 0) b r with
  | none =>
    have hnx : nxA a b r = none := by rw [nxA_B hB0]; exact hbe
    refine T_ald1 dX1_leftBy_0 ?_
    refine T_ild2 dX1_leftBy_1 ?_
    refine T_ild3 dX1_leftBy_2 ?_
    refine T_invV2i (M' := mX4_borderBehind) dX1_leftBy_3 ml_X1_56 imX4_borderBehind (kT hT) (Nat.le_of_ble_eq_true rfl) rfl (Nat.le_of_ble_eq_true rfl) rfl (Nat.le_of_ble_eq_true rfl) (c_bb_n hT hg w8 hb hB.1 hB.2.1 hr hbe) ?_
    refine T_ist4 dX1_leftBy_6 (by decide) rfl ?_
    refine T_ild4 dX1_leftBy_8 ?_
    refine T_bipush (v := -9) dX1_leftBy_10 (by decide) ?_
    refine T_ceq (tgt := 27) dX1_leftBy_12 (by decide) (fun h12 => ?_) (fun h12 => by exact absurd rfl h12)
    refine T_ldc ct_X1_32 dX1_leftBy_27 ?_
    rw [show (1000000000 : Int32) = nI FAR by decide]
    refine T_iret dX1_leftBy_29 rfl ?_
    rw [show lv (nxA a) mf 1000 FAR lb b r = FAR by unfold lv; rw [hnx]]; exact rt_i
  | some t =>
    have hnx : nxA a b r = some t := by rw [nxA_B hB0]; exact hbe
    have ht := (beh_some w8 hB.1 hB.2.1 hbe).1
    have htF := hF t ht
    refine T_ald1 dX1_leftBy_0 ?_
    refine T_ild2 dX1_leftBy_1 ?_
    refine T_ild3 dX1_leftBy_2 ?_
    refine T_invV2i (M' := mX4_borderBehind) dX1_leftBy_3 ml_X1_56 imX4_borderBehind (kT hT) (Nat.le_of_ble_eq_true rfl) rfl (Nat.le_of_ble_eq_true rfl) rfl (Nat.le_of_ble_eq_true rfl) (c_bb_s hT hg w8 hb hB.1 hB.2.1 hr hbe) ?_
    refine T_ist4 dX1_leftBy_6 (by decide) rfl ?_
    refine T_ild4 dX1_leftBy_8 ?_
    refine T_bipush (v := -9) dX1_leftBy_10 (by decide) ?_
    refine T_ceq (tgt := 27) dX1_leftBy_12 (by decide) (fun h12 => by exact absurd h12 (nI_m9 (by omega))) (fun h12 => ?_)
    refine T_ald0 dX1_leftBy_15 ?_
    refine T_getR (q := 14) dX1_leftBy_16 lf_X1_9 rfl rfl rfl ?_
    refine T_ild4 dX1_leftBy_19 ?_
    refine T_ialdN dX1_leftBy_21 rfl (by show _ < 64; omega) (hL _ (by omega)) ?_
    refine T_ldc ct_X1_32 dX1_leftBy_22 ?_
    rw [show (1000000000 : Int32) = nI FAR by decide]
    refine T_cneN (tgt := 30) dX1_leftBy_24 (by decide) (by omega) (by omega) (fun h24 => ?_) (fun h24 => ?_)
    · refine T_ald0 dX1_leftBy_30 ?_
      refine T_getR (q := 14) dX1_leftBy_31 lf_X1_9 rfl rfl rfl ?_
      refine T_ild4 dX1_leftBy_34 ?_
      refine T_ialdN dX1_leftBy_36 rfl (by show _ < 64; omega) (hL _ (by omega)) ?_
      refine T_ald0 dX1_leftBy_37 ?_
      refine T_getR (q := 15) dX1_leftBy_38 lf_X1_15 rfl rfl rfl ?_
      refine T_ild2 dX1_leftBy_41 ?_
      refine T_ild3 dX1_leftBy_42 ?_
      refine T_invSN2i (M' := mX6_standsAt) dX1_leftBy_43 ml_X1_59 imX6_standsAt (Nat.le_of_ble_eq_true rfl) rfl (Nat.le_of_ble_eq_true rfl) (c_X6_standsAt hb hr) ?_
      refine T_ialdN dX1_leftBy_46 rfl (by show _ < 8; omega) (hw _ hst) ?_
      refine T_iaddN dX1_leftBy_47 ?_
      refine T_iret dX1_leftBy_48 rfl ?_
      rw [show lv (nxA a) mf 1000 FAR lb b r = lb t + wt (if r < 2 then b / 8 else b % 8) by unfold lv; rw [hnx]; exact (if_neg h24).trans (by rw [← hmf b r hB0 hr]; rfl)]; exact rt_i
    · refine T_ldc ct_X1_32 dX1_leftBy_27 ?_
      rw [show (1000000000 : Int32) = nI FAR by decide]
      refine T_iret dX1_leftBy_29 rfl ?_
      rw [show lv (nxA a) mf 1000 FAR lb b r = FAR by unfold lv; rw [hnx]; exact if_pos h24]; exact rt_i
set_option maxRecDepth 20000 in
theorem c_X1_sweepOnce {S : Nat → Nat → Int32} {L : Nat → Nat → Int64} {R : Nat × Nat × Nat} {d : Nat} {T : Nat} (hT : T = 19 ∨ T = 28) {a : Nat → Nat → Nat} (hV : TV S T a) (hW : WL a) {wt : Nat → Nat} {mf : Nat → Nat → Nat} {lb : Nat → Nat} (hw : ∀ i, i < a 0 0 → S 15 i = nI (wt i)) (hwt : ∀ i, i < a 0 0 → wt i ≤ 20000) (hmf : ∀ b r, isB (a 0 0) b = true → r < 4 → wt (stand b r) = 1000 * mf b r + 1) (hL : LB S 14 lb) (hF : ∀ x, x < 64 → lb x ≤ FAR) : TT mX1_sweepOnce (d + 3) 0 [some (.ref 13), some (.ref T), none, none, none, none] [] (S, L, R) (fun r σ' => ∃ S', σ' = (S', L, R) ∧ PF [14] S S' ∧ LB S' 14 (swp (nxA a) mf 1000 lb 256) ∧ r = some (.int (bI (swc (nxA a) mf 1000 lb 256)))) := by
  obtain ⟨hg, hdn, hso, hbd, hrn, hgu, hdi, hre⟩ := id hV
  obtain ⟨w3, w8, wd1, wd6, wso, wb, wbs, wbp, wne, wrn, wgu, wdi, wre⟩ := id hW
  have hFAR : FAR = 1000000000 := rfl
  refine T_iconst (v := bI false) dX1_sweepOnce_0 (by decide) ?_
  refine T_ist2 dX1_sweepOnce_1 (by decide) rfl ?_
  refine T_iconst (v := nI 0) dX1_sweepOnce_2 (by decide) ?_
  refine T_ist3 dX1_sweepOnce_3 (by decide) rfl ?_
  skip
  have hok := nxA_ok w8
  have hFs : ∀ m x, x < 64 → swp (nxA a) mf 1000 lb m x ≤ FAR := fun m x hx => Nat.le_trans (swp_le m x) (hF x hx)
  refine up_ind (P := fun i => ∀ S1 x4 x5, PF [14] S S1 → LB S1 14 (swp (nxA a) mf 1000 lb (4 * i)) → TT mX1_sweepOnce (d + 3) 4 [some (.ref 13), some (.ref T), some (.int (bI (swc (nxA a) mf 1000 lb (4 * i)))), some (.int (nI i)), x4, x5] [] (S1, L, R) (fun r σ' => ∃ S', σ' = (S', L, R) ∧ PF [14] S S' ∧ LB S' 14 (swp (nxA a) mf 1000 lb 256) ∧ r = some (.int (bI (swc (nxA a) mf 1000 lb 256))))) 64 ?_ ?_ S none none (fun _ _ => rfl) hL
  · intro S1 x4 x5 g1 g2
    refine T_ild3 dX1_sweepOnce_4 ?_
    refine T_bipush (v := nI 64) dX1_sweepOnce_5 (by decide) ?_
    refine T_cgeN (tgt := 82) dX1_sweepOnce_7 (by decide) (by omega) (by omega) (fun h7 => ?_) (fun h7 => by exfalso; omega)
    refine T_ild2 dX1_sweepOnce_82 ?_
    refine T_bretB dX1_sweepOnce_83 rfl ?_
    exact ⟨S1, rfl, g1, g2, rfl⟩
  · intro i hi ih S1 x4 x5 g1 g2
    have hV1 : TV S1 T a := hV.cong (fun q h1 h2 _ => g1 q (by simp <;> omega))
    have hbF := hFs (4 * i) i hi
    by_cases h0 : swp (nxA a) mf 1000 lb (4 * i) i = 0
    · have hskip : ∀ r, r < 4 → rch (nxA a) mf 1000 (swp (nxA a) mf 1000 lb (4 * i)) i r = false := fun r _ => rch_0 h0
      refine T_ild3 dX1_sweepOnce_4 ?_
      refine T_bipush (v := nI 64) dX1_sweepOnce_5 (by decide) ?_
      refine T_cgeN (tgt := 82) dX1_sweepOnce_7 (by decide) (by omega) (by omega) (fun h7 => by exfalso; omega) (fun h7 => ?_)
      refine T_ald0 dX1_sweepOnce_10 ?_
      refine T_getR (q := 14) dX1_sweepOnce_11 lf_X1_9 rfl rfl rfl ?_
      refine T_ild3 dX1_sweepOnce_14 ?_
      refine T_ialdN dX1_sweepOnce_15 rfl (by show _ < 64; omega) (g2 _ (by omega)) ?_
      refine T_ifeqN (tgt := 76) dX1_sweepOnce_16 (by decide) (by omega) (fun h16 => ?_) (fun h16 => by exact absurd h0 h16)
      refine T_inc3N dX1_sweepOnce_76 (by decide) rfl ?_
      refine T_goto (tgt := 4) dX1_sweepOnce_79 (by decide) ?_
      have hz := hskip
      have e4 := skip4 hz 4 (Nat.le_refl _)
      rw [show 4 * (i + 1) = 4 * i + 4 by omega, e4.1, e4.2] at ih
      exact ih S1 _ _ g1 g2
    by_cases hB0 : isB (a 0 0) i = true
    rotate_left
    · have hskip : ∀ r, r < 4 → rch (nxA a) mf 1000 (swp (nxA a) mf 1000 lb (4 * i)) i r = false := fun r _ => rch_n (if_neg hB0)
      refine T_ild3 dX1_sweepOnce_4 ?_
      refine T_bipush (v := nI 64) dX1_sweepOnce_5 (by decide) ?_
      refine T_cgeN (tgt := 82) dX1_sweepOnce_7 (by decide) (by omega) (by omega) (fun h7 => by exfalso; omega) (fun h7 => ?_)
      refine T_ald0 dX1_sweepOnce_10 ?_
      refine T_getR (q := 14) dX1_sweepOnce_11 lf_X1_9 rfl rfl rfl ?_
      refine T_ild3 dX1_sweepOnce_14 ?_
      refine T_ialdN dX1_sweepOnce_15 rfl (by show _ < 64; omega) (g2 _ (by omega)) ?_
      refine T_ifeqN (tgt := 76) dX1_sweepOnce_16 (by decide) (by omega) (fun h16 => by exact absurd h16 h0) (fun h16 => ?_)
      refine T_ald1 dX1_sweepOnce_19 ?_
      refine T_ild3 dX1_sweepOnce_20 ?_
      refine T_invV1i (M' := mX4_isBorder) dX1_sweepOnce_21 ml_X1_22 imX4_isBorder (kT hT) (Nat.le_of_ble_eq_true rfl) rfl (Nat.le_of_ble_eq_true rfl) rfl (Nat.le_of_ble_eq_true rfl) (c_X4_isBorder hT hV1.1 w8 hi) ?_
      refine T_ifneB (tgt := 30) dX1_sweepOnce_24 (by decide) (fun h24 => by exact absurd h24 hB0) (fun h24 => ?_)
      refine T_goto (tgt := 76) dX1_sweepOnce_27 (by decide) ?_
      refine T_inc3N dX1_sweepOnce_76 (by decide) rfl ?_
      refine T_goto (tgt := 4) dX1_sweepOnce_79 (by decide) ?_
      have hz := hskip
      have e4 := skip4 hz 4 (Nat.le_refl _)
      rw [show 4 * (i + 1) = 4 * i + 4 by omega, e4.1, e4.2] at ih
      exact ih S1 _ _ g1 g2
    refine T_ild3 dX1_sweepOnce_4 ?_
    refine T_bipush (v := nI 64) dX1_sweepOnce_5 (by decide) ?_
    refine T_cgeN (tgt := 82) dX1_sweepOnce_7 (by decide) (by omega) (by omega) (fun h7 => by exfalso; omega) (fun h7 => ?_)
    refine T_ald0 dX1_sweepOnce_10 ?_
    refine T_getR (q := 14) dX1_sweepOnce_11 lf_X1_9 rfl rfl rfl ?_
    refine T_ild3 dX1_sweepOnce_14 ?_
    refine T_ialdN dX1_sweepOnce_15 rfl (by show _ < 64; omega) (g2 _ (by omega)) ?_
    refine T_ifeqN (tgt := 76) dX1_sweepOnce_16 (by decide) (by omega) (fun h16 => by exact absurd h16 h0) (fun h16 => ?_)
    refine T_ald1 dX1_sweepOnce_19 ?_
    refine T_ild3 dX1_sweepOnce_20 ?_
    refine T_invV1i (M' := mX4_isBorder) dX1_sweepOnce_21 ml_X1_22 imX4_isBorder (kT hT) (Nat.le_of_ble_eq_true rfl) rfl (Nat.le_of_ble_eq_true rfl) rfl (Nat.le_of_ble_eq_true rfl) (c_X4_isBorder hT hV1.1 w8 hi) ?_
    refine T_ifneB (tgt := 30) dX1_sweepOnce_24 (by decide) (fun h24 => ?_) (fun h24 => by rw [hB0] at h24; cases h24)
    refine T_iconst (v := nI 0) dX1_sweepOnce_30 (by decide) ?_
    refine T_ist4 dX1_sweepOnce_31 (by decide) rfl ?_
    skip
    refine up_ind (P := fun k => ∀ S2 x5, PF [14] S S2 → LB S2 14 (swp (nxA a) mf 1000 lb (4 * i + k)) → TT mX1_sweepOnce (d + 3) 33 [some (.ref 13), some (.ref T), some (.int (bI (swc (nxA a) mf 1000 lb (4 * i + k)))), some (.int (nI i)), some (.int (nI k)), x5] [] (S2, L, R) (fun r σ' => ∃ S', σ' = (S', L, R) ∧ PF [14] S S' ∧ LB S' 14 (swp (nxA a) mf 1000 lb 256) ∧ r = some (.int (bI (swc (nxA a) mf 1000 lb 256))))) 4 ?_ ?_ S1 _ g1 g2
    · intro S2 x5 g1 g2
      refine T_ild4 dX1_sweepOnce_33 ?_
      refine T_iconst (v := nI 4) dX1_sweepOnce_35 (by decide) ?_
      refine T_cgeN (tgt := 76) dX1_sweepOnce_36 (by decide) (by omega) (by omega) (fun h36 => ?_) (fun h36 => by exfalso; omega)
      refine T_inc3N dX1_sweepOnce_76 (by decide) rfl ?_
      refine T_goto (tgt := 4) dX1_sweepOnce_79 (by decide) ?_
      rw [show 4 * (i + 1) = 4 * i + 4 by omega] at ih
      exact ih S2 _ _ g1 g2
    · intro k hk ih2 S2 x5 g1 g2
      have hV2 : TV S2 T a := hV.cong (fun q h1 h2 _ => g1 q (by simp <;> omega))
      have hw2 : ∀ i, i < a 0 0 → S2 15 i = nI (wt i) := fun q hq => by rw [g1 15 (by simp)]; exact hw q hq
      have hb2 := hFs (4 * i + k) i hi
      have hlvb : lv (nxA a) mf 1000 FAR (swp (nxA a) mf 1000 lb (4 * i + k)) i k ≤ 1000020000 := by
        unfold lv
        cases e : nxA a i k with
        | none => show FAR ≤ _; decide
        | some t =>
          have z1 := hFs (4 * i + k) t (hok _ _ _ hi e)
          have z2 := hmf i k hB0 hk
          have z3 : stand i k < a 0 0 := by have := isB_t hB0; unfold stand; split <;> omega
          have z4 := hwt _ z3
          show (if swp (nxA a) mf 1000 lb (4 * i + k) t = FAR then FAR else swp (nxA a) mf 1000 lb (4 * i + k) t + (1000 * mf i k + 1)) ≤ 1000020000
          split <;> omega
      have sw := swp_1 (nx := nxA a) (mf := mf) (K := 1000) (lb := lb) (b := i) hk
      have lr := lv_rch (nx := nxA a) (mf := mf) (K := 1000) (F := FAR) (lb := swp (nxA a) mf 1000 lb (4 * i + k)) (b := i) (r := k) (hFs _) hok hi
      refine T_ild4 dX1_sweepOnce_33 ?_
      refine T_iconst (v := nI 4) dX1_sweepOnce_35 (by decide) ?_
      refine T_cgeN (tgt := 76) dX1_sweepOnce_36 (by decide) (by omega) (by omega) (fun h36 => by exfalso; omega) (fun h36 => ?_)
      refine T_ald0 dX1_sweepOnce_39 ?_
      refine T_ald1 dX1_sweepOnce_40 ?_
      refine T_ild3 dX1_sweepOnce_41 ?_
      refine T_ild4 dX1_sweepOnce_42 ?_
      refine T_invV3i (M' := mX1_leftBy) dX1_sweepOnce_44 ml_X1_52 imX1_leftBy rfl (Nat.le_of_ble_eq_true rfl) rfl (Nat.le_of_ble_eq_true rfl) rfl (Nat.le_of_ble_eq_true rfl) (c_X1_leftBy hT hV2 hW hw2 hwt hmf g2 (hFs _) hi hB0 hk) ?_
      refine T_ist5 dX1_sweepOnce_47 (by decide) rfl ?_
      refine T_ild5 dX1_sweepOnce_49 ?_
      refine T_ald0 dX1_sweepOnce_51 ?_
      refine T_getR (q := 14) dX1_sweepOnce_52 lf_X1_9 rfl rfl rfl ?_
      refine T_ild3 dX1_sweepOnce_55 ?_
      refine T_ialdN dX1_sweepOnce_56 rfl (by show _ < 64; omega) (g2 _ (by omega)) ?_
      refine T_cgeN (tgt := 70) dX1_sweepOnce_57 (by decide) (by omega) (by omega) (fun h57 => ?_) (fun h57 => ?_)
      · refine T_inc4N dX1_sweepOnce_70 (by decide) rfl ?_
        refine T_goto (tgt := 33) dX1_sweepOnce_73 (by decide) ?_
        first
          | (have q : rch (nxA a) mf 1000 (swp (nxA a) mf 1000 lb (4 * i + k)) i k = false := by
               cases e : rch (nxA a) mf 1000 (swp (nxA a) mf 1000 lb (4 * i + k)) i k with
               | false => rfl
               | true => have := lr.mpr e; omega
             rw [q, Bool.false_or, rlx_f q] at sw
             rw [sw.1, sw.2] at ih2
             exact ih2 S2 _ g1 g2)
          | (have q := lr.mp h57
             rw [q, Bool.true_or, rlx_t (F := FAR) (hFs _) hok hi q] at sw
             rw [sw.1, sw.2] at ih2
             exact ih2 _ _ (fun z hz => by rw [uI_p (by simpa using hz)]; exact g1 z hz) (LB_up g2))
      · refine T_ald0 dX1_sweepOnce_60 ?_
        refine T_getR (q := 14) dX1_sweepOnce_61 lf_X1_9 rfl rfl rfl ?_
        refine T_ild3 dX1_sweepOnce_64 ?_
        refine T_ild5 dX1_sweepOnce_65 ?_
        refine T_iast dX1_sweepOnce_67 rfl (by show _ < 64; omega) rfl ?_
        refine T_iconst (v := bI true) dX1_sweepOnce_68 (by decide) ?_
        refine T_ist2 dX1_sweepOnce_69 (by decide) rfl ?_
        refine T_inc4N dX1_sweepOnce_70 (by decide) rfl ?_
        refine T_goto (tgt := 33) dX1_sweepOnce_73 (by decide) ?_
        first
          | (have q : rch (nxA a) mf 1000 (swp (nxA a) mf 1000 lb (4 * i + k)) i k = false := by
               cases e : rch (nxA a) mf 1000 (swp (nxA a) mf 1000 lb (4 * i + k)) i k with
               | false => rfl
               | true => have := lr.mpr e; omega
             rw [q, Bool.false_or, rlx_f q] at sw
             rw [sw.1, sw.2] at ih2
             exact ih2 S2 _ g1 g2)
          | (have q := lr.mp h57
             rw [q, Bool.true_or, rlx_t (F := FAR) (hFs _) hok hi q] at sw
             rw [sw.1, sw.2] at ih2
             exact ih2 _ _ (fun z hz => by rw [uI_p (by simpa using hz)]; exact g1 z hz) (LB_up g2))
set_option maxRecDepth 20000 in
theorem c_X1_spread {S : Nat → Nat → Int32} {L : Nat → Nat → Int64} {R : Nat × Nat × Nat} {d : Nat} {T : Nat} (hT : T = 19 ∨ T = 28) {a : Nat → Nat → Nat} (hV : TV S T a) (hW : WL a) {wt : Nat → Nat} {mf : Nat → Nat → Nat} {lb : Nat → Nat} (hw : ∀ i, i < a 0 0 → S 15 i = nI (wt i)) (hwt : ∀ i, i < a 0 0 → wt i ≤ 20000) (hmf : ∀ b r, isB (a 0 0) b = true → r < 4 → wt (stand b r) = 1000 * mf b r + 1) (hL : LB S 14 lb) {gl : Nat → Bool} (hBG : BIG mf 1000 FAR) (hVL : VAL (nxA a) gl mf 1000 FAR lb) (hgl : ∀ b, b < 64 → gl b = true → lb b = 0) : TT mX1_spread (d + 4) 0 [some (.ref 13), some (.ref T), none, none] [] (S, L, R) (fun r σ' => r = none ∧ ∃ S' lb', σ' = (S', L, R) ∧ PF [14] S S' ∧ LB S' 14 lb' ∧ FIN (nxA a) gl mf 1000 FAR lb' ∧ ∀ x, x < 64 → lb' x ≤ FAR) := by
  obtain ⟨hg, hdn, hso, hbd, hrn, hgu, hdi, hre⟩ := id hV
  obtain ⟨w3, w8, wd1, wd6, wso, wb, wbs, wbp, wne, wrn, wgu, wdi, wre⟩ := id hW
  have hFAR : FAR = 1000000000 := rfl
  refine T_iconst (v := bI true) dX1_spread_0 (by decide) ?_
  refine T_ist2 dX1_spread_1 (by decide) rfl ?_
  refine T_iconst (v := nI 0) dX1_spread_2 (by decide) ?_
  refine T_ist3 dX1_spread_3 (by decide) rfl ?_
  skip
  have hok := nxA_ok w8
  refine up_ind (P := fun i => ∀ S1 lb1 bt, PF [14] S S1 → LB S1 14 lb1 → VAL (nxA a) gl mf 1000 FAR lb1 → (∀ b, b < 64 → gl b = true → lb1 b = 0) → (bt = false → FIN (nxA a) gl mf 1000 FAR lb1) → nonf (nxA a) gl mf 1000 FAR lb1 64 ≤ 64 - i → TT mX1_spread (d + 4) 4 [some (.ref 13), some (.ref T), some (.int (bI bt)), some (.int (nI i))] [] (S1, L, R) (fun r σ' => r = none ∧ ∃ S' lb', σ' = (S', L, R) ∧ PF [14] S S' ∧ LB S' 14 lb' ∧ FIN (nxA a) gl mf 1000 FAR lb' ∧ ∀ x, x < 64 → lb' x ≤ FAR)) 64 ?_ ?_ S lb true (fun _ _ => rfl) hL hVL hgl (fun h => nomatch h) (nonf_le 64)
  · intro S1 lb1 bt g1 g2 g3 g4 g5 g6
    refine T_ild3 dX1_spread_4 ?_
    refine T_bipush (v := nI 64) dX1_spread_5 (by decide) ?_
    refine T_cgeN (tgt := 26) dX1_spread_7 (by decide) (by omega) (by omega) (fun h7 => ?_) (fun h7 => by exfalso; omega)
    refine T_vret dX1_spread_26 rfl ?_
    exact ⟨rfl, S1, lb1, rfl, g1, g2, nonf_0 64 (by omega), fun x hx => by rcases g3 x hx with q | q <;> omega⟩
  · intro i hi ih S1 lb1 bt g1 g2 g3 g4 g5 g6
    have hV1 : TV S1 T a := hV.cong (fun q h1 h2 _ => g1 q (by simp <;> omega))
    have hw1 : ∀ i, i < a 0 0 → S1 15 i = nI (wt i) := fun q hq => by rw [g1 15 (by simp)]; exact hw q hq
    have hF1 : ∀ x, x < 64 → lb1 x ≤ FAR := fun x hx => by rcases g3 x hx with q | q <;> omega
    refine T_ild3 dX1_spread_4 ?_
    refine T_bipush (v := nI 64) dX1_spread_5 (by decide) ?_
    refine T_cgeN (tgt := 26) dX1_spread_7 (by decide) (by omega) (by omega) (fun h7 => by exfalso; omega) (fun h7 => ?_)
    refine T_ild2 dX1_spread_10 ?_
    refine T_ifeqB (tgt := 26) dX1_spread_11 (by decide) (fun h11 => ?_) (fun h11 => ?_)
    · refine T_vret dX1_spread_26 rfl ?_
      exact ⟨rfl, S1, lb1, rfl, g1, g2, g5 h11, fun x hx => by rcases g3 x hx with q | q <;> omega⟩
    · refine T_ald0 dX1_spread_14 ?_
      refine T_ald1 dX1_spread_15 ?_
      refine T_invV1 (M' := mX1_sweepOnce) dX1_spread_16 ml_X1_48 imX1_sweepOnce rfl (Nat.le_of_ble_eq_true rfl) rfl (Nat.le_of_ble_eq_true rfl) rfl (Nat.le_of_ble_eq_true rfl) (c_X1_sweepOnce hT hV1 hW hw1 hwt hmf g2 hF1) (fun r σ' hq => ?_)
      obtain ⟨S2, rfl, p1, p2, rfl⟩ := hq
      refine T_ist2 dX1_spread_19 (by decide) rfl ?_
      refine T_inc3N dX1_spread_20 (by decide) rfl ?_
      refine T_goto (tgt := 4) dX1_spread_23 (by decide) ?_
      refine ih S2 _ _ (fun q hq => by rw [p1 q hq]; exact g1 q hq) p2 (swp_val hok g3 256 (Nat.le_refl _)) (swp_goal g4 256) (fun h => by rw [swc_f 256 h]; exact swp_fin hok hBG g3 g4 h) ?_
      rcases Nat.eq_zero_or_pos (nonf (nxA a) gl mf 1000 FAR lb1 64) with z | z
      · have := nonf_mono (nx := nxA a) (gl := gl) (mf := mf) (K := 1000) (F := FAR) (lb := lb1) (lb' := swp (nxA a) mf 1000 lb1 256) 64 (fun b hb q => fin_keep hok hBG g3 (Nat.le_refl _) hb q)
        omega
      · have := swp_down hok hBG g3 g4 z
        omega
set_option maxRecDepth 20000 in
theorem c_X1_weigh {S : Nat → Nat → Int32} {L : Nat → Nat → Int64} {R : Nat × Nat × Nat} {d : Nat} {T : Nat} (hT : T = 19 ∨ T = 28) {a : Nat → Nat → Nat} (hV : TV S T a) (hW : WL a) {q : Nat} : TT mX1_weigh (d + 3) 0 [some (.ref 13), some (.ref T), some (.int (nI q)), none] [] (S, L, R) (rt none (wf S 15 (fun i => nI (q * miN a i + 1)) (a 0 0), L, R)) := by
  obtain ⟨hg, hdn, hso, hbd, hrn, hgu, hdi, hre⟩ := id hV
  obtain ⟨w3, w8, wd1, wd6, wso, wb, wbs, wbp, wne, wrn, wgu, wdi, wre⟩ := id hW
  have hFAR : FAR = 1000000000 := rfl
  refine T_iconst (v := nI 0) dX1_weigh_0 (by decide) ?_
  refine T_ist3 dX1_weigh_1 (by decide) rfl ?_
  skip
  have st0 : TT mX1_weigh (d + 3) 2 [some (.ref 13), some (.ref T), some (.int (nI q)), some (.int (nI 0))] [] (wf S 15 (fun i => nI (q * miN a i + 1)) 0, L, R) (rt none (wf S 15 (fun i => nI (q * miN a i + 1)) (a 0 0), L, R)) := ?_
  · rw [wf_0] at st0; exact st0
  have hV2 : ∀ i, TV (wf S 15 (fun i => nI (q * miN a i + 1)) i) T a := fun i => hV.cong (fun q _ _ h => wf_p (by omega))
  refine up_ind (P := fun i => TT mX1_weigh (d + 3) 2 [some (.ref 13), some (.ref T), some (.int (nI q)), some (.int (nI i))] [] (wf S 15 (fun i => nI (q * miN a i + 1)) i, L, R) (rt none (wf S 15 (fun i => nI (q * miN a i + 1)) (a 0 0), L, R))) (a 0 0) ?_ ?_
  · refine T_ild3 dX1_weigh_2 ?_
    refine T_ald1 dX1_weigh_3 ?_
    refine T_getN dX1_weigh_4 lf_X1_40 (kT hT) rfl (hV2 _).1 ?_
    refine T_cgeN (tgt := 31) dX1_weigh_7 (by decide) (by omega) (by omega) (fun h7 => ?_) (fun h7 => by exfalso; omega)
    refine T_vret dX1_weigh_31 rfl ?_
    exact rt_i
  · intro i hi ih
    refine T_ild3 dX1_weigh_2 ?_
    refine T_ald1 dX1_weigh_3 ?_
    refine T_getN dX1_weigh_4 lf_X1_40 (kT hT) rfl (hV2 _).1 ?_
    refine T_cgeN (tgt := 31) dX1_weigh_7 (by decide) (by omega) (by omega) (fun h7 => by exfalso; omega) (fun h7 => ?_)
    refine T_ald0 dX1_weigh_10 ?_
    refine T_getR (q := 15) dX1_weigh_11 lf_X1_15 rfl rfl rfl ?_
    refine T_ild3 dX1_weigh_14 ?_
    refine T_ild2 dX1_weigh_15 ?_
    refine T_ald1 dX1_weigh_16 ?_
    refine T_ild3 dX1_weigh_17 ?_
    refine T_invV1i (M' := mX4_minutesOf) dX1_weigh_18 ml_X1_44 imX4_minutesOf (kT hT) (Nat.le_of_ble_eq_true rfl) rfl (Nat.le_of_ble_eq_true rfl) rfl (Nat.le_of_ble_eq_true rfl) (c_X4_minutesOf hT (hV2 i) hW hi) ?_
    refine T_imulN dX1_weigh_21 ?_
    refine T_iconst (v := nI 1) dX1_weigh_22 (by decide) ?_
    refine T_iaddN dX1_weigh_23 ?_
    refine T_iast dX1_weigh_24 rfl (by show _ < 8; omega) rfl ?_
    refine T_inc3N dX1_weigh_25 (by decide) rfl ?_
    refine T_goto (tgt := 2) dX1_weigh_28 (by decide) ?_
    rw [wf_s (f := fun i => nI (q * miN a i + 1))]; exact ih
def glD (a : Nat → Nat → Nat) (e c b : Nat) : Bool := isB (a 0 0) b && decide (who (a 0 0) (a 8 e) (b / 8) (b % 8) = nI c)
def glT (a : Nat → Nat → Nat) (b : Nat) : Bool := isB (a 0 0) b && decide (land a 0 b = land a 1 b)
def lb0 (gl : Nat → Bool) (F b : Nat) : Nat := if gl b then 0 else F
theorem val_0 {nx : Nat → Nat → Option Nat} {gl : Nat → Bool} {mf : Nat → Nat → Nat} {K F : Nat} (h : 0 < F) : VAL nx gl mf K F (lb0 gl F) := by
  intro b _
  unfold lb0
  cases e : gl b with
  | false => left; rfl
  | true => right; exact ⟨h, 0, 0, ⟨e, rfl⟩, by simp⟩
theorem big_D {a : Nat → Nat → Nat} (hW : WL a) : BIG (mfA a) 1000 FAR := ⟨by decide, mfA_le hW, by decide⟩
theorem big_T : BIG (fun _ _ => 0) 1000 FAR := ⟨by decide, fun _ _ => Nat.zero_le _, by decide⟩
set_option maxRecDepth 20000 in
theorem c_X1_planForDish {S : Nat → Nat → Int32} {L : Nat → Nat → Int64} {R : Nat × Nat × Nat} {d : Nat} {T : Nat} (hT : T = 19 ∨ T = 28) {a : Nat → Nat → Nat} (hV : TV S T a) (hW : WL a) {e c : Nat} (he : e < a 1 0) : TT mX1_planForDish (d + 5) 0 [some (.ref 13), some (.ref T), some (.int (nI e)), some (.int (nI c)), none] [] (S, L, R) (fun r σ' => r = none ∧ ∃ S' lb', σ' = (S', L, R) ∧ PF [14, 15] S S' ∧ LB S' 14 lb' ∧ FIN (nxA a) (glD a e c) (mfA a) 1000 FAR lb' ∧ (∀ x, x < 64 → lb' x ≤ FAR) ∧ ∀ i, i < a 0 0 → S' 15 i = nI (1000 * miN a i + 1)) := by
  obtain ⟨hg, hdn, hso, hbd, hrn, hgu, hdi, hre⟩ := id hV
  obtain ⟨w3, w8, wd1, wd6, wso, wb, wbs, wbp, wne, wrn, wgu, wdi, wre⟩ := id hW
  have hFAR : FAR = 1000000000 := rfl
  refine T_ald0 dX1_planForDish_0 ?_
  refine T_ald1 dX1_planForDish_1 ?_
  refine T_sipush (v := nI 1000) dX1_planForDish_2 (by decide) ?_
  refine T_invV2v (M' := mX1_weigh) dX1_planForDish_5 ml_X1_18 imX1_weigh rfl (Nat.le_of_ble_eq_true rfl) rfl (Nat.le_of_ble_eq_true rfl) rfl (Nat.le_of_ble_eq_true rfl) (c_X1_weigh hT hV hW) ?_
  refine T_iconst (v := nI 0) dX1_planForDish_8 (by decide) ?_
  refine T_ist4 dX1_planForDish_9 (by decide) rfl ?_
  skip
  have hV2 : ∀ i, TV (wf (wf S 15 (fun i => nI (1000 * miN a i + 1)) (a 0 0)) 14 (fun b => nI (lb0 (glD a e c) FAR b)) i) T a := fun i => hV.cong (fun q _ _ _ => (wf_p (by omega)).trans (wf_p (by omega)))
  have miN12 : ∀ i, i < a 0 0 → miN a i ≤ 12 := fun i hi => by
    have h1 := wgu i hi
    have h2 := minN_le (k := a 5 i) (m := a 6 i) (so := a 2 0)
    unfold miN; omega
  have st0 : TT mX1_planForDish (d + 5) 11 [some (.ref 13), some (.ref T), some (.int (nI e)), some (.int (nI c)), some (.int (nI 0))] [] (wf (wf S 15 (fun i => nI (1000 * miN a i + 1)) (a 0 0)) 14 (fun b => nI (lb0 (glD a e c) FAR b)) 0, L, R) (fun r σ' => r = none ∧ ∃ S' lb', σ' = (S', L, R) ∧ PF [14, 15] S S' ∧ LB S' 14 lb' ∧ FIN (nxA a) (glD a e c) (mfA a) 1000 FAR lb' ∧ (∀ x, x < 64 → lb' x ≤ FAR) ∧ ∀ i, i < a 0 0 → S' 15 i = nI (1000 * miN a i + 1)) := ?_
  · rw [wf_0] at st0; exact st0
  refine up_ind (P := fun i => TT mX1_planForDish (d + 5) 11 [some (.ref 13), some (.ref T), some (.int (nI e)), some (.int (nI c)), some (.int (nI i))] [] (wf (wf S 15 (fun i => nI (1000 * miN a i + 1)) (a 0 0)) 14 (fun b => nI (lb0 (glD a e c) FAR b)) i, L, R) (fun r σ' => r = none ∧ ∃ S' lb', σ' = (S', L, R) ∧ PF [14, 15] S S' ∧ LB S' 14 lb' ∧ FIN (nxA a) (glD a e c) (mfA a) 1000 FAR lb' ∧ (∀ x, x < 64 → lb' x ≤ FAR) ∧ ∀ i, i < a 0 0 → S' 15 i = nI (1000 * miN a i + 1))) 64 ?_ ?_
  · refine T_ild4 dX1_planForDish_11 ?_
    refine T_bipush (v := nI 64) dX1_planForDish_13 (by decide) ?_
    refine T_cgeN (tgt := 57) dX1_planForDish_15 (by decide) (by omega) (by omega) (fun h15 => ?_) (fun h15 => by exfalso; omega)
    refine T_ald0 dX1_planForDish_57 ?_
    refine T_ald1 dX1_planForDish_58 ?_
    refine T_invV1 (M' := mX1_spread) dX1_planForDish_59 ml_X1_33 imX1_spread rfl (Nat.le_of_ble_eq_true rfl) rfl (Nat.le_of_ble_eq_true rfl) rfl (Nat.le_of_ble_eq_true rfl) (c_X1_spread hT (hV2 _) hW (wt := fun i => 1000 * miN a i + 1) (mf := mfA a) (lb := lb0 (glD a e c) FAR) (gl := glD a e c) (fun i hi => by rw [wf_p (by decide), wf_i hi]) (fun i hi => by have := miN12 i hi; omega) (fun b r h1 h2 => by unfold mfA; rw [if_pos h1]) (fun x hx => by rw [wf_i hx]) (big_D hW) (val_0 (by decide)) (fun b _ h => if_pos h)) (fun r σ' hq => ?_)
    obtain ⟨rfl, S2, lb2, rfl, p1, p2, p3, p4⟩ := hq
    refine T_vret dX1_planForDish_62 rfl ?_
    exact ⟨rfl, S2, lb2, rfl, fun q hq => by rw [p1 q (by simp at hq ⊢; omega), wf_p (by simp at hq; omega), wf_p (by simp at hq; omega)], p2, p3, p4, fun i hi => by rw [p1 15 (by simp), wf_p (by decide), wf_i hi]⟩
  · intro i hi ih
    have fin : ∀ v, v = lb0 (glD a e c) FAR i → TT mX1_planForDish (d + 5) 11 [some (.ref 13), some (.ref T), some (.int (nI e)), some (.int (nI c)), some (.int (nI (i + 1)))] [] (uI (wf (wf S 15 (fun i => nI (1000 * miN a i + 1)) (a 0 0)) 14 (fun b => nI (lb0 (glD a e c) FAR b)) i) 14 i (nI v), L, R) (fun r σ' => r = none ∧ ∃ S' lb', σ' = (S', L, R) ∧ PF [14, 15] S S' ∧ LB S' 14 lb' ∧ FIN (nxA a) (glD a e c) (mfA a) 1000 FAR lb' ∧ (∀ x, x < 64 → lb' x ≤ FAR) ∧ ∀ i, i < a 0 0 → S' 15 i = nI (1000 * miN a i + 1)) := by
      rintro _ rfl
      rw [wf_s (f := (fun b => nI (lb0 (glD a e c) FAR b)))]; exact ih
    by_cases hB0 : isB (a 0 0) i = true
    · have hB := isB_t hB0
      have l1 := land_le (c := 0) (b := i) hW
      have l2 := land_le (c := 1) (b := i) hW
      refine T_ild4 dX1_planForDish_11 ?_
      refine T_bipush (v := nI 64) dX1_planForDish_13 (by decide) ?_
      refine T_cgeN (tgt := 57) dX1_planForDish_15 (by decide) (by omega) (by omega) (fun h15 => by exfalso; omega) (fun h15 => ?_)
      refine T_ald0 dX1_planForDish_18 ?_
      refine T_getR (q := 14) dX1_planForDish_19 lf_X1_9 rfl rfl rfl ?_
      refine T_ild4 dX1_planForDish_22 ?_
      refine T_ald1 dX1_planForDish_24 ?_
      refine T_ild4 dX1_planForDish_25 ?_
      refine T_invV1i (M' := mX4_isBorder) dX1_planForDish_27 ml_X1_22 imX4_isBorder (kT hT) (Nat.le_of_ble_eq_true rfl) rfl (Nat.le_of_ble_eq_true rfl) rfl (Nat.le_of_ble_eq_true rfl) (c_X4_isBorder hT (hV2 _).1 w8 hi) ?_
      refine T_ifeqB (tgt := 48) dX1_planForDish_30 (by decide) (fun h30 => by rw [hB0] at h30; cases h30) (fun h30 => ?_)
      refine T_ald1 dX1_planForDish_33 ?_
      refine T_ild2 dX1_planForDish_34 ?_
      refine T_ild4 dX1_planForDish_35 ?_
      refine T_invV2i (M' := mX4_ownerOfDish) dX1_planForDish_37 ml_X1_28 imX4_ownerOfDish (kT hT) (Nat.le_of_ble_eq_true rfl) rfl (Nat.le_of_ble_eq_true rfl) rfl (Nat.le_of_ble_eq_true rfl) (c_X4_ownerOfDish hT (hV2 _) hW hi hB.1 hB.2.1 he) ?_
      refine T_ild3 dX1_planForDish_40 ?_
      refine T_cne (tgt := 48) dX1_planForDish_41 (by decide) (fun h41 => ?_) (fun h41 => ?_)
      · refine T_ldc ct_X1_32 dX1_planForDish_48 ?_
        rw [show (1000000000 : Int32) = nI FAR by decide]
        refine T_iast dX1_planForDish_50 rfl (by show _ < 64; omega) rfl ?_
        refine T_inc4N dX1_planForDish_51 (by decide) rfl ?_
        refine T_goto (tgt := 11) dX1_planForDish_54 (by decide) ?_
        first
          | exact fin 0 (by unfold lb0; rw [show (glD a e c) i = true by simp [glD, hB0, h41]]; rfl)
          | exact fin FAR (by unfold lb0; rw [show (glD a e c) i = false by simp [glD, hB0, h41]]; rfl)
      · refine T_iconst (v := nI 0) dX1_planForDish_44 (by decide) ?_
        refine T_goto (tgt := 50) dX1_planForDish_45 (by decide) ?_
        refine T_iast dX1_planForDish_50 rfl (by show _ < 64; omega) rfl ?_
        refine T_inc4N dX1_planForDish_51 (by decide) rfl ?_
        refine T_goto (tgt := 11) dX1_planForDish_54 (by decide) ?_
        first
          | exact fin 0 (by unfold lb0; rw [show (glD a e c) i = true by simp [glD, hB0, h41]]; rfl)
          | exact fin FAR (by unfold lb0; rw [show (glD a e c) i = false by simp [glD, hB0, h41]]; rfl)
    · have hB1 : isB (a 0 0) i = false := by simpa using hB0
      refine T_ild4 dX1_planForDish_11 ?_
      refine T_bipush (v := nI 64) dX1_planForDish_13 (by decide) ?_
      refine T_cgeN (tgt := 57) dX1_planForDish_15 (by decide) (by omega) (by omega) (fun h15 => by exfalso; omega) (fun h15 => ?_)
      refine T_ald0 dX1_planForDish_18 ?_
      refine T_getR (q := 14) dX1_planForDish_19 lf_X1_9 rfl rfl rfl ?_
      refine T_ild4 dX1_planForDish_22 ?_
      refine T_ald1 dX1_planForDish_24 ?_
      refine T_ild4 dX1_planForDish_25 ?_
      refine T_invV1i (M' := mX4_isBorder) dX1_planForDish_27 ml_X1_22 imX4_isBorder (kT hT) (Nat.le_of_ble_eq_true rfl) rfl (Nat.le_of_ble_eq_true rfl) rfl (Nat.le_of_ble_eq_true rfl) (c_X4_isBorder hT (hV2 _).1 w8 hi) ?_
      refine T_ifeqB (tgt := 48) dX1_planForDish_30 (by decide) (fun h30 => ?_) (fun h30 => by rw [hB1] at h30; cases h30)
      refine T_ldc ct_X1_32 dX1_planForDish_48 ?_
      rw [show (1000000000 : Int32) = nI FAR by decide]
      refine T_iast dX1_planForDish_50 rfl (by show _ < 64; omega) rfl ?_
      refine T_inc4N dX1_planForDish_51 (by decide) rfl ?_
      refine T_goto (tgt := 11) dX1_planForDish_54 (by decide) ?_
      exact fin FAR (by unfold lb0; rw [show (glD a e c) i = false by simp [glD, hB1]]; rfl)
set_option maxRecDepth 20000 in
theorem c_X1_planForTreaty {S : Nat → Nat → Int32} {L : Nat → Nat → Int64} {R : Nat × Nat × Nat} {d : Nat} {T : Nat} (hT : T = 19 ∨ T = 28) {a : Nat → Nat → Nat} (hV : TV S T a) (hW : WL a)  : TT mX1_planForTreaty (d + 5) 0 [some (.ref 13), some (.ref T), none] [] (S, L, R) (fun r σ' => r = none ∧ ∃ S' lb', σ' = (S', L, R) ∧ PF [14, 15] S S' ∧ LB S' 14 lb' ∧ FIN (nxA a) (glT a) (fun _ _ => 0) 1000 FAR lb' ∧ (∀ x, x < 64 → lb' x ≤ FAR) ∧ ∀ i, i < a 0 0 → S' 15 i = nI (0 * miN a i + 1)) := by
  obtain ⟨hg, hdn, hso, hbd, hrn, hgu, hdi, hre⟩ := id hV
  obtain ⟨w3, w8, wd1, wd6, wso, wb, wbs, wbp, wne, wrn, wgu, wdi, wre⟩ := id hW
  have hFAR : FAR = 1000000000 := rfl
  refine T_ald0 dX1_planForTreaty_0 ?_
  refine T_ald1 dX1_planForTreaty_1 ?_
  refine T_iconst (v := nI 0) dX1_planForTreaty_2 (by decide) ?_
  refine T_invV2v (M' := mX1_weigh) dX1_planForTreaty_3 ml_X1_18 imX1_weigh rfl (Nat.le_of_ble_eq_true rfl) rfl (Nat.le_of_ble_eq_true rfl) rfl (Nat.le_of_ble_eq_true rfl) (c_X1_weigh hT hV hW) ?_
  refine T_iconst (v := nI 0) dX1_planForTreaty_6 (by decide) ?_
  refine T_ist2 dX1_planForTreaty_7 (by decide) rfl ?_
  skip
  have hV2 : ∀ i, TV (wf (wf S 15 (fun i => nI (0 * miN a i + 1)) (a 0 0)) 14 (fun b => nI (lb0 (glT a) FAR b)) i) T a := fun i => hV.cong (fun q _ _ _ => (wf_p (by omega)).trans (wf_p (by omega)))
  have miN12 : ∀ i, i < a 0 0 → miN a i ≤ 12 := fun i hi => by
    have h1 := wgu i hi
    have h2 := minN_le (k := a 5 i) (m := a 6 i) (so := a 2 0)
    unfold miN; omega
  have st0 : TT mX1_planForTreaty (d + 5) 8 [some (.ref 13), some (.ref T), some (.int (nI 0))] [] (wf (wf S 15 (fun i => nI (0 * miN a i + 1)) (a 0 0)) 14 (fun b => nI (lb0 (glT a) FAR b)) 0, L, R) (fun r σ' => r = none ∧ ∃ S' lb', σ' = (S', L, R) ∧ PF [14, 15] S S' ∧ LB S' 14 lb' ∧ FIN (nxA a) (glT a) (fun _ _ => 0) 1000 FAR lb' ∧ (∀ x, x < 64 → lb' x ≤ FAR) ∧ ∀ i, i < a 0 0 → S' 15 i = nI (0 * miN a i + 1)) := ?_
  · rw [wf_0] at st0; exact st0
  refine up_ind (P := fun i => TT mX1_planForTreaty (d + 5) 8 [some (.ref 13), some (.ref T), some (.int (nI i))] [] (wf (wf S 15 (fun i => nI (0 * miN a i + 1)) (a 0 0)) 14 (fun b => nI (lb0 (glT a) FAR b)) i, L, R) (fun r σ' => r = none ∧ ∃ S' lb', σ' = (S', L, R) ∧ PF [14, 15] S S' ∧ LB S' 14 lb' ∧ FIN (nxA a) (glT a) (fun _ _ => 0) 1000 FAR lb' ∧ (∀ x, x < 64 → lb' x ≤ FAR) ∧ ∀ i, i < a 0 0 → S' 15 i = nI (0 * miN a i + 1))) 64 ?_ ?_
  · refine T_ild2 dX1_planForTreaty_8 ?_
    refine T_bipush (v := nI 64) dX1_planForTreaty_9 (by decide) ?_
    refine T_cgeN (tgt := 55) dX1_planForTreaty_11 (by decide) (by omega) (by omega) (fun h11 => ?_) (fun h11 => by exfalso; omega)
    refine T_ald0 dX1_planForTreaty_55 ?_
    refine T_ald1 dX1_planForTreaty_56 ?_
    refine T_invV1 (M' := mX1_spread) dX1_planForTreaty_57 ml_X1_33 imX1_spread rfl (Nat.le_of_ble_eq_true rfl) rfl (Nat.le_of_ble_eq_true rfl) rfl (Nat.le_of_ble_eq_true rfl) (c_X1_spread hT (hV2 _) hW (wt := fun i => 0 * miN a i + 1) (mf := fun _ _ => 0) (lb := lb0 (glT a) FAR) (gl := glT a) (fun i hi => by rw [wf_p (by decide), wf_i hi]) (fun i hi => by omega) (fun b r h1 h2 => by simp) (fun x hx => by rw [wf_i hx]) big_T (val_0 (by decide)) (fun b _ h => if_pos h)) (fun r σ' hq => ?_)
    obtain ⟨rfl, S2, lb2, rfl, p1, p2, p3, p4⟩ := hq
    refine T_vret dX1_planForTreaty_60 rfl ?_
    exact ⟨rfl, S2, lb2, rfl, fun q hq => by rw [p1 q (by simp at hq ⊢; omega), wf_p (by simp at hq; omega), wf_p (by simp at hq; omega)], p2, p3, p4, fun i hi => by rw [p1 15 (by simp), wf_p (by decide), wf_i hi]⟩
  · intro i hi ih
    have fin : ∀ v, v = lb0 (glT a) FAR i → TT mX1_planForTreaty (d + 5) 8 [some (.ref 13), some (.ref T), some (.int (nI (i + 1)))] [] (uI (wf (wf S 15 (fun i => nI (0 * miN a i + 1)) (a 0 0)) 14 (fun b => nI (lb0 (glT a) FAR b)) i) 14 i (nI v), L, R) (fun r σ' => r = none ∧ ∃ S' lb', σ' = (S', L, R) ∧ PF [14, 15] S S' ∧ LB S' 14 lb' ∧ FIN (nxA a) (glT a) (fun _ _ => 0) 1000 FAR lb' ∧ (∀ x, x < 64 → lb' x ≤ FAR) ∧ ∀ i, i < a 0 0 → S' 15 i = nI (0 * miN a i + 1)) := by
      rintro _ rfl
      rw [wf_s (f := (fun b => nI (lb0 (glT a) FAR b)))]; exact ih
    by_cases hB0 : isB (a 0 0) i = true
    · have hB := isB_t hB0
      have l1 := land_le (c := 0) (b := i) hW
      have l2 := land_le (c := 1) (b := i) hW
      refine T_ild2 dX1_planForTreaty_8 ?_
      refine T_bipush (v := nI 64) dX1_planForTreaty_9 (by decide) ?_
      refine T_cgeN (tgt := 55) dX1_planForTreaty_11 (by decide) (by omega) (by omega) (fun h11 => by exfalso; omega) (fun h11 => ?_)
      refine T_ald0 dX1_planForTreaty_14 ?_
      refine T_getR (q := 14) dX1_planForTreaty_15 lf_X1_9 rfl rfl rfl ?_
      refine T_ild2 dX1_planForTreaty_18 ?_
      refine T_ald1 dX1_planForTreaty_19 ?_
      refine T_ild2 dX1_planForTreaty_20 ?_
      refine T_invV1i (M' := mX4_isBorder) dX1_planForTreaty_21 ml_X1_22 imX4_isBorder (kT hT) (Nat.le_of_ble_eq_true rfl) rfl (Nat.le_of_ble_eq_true rfl) rfl (Nat.le_of_ble_eq_true rfl) (c_X4_isBorder hT (hV2 _).1 w8 hi) ?_
      refine T_ifeqB (tgt := 46) dX1_planForTreaty_24 (by decide) (fun h24 => by rw [hB0] at h24; cases h24) (fun h24 => ?_)
      refine T_ald1 dX1_planForTreaty_27 ?_
      refine T_iconst (v := nI 0) dX1_planForTreaty_28 (by decide) ?_
      refine T_ild2 dX1_planForTreaty_29 ?_
      refine T_invV2i (M' := mX4_landOf) dX1_planForTreaty_30 ml_X1_37 imX4_landOf (kT hT) (Nat.le_of_ble_eq_true rfl) rfl (Nat.le_of_ble_eq_true rfl) rfl (Nat.le_of_ble_eq_true rfl) (c_X4_landOf hT (hV2 _) hW hi hB.1 hB.2.1) ?_
      refine T_ald1 dX1_planForTreaty_33 ?_
      refine T_iconst (v := nI 1) dX1_planForTreaty_34 (by decide) ?_
      refine T_ild2 dX1_planForTreaty_35 ?_
      refine T_invV2i (M' := mX4_landOf) dX1_planForTreaty_36 ml_X1_37 imX4_landOf (kT hT) (Nat.le_of_ble_eq_true rfl) rfl (Nat.le_of_ble_eq_true rfl) rfl (Nat.le_of_ble_eq_true rfl) (c_X4_landOf hT (hV2 _) hW hi hB.1 hB.2.1) ?_
      refine T_cneN (tgt := 46) dX1_planForTreaty_39 (by decide) (by omega) (by omega) (fun h39 => ?_) (fun h39 => ?_)
      · refine T_ldc ct_X1_32 dX1_planForTreaty_46 ?_
        rw [show (1000000000 : Int32) = nI FAR by decide]
        refine T_iast dX1_planForTreaty_48 rfl (by show _ < 64; omega) rfl ?_
        refine T_inc2N dX1_planForTreaty_49 (by decide) rfl ?_
        refine T_goto (tgt := 8) dX1_planForTreaty_52 (by decide) ?_
        first
          | exact fin 0 (by unfold lb0; rw [show (glT a) i = true by simp [glT, hB0, h39]]; rfl)
          | exact fin FAR (by unfold lb0; rw [show (glT a) i = false by simp [glT, hB0, h39]]; rfl)
      · refine T_iconst (v := nI 0) dX1_planForTreaty_42 (by decide) ?_
        refine T_goto (tgt := 48) dX1_planForTreaty_43 (by decide) ?_
        refine T_iast dX1_planForTreaty_48 rfl (by show _ < 64; omega) rfl ?_
        refine T_inc2N dX1_planForTreaty_49 (by decide) rfl ?_
        refine T_goto (tgt := 8) dX1_planForTreaty_52 (by decide) ?_
        first
          | exact fin 0 (by unfold lb0; rw [show (glT a) i = true by simp [glT, hB0, h39]]; rfl)
          | exact fin FAR (by unfold lb0; rw [show (glT a) i = false by simp [glT, hB0, h39]]; rfl)
    · have hB1 : isB (a 0 0) i = false := by simpa using hB0
      refine T_ild2 dX1_planForTreaty_8 ?_
      refine T_bipush (v := nI 64) dX1_planForTreaty_9 (by decide) ?_
      refine T_cgeN (tgt := 55) dX1_planForTreaty_11 (by decide) (by omega) (by omega) (fun h11 => by exfalso; omega) (fun h11 => ?_)
      refine T_ald0 dX1_planForTreaty_14 ?_
      refine T_getR (q := 14) dX1_planForTreaty_15 lf_X1_9 rfl rfl rfl ?_
      refine T_ild2 dX1_planForTreaty_18 ?_
      refine T_ald1 dX1_planForTreaty_19 ?_
      refine T_ild2 dX1_planForTreaty_20 ?_
      refine T_invV1i (M' := mX4_isBorder) dX1_planForTreaty_21 ml_X1_22 imX4_isBorder (kT hT) (Nat.le_of_ble_eq_true rfl) rfl (Nat.le_of_ble_eq_true rfl) rfl (Nat.le_of_ble_eq_true rfl) (c_X4_isBorder hT (hV2 _).1 w8 hi) ?_
      refine T_ifeqB (tgt := 46) dX1_planForTreaty_24 (by decide) (fun h24 => ?_) (fun h24 => by rw [hB1] at h24; cases h24)
      refine T_ldc ct_X1_32 dX1_planForTreaty_46 ?_
      rw [show (1000000000 : Int32) = nI FAR by decide]
      refine T_iast dX1_planForTreaty_48 rfl (by show _ < 64; omega) rfl ?_
      refine T_inc2N dX1_planForTreaty_49 (by decide) rfl ?_
      refine T_goto (tgt := 8) dX1_planForTreaty_52 (by decide) ?_
      exact fin FAR (by unfold lb0; rw [show (glT a) i = false by simp [glT, hB1]]; rfl)
