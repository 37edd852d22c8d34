/-! what the class reads off its plan -/
set_option maxRecDepth 20000 in
theorem c_X1_minutes {S : Nat → Nat → Int32} {L : Nat → Nat → Int64} {R : Nat × Nat × Nat} {d : Nat} {T : Nat} (hT : T = 19 ∨ T = 28) {a : Nat → Nat → Nat} (hV : TV S T a) (hW : WL a) {lb : Nat → Nat} (hL : LB S 14 lb) (hF : ∀ x, x < 64 → lb x ≤ FAR) : TT mX1_minutes (d + 0) 0 [some (.ref 13), some (.ref T), none] [] (S, L, R) (rt (some (.int (if lb (a 3 0) = FAR then -9 else nI (lb (a 3 0) / 1000)))) (S, L, R)) := by
  obtain ⟨hg, hdn, hso, hbd, hrn, hgu, hdi, hre⟩ := id hV
  obtain ⟨w3, w8, wd1, wd6, wso, wb, wbs, wbp, wne, wrn, wgu, wdi, wre⟩ := id hW
  have hFAR : FAR = 1000000000 := rfl
  have hb := hF _ wb
  refine T_ald0 dX1_minutes_0 ?_
  refine T_getR (q := 14) dX1_minutes_1 lf_X1_9 rfl rfl rfl ?_
  refine T_ald1 dX1_minutes_4 ?_
  refine T_getN dX1_minutes_5 lf_X1_62 (kT hT) rfl hbd ?_
  refine T_ialdN dX1_minutes_8 rfl (by show _ < 64; omega) (hL _ (by omega)) ?_
  refine T_ist2 dX1_minutes_9 (by decide) rfl ?_
  refine T_ild2 dX1_minutes_10 ?_
  refine T_ldc ct_X1_32 dX1_minutes_11 ?_
  rw [show (1000000000 : Int32) = nI FAR by decide]
  refine T_cneN (tgt := 21) dX1_minutes_13 (by decide) (by omega) (by omega) (fun h13 => ?_) (fun h13 => ?_)
  · refine T_ild2 dX1_minutes_21 ?_
    refine T_sipush (v := nI 1000) dX1_minutes_22 (by decide) ?_
    refine T_idivN dX1_minutes_25 (by omega) (by omega) (by omega) ?_
    refine T_iret dX1_minutes_26 rfl ?_
    first | (rw [if_pos h13]; exact rt_i) | (rw [if_neg h13]; exact rt_i)
  · refine T_bipush (v := -9) dX1_minutes_16 (by decide) ?_
    refine T_goto (tgt := 26) dX1_minutes_18 (by decide) ?_
    refine T_iret dX1_minutes_26 rfl ?_
    first | (rw [if_pos h13]; exact rt_i) | (rw [if_neg h13]; exact rt_i)
set_option maxRecDepth 20000 in
theorem c_X1_requests {S : Nat → Nat → Int32} {L : Nat → Nat → Int64} {R : Nat × Nat × Nat} {d : Nat} {T : Nat} (hT : T = 19 ∨ T = 28) {a : Nat → Nat → Nat} (hV : TV S T a) (hW : WL a) {lb : Nat → Nat} (hL : LB S 14 lb) (hF : ∀ x, x < 64 → lb x ≤ FAR) : TT mX1_requests (d + 0) 0 [some (.ref 13), some (.ref T), none] [] (S, L, R) (rt (some (.int (if lb (a 3 0) = FAR then -9 else nI (lb (a 3 0) % 1000)))) (S, L, R)) := by
  obtain ⟨hg, hdn, hso, hbd, hrn, hgu, hdi, hre⟩ := id hV
  obtain ⟨w3, w8, wd1, wd6, wso, wb, wbs, wbp, wne, wrn, wgu, wdi, wre⟩ := id hW
  have hFAR : FAR = 1000000000 := rfl
  have hb := hF _ wb
  refine T_ald0 dX1_requests_0 ?_
  refine T_getR (q := 14) dX1_requests_1 lf_X1_9 rfl rfl rfl ?_
  refine T_ald1 dX1_requests_4 ?_
  refine T_getN dX1_requests_5 lf_X1_62 (kT hT) rfl hbd ?_
  refine T_ialdN dX1_requests_8 rfl (by show _ < 64; omega) (hL _ (by omega)) ?_
  refine T_ist2 dX1_requests_9 (by decide) rfl ?_
  refine T_ild2 dX1_requests_10 ?_
  refine T_ldc ct_X1_32 dX1_requests_11 ?_
  rw [show (1000000000 : Int32) = nI FAR by decide]
  refine T_cneN (tgt := 21) dX1_requests_13 (by decide) (by omega) (by omega) (fun h13 => ?_) (fun h13 => ?_)
  · refine T_ild2 dX1_requests_21 ?_
    refine T_sipush (v := nI 1000) dX1_requests_22 (by decide) ?_
    refine T_iremN dX1_requests_25 (by omega) (by omega) (by omega) ?_
    refine T_iret dX1_requests_26 rfl ?_
    first | (rw [if_pos h13]; exact rt_i) | (rw [if_neg h13]; exact rt_i)
  · refine T_bipush (v := -9) dX1_requests_16 (by decide) ?_
    refine T_goto (tgt := 26) dX1_requests_18 (by decide) ?_
    refine T_iret dX1_requests_26 rfl ?_
    first | (rw [if_pos h13]; exact rt_i) | (rw [if_neg h13]; exact rt_i)
theorem lv_le {a : Nat → Nat → Nat} {wt : Nat → Nat} {mf : Nat → Nat → Nat} {lb : Nat → Nat} (hg : a 0 0 ≤ 8) (hwt : ∀ i, i < a 0 0 → wt i ≤ 20000) (hmf : ∀ b r, isB (a 0 0) b = true → r < 4 → wt (stand b r) = 1000 * mf b r + 1) (hF : ∀ x, x < 64 → lb x ≤ FAR) {b r : Nat} (hb : b < 64) (hB0 : isB (a 0 0) b = true) (hr : r < 4) : lv (nxA a) mf 1000 FAR lb b r ≤ 1000020000 := by
  unfold lv
  cases e : nxA a b r with
  | none => show FAR ≤ _; decide
  | some t =>
    have z1 := hF t (nxA_ok hg _ _ _ hb e)
    have z2 := hmf b r hB0 hr
    have z3 : stand b r < a 0 0 := by have := isB_t hB0; unfold stand; split <;> omega
    have z4 := hwt _ z3
    have hFAR : FAR = 1000000000 := rfl
    show (if lb t = FAR then FAR else lb t + (1000 * mf b r + 1)) ≤ 1000020000
    split <;> omega
theorem frK_i {nx : Nat → Nat → Option Nat} {mf : Nat → Nat → Nat} {K : Nat} {lb : Nat → Nat} {b i : Nat} (hi : i < 3) (h : mt nx mf K lb b i = true) (hn : ∀ q, q < i → mt nx mf K lb b q = false) : frK nx mf K lb b = i := by
  unfold frK
  rcases (show i = 0 ∨ i = 1 ∨ i = 2 by omega) with e | e | e <;> subst e
  · rw [if_pos h]
  · rw [if_neg (by rw [hn 0 (by decide)]; decide), if_pos h]
  · rw [if_neg (by rw [hn 0 (by decide)]; decide), if_neg (by rw [hn 1 (by decide)]; decide), if_pos h]
theorem frK_3 {nx : Nat → Nat → Option Nat} {mf : Nat → Nat → Nat} {K : Nat} {lb : Nat → Nat} {b : Nat} (hn : ∀ q, q < 3 → mt nx mf K lb b q = false) : frK nx mf K lb b = 3 := by
  unfold frK
  rw [if_neg (by rw [hn 0 (by decide)]; decide), if_neg (by rw [hn 1 (by decide)]; decide), if_neg (by rw [hn 2 (by decide)]; decide)]
set_option maxRecDepth 20000 in
theorem c_X1_firstBest {S : Nat → Nat → Int32} {L : Nat → Nat → Int64} {R : Nat × Nat × Nat} {d : Nat} {T : Nat} (hT : T = 19 ∨ T = 28) {a : Nat → Nat → Nat} (hV : TV S T a) (hW : WL a) {wt : Nat → Nat} {mf : Nat → Nat → Nat} (hw : ∀ i, i < a 0 0 → S 15 i = nI (wt i)) (hwt : ∀ i, i < a 0 0 → wt i ≤ 20000) (hmf : ∀ b r, isB (a 0 0) b = true → r < 4 → wt (stand b r) = 1000 * mf b r + 1) {lb : Nat → Nat} (hL : LB S 14 lb) (hF : ∀ x, x < 64 → lb x ≤ FAR) {b : Nat} (hb : b < 64) (hB0 : isB (a 0 0) b = true) (hbF : lb b < FAR) : TT mX1_firstBest (d + 3) 0 [some (.ref 13), some (.ref T), some (.int (nI b)), none] [] (S, L, R) (rt (some (.int (nI (frK (nxA a) mf 1000 lb b)))) (S, L, R)) := by
  obtain ⟨hg, hdn, hso, hbd, hrn, hgu, hdi, hre⟩ := id hV
  obtain ⟨w3, w8, wd1, wd6, wso, wb, wbs, wbp, wne, wrn, wgu, wdi, wre⟩ := id hW
  have hFAR : FAR = 1000000000 := rfl
  refine T_iconst (v := nI 0) dX1_firstBest_0 (by decide) ?_
  refine T_ist3 dX1_firstBest_1 (by decide) rfl ?_
  skip
  refine up_ind (P := fun i => (∀ q, q < i → mt (nxA a) mf 1000 lb b q = false) → TT mX1_firstBest (d + 3) 2 [some (.ref 13), some (.ref T), some (.int (nI b)), some (.int (nI i))] [] (S, L, R) (rt (some (.int (nI (frK (nxA a) mf 1000 lb b)))) (S, L, R))) 3 ?_ ?_ (fun q hq => absurd hq (Nat.not_lt_zero q))
  · intro hn
    refine T_ild3 dX1_firstBest_2 ?_
    refine T_iconst (v := nI 3) dX1_firstBest_3 (by decide) ?_
    refine T_cgeN (tgt := 29) dX1_firstBest_4 (by decide) (by omega) (by omega) (fun h4 => ?_) (fun h4 => by exfalso; omega)
    refine T_ild3 dX1_firstBest_29 ?_
    refine T_iret dX1_firstBest_30 rfl ?_
    rw [frK_3 hn]; exact rt_i
  · intro i hi ih hn
    have hle := lv_le w8 hwt hmf hF hb hB0 (r := i) (by omega)
    have hmi := lv_mt (nx := nxA a) (mf := mf) (K := 1000) (r := i) hbF
    refine T_ild3 dX1_firstBest_2 ?_
    refine T_iconst (v := nI 3) dX1_firstBest_3 (by decide) ?_
    refine T_cgeN (tgt := 29) dX1_firstBest_4 (by decide) (by omega) (by omega) (fun h4 => by exfalso; omega) (fun h4 => ?_)
    refine T_ald0 dX1_firstBest_7 ?_
    refine T_ald1 dX1_firstBest_8 ?_
    refine T_ild2 dX1_firstBest_9 ?_
    refine T_ild3 dX1_firstBest_10 ?_
    refine T_invV3i (M' := mX1_leftBy) dX1_firstBest_11 ml_X1_52 imX1_leftBy rfl (Nat.le_of_ble_eq_true rfl) rfl (Nat.le_of_ble_eq_true rfl) rfl (Nat.le_of_ble_eq_true rfl) (c_X1_leftBy hT hV hW hw hwt hmf hL hF hb hB0 (by omega)) ?_
    refine T_ald0 dX1_firstBest_14 ?_
    refine T_getR (q := 14) dX1_firstBest_15 lf_X1_9 rfl rfl rfl ?_
    refine T_ild2 dX1_firstBest_18 ?_
    refine T_ialdN dX1_firstBest_19 rfl (by show _ < 64; omega) (hL _ (by omega)) ?_
    refine T_ceqN (tgt := 29) dX1_firstBest_20 (by decide) (by omega) (by omega) (fun h20 => ?_) (fun h20 => ?_)
    · refine T_ild3 dX1_firstBest_29 ?_
      refine T_iret dX1_firstBest_30 rfl ?_
      rw [frK_i hi (hmi.mp h20) hn]; exact rt_i
    · refine T_inc3N dX1_firstBest_23 (by decide) rfl ?_
      refine T_goto (tgt := 2) dX1_firstBest_26 (by decide) ?_
      refine ih (fun q hq => ?_)
      by_cases e : q = i
      · subst e
        cases e2 : mt (nxA a) mf 1000 lb b q with
        | false => rfl
        | true => exact absurd (hmi.mpr e2) h20
      · exact hn q (by omega)
def itb (nx : Nat → Nat → Option Nat) (mf : Nat → Nat → Nat) (K : Nat) (lb : Nat → Nat) (b0 : Nat) : Nat → Nat
  | 0 => b0
  | i + 1 => (nx (itb nx mf K lb b0 i) (frK nx mf K lb (itb nx mf K lb b0 i))).getD 0
section ITT
variable {nx : Nat → Nat → Option Nat} {gl : Nat → Bool} {mf : Nat → Nat → Nat} {K F : Nat} {lb : Nat → Nat}
theorem itb_ok (hok : GOK nx) (hB : BIG mf K F) (hf : FIN nx gl mf K F lb) {b M n : Nat} (hb : b < 64) (hl : LX nx gl mf b M n) : ∀ i, i ≤ n → itb nx mf K lb b i < 64 ∧ ∃ M', LX nx gl mf (itb nx mf K lb b i) M' (n - i) := by
  intro i
  induction i with
  | zero => intro _; exact ⟨hb, M, hl⟩
  | succ i ih =>
    intro hi
    obtain ⟨h1, M', h2⟩ := ih (by omega)
    rw [show n - i = (n - (i + 1)) + 1 by omega] at h2
    obtain ⟨f1, f2, f3⟩ := fr_ok hok hB hf h1 h2
    obtain ⟨t, M'', g1, g2, g3⟩ := (mt_iff hok hB hf h1 h2).mp f2
    have e : itb nx mf K lb b (i + 1) = t := by
      show (nx (itb nx mf K lb b i) (frK nx mf K lb (itb nx mf K lb b i))).getD 0 = t
      rw [g1]; rfl
    rw [e]
    exact ⟨hok _ _ _ h1 g1, M'', g2⟩
theorem itb_nx (hok : GOK nx) (hB : BIG mf K F) (hf : FIN nx gl mf K F lb) {b M n i : Nat} (hb : b < 64) (hl : LX nx gl mf b M n) (hi : i < n) : nx (itb nx mf K lb b i) (frK nx mf K lb (itb nx mf K lb b i)) = some (itb nx mf K lb b (i + 1)) ∧ frK nx mf K lb (itb nx mf K lb b i) < 4 ∧ lb (itb nx mf K lb b i) < F := by
  obtain ⟨h1, M', h2⟩ := itb_ok hok hB hf hb hl i (by omega)
  rw [show n - i = (n - (i + 1)) + 1 by omega] at h2
  obtain ⟨f1, f2, f3⟩ := fr_ok hok hB hf h1 h2
  obtain ⟨t, M'', g1, g2, g3⟩ := (mt_iff hok hB hf h1 h2).mp f2
  refine ⟨?_, f1, ?_⟩
  · have e : itb nx mf K lb b (i + 1) = t := by
      show (nx (itb nx mf K lb b i) (frK nx mf K lb (itb nx mf K lb b i))).getD 0 = t
      rw [g1]; rfl
    rw [e]; exact g1
  · rw [(hf _ h1).1 _ _ h2]; exact opt_lt hok hB h1 h2
end ITT
theorem m9_nlt {k : Nat} (h : k < 2 ^ 31) : ¬ nI k < -9 := by
  intro q
  have := Int32.lt_iff_toInt_lt.mp q
  rw [nI_toInt h] at this
  have h3 : (-9 : Int32).toInt = -9 := by decide
  omega
set_option maxRecDepth 20000 in
theorem c_X1_requestAt {S : Nat → Nat → Int32} {L : Nat → Nat → Int64} {R : Nat × Nat × Nat} {d : Nat} {T : Nat} (hT : T = 19 ∨ T = 28) {a : Nat → Nat → Nat} (hV : TV S T a) (hW : WL a) {wt : Nat → Nat} {mf : Nat → Nat → Nat} (hw : ∀ i, i < a 0 0 → S 15 i = nI (wt i)) (hwt : ∀ i, i < a 0 0 → wt i ≤ 20000) (hmf : ∀ b r, isB (a 0 0) b = true → r < 4 → wt (stand b r) = 1000 * mf b r + 1) {lb : Nat → Nat} (hL : LB S 14 lb) (hF : ∀ x, x < 64 → lb x ≤ FAR) {gl : Nat → Bool} (hBG : BIG mf 1000 FAR) (hfin : FIN (nxA a) gl mf 1000 FAR lb) {k : Nat} (hk16 : k < 16) : TT mX1_requestAt (d + 4) 0 [some (.ref 13), some (.ref T), some (.int (nI k)), none, none] [] (S, L, R) (rt (some (.int ((if lb (a 3 0) = FAR then -9 else if lb (a 3 0) % 1000 ≤ k then -9 else nI (frK (nxA a) mf 1000 lb (itb (nxA a) mf 1000 lb (a 3 0) k)))))) (S, L, R)) := by
  obtain ⟨hg, hdn, hso, hbd, hrn, hgu, hdi, hre⟩ := id hV
  obtain ⟨w3, w8, wd1, wd6, wso, wb, wbs, wbp, wne, wrn, wgu, wdi, wre⟩ := id hW
  have hFAR : FAR = 1000000000 := rfl
  have hok := nxA_ok w8
  have hbF := hF _ wb
  by_cases hF0 : lb (a 3 0) = FAR
  · skip
    refine T_ild2 dX1_requestAt_0 ?_
    refine T_ald0 dX1_requestAt_1 ?_
    refine T_ald1 dX1_requestAt_2 ?_
    refine T_invV1i (M' := mX1_requests) dX1_requestAt_3 ml_X1_65 imX1_requests rfl (Nat.le_of_ble_eq_true rfl) rfl (Nat.le_of_ble_eq_true rfl) rfl (Nat.le_of_ble_eq_true rfl) (by have q := c_X1_requests (S := S) (L := L) (R := R) (d := d + 3) hT hV hW hL hF; rw [if_pos hF0] at q; exact q) ?_
    refine T_clt (tgt := 12) dX1_requestAt_6 (by decide) (fun h6 => by exact absurd h6 (m9_nlt (by omega))) (fun h6 => ?_)
    refine T_bipush (v := -9) dX1_requestAt_9 (by decide) ?_
    refine T_iret dX1_requestAt_11 rfl ?_
    rw [if_pos hF0]; exact rt_i
  · have hr : ∃ k M, CC (nxA a) gl mf k (a 3 0) M := Classical.byContradiction fun q => hF0 ((hfin _ wb).2 q)
    obtain ⟨M, n, hl⟩ := LX_ex hr
    have hlb := (hfin _ wb).1 _ _ hl
    have hn := LX_k hok wb hl
    have hmod : lb (a 3 0) % 1000 = n := by omega
    by_cases hk : lb (a 3 0) % 1000 ≤ k
    · skip
      refine T_ild2 dX1_requestAt_0 ?_
      refine T_ald0 dX1_requestAt_1 ?_
      refine T_ald1 dX1_requestAt_2 ?_
      refine T_invV1i (M' := mX1_requests) dX1_requestAt_3 ml_X1_65 imX1_requests rfl (Nat.le_of_ble_eq_true rfl) rfl (Nat.le_of_ble_eq_true rfl) rfl (Nat.le_of_ble_eq_true rfl) (by have q := c_X1_requests (S := S) (L := L) (R := R) (d := d + 3) hT hV hW hL hF; rw [if_neg hF0] at q; exact q) ?_
      refine T_cltN (tgt := 12) dX1_requestAt_6 (by decide) (by omega) (by omega) (fun h6 => by exfalso; omega) (fun h6 => ?_)
      refine T_bipush (v := -9) dX1_requestAt_9 (by decide) ?_
      refine T_iret dX1_requestAt_11 rfl ?_
      rw [if_neg hF0, if_pos hk]; exact rt_i
    · have hB00 : isB (a 0 0) (a 3 0) = true := isB_i wbs wbp wne
      have hisB : ∀ i, i ≤ k → isB (a 0 0) (itb (nxA a) mf 1000 lb (a 3 0) i) = true := fun i hi => by
        match i, hi with
        | 0, _ => exact hB00
        | i + 1, hi => exact nxA_isB w8 (itb_nx hok hBG hfin wb hl (by omega)).1
      refine T_ild2 dX1_requestAt_0 ?_
      refine T_ald0 dX1_requestAt_1 ?_
      refine T_ald1 dX1_requestAt_2 ?_
      refine T_invV1i (M' := mX1_requests) dX1_requestAt_3 ml_X1_65 imX1_requests rfl (Nat.le_of_ble_eq_true rfl) rfl (Nat.le_of_ble_eq_true rfl) rfl (Nat.le_of_ble_eq_true rfl) (by have q := c_X1_requests (S := S) (L := L) (R := R) (d := d + 3) hT hV hW hL hF; rw [if_neg hF0] at q; exact q) ?_
      refine T_cltN (tgt := 12) dX1_requestAt_6 (by decide) (by omega) (by omega) (fun h6 => ?_) (fun h6 => by exfalso; omega)
      refine T_ald1 dX1_requestAt_12 ?_
      refine T_getN dX1_requestAt_13 lf_X1_62 (kT hT) rfl hbd ?_
      refine T_ist3 dX1_requestAt_16 (by decide) rfl ?_
      refine T_iconst (v := nI 0) dX1_requestAt_17 (by decide) ?_
      refine T_ist4 dX1_requestAt_18 (by decide) rfl ?_
      skip
      refine up_ind (P := fun i => TT mX1_requestAt (d + 4) 20 [some (.ref 13), some (.ref T), some (.int (nI k)), some (.int (nI (itb (nxA a) mf 1000 lb (a 3 0) i))), some (.int (nI i))] [] (S, L, R) (rt (some (.int ((if lb (a 3 0) = FAR then -9 else if lb (a 3 0) % 1000 ≤ k then -9 else nI (frK (nxA a) mf 1000 lb (itb (nxA a) mf 1000 lb (a 3 0) k)))))) (S, L, R))) k ?_ ?_
      · have hio := itb_ok hok hBG hfin wb hl k (by omega)
        have hiB := hisB k (Nat.le_refl _)
        have hin := itb_nx hok hBG hfin wb hl (i := k) (by omega)
        refine T_ild4 dX1_requestAt_20 ?_
        refine T_ild2 dX1_requestAt_22 ?_
        refine T_cgeN (tgt := 50) dX1_requestAt_23 (by decide) (by omega) (by omega) (fun h23 => ?_) (fun h23 => by exfalso; omega)
        refine T_ild3 dX1_requestAt_50 ?_
        refine T_bipush (v := -9) dX1_requestAt_51 (by decide) ?_
        refine T_cne (tgt := 61) dX1_requestAt_53 (by decide) (fun h53 => ?_) (fun h53 => by exact absurd h53 (nI_m9 (by omega)))
        refine T_ald0 dX1_requestAt_61 ?_
        refine T_ald1 dX1_requestAt_62 ?_
        refine T_ild3 dX1_requestAt_63 ?_
        refine T_invV2i (M' := mX1_firstBest) dX1_requestAt_64 ml_X1_69 imX1_firstBest rfl (Nat.le_of_ble_eq_true rfl) rfl (Nat.le_of_ble_eq_true rfl) rfl (Nat.le_of_ble_eq_true rfl) (c_X1_firstBest hT hV hW hw hwt hmf hL hF hio.1 hiB hin.2.2) ?_
        refine T_iret dX1_requestAt_67 rfl ?_
        rw [if_neg hF0, if_neg hk]; exact rt_i
      · intro i hi ih
        have hio := itb_ok hok hBG hfin wb hl i (by omega)
        have hiB := hisB i (by omega)
        have hq := isB_t hiB
        have hin := itb_nx hok hBG hfin wb hl (i := i) (by omega)
        refine T_ild4 dX1_requestAt_20 ?_
        refine T_ild2 dX1_requestAt_22 ?_
        refine T_cgeN (tgt := 50) dX1_requestAt_23 (by decide) (by omega) (by omega) (fun h23 => by exfalso; omega) (fun h23 => ?_)
        refine T_ild3 dX1_requestAt_26 ?_
        refine T_bipush (v := -9) dX1_requestAt_27 (by decide) ?_
        refine T_ceq (tgt := 50) dX1_requestAt_29 (by decide) (fun h29 => by exact absurd h29 (nI_m9 (by omega))) (fun h29 => ?_)
        refine T_ald1 dX1_requestAt_32 ?_
        refine T_ild3 dX1_requestAt_33 ?_
        refine T_ald0 dX1_requestAt_34 ?_
        refine T_ald1 dX1_requestAt_35 ?_
        refine T_ild3 dX1_requestAt_36 ?_
        refine T_invV2i (M' := mX1_firstBest) dX1_requestAt_37 ml_X1_69 imX1_firstBest rfl (Nat.le_of_ble_eq_true rfl) rfl (Nat.le_of_ble_eq_true rfl) rfl (Nat.le_of_ble_eq_true rfl) (c_X1_firstBest hT hV hW hw hwt hmf hL hF hio.1 hiB hin.2.2) ?_
        refine T_invV2i (M' := mX4_borderBehind) dX1_requestAt_40 ml_X1_56 imX4_borderBehind (kT hT) (Nat.le_of_ble_eq_true rfl) rfl (Nat.le_of_ble_eq_true rfl) rfl (Nat.le_of_ble_eq_true rfl) (c_bb_s hT hg w8 hio.1 hq.1 hq.2.1 hin.2.1 (by rw [← nxA_B hiB]; exact hin.1)) ?_
        refine T_ist3 dX1_requestAt_43 (by decide) rfl ?_
        refine T_inc4N dX1_requestAt_44 (by decide) rfl ?_
        refine T_goto (tgt := 20) dX1_requestAt_47 (by decide) ?_
        exact ih
