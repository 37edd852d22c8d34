/-! the reference: ask, treaty -/
theorem mt_s {nx : Nat → Nat → Option Nat} {mf : Nat → Nat → Nat} {K : Nat} {lb : Nat → Nat} {b r t : Nat} (h : nx b r = some t) : mt nx mf K lb b r = decide (lb t + (K * mf b r + 1) = lb b) := by unfold mt; rw [h]
theorem mt_n {nx : Nat → Nat → Option Nat} {mf : Nat → Nat → Nat} {K : Nat} {lb : Nat → Nat} {b r : Nat} (h : nx b r = none) : mt nx mf K lb b r = false := by unfold mt; rw [h]
theorem wth_zr {z : Int32} : wth z (-2) (nI 15) = zr z := by
  rcases z_cases z with h | h | rfl | rfl | ⟨k, hk, rfl⟩
  · rw [zr_lo h]; exact decide_eq_false (fun q => Int32.not_lt.mpr q.1 h)
  · rw [zr_hi h.2]; exact decide_eq_false (fun q => h.2 q.2)
  · decide
  · decide
  · rw [zr_k hk]; exact decide_eq_true ⟨Int32.not_lt.mp (k_15 k hk).1, (k_15 k hk).2.1⟩
theorem wth_zt {z : Int32} : wth z (-1) (nI 15) = zt z := by
  rcases z_cases z with h | h | rfl | rfl | ⟨k, hk, rfl⟩
  · have h1 : z < -1 := Int32.lt_trans h m12.2.2.2.2.2.2.2
    rw [zt_lo h1]; exact decide_eq_false (fun q => Int32.not_lt.mpr q.1 h1)
  · rw [zt_hi h.2]; exact decide_eq_false (fun q => h.2 q.2)
  · decide
  · decide
  · rw [zt_k hk]; exact decide_eq_true ⟨Int32.not_lt.mp (k_15 k hk).2.2.2.2, (k_15 k hk).2.1⟩
theorem CC_0 {nx : Nat → Nat → Option Nat} {gl : Nat → Bool} : ∀ {k b M : Nat}, CC nx gl (fun _ _ => 0) k b M → M = 0
  | 0, _, _, h => h.2
  | _ + 1, _, _, h => by
    obtain ⟨r, t, M', _, _, h3, h4⟩ := h
    have e := CC_0 h3
    subst e
    exact h4
theorem fin_LX {nx : Nat → Nat → Option Nat} {gl : Nat → Bool} {mf : Nat → Nat → Nat} {K F : Nat} {lb : Nat → Nat} (hf : FIN nx gl mf K F lb) {b : Nat} (hb : b < 64) (h : ¬ lb b = F) : ∃ M n, LX nx gl mf b M n ∧ lb b = K * M + n := by
  have hx : ∃ k M, CC nx gl mf k b M := Classical.byContradiction fun q => h ((hf b hb).2 q)
  obtain ⟨M, n, hl⟩ := LX_ex hx
  exact ⟨M, n, hl, (hf b hb).1 M n hl⟩
set_option maxRecDepth 20000 in
theorem c_X7_firstRequest {S : Nat → Nat → Int32} {L : Nat → Nat → Int64} {R : Nat × Nat × Nat} {d : Nat} {a : Nat → Nat → Nat} (hM : MV S a) (hW : WL a) {w : Nat} {mf : Nat → Nat → Nat} {gl : Nat → Bool} {lb : Nat → Nat} (hmf : ∀ b r, isB (a 0 0) b = true → r < 4 → w * miN a (stand b r) = 100 * mf b r) (hB : BIG mf 100 NEV) (hL : LB S 51 lb) (hf : FIN (nxA a) gl mf 100 NEV lb) (hF : ∀ x, x < 64 → lb x ≤ NEV) {b M k : Nat} (hb : b < 64) (hbB : isB (a 0 0) b = true) (hl : LX (nxA a) gl mf b M (k + 1)) : TT mX7_firstRequest (d + 3) 0 [some (.ref 37), some (.int (nI b)), some (.int (nI w)), none] [] (S, L, R) (rt (some (.int (nI (frK (nxA a) mf 100 lb b)))) (S, L, R)) := by
  obtain ⟨mg, mdn, mso, msa, mpe, mrn, mgu, mdi, mre⟩ := id hM
  obtain ⟨w3, w8, wd1, wd6, wso, wb, wbs, wbp, wne, wrn, wgu, wdi, wre⟩ := id hW
  have hNEV : NEV = 1000000 := rfl
  have hok : GOK (nxA a) := nxA_ok w8
  have hbt := isB_t hbB
  obtain ⟨q1, q2, q3⟩ := fr_ok hok hB hf hb hl
  have fb := hF b hb
  refine T_iconst (v := nI 0) dX7_firstRequest_0 (by decide) ?_
  refine T_ist3 dX7_firstRequest_1 (by decide) rfl ?_
  skip
  refine up_ind (P := fun r => TT mX7_firstRequest (d + 3) 2 [some (.ref 37), some (.int (nI b)), some (.int (nI w)), some (.int (nI r))] [] (S, L, R) (rt (some (.int (nI (frK (nxA a) mf 100 lb b)))) (S, L, R))) (frK (nxA a) mf 100 lb b) ?_ ?_
  · generalize hr : frK (nxA a) mf 100 lb b = r at q1 q2 ⊢
    have hr4 := q1
    have hnx := nxA_B (a := a) (r := r) hbB
    have cC := c_X7_costOf (L := L) (R := R) (d := d) (w := w) hM hW hb hbt.1 hbt.2.1 hr4
    rw [hmf _ _ hbB hr4] at cC
    have hml := hB.2.1 b r
    cases hbe : beh (a 0 0) b r with
    | none => rw [hbe] at hnx; rw [mt_n hnx] at q2; cases q2
    | some t =>
      rw [hbe] at hnx
      rw [mt_s hnx] at q2
      have q4 := of_decide_eq_true q2
      have ht := (beh_some w8 hbt.1 hbt.2.1 hbe).1
      have ft := hF t ht
      refine T_ald0 dX7_firstRequest_2 ?_
      refine T_ild1 dX7_firstRequest_3 ?_
      refine T_ild3 dX7_firstRequest_4 ?_
      refine T_invV2i (M' := mX7_behind) dX7_firstRequest_5 ml_X7_175 imX7_behind rfl (Nat.le_of_ble_eq_true rfl) rfl (Nat.le_of_ble_eq_true rfl) rfl (Nat.le_of_ble_eq_true rfl) (c_mb_s mg w8 hb hbt.1 hbt.2.1 hr4 hbe) ?_
      refine T_bipush (v := -9) dX7_firstRequest_8 (by decide) ?_
      refine T_ceq (tgt := 41) dX7_firstRequest_10 (by decide) (fun h10 => by exact absurd h10 (nI_m9 (by omega))) (fun h10 => ?_)
      refine T_ald0 dX7_firstRequest_13 ?_
      refine T_getR (q := 51) dX7_firstRequest_14 lf_X7_49 rfl rfl rfl ?_
      refine T_ald0 dX7_firstRequest_17 ?_
      refine T_ild1 dX7_firstRequest_18 ?_
      refine T_ild3 dX7_firstRequest_19 ?_
      refine T_invV2i (M' := mX7_behind) dX7_firstRequest_20 ml_X7_175 imX7_behind rfl (Nat.le_of_ble_eq_true rfl) rfl (Nat.le_of_ble_eq_true rfl) rfl (Nat.le_of_ble_eq_true rfl) (c_mb_s mg w8 hb hbt.1 hbt.2.1 hr4 hbe) ?_
      refine T_ialdN dX7_firstRequest_23 rfl (by show _ < 64; omega) (hL _ (by omega)) ?_
      refine T_ald0 dX7_firstRequest_24 ?_
      refine T_ild1 dX7_firstRequest_25 ?_
      refine T_ild3 dX7_firstRequest_26 ?_
      refine T_ild2 dX7_firstRequest_27 ?_
      refine T_invV3i (M' := mX7_costOf) dX7_firstRequest_28 ml_X7_191 imX7_costOf rfl (Nat.le_of_ble_eq_true rfl) rfl (Nat.le_of_ble_eq_true rfl) rfl (Nat.le_of_ble_eq_true rfl) cC ?_
      refine T_iaddN dX7_firstRequest_31 ?_
      refine T_ald0 dX7_firstRequest_32 ?_
      refine T_getR (q := 51) dX7_firstRequest_33 lf_X7_49 rfl rfl rfl ?_
      refine T_ild1 dX7_firstRequest_36 ?_
      refine T_ialdN dX7_firstRequest_37 rfl (by show _ < 64; omega) (hL _ (by omega)) ?_
      refine T_ceqN (tgt := 47) dX7_firstRequest_38 (by decide) (by omega) (by omega) (fun h38 => ?_) (fun h38 => by exact absurd q4 h38)
      refine T_ild3 dX7_firstRequest_47 ?_
      refine T_iret dX7_firstRequest_48 rfl ?_
      exact rt_i
  · intro r hr ih
    have hr4 : r < 4 := by omega
    have hnx := nxA_B (a := a) (r := r) hbB
    have q4 := q3 r hr
    have cC := c_X7_costOf (L := L) (R := R) (d := d) (w := w) hM hW hb hbt.1 hbt.2.1 hr4
    rw [hmf _ _ hbB hr4] at cC
    have hml := hB.2.1 b r
    cases hbe : beh (a 0 0) b r with
    | none =>
      refine T_ald0 dX7_firstRequest_2 ?_
      refine T_ild1 dX7_firstRequest_3 ?_
      refine T_ild3 dX7_firstRequest_4 ?_
      refine T_invV2i (M' := mX7_behind) dX7_firstRequest_5 ml_X7_175 imX7_behind rfl (Nat.le_of_ble_eq_true rfl) rfl (Nat.le_of_ble_eq_true rfl) rfl (Nat.le_of_ble_eq_true rfl) (c_mb_n mg w8 hb hbt.1 hbt.2.1 hr4 hbe) ?_
      refine T_bipush (v := -9) dX7_firstRequest_8 (by decide) ?_
      refine T_ceq (tgt := 41) dX7_firstRequest_10 (by decide) (fun h10 => ?_) (fun h10 => by exact absurd rfl h10)
      refine T_inc3N dX7_firstRequest_41 (by decide) rfl ?_
      refine T_goto (tgt := 2) dX7_firstRequest_44 (by decide) ?_
      exact ih
    | some t =>
      rw [hbe] at hnx
      rw [mt_s hnx] at q4
      have q5 := of_decide_eq_false q4
      have ht := (beh_some w8 hbt.1 hbt.2.1 hbe).1
      have ft := hF t ht
      refine T_ald0 dX7_firstRequest_2 ?_
      refine T_ild1 dX7_firstRequest_3 ?_
      refine T_ild3 dX7_firstRequest_4 ?_
      refine T_invV2i (M' := mX7_behind) dX7_firstRequest_5 ml_X7_175 imX7_behind rfl (Nat.le_of_ble_eq_true rfl) rfl (Nat.le_of_ble_eq_true rfl) rfl (Nat.le_of_ble_eq_true rfl) (c_mb_s mg w8 hb hbt.1 hbt.2.1 hr4 hbe) ?_
      refine T_bipush (v := -9) dX7_firstRequest_8 (by decide) ?_
      refine T_ceq (tgt := 41) dX7_firstRequest_10 (by decide) (fun h10 => by exact absurd h10 (nI_m9 (by omega))) (fun h10 => ?_)
      refine T_ald0 dX7_firstRequest_13 ?_
      refine T_getR (q := 51) dX7_firstRequest_14 lf_X7_49 rfl rfl rfl ?_
      refine T_ald0 dX7_firstRequest_17 ?_
      refine T_ild1 dX7_firstRequest_18 ?_
      refine T_ild3 dX7_firstRequest_19 ?_
      refine T_invV2i (M' := mX7_behind) dX7_firstRequest_20 ml_X7_175 imX7_behind rfl (Nat.le_of_ble_eq_true rfl) rfl (Nat.le_of_ble_eq_true rfl) rfl (Nat.le_of_ble_eq_true rfl) (c_mb_s mg w8 hb hbt.1 hbt.2.1 hr4 hbe) ?_
      refine T_ialdN dX7_firstRequest_23 rfl (by show _ < 64; omega) (hL _ (by omega)) ?_
      refine T_ald0 dX7_firstRequest_24 ?_
      refine T_ild1 dX7_firstRequest_25 ?_
      refine T_ild3 dX7_firstRequest_26 ?_
      refine T_ild2 dX7_firstRequest_27 ?_
      refine T_invV3i (M' := mX7_costOf) dX7_firstRequest_28 ml_X7_191 imX7_costOf rfl (Nat.le_of_ble_eq_true rfl) rfl (Nat.le_of_ble_eq_true rfl) rfl (Nat.le_of_ble_eq_true rfl) cC ?_
      refine T_iaddN dX7_firstRequest_31 ?_
      refine T_ald0 dX7_firstRequest_32 ?_
      refine T_getR (q := 51) dX7_firstRequest_33 lf_X7_49 rfl rfl rfl ?_
      refine T_ild1 dX7_firstRequest_36 ?_
      refine T_ialdN dX7_firstRequest_37 rfl (by show _ < 64; omega) (hL _ (by omega)) ?_
      refine T_ceqN (tgt := 47) dX7_firstRequest_38 (by decide) (by omega) (by omega) (fun h38 => by exact absurd h38 q5) (fun h38 => ?_)
      refine T_inc3N dX7_firstRequest_41 (by decide) rfl ?_
      refine T_goto (tgt := 2) dX7_firstRequest_44 (by decide) ?_
      exact ih
def cuI (nx : Nat → Nat → Option Nat) (mf : Nat → Nat → Nat) (K : Nat) (lb : Nat → Nat) (b0 n : Nat) : Nat → Int32
  | 0 => -9
  | i + 1 => if i < n then nI (frK nx mf K lb (itb nx mf K lb b0 i)) else -9
set_option maxRecDepth 20000 in
theorem c_X7_requestOf {S : Nat → Nat → Int32} {L : Nat → Nat → Int64} {R : Nat × Nat × Nat} {d : Nat} {a : Nat → Nat → Nat} (hM : MV S a) (hW : WL a) {w : Nat} {mf : Nat → Nat → Nat} {gl : Nat → Bool} {lb : Nat → Nat} (hmf : ∀ b r, isB (a 0 0) b = true → r < 4 → w * miN a (stand b r) = 100 * mf b r) (hB : BIG mf 100 NEV) (hL : LB S 51 lb) (hf : FIN (nxA a) gl mf 100 NEV lb) (hF : ∀ x, x < 64 → lb x ≤ NEV) {k M n : Nat} (hk : k < 16) (hl : LX (nxA a) gl mf (a 3 0) M n) : TT mX7_requestOf (d + 4) 0 [some (.ref 37), some (.int (nI k)), some (.int (nI w)), none, none, none] [] (S, L, R) (rt (some (.int (cuI (nxA a) mf 100 lb (a 3 0) n (k + 1)))) (S, L, R)) := by
  obtain ⟨mg, mdn, mso, msa, mpe, mrn, mgu, mdi, mre⟩ := id hM
  obtain ⟨w3, w8, wd1, wd6, wso, wb, wbs, wbp, wne, wrn, wgu, wdi, wre⟩ := id hW
  have hNEV : NEV = 1000000 := rfl
  have hok : GOK (nxA a) := nxA_ok w8
  refine T_ald0 dX7_requestOf_0 ?_
  refine T_invV0i (M' := mX7_stateNow) dX7_requestOf_1 ml_X7_171 imX7_stateNow rfl (Nat.le_of_ble_eq_true rfl) rfl (Nat.le_of_ble_eq_true rfl) rfl (Nat.le_of_ble_eq_true rfl) (c_X7_stateNow hM) ?_
  refine T_ist3 dX7_requestOf_4 (by decide) rfl ?_
  refine T_bipush (v := -9) dX7_requestOf_5 (by decide) ?_
  refine T_ist4 dX7_requestOf_7 (by decide) rfl ?_
  refine T_iconst (v := nI 0) dX7_requestOf_9 (by decide) ?_
  refine T_ist5 dX7_requestOf_10 (by decide) rfl ?_
  skip
  refine up_ind (P := fun i => TT mX7_requestOf (d + 4) 12 [some (.ref 37), some (.int (nI k)), some (.int (nI w)), some (.int (nI (itb (nxA a) mf 100 lb (a 3 0) (if i ≤ n then i else n)))), some (.int (cuI (nxA a) mf 100 lb (a 3 0) n (i))), some (.int (nI i))] [] (S, L, R) (rt (some (.int (cuI (nxA a) mf 100 lb (a 3 0) n (k + 1)))) (S, L, R))) (k + 1) ?_ ?_
  · refine T_ild5 dX7_requestOf_12 ?_
    refine T_ild1 dX7_requestOf_14 ?_
    refine T_cgtN (tgt := 65) dX7_requestOf_15 (by decide) (by omega) (by omega) (fun h15 => ?_) (fun h15 => by exfalso; omega)
    refine T_ild4 dX7_requestOf_65 ?_
    refine T_iret dX7_requestOf_67 rfl ?_
    exact rt_i
  · intro i hi ih
    by_cases hin : i < n
    · obtain ⟨o1, M', o2⟩ := itb_ok hok hB hf wb hl i (by omega)
      obtain ⟨o3, o4, o5⟩ := itb_nx hok hB hf wb hl hin
      have ov := (hf _ o1).1 _ _ o2
      have o6 : isB (a 0 0) (itb (nxA a) mf 100 lb (a 3 0) (i)) = true := by
        unfold nxA at o3
        split at o3
        · assumption
        · cases o3
      have o7 := isB_t o6
      have o8 := o3
      rw [nxA_B o6] at o8
      rw [show n - i = (n - (i + 1)) + 1 by omega] at o2
      rw [if_pos (show i + 1 ≤ n by omega), show cuI (nxA a) mf 100 lb (a 3 0) n (i + 1) = _ from if_pos hin] at ih
      rw [if_pos (show i ≤ n by omega)]
      have hne : lb (itb (nxA a) mf 100 lb (a 3 0) (i)) ≠ 0 := by omega
      refine T_ild5 dX7_requestOf_12 ?_
      refine T_ild1 dX7_requestOf_14 ?_
      refine T_cgtN (tgt := 65) dX7_requestOf_15 (by decide) (by omega) (by omega) (fun h15 => by exfalso; omega) (fun h15 => ?_)
      refine T_ald0 dX7_requestOf_18 ?_
      refine T_getR (q := 51) dX7_requestOf_19 lf_X7_49 rfl rfl rfl ?_
      refine T_ild3 dX7_requestOf_22 ?_
      refine T_ialdN dX7_requestOf_23 rfl (by show _ < 64; omega) (hL _ (by omega)) ?_
      refine T_ifneN (tgt := 32) dX7_requestOf_24 (by decide) (by omega) (fun h24 => ?_) (fun h24 => by exact absurd h24 hne)
      refine T_ald0 dX7_requestOf_32 ?_
      refine T_ild3 dX7_requestOf_33 ?_
      refine T_ild2 dX7_requestOf_34 ?_
      refine T_invV2i (M' := mX7_firstRequest) dX7_requestOf_35 ml_X7_194 imX7_firstRequest rfl (Nat.le_of_ble_eq_true rfl) rfl (Nat.le_of_ble_eq_true rfl) rfl (Nat.le_of_ble_eq_true rfl) (c_X7_firstRequest hM hW hmf hB hL hf hF o1 o6 o2) ?_
      refine T_ist4 dX7_requestOf_38 (by decide) rfl ?_
      refine T_ild4 dX7_requestOf_40 ?_
      refine T_bipush (v := -9) dX7_requestOf_42 (by decide) ?_
      refine T_cne (tgt := 51) dX7_requestOf_44 (by decide) (fun h44 => ?_) (fun h44 => by exact absurd h44 (nI_m9 (by omega)))
      refine T_ald0 dX7_requestOf_51 ?_
      refine T_ild3 dX7_requestOf_52 ?_
      refine T_ild4 dX7_requestOf_53 ?_
      refine T_invV2i (M' := mX7_behind) dX7_requestOf_55 ml_X7_175 imX7_behind rfl (Nat.le_of_ble_eq_true rfl) rfl (Nat.le_of_ble_eq_true rfl) rfl (Nat.le_of_ble_eq_true rfl) (c_mb_s mg w8 o1 o7.1 o7.2.1 o4 o8) ?_
      refine T_ist3 dX7_requestOf_58 (by decide) rfl ?_
      refine T_inc5N dX7_requestOf_59 (by decide) rfl ?_
      refine T_goto (tgt := 12) dX7_requestOf_62 (by decide) ?_
      exact ih
    · obtain ⟨o1, M', o2⟩ := itb_ok hok hB hf wb hl n (Nat.le_refl _)
      rw [Nat.sub_self] at o2
      have ov := (hf _ o1).1 _ _ o2
      have hm0 := (LX_0 o2).2
      have he : itb (nxA a) mf 100 lb (a 3 0) (if i ≤ n then i else n) = itb (nxA a) mf 100 lb (a 3 0) (n) := by
        by_cases q : i ≤ n
        · rw [if_pos q, show i = n by omega]
        · rw [if_neg q]
      rw [if_neg (show ¬ i + 1 ≤ n by omega), show cuI (nxA a) mf 100 lb (a 3 0) n (i + 1) = _ from if_neg hin] at ih
      rw [he]
      have hz : lb (itb (nxA a) mf 100 lb (a 3 0) (n)) = 0 := by rw [ov, hm0]
      refine T_ild5 dX7_requestOf_12 ?_
      refine T_ild1 dX7_requestOf_14 ?_
      refine T_cgtN (tgt := 65) dX7_requestOf_15 (by decide) (by omega) (by omega) (fun h15 => by exfalso; omega) (fun h15 => ?_)
      refine T_ald0 dX7_requestOf_18 ?_
      refine T_getR (q := 51) dX7_requestOf_19 lf_X7_49 rfl rfl rfl ?_
      refine T_ild3 dX7_requestOf_22 ?_
      refine T_ialdN dX7_requestOf_23 rfl (by show _ < 64; omega) (hL _ (by omega)) ?_
      refine T_ifneN (tgt := 32) dX7_requestOf_24 (by decide) (by omega) (fun h24 => by exact absurd hz h24) (fun h24 => ?_)
      refine T_bipush (v := -9) dX7_requestOf_27 (by decide) ?_
      refine T_goto (tgt := 38) dX7_requestOf_29 (by decide) ?_
      refine T_ist4 dX7_requestOf_38 (by decide) rfl ?_
      refine T_ild4 dX7_requestOf_40 ?_
      refine T_bipush (v := -9) dX7_requestOf_42 (by decide) ?_
      refine T_cne (tgt := 51) dX7_requestOf_44 (by decide) (fun h44 => by exact absurd rfl h44) (fun h44 => ?_)
      refine T_ild3 dX7_requestOf_47 ?_
      refine T_goto (tgt := 58) dX7_requestOf_48 (by decide) ?_
      refine T_ist3 dX7_requestOf_58 (by decide) rfl ?_
      refine T_inc5N dX7_requestOf_59 (by decide) rfl ?_
      refine T_goto (tgt := 12) dX7_requestOf_62 (by decide) ?_
      exact ih
set_option maxRecDepth 20000 in
theorem c_within_zr {S : Nat → Nat → Int32} {L : Nat → Nat → Int64} {R : Nat × Nat × Nat} {d : Nat} {x : Int32} : TT mX7_within (d + 0) 0 [some (.int x), some (.int (-2)), some (.int (nI 15))] [] (S, L, R) (rt (some (.int (bI (zr x)))) (S, L, R)) := by
  have q := c_X7_within (S := S) (L := L) (R := R) (d := d) (x := x) (l := -2) (h := nI 15)
  rw [wth_zr] at q; exact q
set_option maxRecDepth 20000 in
theorem c_within_zt {S : Nat → Nat → Int32} {L : Nat → Nat → Int64} {R : Nat × Nat × Nat} {d : Nat} {x : Int32} : TT mX7_within (d + 0) 0 [some (.int x), some (.int (-1)), some (.int (nI 15))] [] (S, L, R) (rt (some (.int (bI (zt x)))) (S, L, R)) := by
  have q := c_X7_within (S := S) (L := L) (R := R) (d := d) (x := x) (l := -1) (h := nI 15)
  rw [wth_zt] at q; exact q
theorem cu_ask {nx : Nat → Nat → Option Nat} {gl : Nat → Bool} {mf : Nat → Nat → Nat} {lb : Nat → Nat} {b0 M n k : Nat} (hok : GOK nx) (hb : b0 < 64) (hl : LX nx gl mf b0 M n) (he : lb b0 = 100 * M + n) : cuI nx mf 100 lb b0 n (k + 1) = if lb b0 % 100 ≤ k then -9 else nI (frK nx mf 100 lb (itb nx mf 100 lb b0 k)) := by
  have hn := LX_k hok hb hl
  have e : lb b0 % 100 = n := by omega
  rw [e]
  by_cases q : k < n
  · rw [if_neg (by omega)]; exact if_pos q
  · rw [if_pos (by omega)]; exact if_neg q
set_option maxRecDepth 20000 in
theorem c_X7_ask {S : Nat → Nat → Int32} {L : Nat → Nat → Int64} {R : Nat × Nat × Nat} {d : Nat} {a : Nat → Nat → Nat} (hM : MV S a) (hWF : WFA a) {x y z : Int32} : TT mX7_ask (d + 5) 0 [some (.ref 37), some (.int (x)), some (.int (y)), some (.int (z)), none] [] (S, L, R) (fun r σ' => ∃ S', σ' = (S', L, R) ∧ MV S' a ∧ FM S S' ∧ ∃ v, r = some (.int v) ∧ AskP 100 NEV a x y z v) := by
  obtain ⟨mg, mdn, mso, msa, mpe, mrn, mgu, mdi, mre⟩ := id hM
  obtain ⟨b8, b6, b3, b64, br8⟩ := hWF.b
  have hNEV : NEV = 1000000 := rfl
  cases hc0 : (blw x (a 1 0) && blw y 2) with
  | false =>
    refine T_ald0 dX7_ask_0 ?_
    refine T_ild1 dX7_ask_1 ?_
    refine T_invV1i (M' := mX7_isDish) dX7_ask_2 ml_X7_159 imX7_isDish rfl (Nat.le_of_ble_eq_true rfl) rfl (Nat.le_of_ble_eq_true rfl) rfl (Nat.le_of_ble_eq_true rfl) (c_X7_isDish mdn b6) ?_
    refine T_ifeqB (tgt := 15) dX7_ask_5 (by decide) (fun h5 => ?_) (fun h5 => ?_)
    · refine T_iconst (v := -1) dX7_ask_15 (by decide) ?_
      refine T_iret dX7_ask_16 rfl ?_
      refine ⟨_, rfl, hM, FM_r, _, rfl, Or.inl ⟨hc0, rfl⟩⟩
    · refine T_ild2 dX7_ask_8 ?_
      refine T_invS1i (M' := mX7_isCountry) dX7_ask_9 ml_X7_162 imX7_isCountry (Nat.le_of_ble_eq_true rfl) rfl (Nat.le_of_ble_eq_true rfl) c_X7_isCountry ?_
      refine T_ifneB (tgt := 17) dX7_ask_12 (by decide) (fun h12 => ?_) (fun h12 => ?_)
      · exfalso; rw [h5, h12] at hc0; cases hc0
      · refine T_iconst (v := -1) dX7_ask_15 (by decide) ?_
        refine T_iret dX7_ask_16 rfl ?_
        refine ⟨_, rfl, hM, FM_r, _, rfl, Or.inl ⟨hc0, rfl⟩⟩
  | true =>
    have hc1 := hc0
    simp only [Bool.and_eq_true] at hc1
    obtain ⟨k1, k2⟩ := hc1
    obtain ⟨e, he, rfl⟩ := blw_t k1
    obtain ⟨c, hc, rfl⟩ := blw_t k2
    have ie : ix (nI e) = e := ix_n (by omega)
    have ic : ix (nI c) = c := ix_n (by omega)
    have hW := hWF.d (by omega)
    obtain ⟨w3, w8, wd1, wd6, wso, wb, wbs, wbp, wne, wrn, wgu, wdi, wre⟩ := id hW
    cases hz : zr z with
    | false =>
      refine T_ald0 dX7_ask_0 ?_
      refine T_ild1 dX7_ask_1 ?_
      refine T_invV1i (M' := mX7_isDish) dX7_ask_2 ml_X7_159 imX7_isDish rfl (Nat.le_of_ble_eq_true rfl) rfl (Nat.le_of_ble_eq_true rfl) rfl (Nat.le_of_ble_eq_true rfl) (c_X7_isDish mdn b6) ?_
      refine T_ifeqB (tgt := 15) dX7_ask_5 (by decide) (fun h5 => by rw [k1] at h5; cases h5) (fun h5 => ?_)
      refine T_ild2 dX7_ask_8 ?_
      refine T_invS1i (M' := mX7_isCountry) dX7_ask_9 ml_X7_162 imX7_isCountry (Nat.le_of_ble_eq_true rfl) rfl (Nat.le_of_ble_eq_true rfl) c_X7_isCountry ?_
      refine T_ifneB (tgt := 17) dX7_ask_12 (by decide) (fun h12 => ?_) (fun h12 => by rw [k2] at h12; cases h12)
      refine T_ild3 dX7_ask_17 ?_
      refine T_bipush (v := -2) dX7_ask_18 (by decide) ?_
      refine T_bipush (v := nI 15) dX7_ask_20 (by decide) ?_
      refine T_invS3i (M' := mX7_within) dX7_ask_22 ml_X7_74 imX7_within (Nat.le_of_ble_eq_true rfl) rfl (Nat.le_of_ble_eq_true rfl) c_within_zr ?_
      refine T_ifneB (tgt := 31) dX7_ask_25 (by decide) (fun h25 => by rw [hz] at h25; cases h25) (fun h25 => ?_)
      refine T_bipush (v := -2) dX7_ask_28 (by decide) ?_
      refine T_iret dX7_ask_30 rfl ?_
      refine ⟨_, rfl, hM, FM_r, _, rfl, Or.inr (Or.inl ⟨hc0, hz, rfl⟩)⟩
    | true =>
      rcases z_cases z with q | q | rfl | rfl | ⟨k, hk, rfl⟩
      · rw [zr_lo q] at hz; cases hz
      · rw [zr_hi q.2] at hz; cases hz
      · skip
        refine T_ald0 dX7_ask_0 ?_
        refine T_ild1 dX7_ask_1 ?_
        refine T_invV1i (M' := mX7_isDish) dX7_ask_2 ml_X7_159 imX7_isDish rfl (Nat.le_of_ble_eq_true rfl) rfl (Nat.le_of_ble_eq_true rfl) rfl (Nat.le_of_ble_eq_true rfl) (c_X7_isDish mdn b6) ?_
        refine T_ifeqB (tgt := 15) dX7_ask_5 (by decide) (fun h5 => by rw [k1] at h5; cases h5) (fun h5 => ?_)
        refine T_ild2 dX7_ask_8 ?_
        refine T_invS1i (M' := mX7_isCountry) dX7_ask_9 ml_X7_162 imX7_isCountry (Nat.le_of_ble_eq_true rfl) rfl (Nat.le_of_ble_eq_true rfl) c_X7_isCountry ?_
        refine T_ifneB (tgt := 17) dX7_ask_12 (by decide) (fun h12 => ?_) (fun h12 => by rw [k2] at h12; cases h12)
        refine T_ild3 dX7_ask_17 ?_
        refine T_bipush (v := -2) dX7_ask_18 (by decide) ?_
        refine T_bipush (v := nI 15) dX7_ask_20 (by decide) ?_
        refine T_invS3i (M' := mX7_within) dX7_ask_22 ml_X7_74 imX7_within (Nat.le_of_ble_eq_true rfl) rfl (Nat.le_of_ble_eq_true rfl) c_within_zr ?_
        refine T_ifneB (tgt := 31) dX7_ask_25 (by decide) (fun h25 => ?_) (fun h25 => by rw [hz] at h25; cases h25)
        refine T_ald0 dX7_ask_31 ?_
        refine T_ild1 dX7_ask_32 ?_
        refine T_ild2 dX7_ask_33 ?_
        refine T_bipush (v := nI 100) dX7_ask_34 (by decide) ?_
        refine T_invV3 (M' := mX7_findLeft) dX7_ask_36 ml_X7_197 imX7_findLeft rfl (Nat.le_of_ble_eq_true rfl) rfl (Nat.le_of_ble_eq_true rfl) rfl (Nat.le_of_ble_eq_true rfl) (c_X7_findLeft hM hW (mf := mfA a) (gl := glD a e c) (by decide) (fun b h => by unfold glD at h; simp only [Bool.and_eq_true] at h; exact h.1) (fun S1 b h1 hb hB => by have q := c_X7_isGoalD (L := L) (R := R) (d := d + 1) (c := c) h1 hW hb (isB_t hB).1 (isB_t hB).2.1 he; rw [show glD a e c b = decide (who (a 0 0) (a 8 e) (b / 8) (b % 8) = nI c) by unfold glD; rw [hB, Bool.true_and]]; exact q) (fun b r hb _ => by unfold mfA; rw [if_pos hb]) (mbig_D hW)) (fun r σ' hq => ?_)
        obtain ⟨rfl, S2, lb, rfl, hN, hL, hf, hF⟩ := hq
        have hM2 := NW.mv hN hM
        have hC2 := NW.fm hN
        have fb := hF _ wb
        refine T_ald0 dX7_ask_39 ?_
        refine T_getR (q := 51) dX7_ask_40 lf_X7_49 rfl rfl rfl ?_
        refine T_ald0 dX7_ask_43 ?_
        refine T_invV0i (M' := mX7_stateNow) dX7_ask_44 ml_X7_171 imX7_stateNow rfl (Nat.le_of_ble_eq_true rfl) rfl (Nat.le_of_ble_eq_true rfl) rfl (Nat.le_of_ble_eq_true rfl) (c_X7_stateNow hM2) ?_
        refine T_ialdN dX7_ask_47 rfl (by show _ < 64; omega) (hL _ (by omega)) ?_
        refine T_ist4 dX7_ask_48 (by decide) rfl ?_
        refine T_ild4 dX7_ask_50 ?_
        refine T_ldc ct_X7_190 dX7_ask_52 ?_
        rw [show (1000000 : Int32) = nI NEV by decide]
        refine T_cltN (tgt := 60) dX7_ask_54 (by decide) (by omega) (by omega) (fun h54 => ?_) (fun h54 => ?_)
        · refine T_ild3 dX7_ask_60 ?_
          refine T_bipush (v := -2) dX7_ask_61 (by decide) ?_
          refine T_cne (tgt := 74) dX7_ask_63 (by decide) (fun h63 => by exact absurd rfl h63) (fun h63 => ?_)
          refine T_ild4 dX7_ask_66 ?_
          refine T_bipush (v := nI 100) dX7_ask_68 (by decide) ?_
          refine T_idivN dX7_ask_70 (by omega) (by omega) (by omega) ?_
          refine T_goto (tgt := 94) dX7_ask_71 (by decide) ?_
          refine T_iret dX7_ask_94 rfl ?_
          refine ⟨_, rfl, hM2, hC2, _, rfl, Or.inr (Or.inr ⟨hc0, hz, lb, by rw [ie, ic]; exact hf, ?_⟩)⟩
          unfold askV
          rw [if_neg (by omega), if_pos rfl]
        · refine T_bipush (v := -9) dX7_ask_57 (by decide) ?_
          refine T_iret dX7_ask_59 rfl ?_
          refine ⟨_, rfl, hM2, hC2, _, rfl, Or.inr (Or.inr ⟨hc0, hz, lb, by rw [ie, ic]; exact hf, ?_⟩)⟩
          unfold askV
          rw [if_pos (by omega)]
      · skip
        refine T_ald0 dX7_ask_0 ?_
        refine T_ild1 dX7_ask_1 ?_
        refine T_invV1i (M' := mX7_isDish) dX7_ask_2 ml_X7_159 imX7_isDish rfl (Nat.le_of_ble_eq_true rfl) rfl (Nat.le_of_ble_eq_true rfl) rfl (Nat.le_of_ble_eq_true rfl) (c_X7_isDish mdn b6) ?_
        refine T_ifeqB (tgt := 15) dX7_ask_5 (by decide) (fun h5 => by rw [k1] at h5; cases h5) (fun h5 => ?_)
        refine T_ild2 dX7_ask_8 ?_
        refine T_invS1i (M' := mX7_isCountry) dX7_ask_9 ml_X7_162 imX7_isCountry (Nat.le_of_ble_eq_true rfl) rfl (Nat.le_of_ble_eq_true rfl) c_X7_isCountry ?_
        refine T_ifneB (tgt := 17) dX7_ask_12 (by decide) (fun h12 => ?_) (fun h12 => by rw [k2] at h12; cases h12)
        refine T_ild3 dX7_ask_17 ?_
        refine T_bipush (v := -2) dX7_ask_18 (by decide) ?_
        refine T_bipush (v := nI 15) dX7_ask_20 (by decide) ?_
        refine T_invS3i (M' := mX7_within) dX7_ask_22 ml_X7_74 imX7_within (Nat.le_of_ble_eq_true rfl) rfl (Nat.le_of_ble_eq_true rfl) c_within_zr ?_
        refine T_ifneB (tgt := 31) dX7_ask_25 (by decide) (fun h25 => ?_) (fun h25 => by rw [hz] at h25; cases h25)
        refine T_ald0 dX7_ask_31 ?_
        refine T_ild1 dX7_ask_32 ?_
        refine T_ild2 dX7_ask_33 ?_
        refine T_bipush (v := nI 100) dX7_ask_34 (by decide) ?_
        refine T_invV3 (M' := mX7_findLeft) dX7_ask_36 ml_X7_197 imX7_findLeft rfl (Nat.le_of_ble_eq_true rfl) rfl (Nat.le_of_ble_eq_true rfl) rfl (Nat.le_of_ble_eq_true rfl) (c_X7_findLeft hM hW (mf := mfA a) (gl := glD a e c) (by decide) (fun b h => by unfold glD at h; simp only [Bool.and_eq_true] at h; exact h.1) (fun S1 b h1 hb hB => by have q := c_X7_isGoalD (L := L) (R := R) (d := d + 1) (c := c) h1 hW hb (isB_t hB).1 (isB_t hB).2.1 he; rw [show glD a e c b = decide (who (a 0 0) (a 8 e) (b / 8) (b % 8) = nI c) by unfold glD; rw [hB, Bool.true_and]]; exact q) (fun b r hb _ => by unfold mfA; rw [if_pos hb]) (mbig_D hW)) (fun r σ' hq => ?_)
        obtain ⟨rfl, S2, lb, rfl, hN, hL, hf, hF⟩ := hq
        have hM2 := NW.mv hN hM
        have hC2 := NW.fm hN
        have fb := hF _ wb
        refine T_ald0 dX7_ask_39 ?_
        refine T_getR (q := 51) dX7_ask_40 lf_X7_49 rfl rfl rfl ?_
        refine T_ald0 dX7_ask_43 ?_
        refine T_invV0i (M' := mX7_stateNow) dX7_ask_44 ml_X7_171 imX7_stateNow rfl (Nat.le_of_ble_eq_true rfl) rfl (Nat.le_of_ble_eq_true rfl) rfl (Nat.le_of_ble_eq_true rfl) (c_X7_stateNow hM2) ?_
        refine T_ialdN dX7_ask_47 rfl (by show _ < 64; omega) (hL _ (by omega)) ?_
        refine T_ist4 dX7_ask_48 (by decide) rfl ?_
        refine T_ild4 dX7_ask_50 ?_
        refine T_ldc ct_X7_190 dX7_ask_52 ?_
        rw [show (1000000 : Int32) = nI NEV by decide]
        refine T_cltN (tgt := 60) dX7_ask_54 (by decide) (by omega) (by omega) (fun h54 => ?_) (fun h54 => ?_)
        · refine T_ild3 dX7_ask_60 ?_
          refine T_bipush (v := -2) dX7_ask_61 (by decide) ?_
          refine T_cne (tgt := 74) dX7_ask_63 (by decide) (fun h63 => ?_) (fun h63 => by exact absurd h63 m12.2.2.2.2.2.1)
          refine T_ild3 dX7_ask_74 ?_
          refine T_iconst (v := -1) dX7_ask_75 (by decide) ?_
          refine T_cne (tgt := 87) dX7_ask_76 (by decide) (fun h76 => by exact absurd rfl h76) (fun h76 => ?_)
          refine T_ild4 dX7_ask_79 ?_
          refine T_bipush (v := nI 100) dX7_ask_81 (by decide) ?_
          refine T_iremN dX7_ask_83 (by omega) (by omega) (by omega) ?_
          refine T_goto (tgt := 94) dX7_ask_84 (by decide) ?_
          refine T_iret dX7_ask_94 rfl ?_
          refine ⟨_, rfl, hM2, hC2, _, rfl, Or.inr (Or.inr ⟨hc0, hz, lb, by rw [ie, ic]; exact hf, ?_⟩)⟩
          unfold askV
          rw [if_neg (by omega), if_neg m12.2.2.2.2.2.1, if_pos rfl]
        · refine T_bipush (v := -9) dX7_ask_57 (by decide) ?_
          refine T_iret dX7_ask_59 rfl ?_
          refine ⟨_, rfl, hM2, hC2, _, rfl, Or.inr (Or.inr ⟨hc0, hz, lb, by rw [ie, ic]; exact hf, ?_⟩)⟩
          unfold askV
          rw [if_pos (by omega)]
      · skip
        refine T_ald0 dX7_ask_0 ?_
        refine T_ild1 dX7_ask_1 ?_
        refine T_invV1i (M' := mX7_isDish) dX7_ask_2 ml_X7_159 imX7_isDish rfl (Nat.le_of_ble_eq_true rfl) rfl (Nat.le_of_ble_eq_true rfl) rfl (Nat.le_of_ble_eq_true rfl) (c_X7_isDish mdn b6) ?_
        refine T_ifeqB (tgt := 15) dX7_ask_5 (by decide) (fun h5 => by rw [k1] at h5; cases h5) (fun h5 => ?_)
        refine T_ild2 dX7_ask_8 ?_
        refine T_invS1i (M' := mX7_isCountry) dX7_ask_9 ml_X7_162 imX7_isCountry (Nat.le_of_ble_eq_true rfl) rfl (Nat.le_of_ble_eq_true rfl) c_X7_isCountry ?_
        refine T_ifneB (tgt := 17) dX7_ask_12 (by decide) (fun h12 => ?_) (fun h12 => by rw [k2] at h12; cases h12)
        refine T_ild3 dX7_ask_17 ?_
        refine T_bipush (v := -2) dX7_ask_18 (by decide) ?_
        refine T_bipush (v := nI 15) dX7_ask_20 (by decide) ?_
        refine T_invS3i (M' := mX7_within) dX7_ask_22 ml_X7_74 imX7_within (Nat.le_of_ble_eq_true rfl) rfl (Nat.le_of_ble_eq_true rfl) c_within_zr ?_
        refine T_ifneB (tgt := 31) dX7_ask_25 (by decide) (fun h25 => ?_) (fun h25 => by rw [hz] at h25; cases h25)
        refine T_ald0 dX7_ask_31 ?_
        refine T_ild1 dX7_ask_32 ?_
        refine T_ild2 dX7_ask_33 ?_
        refine T_bipush (v := nI 100) dX7_ask_34 (by decide) ?_
        refine T_invV3 (M' := mX7_findLeft) dX7_ask_36 ml_X7_197 imX7_findLeft rfl (Nat.le_of_ble_eq_true rfl) rfl (Nat.le_of_ble_eq_true rfl) rfl (Nat.le_of_ble_eq_true rfl) (c_X7_findLeft hM hW (mf := mfA a) (gl := glD a e c) (by decide) (fun b h => by unfold glD at h; simp only [Bool.and_eq_true] at h; exact h.1) (fun S1 b h1 hb hB => by have q := c_X7_isGoalD (L := L) (R := R) (d := d + 1) (c := c) h1 hW hb (isB_t hB).1 (isB_t hB).2.1 he; rw [show glD a e c b = decide (who (a 0 0) (a 8 e) (b / 8) (b % 8) = nI c) by unfold glD; rw [hB, Bool.true_and]]; exact q) (fun b r hb _ => by unfold mfA; rw [if_pos hb]) (mbig_D hW)) (fun r σ' hq => ?_)
        obtain ⟨rfl, S2, lb, rfl, hN, hL, hf, hF⟩ := hq
        have hM2 := NW.mv hN hM
        have hC2 := NW.fm hN
        have fb := hF _ wb
        refine T_ald0 dX7_ask_39 ?_
        refine T_getR (q := 51) dX7_ask_40 lf_X7_49 rfl rfl rfl ?_
        refine T_ald0 dX7_ask_43 ?_
        refine T_invV0i (M' := mX7_stateNow) dX7_ask_44 ml_X7_171 imX7_stateNow rfl (Nat.le_of_ble_eq_true rfl) rfl (Nat.le_of_ble_eq_true rfl) rfl (Nat.le_of_ble_eq_true rfl) (c_X7_stateNow hM2) ?_
        refine T_ialdN dX7_ask_47 rfl (by show _ < 64; omega) (hL _ (by omega)) ?_
        refine T_ist4 dX7_ask_48 (by decide) rfl ?_
        refine T_ild4 dX7_ask_50 ?_
        refine T_ldc ct_X7_190 dX7_ask_52 ?_
        rw [show (1000000 : Int32) = nI NEV by decide]
        refine T_cltN (tgt := 60) dX7_ask_54 (by decide) (by omega) (by omega) (fun h54 => ?_) (fun h54 => ?_)
        · refine T_ild3 dX7_ask_60 ?_
          refine T_bipush (v := -2) dX7_ask_61 (by decide) ?_
          refine T_cne (tgt := 74) dX7_ask_63 (by decide) (fun h63 => ?_) (fun h63 => by exact absurd h63 (k_15 k hk).2.2.1)
          refine T_ild3 dX7_ask_74 ?_
          refine T_iconst (v := -1) dX7_ask_75 (by decide) ?_
          refine T_cne (tgt := 87) dX7_ask_76 (by decide) (fun h76 => ?_) (fun h76 => by exact absurd h76 (k_15 k hk).2.2.2.1)
          obtain ⟨M, n, hl, hle⟩ := fin_LX hf wb (by omega)
          refine T_ald0 dX7_ask_87 ?_
          refine T_ild3 dX7_ask_88 ?_
          refine T_bipush (v := nI 100) dX7_ask_89 (by decide) ?_
          refine T_invV2i (M' := mX7_requestOf) dX7_ask_91 ml_X7_201 imX7_requestOf rfl (Nat.le_of_ble_eq_true rfl) rfl (Nat.le_of_ble_eq_true rfl) rfl (Nat.le_of_ble_eq_true rfl) (c_X7_requestOf hM2 hW (mf := mfA a) (fun b r hb _ => by unfold mfA; rw [if_pos hb]) (mbig_D hW) hL hf hF hk hl) ?_
          refine T_iret dX7_ask_94 rfl ?_
          refine ⟨_, rfl, hM2, hC2, _, rfl, Or.inr (Or.inr ⟨hc0, hz, lb, by rw [ie, ic]; exact hf, ?_⟩)⟩
          unfold askV
          rw [if_neg (by omega), if_neg (k_15 k hk).2.2.1, if_neg (k_15 k hk).2.2.2.1, ix_n (by omega)]
          exact cu_ask (nxA_ok w8) wb hl hle
        · refine T_bipush (v := -9) dX7_ask_57 (by decide) ?_
          refine T_iret dX7_ask_59 rfl ?_
          refine ⟨_, rfl, hM2, hC2, _, rfl, Or.inr (Or.inr ⟨hc0, hz, lb, by rw [ie, ic]; exact hf, ?_⟩)⟩
          unfold askV
          rw [if_pos (by omega)]
set_option maxRecDepth 20000 in
theorem c_X7_treaty {S : Nat → Nat → Int32} {L : Nat → Nat → Int64} {R : Nat × Nat × Nat} {d : Nat} {a : Nat → Nat → Nat} (hM : MV S a) (hWF : WFA a) {z : Int32} : TT mX7_treaty (d + 5) 0 [some (.ref 37), some (.int (z)), none] [] (S, L, R) (fun r σ' => ∃ S', σ' = (S', L, R) ∧ MV S' a ∧ FM S S' ∧ ∃ v, r = some (.int v) ∧ TreP 100 NEV a z v) := by
  obtain ⟨mg, mdn, mso, msa, mpe, mrn, mgu, mdi, mre⟩ := id hM
  obtain ⟨b8, b6, b3, b64, br8⟩ := hWF.b
  have hNEV : NEV = 1000000 := rfl
  cases hz : zt z with
  | false =>
    refine T_ild1 dX7_treaty_0 ?_
    refine T_iconst (v := -1) dX7_treaty_1 (by decide) ?_
    refine T_bipush (v := nI 15) dX7_treaty_2 (by decide) ?_
    refine T_invS3i (M' := mX7_within) dX7_treaty_4 ml_X7_74 imX7_within (Nat.le_of_ble_eq_true rfl) rfl (Nat.le_of_ble_eq_true rfl) c_within_zt ?_
    refine T_ifneB (tgt := 13) dX7_treaty_7 (by decide) (fun h7 => by rw [hz] at h7; cases h7) (fun h7 => ?_)
    refine T_bipush (v := -2) dX7_treaty_10 (by decide) ?_
    refine T_iret dX7_treaty_12 rfl ?_
    refine ⟨_, rfl, hM, FM_r, _, rfl, Or.inl ⟨hz, rfl⟩⟩
  | true =>
    rcases z_cases z with q | q | rfl | rfl | ⟨k, hk, rfl⟩
    · rw [zt_lo (Int32.lt_trans q m12.2.2.2.2.2.2.2)] at hz; cases hz
    · rw [zt_hi q.2] at hz; cases hz
    · rw [zt_lo m12.2.2.2.2.2.2.2] at hz; cases hz
    · skip
      refine T_ild1 dX7_treaty_0 ?_
      refine T_iconst (v := -1) dX7_treaty_1 (by decide) ?_
      refine T_bipush (v := nI 15) dX7_treaty_2 (by decide) ?_
      refine T_invS3i (M' := mX7_within) dX7_treaty_4 ml_X7_74 imX7_within (Nat.le_of_ble_eq_true rfl) rfl (Nat.le_of_ble_eq_true rfl) c_within_zt ?_
      refine T_ifneB (tgt := 13) dX7_treaty_7 (by decide) (fun h7 => ?_) (fun h7 => by rw [hz] at h7; cases h7)
      refine T_ald0 dX7_treaty_13 ?_
      refine T_getN dX7_treaty_14 lf_X7_78 rfl rfl mg ?_
      refine T_ifneN (tgt := 23) dX7_treaty_17 (by decide) (by omega) (fun h17 => ?_) (fun h17 => ?_)
      · have hW := hWF.g (by omega)
        obtain ⟨w3, w8, wd1, wd6, wso, wb, wbs, wbp, wne, wrn, wgu, wdi, wre⟩ := id hW
        refine T_ald0 dX7_treaty_23 ?_
        refine T_bipush (v := -9) dX7_treaty_24 (by decide) ?_
        refine T_bipush (v := -9) dX7_treaty_26 (by decide) ?_
        refine T_iconst (v := nI 0) dX7_treaty_28 (by decide) ?_
        refine T_invV3 (M' := mX7_findLeft) dX7_treaty_29 ml_X7_197 imX7_findLeft rfl (Nat.le_of_ble_eq_true rfl) rfl (Nat.le_of_ble_eq_true rfl) rfl (Nat.le_of_ble_eq_true rfl) (c_X7_findLeft hM hW (w := 0) (mf := fun _ _ => 0) (gl := glT a) (by decide) (fun b h => by unfold glT at h; simp only [Bool.and_eq_true] at h; exact h.1) (fun S1 b h1 hb hB => by have q := c_X7_isGoalT (L := L) (R := R) (d := d + 1) (y := -9) h1 hW hb (isB_t hB).1 (isB_t hB).2.1; rw [show glT a b = decide (land a 0 b = land a 1 b) by unfold glT; rw [hB, Bool.true_and]]; exact q) (fun _ _ _ _ => by rw [Nat.zero_mul, Nat.mul_zero]) mbig_T) (fun r σ' hq => ?_)
        obtain ⟨rfl, S2, lb, rfl, hN, hL, hf, hF⟩ := hq
        have hM2 := NW.mv hN hM
        have hC2 := NW.fm hN
        have fb := hF _ wb
        refine T_ald0 dX7_treaty_32 ?_
        refine T_getR (q := 51) dX7_treaty_33 lf_X7_49 rfl rfl rfl ?_
        refine T_ald0 dX7_treaty_36 ?_
        refine T_invV0i (M' := mX7_stateNow) dX7_treaty_37 ml_X7_171 imX7_stateNow rfl (Nat.le_of_ble_eq_true rfl) rfl (Nat.le_of_ble_eq_true rfl) rfl (Nat.le_of_ble_eq_true rfl) (c_X7_stateNow hM2) ?_
        refine T_ialdN dX7_treaty_40 rfl (by show _ < 64; omega) (hL _ (by omega)) ?_
        refine T_ist2 dX7_treaty_41 (by decide) rfl ?_
        refine T_ild2 dX7_treaty_42 ?_
        refine T_ldc ct_X7_190 dX7_treaty_43 ?_
        rw [show (1000000 : Int32) = nI NEV by decide]
        refine T_cltN (tgt := 51) dX7_treaty_45 (by decide) (by omega) (by omega) (fun h45 => ?_) (fun h45 => ?_)
        · refine T_ild1 dX7_treaty_51 ?_
          refine T_iconst (v := -1) dX7_treaty_52 (by decide) ?_
          refine T_cne (tgt := 60) dX7_treaty_53 (by decide) (fun h53 => by exact absurd rfl h53) (fun h53 => ?_)
          refine T_ild2 dX7_treaty_56 ?_
          refine T_goto (tgt := 66) dX7_treaty_57 (by decide) ?_
          refine T_iret dX7_treaty_66 rfl ?_
          refine ⟨_, rfl, hM2, hC2, _, rfl, Or.inr (Or.inr ⟨hz, h17, lb, hf, ?_⟩)⟩
          unfold askV
          obtain ⟨M, n, hl, hle⟩ := fin_LX hf wb (by omega)
          have hn := LX_k (nxA_ok w8) wb hl
          have hm0 := CC_0 hl.1
          rw [if_neg (by omega), if_neg m12.2.2.2.2.2.1, if_pos rfl, Nat.mod_eq_of_lt (by omega)]
        · refine T_bipush (v := -9) dX7_treaty_48 (by decide) ?_
          refine T_iret dX7_treaty_50 rfl ?_
          refine ⟨_, rfl, hM2, hC2, _, rfl, Or.inr (Or.inr ⟨hz, h17, lb, hf, ?_⟩)⟩
          unfold askV
          rw [if_pos (by omega)]
      · refine T_bipush (v := -3) dX7_treaty_20 (by decide) ?_
        refine T_iret dX7_treaty_22 rfl ?_
        refine ⟨_, rfl, hM, FM_r, _, rfl, Or.inr (Or.inl ⟨hz, h17, rfl⟩)⟩
    · skip
      refine T_ild1 dX7_treaty_0 ?_
      refine T_iconst (v := -1) dX7_treaty_1 (by decide) ?_
      refine T_bipush (v := nI 15) dX7_treaty_2 (by decide) ?_
      refine T_invS3i (M' := mX7_within) dX7_treaty_4 ml_X7_74 imX7_within (Nat.le_of_ble_eq_true rfl) rfl (Nat.le_of_ble_eq_true rfl) c_within_zt ?_
      refine T_ifneB (tgt := 13) dX7_treaty_7 (by decide) (fun h7 => ?_) (fun h7 => by rw [hz] at h7; cases h7)
      refine T_ald0 dX7_treaty_13 ?_
      refine T_getN dX7_treaty_14 lf_X7_78 rfl rfl mg ?_
      refine T_ifneN (tgt := 23) dX7_treaty_17 (by decide) (by omega) (fun h17 => ?_) (fun h17 => ?_)
      · have hW := hWF.g (by omega)
        obtain ⟨w3, w8, wd1, wd6, wso, wb, wbs, wbp, wne, wrn, wgu, wdi, wre⟩ := id hW
        refine T_ald0 dX7_treaty_23 ?_
        refine T_bipush (v := -9) dX7_treaty_24 (by decide) ?_
        refine T_bipush (v := -9) dX7_treaty_26 (by decide) ?_
        refine T_iconst (v := nI 0) dX7_treaty_28 (by decide) ?_
        refine T_invV3 (M' := mX7_findLeft) dX7_treaty_29 ml_X7_197 imX7_findLeft rfl (Nat.le_of_ble_eq_true rfl) rfl (Nat.le_of_ble_eq_true rfl) rfl (Nat.le_of_ble_eq_true rfl) (c_X7_findLeft hM hW (w := 0) (mf := fun _ _ => 0) (gl := glT a) (by decide) (fun b h => by unfold glT at h; simp only [Bool.and_eq_true] at h; exact h.1) (fun S1 b h1 hb hB => by have q := c_X7_isGoalT (L := L) (R := R) (d := d + 1) (y := -9) h1 hW hb (isB_t hB).1 (isB_t hB).2.1; rw [show glT a b = decide (land a 0 b = land a 1 b) by unfold glT; rw [hB, Bool.true_and]]; exact q) (fun _ _ _ _ => by rw [Nat.zero_mul, Nat.mul_zero]) mbig_T) (fun r σ' hq => ?_)
        obtain ⟨rfl, S2, lb, rfl, hN, hL, hf, hF⟩ := hq
        have hM2 := NW.mv hN hM
        have hC2 := NW.fm hN
        have fb := hF _ wb
        refine T_ald0 dX7_treaty_32 ?_
        refine T_getR (q := 51) dX7_treaty_33 lf_X7_49 rfl rfl rfl ?_
        refine T_ald0 dX7_treaty_36 ?_
        refine T_invV0i (M' := mX7_stateNow) dX7_treaty_37 ml_X7_171 imX7_stateNow rfl (Nat.le_of_ble_eq_true rfl) rfl (Nat.le_of_ble_eq_true rfl) rfl (Nat.le_of_ble_eq_true rfl) (c_X7_stateNow hM2) ?_
        refine T_ialdN dX7_treaty_40 rfl (by show _ < 64; omega) (hL _ (by omega)) ?_
        refine T_ist2 dX7_treaty_41 (by decide) rfl ?_
        refine T_ild2 dX7_treaty_42 ?_
        refine T_ldc ct_X7_190 dX7_treaty_43 ?_
        rw [show (1000000 : Int32) = nI NEV by decide]
        refine T_cltN (tgt := 51) dX7_treaty_45 (by decide) (by omega) (by omega) (fun h45 => ?_) (fun h45 => ?_)
        · refine T_ild1 dX7_treaty_51 ?_
          refine T_iconst (v := -1) dX7_treaty_52 (by decide) ?_
          refine T_cne (tgt := 60) dX7_treaty_53 (by decide) (fun h53 => ?_) (fun h53 => by exact absurd h53 (k_15 k hk).2.2.2.1)
          obtain ⟨M, n, hl, hle⟩ := fin_LX hf wb (by omega)
          refine T_ald0 dX7_treaty_60 ?_
          refine T_ild1 dX7_treaty_61 ?_
          refine T_iconst (v := nI 0) dX7_treaty_62 (by decide) ?_
          refine T_invV2i (M' := mX7_requestOf) dX7_treaty_63 ml_X7_201 imX7_requestOf rfl (Nat.le_of_ble_eq_true rfl) rfl (Nat.le_of_ble_eq_true rfl) rfl (Nat.le_of_ble_eq_true rfl) (c_X7_requestOf hM2 hW (w := 0) (mf := fun _ _ => 0) (fun _ _ _ _ => by rw [Nat.zero_mul, Nat.mul_zero]) mbig_T hL hf hF hk hl) ?_
          refine T_iret dX7_treaty_66 rfl ?_
          refine ⟨_, rfl, hM2, hC2, _, rfl, Or.inr (Or.inr ⟨hz, h17, lb, hf, ?_⟩)⟩
          unfold askV
          rw [if_neg (by omega), if_neg (k_15 k hk).2.2.1, if_neg (k_15 k hk).2.2.2.1, ix_n (by omega)]
          exact cu_ask (nxA_ok w8) wb hl hle
        · refine T_bipush (v := -9) dX7_treaty_48 (by decide) ?_
          refine T_iret dX7_treaty_50 rfl ?_
          refine ⟨_, rfl, hM2, hC2, _, rfl, Or.inr (Or.inr ⟨hz, h17, lb, hf, ?_⟩)⟩
          unfold askV
          rw [if_pos (by omega)]
      · refine T_bipush (v := -3) dX7_treaty_20 (by decide) ?_
        refine T_iret dX7_treaty_22 rfl ?_
        refine ⟨_, rfl, hM, FM_r, _, rfl, Or.inr (Or.inl ⟨hz, h17, rfl⟩)⟩
