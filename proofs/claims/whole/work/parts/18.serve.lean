/-! a dinner served; sheets -/
def stand (b r : Nat) : Nat := if r < 2 then b / 8 else b % 8
def dinB (a : Nat → Nat → Nat) (rq : Nat → Nat) : Nat → Option Nat
  | 0 => some (a 3 0)
  | k + 1 => match dinB a rq k with
    | none => none
    | some b => beh (a 0 0) b (rq k)
def dinM (a : Nat → Nat → Nat) (rq : Nat → Nat) : Nat → Nat
  | 0 => 0
  | k + 1 => match dinB a rq k with
    | none => dinM a rq k
    | some b => dinM a rq k + miN a (stand b (rq k))
def dinW (a : Nat → Nat → Nat) (rq : Nat → Nat) : Nat → Nat
  | 0 => 0
  | k + 1 => match dinB a rq k with
    | none => dinW a rq k
    | some _ => k
theorem dinB_s {a : Nat → Nat → Nat} {rq : Nat → Nat} {k b : Nat} (h : dinB a rq k = some b) : dinB a rq (k + 1) = beh (a 0 0) b (rq k) := by
  show (match dinB a rq k with | none => none | some b => beh (a 0 0) b (rq k)) = _
  rw [h]
theorem dinM_s {a : Nat → Nat → Nat} {rq : Nat → Nat} {k b : Nat} (h : dinB a rq k = some b) : dinM a rq (k + 1) = dinM a rq k + miN a (stand b (rq k)) := by
  show (match dinB a rq k with | none => _ | some b => _) = _
  rw [h]
theorem dinW_s {a : Nat → Nat → Nat} {rq : Nat → Nat} {k b : Nat} (h : dinB a rq k = some b) : dinW a rq (k + 1) = k := by
  show (match dinB a rq k with | none => _ | some b => _) = _
  rw [h]
theorem din_end {a : Nat → Nat → Nat} {rq : Nat → Nat} {k : Nat} (h : dinB a rq k = none) : ∀ n, dinB a rq (k + n) = none ∧ dinW a rq (k + n) = dinW a rq k
  | 0 => ⟨h, rfl⟩
  | n + 1 => by
    obtain ⟨h1, h2⟩ := din_end h n
    refine ⟨?_, ?_⟩
    · show (match dinB a rq (k + n) with | none => none | some b => _) = none
      rw [h1]
    · show (match dinB a rq (k + n) with | none => _ | some b => _) = _
      rw [h1]; exact h2
theorem dinB_ok {a : Nat → Nat → Nat} {rq : Nat → Nat} (hW : WL a) : ∀ {k b : Nat}, dinB a rq k = some b → b < 64 ∧ b / 8 < a 0 0 ∧ b % 8 < a 0 0
  | 0, b, h => by cases h; exact ⟨hW.2.2.2.2.2.1, hW.2.2.2.2.2.2.1, hW.2.2.2.2.2.2.2.1⟩
  | k + 1, b, h => by
    cases e : dinB a rq k with
    | none =>
      have : dinB a rq (k + 1) = none := (din_end e 1).1
      rw [this] at h; cases h
    | some b0 =>
      rw [dinB_s e] at h
      have q := dinB_ok hW e
      have q2 := beh_some hW.2.1 q.2.1 q.2.2 h
      exact ⟨q2.1, q2.2.1, q2.2.2.1⟩
def SV (a : Nat → Nat → Nat) (rq : Nat → Nat) (n : Nat) (S : Nat → Nat → Int32) : Prop := (∀ b, dinB a rq n = some b → S 12 0 = nI b ∧ S 12 1 = nI (dinM a rq n) ∧ S 12 2 = -9) ∧ (dinB a rq n = none → S 12 2 = nI (dinW a rq n))
set_option maxRecDepth 20000 in
theorem c_X0_serve {S : Nat → Nat → Int32} {L : Nat → Nat → Int64} {R : Nat × Nat × Nat} {d : Nat} {T : Nat} (hT : T = 19 ∨ T = 28) {a : Nat → Nat → Nat} (hV : TV S T a) (hW : WL a) {j f n : Nat} {rq : Nat → Nat} (hj : j < 4) (hn : n ≤ 40) (hf : f + n ≤ 60) (hrq : ∀ k, k < n → rq k < 4 ∧ S (6 + j) (f + k) = nI (rq k)) : TT mX0_serve (d + 3) 0 [some (.ref 12), some (.ref T), some (.ref (6 + j)), some (.int (nI f)), some (.int (nI n)), none, none] [] (S, L, R) (fun r σ' => r = none ∧ ∃ S', σ' = (S', L, R) ∧ (∀ q, q ≠ 12 → S' q = S q) ∧ SV a rq n S') := by
  obtain ⟨hg, hdn, hso, hbd, hrn, hgu, hdi, hre⟩ := id hV
  obtain ⟨w3, w8, wd1, wd6, wso, wb, wbs, wbp, wne, wrn, wgu, wdi, wre⟩ := id hW
  refine T_ald0 dX0_serve_0 ?_
  refine T_ald1 dX0_serve_1 ?_
  refine T_getN dX0_serve_2 lf_X0_9 (kT hT) rfl hbd ?_
  refine T_putI dX0_serve_5 lf_X0_15 rfl rfl rfl rfl ?_
  refine T_ald0 dX0_serve_8 ?_
  refine T_iconst (v := nI 0) dX0_serve_9 (by decide) ?_
  refine T_putI dX0_serve_10 lf_X0_18 rfl rfl rfl rfl ?_
  refine T_ald0 dX0_serve_13 ?_
  refine T_bipush (v := -9) dX0_serve_14 (by decide) ?_
  refine T_putI dX0_serve_16 lf_X0_21 rfl rfl rfl rfl ?_
  refine T_iconst (v := nI 0) dX0_serve_19 (by decide) ?_
  refine T_ist5 dX0_serve_20 (by decide) rfl ?_
  skip
  refine up_ind (P := fun i => ∀ S1 x6 b, (∀ q, q ≠ 12 → S1 q = S q) → dinB a rq i = some b → S1 12 0 = nI b → S1 12 1 = nI (dinM a rq i) → S1 12 2 = -9 → TT mX0_serve (d + 3) 22 [some (.ref 12), some (.ref T), some (.ref (6 + j)), some (.int (nI f)), some (.int (nI n)), some (.int (nI i)), x6] [] (S1, L, R) (fun r σ' => r = none ∧ ∃ S', σ' = (S', L, R) ∧ (∀ q, q ≠ 12 → S' q = S q) ∧ SV a rq n S')) n ?_ ?_ _ none (a 3 0) (fun q hq => by rw [uI_p hq, uI_p hq, uI_p hq]) rfl (by simp [uI]) (by simp [uI]; rfl) (by simp [uI])
  · intro S1 x6 b g1 hdb hb0 hb1 hb2
    refine T_ild5 dX0_serve_22 ?_
    refine T_ild4 dX0_serve_24 ?_
    refine T_cgeN (tgt := 108) dX0_serve_26 (by decide) (by omega) (by omega) (fun h26 => ?_) (fun h26 => by exfalso; omega)
    refine T_vret dX0_serve_108 rfl ?_
    exact ⟨rfl, S1, rfl, g1, ⟨fun b' h => by rw [hdb] at h; cases h; exact ⟨hb0, hb1, hb2⟩, fun h => by rw [hdb] at h; cases h⟩⟩
  · intro i hi ih S1 x6 b g1 hdb hb0 hb1 hb2
    have hg1 : TV S1 T a := hV.cong (fun q h1 h2 _ => g1 q (by omega))
    have hbb := dinB_ok hW hdb
    have hr4 := (hrq i hi).1
    have hsd : (if rq i < 2 then b / 8 else b % 8) < a 0 0 := by split <;> omega
    cases hbe : beh (a 0 0) b (rq i) with
    | none =>
      have hd1 : dinB a rq (i + 1) = none := by rw [dinB_s hdb, hbe]
      have hdn := din_end hd1 (n - (i + 1))
      rw [show i + 1 + (n - (i + 1)) = n by omega, dinW_s hdb] at hdn
      refine T_ild5 dX0_serve_22 ?_
      refine T_ild4 dX0_serve_24 ?_
      refine T_cgeN (tgt := 108) dX0_serve_26 (by decide) (by omega) (by omega) (fun h26 => by exfalso; omega) (fun h26 => ?_)
      refine T_ald0 dX0_serve_29 ?_
      refine T_getV dX0_serve_30 lf_X0_21 rfl rfl hb2 ?_
      refine T_bipush (v := -9) dX0_serve_33 (by decide) ?_
      refine T_cne (tgt := 108) dX0_serve_35 (by decide) (fun h35 => by exact absurd rfl h35) (fun h35 => ?_)
      refine T_ald1 dX0_serve_38 ?_
      refine T_ald0 dX0_serve_39 ?_
      refine T_getN dX0_serve_40 lf_X0_15 rfl rfl hb0 ?_
      refine T_ald2 dX0_serve_43 ?_
      refine T_ild3 dX0_serve_44 ?_
      refine T_ild5 dX0_serve_45 ?_
      refine T_iaddN dX0_serve_47 ?_
      refine T_ialdN dX0_serve_48 (kC hj) (by rw [lC hj]; omega) (by rw [g1 _ (by omega)]; exact (hrq i hi).2) ?_
      refine T_invV2i (M' := mX4_borderBehind) dX0_serve_49 ml_X0_24 imX4_borderBehind (kT hT) (Nat.le_of_ble_eq_true rfl) rfl (Nat.le_of_ble_eq_true rfl) rfl (Nat.le_of_ble_eq_true rfl) (c_bb_n hT hg1.1 w8 hbb.1 hbb.2.1 hbb.2.2 hr4 hbe) ?_
      refine T_ist6 dX0_serve_52 (by decide) rfl ?_
      refine T_ild6 dX0_serve_54 ?_
      refine T_bipush (v := -9) dX0_serve_56 (by decide) ?_
      refine T_cne (tgt := 70) dX0_serve_58 (by decide) (fun h58 => by exact absurd rfl h58) (fun h58 => ?_)
      refine T_ald0 dX0_serve_61 ?_
      refine T_ild5 dX0_serve_62 ?_
      refine T_putI dX0_serve_64 lf_X0_21 rfl rfl rfl rfl ?_
      refine T_goto (tgt := 102) dX0_serve_67 (by decide) ?_
      refine T_inc5N dX0_serve_102 (by decide) rfl ?_
      refine T_goto (tgt := 22) dX0_serve_105 (by decide) ?_
      skip
      refine T_ild5 dX0_serve_22 ?_
      refine T_ild4 dX0_serve_24 ?_
      refine T_cgeN (tgt := 108) dX0_serve_26 (by decide) (by omega) (by omega) (fun h26 => ?_) (fun h26 => ?_)
      · refine T_vret dX0_serve_108 rfl ?_
        exact ⟨rfl, _, rfl, fun q hq => by rw [uI_p hq]; exact g1 q hq, ⟨fun b' h => (by rw [hdn.1] at h; cases h), fun _ => by rw [hdn.2, uI_s]⟩⟩
      · refine T_ald0 dX0_serve_29 ?_
        refine T_getV dX0_serve_30 lf_X0_21 rfl rfl uI_s ?_
        refine T_bipush (v := -9) dX0_serve_33 (by decide) ?_
        refine T_cne (tgt := 108) dX0_serve_35 (by decide) (fun h35 => ?_) (fun h35 => by exact absurd h35 (nI_m9 (by omega)))
        refine T_vret dX0_serve_108 rfl ?_
        exact ⟨rfl, _, rfl, fun q hq => by rw [uI_p hq]; exact g1 q hq, ⟨fun b' h => (by rw [hdn.1] at h; cases h), fun _ => by rw [hdn.2, uI_s]⟩⟩
    | some b' =>
      have hd1 : dinB a rq (i + 1) = some b' := by rw [dinB_s hdb, hbe]
      refine T_ild5 dX0_serve_22 ?_
      refine T_ild4 dX0_serve_24 ?_
      refine T_cgeN (tgt := 108) dX0_serve_26 (by decide) (by omega) (by omega) (fun h26 => by exfalso; omega) (fun h26 => ?_)
      refine T_ald0 dX0_serve_29 ?_
      refine T_getV dX0_serve_30 lf_X0_21 rfl rfl hb2 ?_
      refine T_bipush (v := -9) dX0_serve_33 (by decide) ?_
      refine T_cne (tgt := 108) dX0_serve_35 (by decide) (fun h35 => by exact absurd rfl h35) (fun h35 => ?_)
      refine T_ald1 dX0_serve_38 ?_
      refine T_ald0 dX0_serve_39 ?_
      refine T_getN dX0_serve_40 lf_X0_15 rfl rfl hb0 ?_
      refine T_ald2 dX0_serve_43 ?_
      refine T_ild3 dX0_serve_44 ?_
      refine T_ild5 dX0_serve_45 ?_
      refine T_iaddN dX0_serve_47 ?_
      refine T_ialdN dX0_serve_48 (kC hj) (by rw [lC hj]; omega) (by rw [g1 _ (by omega)]; exact (hrq i hi).2) ?_
      refine T_invV2i (M' := mX4_borderBehind) dX0_serve_49 ml_X0_24 imX4_borderBehind (kT hT) (Nat.le_of_ble_eq_true rfl) rfl (Nat.le_of_ble_eq_true rfl) rfl (Nat.le_of_ble_eq_true rfl) (c_bb_s hT hg1.1 w8 hbb.1 hbb.2.1 hbb.2.2 hr4 hbe) ?_
      refine T_ist6 dX0_serve_52 (by decide) rfl ?_
      refine T_ild6 dX0_serve_54 ?_
      refine T_bipush (v := -9) dX0_serve_56 (by decide) ?_
      refine T_cne (tgt := 70) dX0_serve_58 (by decide) (fun h58 => ?_) (fun h58 => by exact absurd h58 (nI_m9 (by have := (beh_some w8 hbb.2.1 hbb.2.2 hbe).1; omega)))
      refine T_ald0 dX0_serve_70 ?_
      refine T_dup dX0_serve_71 rfl ?_
      refine T_getN dX0_serve_72 lf_X0_18 rfl rfl hb1 ?_
      refine T_ald1 dX0_serve_75 ?_
      refine T_ald0 dX0_serve_76 ?_
      refine T_getN dX0_serve_77 lf_X0_15 rfl rfl hb0 ?_
      refine T_ald2 dX0_serve_80 ?_
      refine T_ild3 dX0_serve_81 ?_
      refine T_ild5 dX0_serve_82 ?_
      refine T_iaddN dX0_serve_84 ?_
      refine T_ialdN dX0_serve_85 (kC hj) (by rw [lC hj]; omega) (by rw [g1 _ (by omega)]; exact (hrq i hi).2) ?_
      refine T_invSN2i (M' := mX6_standsAt) dX0_serve_86 ml_X0_28 imX6_standsAt (Nat.le_of_ble_eq_true rfl) rfl (Nat.le_of_ble_eq_true rfl) (c_X6_standsAt hbb.1 hr4) ?_
      refine T_invV1i (M' := mX4_minutesOf) dX0_serve_89 ml_X0_31 imX4_minutesOf (kT hT) (Nat.le_of_ble_eq_true rfl) rfl (Nat.le_of_ble_eq_true rfl) rfl (Nat.le_of_ble_eq_true rfl) (c_X4_minutesOf hT hg1 hW hsd) ?_
      refine T_iaddN dX0_serve_92 ?_
      refine T_putI dX0_serve_93 lf_X0_18 rfl rfl rfl rfl ?_
      refine T_ald0 dX0_serve_96 ?_
      refine T_ild6 dX0_serve_97 ?_
      refine T_putI dX0_serve_99 lf_X0_15 rfl rfl rfl rfl ?_
      refine T_inc5N dX0_serve_102 (by decide) rfl ?_
      refine T_goto (tgt := 22) dX0_serve_105 (by decide) ?_
      refine ih _ _ b' (fun q hq => by rw [uI_p hq, uI_p hq]; exact g1 q hq) hd1 (by simp [uI]) ?_ ?_
      · rw [dinM_s hdb]; simp [uI, stand]
      · simp [uI]; exact hb2
set_option maxRecDepth 20000 in
theorem c_X3_renew {S : Nat → Nat → Int32} {L : Nat → Nat → Int64} {R : Nat × Nat × Nat} {d : Nat} {j : Nat} (hj : j < 4) {la n : Nat} : TT mX3_renew (d + 1) 0 [some (.ref (2 + j)), some (.int (nI la)), some (.int (nI n))] [] (S, L, R) (rt none (wf (uI (uI (uI S (2 + j) 1 (bI true)) (2 + j) 2 (nI la)) (2 + j) 3 (nI n)) (6 + j) (fun _ => nI 0) 60, L, R)) := by
  refine T_ald0 dX3_renew_0 ?_
  refine T_iconst (v := bI true) dX3_renew_1 (by decide) ?_
  refine T_putZ dX3_renew_2 lf_X3_15 (kS hj) rfl rfl rfl (by decide) ?_
  refine T_ald0 dX3_renew_5 ?_
  refine T_ild1 dX3_renew_6 ?_
  refine T_putI dX3_renew_7 lf_X3_19 (kS hj) rfl rfl rfl ?_
  refine T_ald0 dX3_renew_10 ?_
  refine T_ild2 dX3_renew_11 ?_
  refine T_putI dX3_renew_12 lf_X3_23 (kS hj) rfl rfl rfl ?_
  refine T_ald0 dX3_renew_15 ?_
  refine T_getR (q := 6 + j) dX3_renew_16 lf_X3_9 (kS hj) rfl (rS hj) ?_
  refine T_iconst (v := nI 0) dX3_renew_19 (by decide) ?_
  refine T_invS2v (M' := mJ7_fill_53178) dX3_renew_20 ml_X3_26 imJ7_fill_53178 (Nat.le_of_ble_eq_true rfl) rfl (Nat.le_of_ble_eq_true rfl) (c_J7_fill_53178 (kC hj) (lC hj)) ?_
  refine T_vret dX3_renew_23 rfl ?_
  exact rt_i
noncomputable def hasB (x y : Int32) (n : Nat) : Bool := @decide (∃ i k : Nat, x = nI i ∧ y = nI k ∧ i + k ≤ n) (Classical.propDecidable _)
theorem hasB_t {x y : Int32} {n : Nat} (h : hasB x y n = true) : ∃ i k : Nat, x = nI i ∧ y = nI k ∧ i + k ≤ n := by
  unfold hasB at h; simpa using h
theorem hasB_i {x y : Int32} {n i k : Nat} (hx : x = nI i) (hy : y = nI k) (h : i + k ≤ n) : hasB x y n = true := by
  unfold hasB; simp only [decide_eq_true_eq]; exact ⟨i, k, hx, hy, h⟩
theorem hasB_f {x y : Int32} {n : Nat} (h : ∀ i k : Nat, x = nI i → y = nI k → ¬ i + k ≤ n) : hasB x y n = false := by
  unfold hasB; simp only [decide_eq_false_iff_not]; rintro ⟨i, k, h1, h2, h3⟩; exact h i k h1 h2 h3
/-- what is against taking cells: the sheet has 'th', a lane, a length -/
noncomputable def fau (th : Bool) (la n : Nat) (l x y : Int32) : Nat := if th = false then 1 else if ¬ l = nI la then 2 else if y < 0 then 4 else if hasB x y n = true then 0 else 3
theorem not_nI {x : Int32} {k : Nat} (h : x < 0) (hk : k < 2 ^ 31) : x ≠ nI k := fun e => nI_pos hk (e ▸ h)
