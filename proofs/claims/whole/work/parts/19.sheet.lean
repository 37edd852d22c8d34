/-! sheets, the reader of texts -/
set_option maxRecDepth 20000 in
theorem c_X3_has {S : Nat → Nat → Int32} {L : Nat → Nat → Int64} {R : Nat × Nat × Nat} {d : Nat} {j : Nat} (hj : j < 4) {n : Nat} {x y : Int32} (hn : S (2 + j) 3 = nI n) (hn6 : n ≤ 60) : TT mX3_has (d + 0) 0 [some (.ref (2 + j)), some (.int (x)), some (.int (y))] [] (S, L, R) (rt (some (.int (bI (hasB x y n)))) (S, L, R)) := by
  by_cases hx : x < 0
  · skip
    refine T_ild1 dX3_has_0 ?_
    refine T_iflt (tgt := 30) dX3_has_1 (by decide) (fun h1 => ?_) (fun h1 => by exact absurd hx h1)
    refine T_iconst (v := bI false) dX3_has_30 (by decide) ?_
    refine T_bretB dX3_has_31 rfl ?_
    rw [hasB_f (fun i k h1 h2 h3 => not_nI hx (by omega) h1)]; exact rt_i
  · obtain ⟨i, hi, rfl⟩ := nI_of hx
    by_cases hy : y < 0
    · skip
      refine T_ild1 dX3_has_0 ?_
      refine T_ifltN (tgt := 30) dX3_has_1 (by decide) (by omega) ?_
      refine T_ild1 dX3_has_4 ?_
      refine T_ald0 dX3_has_5 ?_
      refine T_getN dX3_has_6 lf_X3_23 (kS hj) rfl hn ?_
      refine T_cgtN (tgt := 30) dX3_has_9 (by decide) (by omega) (by omega) (fun h9 => ?_) (fun h9 => ?_)
      · refine T_iconst (v := bI false) dX3_has_30 (by decide) ?_
        refine T_bretB dX3_has_31 rfl ?_
        rw [hasB_f (fun i k h1 h2 h3 => not_nI hy (by omega) h2)]; exact rt_i
      · refine T_ild2 dX3_has_12 ?_
        refine T_iflt (tgt := 30) dX3_has_13 (by decide) (fun h13 => ?_) (fun h13 => by exact absurd hy h13)
        refine T_iconst (v := bI false) dX3_has_30 (by decide) ?_
        refine T_bretB dX3_has_31 rfl ?_
        rw [hasB_f (fun i k h1 h2 h3 => not_nI hy (by omega) h2)]; exact rt_i
    · obtain ⟨k, hk, rfl⟩ := nI_of hy
      refine T_ild1 dX3_has_0 ?_
      refine T_ifltN (tgt := 30) dX3_has_1 (by decide) (by omega) ?_
      refine T_ild1 dX3_has_4 ?_
      refine T_ald0 dX3_has_5 ?_
      refine T_getN dX3_has_6 lf_X3_23 (kS hj) rfl hn ?_
      refine T_cgtN (tgt := 30) dX3_has_9 (by decide) (by omega) (by omega) (fun h9 => ?_) (fun h9 => ?_)
      · refine T_iconst (v := bI false) dX3_has_30 (by decide) ?_
        refine T_bretB dX3_has_31 rfl ?_
        first | (rw [hasB_i rfl rfl (by omega)]; exact rt_i) | (rw [hasB_f (fun a b h1 h2 h3 => by have := nI_inj hi (by omega) h1; have := nI_inj hk (by omega) h2; omega)]; exact rt_i)
      · refine T_ild2 dX3_has_12 ?_
        refine T_ifltN (tgt := 30) dX3_has_13 (by decide) (by omega) ?_
        refine T_ild2 dX3_has_16 ?_
        refine T_ald0 dX3_has_17 ?_
        refine T_getN dX3_has_18 lf_X3_23 (kS hj) rfl hn ?_
        refine T_ild1 dX3_has_21 ?_
        refine T_isubN dX3_has_22 (by omega) ?_
        refine T_cgtN (tgt := 30) dX3_has_23 (by decide) (by omega) (by omega) (fun h23 => ?_) (fun h23 => ?_)
        · refine T_iconst (v := bI false) dX3_has_30 (by decide) ?_
          refine T_bretB dX3_has_31 rfl ?_
          first | (rw [hasB_i rfl rfl (by omega)]; exact rt_i) | (rw [hasB_f (fun a b h1 h2 h3 => by have := nI_inj hi (by omega) h1; have := nI_inj hk (by omega) h2; omega)]; exact rt_i)
        · refine T_iconst (v := bI true) dX3_has_26 (by decide) ?_
          refine T_goto (tgt := 31) dX3_has_27 (by decide) ?_
          refine T_bretB dX3_has_31 rfl ?_
          first | (rw [hasB_i rfl rfl (by omega)]; exact rt_i) | (rw [hasB_f (fun a b h1 h2 h3 => by have := nI_inj hi (by omega) h1; have := nI_inj hk (by omega) h2; omega)]; exact rt_i)
set_option maxRecDepth 20000 in
theorem c_X3_faultOfCells {S : Nat → Nat → Int32} {L : Nat → Nat → Int64} {R : Nat × Nat × Nat} {d : Nat} {j : Nat} (hj : j < 4) {th : Bool} {la n : Nat} {l x y : Int32} (hth : S (2 + j) 1 = bI th) (hrow : th = true → S (2 + j) 2 = nI la ∧ S (2 + j) 3 = nI n ∧ n ≤ 60) : TT mX3_faultOfCells (d + 1) 0 [some (.ref (2 + j)), some (.int (l)), some (.int (x)), some (.int (y))] [] (S, L, R) (rt (some (.int (nI (fau th la n l x y)))) (S, L, R)) := by
  refine T_ald0 dX3_faultOfCells_0 ?_
  refine T_getV dX3_faultOfCells_1 lf_X3_15 (kS hj) rfl hth ?_
  refine T_ifneB (tgt := 9) dX3_faultOfCells_4 (by decide) (fun h4 => ?_) (fun h4 => ?_)
  · refine T_ald0 dX3_faultOfCells_9 ?_
    refine T_getV dX3_faultOfCells_10 lf_X3_19 (kS hj) rfl (hrow h4).1 ?_
    refine T_ild1 dX3_faultOfCells_13 ?_
    refine T_ceq (tgt := 19) dX3_faultOfCells_14 (by decide) (fun h14 => ?_) (fun h14 => ?_)
    · refine T_ild3 dX3_faultOfCells_19 ?_
      refine T_ifge (tgt := 25) dX3_faultOfCells_20 (by decide) (fun h20 => ?_) (fun h20 => ?_)
      · refine T_ald0 dX3_faultOfCells_25 ?_
        refine T_ild2 dX3_faultOfCells_26 ?_
        refine T_ild3 dX3_faultOfCells_27 ?_
        refine T_invV2i (M' := mX3_has) dX3_faultOfCells_28 ml_X3_32 imX3_has (kS hj) (Nat.le_of_ble_eq_true rfl) rfl (Nat.le_of_ble_eq_true rfl) rfl (Nat.le_of_ble_eq_true rfl) (c_X3_has hj (hrow h4).2.1 (hrow h4).2.2) ?_
        refine T_ifeqB (tgt := 38) dX3_faultOfCells_31 (by decide) (fun h31 => ?_) (fun h31 => ?_)
        · refine T_iconst (v := nI 3) dX3_faultOfCells_38 (by decide) ?_
          refine T_iret dX3_faultOfCells_39 rfl ?_
          first | (rw [show fau th la n l x y = 0 from (if_neg (by rw [h4]; decide)).trans ((if_neg (fun q => q h14.symm)).trans ((if_neg (Int32.not_lt.mpr h20)).trans (if_pos h31)))]; exact rt_i) | (rw [show fau th la n l x y = 3 from (if_neg (by rw [h4]; decide)).trans ((if_neg (fun q => q h14.symm)).trans ((if_neg (Int32.not_lt.mpr h20)).trans (if_neg (by rw [h31]; decide))))]; exact rt_i)
        · refine T_iconst (v := nI 0) dX3_faultOfCells_34 (by decide) ?_
          refine T_goto (tgt := 39) dX3_faultOfCells_35 (by decide) ?_
          refine T_iret dX3_faultOfCells_39 rfl ?_
          first | (rw [show fau th la n l x y = 0 from (if_neg (by rw [h4]; decide)).trans ((if_neg (fun q => q h14.symm)).trans ((if_neg (Int32.not_lt.mpr h20)).trans (if_pos h31)))]; exact rt_i) | (rw [show fau th la n l x y = 3 from (if_neg (by rw [h4]; decide)).trans ((if_neg (fun q => q h14.symm)).trans ((if_neg (Int32.not_lt.mpr h20)).trans (if_neg (by rw [h31]; decide))))]; exact rt_i)
      · refine T_iconst (v := nI 4) dX3_faultOfCells_23 (by decide) ?_
        refine T_iret dX3_faultOfCells_24 rfl ?_
        rw [show fau th la n l x y = 4 from (if_neg (by rw [h4]; decide)).trans ((if_neg (fun q => q h14.symm)).trans (if_pos (Int32.not_le.mp h20)))]; exact rt_i
    · refine T_iconst (v := nI 2) dX3_faultOfCells_17 (by decide) ?_
      refine T_iret dX3_faultOfCells_18 rfl ?_
      rw [show fau th la n l x y = 2 from (if_neg (by rw [h4]; decide)).trans (if_pos (fun e => h14 e.symm))]; exact rt_i
  · refine T_iconst (v := nI 1) dX3_faultOfCells_7 (by decide) ?_
    refine T_iret dX3_faultOfCells_8 rfl ?_
    rw [show fau th la n l x y = 1 from if_pos h4]; exact rt_i
def cutI (la : Nat) (v : Int32) : Int32 := if la = 0 then v.toInt8.toInt32 else if la = 1 then v.toInt16.toInt32 else v
set_option maxRecDepth 20000 in
theorem c_X3_cut {S : Nat → Nat → Int32} {L : Nat → Nat → Int64} {R : Nat × Nat × Nat} {d : Nat} {j : Nat} (hj : j < 4) {la : Nat} {v : Int32} (hla : S (2 + j) 2 = nI la) (h3 : la < 3) : TT mX3_cut (d + 0) 0 [some (.ref (2 + j)), some (.int (v))] [] (S, L, R) (rt (some (.int (cutI la v))) (S, L, R)) := by
  refine T_ald0 dX3_cut_0 ?_
  refine T_getN dX3_cut_1 lf_X3_19 (kS hj) rfl hla ?_
  refine T_lk [(0, 32), (1, 35)] 38 dX3_cut_4 (by decide) (by decide) (by decide) (by decide) (fun j hj e4 => ?_) (fun e4 => ?_)
  · match j, hj, e4 with
    | 0, _, e4 =>
      refine T_ild1 dX3_cut_32 ?_
      refine T_i2b dX3_cut_33 ?_
      refine T_iret dX3_cut_34 rfl ?_
      have q := nI_inj (by omega) (by decide) e4
      rw [show cutI la v = v.toInt8.toInt32 from if_pos q]; exact rt_i
    | 1, _, e4 =>
      refine T_ild1 dX3_cut_35 ?_
      refine T_i2s dX3_cut_36 ?_
      refine T_iret dX3_cut_37 rfl ?_
      have q := nI_inj (by omega) (by decide) e4
      rw [show cutI la v = v.toInt16.toInt32 from (if_neg (by rw [q]; decide)).trans (if_pos q)]; exact rt_i
    | j + 2, hj, _ => exact absurd hj (by simp)
  · refine T_ild1 dX3_cut_38 ?_
    refine T_iret dX3_cut_39 rfl ?_
    rw [show cutI la v = v from (if_neg (fun e => e4 0 (by decide) (by rw [e]; rfl))).trans (if_neg (fun e => e4 1 (by decide) (by rw [e]; rfl)))]; exact rt_i
set_option maxRecDepth 20000 in
theorem c_X3_areRequests {S : Nat → Nat → Int32} {L : Nat → Nat → Int64} {R : Nat × Nat × Nat} {d : Nat} {j : Nat} (hj : j < 4) {f n : Nat} (hf : f + n ≤ 60) : TT mX3_areRequests (d + 1) 0 [some (.ref (2 + j)), some (.int (nI f)), some (.int (nI n)), none] [] (S, L, R) (rt (some (.int (bI (allN (fun k => blw (S (6 + j) (f + k)) 4) n)))) (S, L, R)) := by
  refine T_ild1 dX3_areRequests_0 ?_
  refine T_ist3 dX3_areRequests_1 (by decide) rfl ?_
  skip
  refine up_ind (P := fun i => allN (fun k => blw (S (6 + j) (f + k)) 4) i = true → TT mX3_areRequests (d + 1) 2 [some (.ref (2 + j)), some (.int (nI f)), some (.int (nI n)), some (.int (nI (f + i)))] [] (S, L, R) (rt (some (.int (bI (allN (fun k => blw (S (6 + j) (f + k)) 4) n)))) (S, L, R))) n ?_ ?_ rfl
  · intro hal
    refine T_ild3 dX3_areRequests_2 ?_
    refine T_ild1 dX3_areRequests_3 ?_
    refine T_ild2 dX3_areRequests_4 ?_
    refine T_iaddN dX3_areRequests_5 ?_
    refine T_cgeN (tgt := 30) dX3_areRequests_6 (by decide) (by omega) (by omega) (fun h6 => ?_) (fun h6 => by exfalso; omega)
    refine T_iconst (v := bI true) dX3_areRequests_30 (by decide) ?_
    refine T_bretB dX3_areRequests_31 rfl ?_
    rw [hal]; exact rt_i
  · intro i hi ih hal
    refine T_ild3 dX3_areRequests_2 ?_
    refine T_ild1 dX3_areRequests_3 ?_
    refine T_ild2 dX3_areRequests_4 ?_
    refine T_iaddN dX3_areRequests_5 ?_
    refine T_cgeN (tgt := 30) dX3_areRequests_6 (by decide) (by omega) (by omega) (fun h6 => by exfalso; omega) (fun h6 => ?_)
    refine T_ald0 dX3_areRequests_9 ?_
    refine T_getR (q := 6 + j) dX3_areRequests_10 lf_X3_9 (kS hj) rfl (rS hj) ?_
    refine T_ild3 dX3_areRequests_13 ?_
    refine T_iald dX3_areRequests_14 (kC hj) (by rw [lC hj]; omega) rfl ?_
    refine T_iconst (v := nI 4) dX3_areRequests_15 (by decide) ?_
    refine T_invSN2i (M' := mX6_isBelow) dX3_areRequests_16 ml_X3_36 imX6_isBelow (Nat.le_of_ble_eq_true rfl) rfl (Nat.le_of_ble_eq_true rfl) (c_X6_isBelow (by omega)) ?_
    refine T_ifneB (tgt := 24) dX3_areRequests_19 (by decide) (fun h19 => ?_) (fun h19 => ?_)
    · refine T_inc3N dX3_areRequests_24 (by decide) rfl ?_
      refine T_goto (tgt := 2) dX3_areRequests_27 (by decide) ?_
      exact ih (allN_t (f := fun k => blw (S (6 + j) (f + k)) 4) hal h19)
    · refine T_iconst (v := bI false) dX3_areRequests_22 (by decide) ?_
      refine T_bretB dX3_areRequests_23 rfl ?_
      rw [allN_f (f := fun k => blw (S (6 + j) (f + k)) 4) (i := i) h19 _ hi]; exact rt_i
/-! the text: sign, digit, kind at a place -/
def sg (n : Nat) (co : Nat → Int32) (t : Nat) (c : Int32) : Bool := decide (t < n ∧ co t = c)
def dgt (n : Nat) (co : Nat → Int32) (t m : Nat) : Option Nat := if t < n ∧ blw (co t - nI 48) m = true then some (co t - nI 48).toNatClampNeg else none
def dgb (n : Nat) (co : Nat → Int32) (t m : Nat) (z : Int32) : Option Nat := match dgt n co t m with
  | none => none
  | some v => if nI v = z then none else some v
def skd (n : Nat) (co : Nat → Int32) (t : Nat) : Option Nat := if sg n co t (nI 103) then some 0 else if sg n co t (nI 97) then some 1 else if sg n co t (nI 99) then some 2 else none
theorem dgt_some {n t m v : Nat} {co : Nat → Int32} (hm : m ≤ 10) (h : dgt n co t m = some v) : t < n ∧ v < m ∧ co t - nI 48 = nI v := by
  unfold dgt at h
  split at h
  · rename_i hc
    obtain ⟨i, h1, h2⟩ := blw_t hc.2
    cases h
    rw [h2, nI_clamp (by omega)]
    exact ⟨hc.1, h1, rfl⟩
  · cases h
theorem dgt_i {n t m v : Nat} {co : Nat → Int32} (hm : m ≤ 10) (ht : t < n) (hv : v < m) (h : co t - nI 48 = nI v) : dgt n co t m = some v := by
  unfold dgt
  rw [h, if_pos ⟨ht, blw_n hv⟩, nI_clamp (by omega)]
theorem dgt_none {n t m : Nat} {co : Nat → Int32} (h : dgt n co t m = none) (ht : t < n) : blw (co t - nI 48) m = false := by
  unfold dgt at h
  split at h
  · cases h
  · rename_i hc
    cases e : blw (co t - nI 48) m with
    | false => rfl
    | true => exact absurd ⟨ht, e⟩ hc
theorem dgb_m9 {n t m : Nat} {co : Nat → Int32} (hm : m ≤ 10) : dgb n co t m (-9) = dgt n co t m := by
  unfold dgb
  cases e : dgt n co t m with
  | none => rfl
  | some v =>
    have := dgt_some hm e
    exact if_neg (nI_m9 (by omega))
theorem dgb_some {n t m v : Nat} {co : Nat → Int32} {z : Int32} (h : dgb n co t m z = some v) : dgt n co t m = some v ∧ ¬ nI v = z := by
  unfold dgb at h
  cases e : dgt n co t m with
  | none => rw [e] at h; cases h
  | some w =>
    rw [e] at h
    by_cases q : nI w = z
    · simp [q] at h
    · simp [q] at h; subst h; exact ⟨rfl, q⟩
theorem dgb_none {n t m : Nat} {co : Nat → Int32} {z : Int32} (h : dgb n co t m z = none) : dgt n co t m = none ∨ ∃ v, dgt n co t m = some v ∧ nI v = z := by
  unfold dgb at h
  cases e : dgt n co t m with
  | none => exact Or.inl rfl
  | some w =>
    rw [e] at h
    by_cases q : nI w = z
    · exact Or.inr ⟨w, rfl, q⟩
    · simp [q] at h
set_option maxRecDepth 20000 in
theorem c_X5_isAtEnd {S : Nat → Nat → Int32} {L : Nat → Nat → Int64} {R : Nat × Nat × Nat} {d : Nat} {n t : Nat} (hn1 : S 10 2 = nI n) (ht1 : S 10 3 = nI t) (hn6 : n ≤ 60) (htn : t ≤ n) : TT mX5_isAtEnd (d + 0) 0 [some (.ref 10)] [] (S, L, R) (rt (some (.int (bI (decide (n ≤ t))))) (S, L, R)) := by
  refine T_ald0 dX5_isAtEnd_0 ?_
  refine T_getN dX5_isAtEnd_1 lf_X5_22 rfl rfl ht1 ?_
  refine T_ald0 dX5_isAtEnd_4 ?_
  refine T_getN dX5_isAtEnd_5 lf_X5_19 rfl rfl hn1 ?_
  refine T_cltN (tgt := 15) dX5_isAtEnd_8 (by decide) (by omega) (by omega) (fun h8 => ?_) (fun h8 => ?_)
  · refine T_iconst (v := bI false) dX5_isAtEnd_15 (by decide) ?_
    refine T_bretB dX5_isAtEnd_16 rfl ?_
    first | (rw [decide_eq_true (by omega : n ≤ t)]; exact rt_i) | (rw [decide_eq_false (by omega : ¬ n ≤ t)]; exact rt_i)
  · refine T_iconst (v := bI true) dX5_isAtEnd_11 (by decide) ?_
    refine T_goto (tgt := 16) dX5_isAtEnd_12 (by decide) ?_
    refine T_bretB dX5_isAtEnd_16 rfl ?_
    first | (rw [decide_eq_true (by omega : n ≤ t)]; exact rt_i) | (rw [decide_eq_false (by omega : ¬ n ≤ t)]; exact rt_i)
set_option maxRecDepth 20000 in
theorem c_X5_isAt {S : Nat → Nat → Int32} {L : Nat → Nat → Int64} {nw sp : Nat} {d : Nat} {j f n t : Nat} {co : Nat → Int32} (hj : j < 4) (hfn : f + n ≤ 60) (hf1 : S 10 1 = nI f) (hn1 : S 10 2 = nI n) (ht1 : S 10 3 = nI t) (htn : t ≤ n) (hco : ∀ k, k < n → S (6 + j) (f + k) = co k) {x : Int32} : TT mX5_isAt (d + 0) 0 [some (.ref 10), some (.int (x))] [] (S, L, (nw, sp, 6 + j)) (rt (some (.int (bI (sg n co t x)))) (S, L, (nw, sp, 6 + j))) := by
  refine T_ald0 dX5_isAt_0 ?_
  refine T_getN dX5_isAt_1 lf_X5_22 rfl rfl ht1 ?_
  refine T_ald0 dX5_isAt_4 ?_
  refine T_getN dX5_isAt_5 lf_X5_19 rfl rfl hn1 ?_
  refine T_cgeN (tgt := 33) dX5_isAt_8 (by decide) (by omega) (by omega) (fun h8 => ?_) (fun h8 => ?_)
  · refine T_iconst (v := bI false) dX5_isAt_33 (by decide) ?_
    refine T_bretB dX5_isAt_34 rfl ?_
    first | (rw [show sg n co t x = true from decide_eq_true ⟨by omega, h26⟩]; exact rt_i) | (rw [show sg n co t x = false from decide_eq_false (fun q => h26 q.2)]; exact rt_i) | (rw [show sg n co t x = false from decide_eq_false (fun q => by omega)]; exact rt_i)
  · refine T_ald0 dX5_isAt_11 ?_
    refine T_getR (q := 6 + j) dX5_isAt_12 lf_X5_9 rfl rfl rfl ?_
    refine T_ald0 dX5_isAt_15 ?_
    refine T_getN dX5_isAt_16 lf_X5_15 rfl rfl hf1 ?_
    refine T_ald0 dX5_isAt_19 ?_
    refine T_getN dX5_isAt_20 lf_X5_22 rfl rfl ht1 ?_
    refine T_iaddN dX5_isAt_23 ?_
    refine T_ialdV dX5_isAt_24 (kC hj) (by rw [lC hj]; omega) (hco _ (by omega)) ?_
    refine T_ild1 dX5_isAt_25 ?_
    refine T_cne (tgt := 33) dX5_isAt_26 (by decide) (fun h26 => ?_) (fun h26 => ?_)
    · refine T_iconst (v := bI false) dX5_isAt_33 (by decide) ?_
      refine T_bretB dX5_isAt_34 rfl ?_
      first | (rw [show sg n co t x = true from decide_eq_true ⟨by omega, h26⟩]; exact rt_i) | (rw [show sg n co t x = false from decide_eq_false (fun q => h26 q.2)]; exact rt_i) | (rw [show sg n co t x = false from decide_eq_false (fun q => by omega)]; exact rt_i)
    · refine T_iconst (v := bI true) dX5_isAt_29 (by decide) ?_
      refine T_goto (tgt := 34) dX5_isAt_30 (by decide) ?_
      refine T_bretB dX5_isAt_34 rfl ?_
      first | (rw [show sg n co t x = true from decide_eq_true ⟨by omega, h26⟩]; exact rt_i) | (rw [show sg n co t x = false from decide_eq_false (fun q => h26 q.2)]; exact rt_i) | (rw [show sg n co t x = false from decide_eq_false (fun q => by omega)]; exact rt_i)
set_option maxRecDepth 20000 in
theorem c_X5_take_t {S : Nat → Nat → Int32} {L : Nat → Nat → Int64} {nw sp : Nat} {d : Nat} {j f n t : Nat} {co : Nat → Int32} (hj : j < 4) (hfn : f + n ≤ 60) (hf1 : S 10 1 = nI f) (hn1 : S 10 2 = nI n) (ht1 : S 10 3 = nI t) (htn : t ≤ n) (hco : ∀ k, k < n → S (6 + j) (f + k) = co k) {x : Int32} (hsg : sg n co t x = true) : TT mX5_take (d + 1) 0 [some (.ref 10), some (.int (x))] [] (S, L, (nw, sp, 6 + j)) (rt (some (.int (bI true))) (uI S 10 3 (nI (t + 1)), L, (nw, sp, 6 + j))) := by
  refine T_ald0 dX5_take_0 ?_
  refine T_ild1 dX5_take_1 ?_
  refine T_invV1i (M' := mX5_isAt) dX5_take_2 ml_X5_25 imX5_isAt rfl (Nat.le_of_ble_eq_true rfl) rfl (Nat.le_of_ble_eq_true rfl) rfl (Nat.le_of_ble_eq_true rfl) (c_X5_isAt hj hfn hf1 hn1 ht1 htn hco) ?_
  refine T_ifneB (tgt := 10) dX5_take_5 (by decide) (fun h5 => ?_) (fun h5 => by rw [hsg] at h5; cases h5)
  refine T_ald0 dX5_take_10 ?_
  refine T_dup dX5_take_11 rfl ?_
  refine T_getN dX5_take_12 lf_X5_22 rfl rfl ht1 ?_
  refine T_iconst (v := nI 1) dX5_take_15 (by decide) ?_
  refine T_iaddN dX5_take_16 ?_
  refine T_putI dX5_take_17 lf_X5_22 rfl rfl rfl rfl ?_
  refine T_iconst (v := bI true) dX5_take_20 (by decide) ?_
  refine T_bretB dX5_take_21 rfl ?_
  exact rt_i
set_option maxRecDepth 20000 in
theorem c_X5_take_f {S : Nat → Nat → Int32} {L : Nat → Nat → Int64} {nw sp : Nat} {d : Nat} {j f n t : Nat} {co : Nat → Int32} (hj : j < 4) (hfn : f + n ≤ 60) (hf1 : S 10 1 = nI f) (hn1 : S 10 2 = nI n) (ht1 : S 10 3 = nI t) (htn : t ≤ n) (hco : ∀ k, k < n → S (6 + j) (f + k) = co k) {x : Int32} (hsg : sg n co t x = false) : TT mX5_take (d + 1) 0 [some (.ref 10), some (.int (x))] [] (S, L, (nw, sp, 6 + j)) (rt (some (.int (bI false))) (S, L, (nw, sp, 6 + j))) := by
  refine T_ald0 dX5_take_0 ?_
  refine T_ild1 dX5_take_1 ?_
  refine T_invV1i (M' := mX5_isAt) dX5_take_2 ml_X5_25 imX5_isAt rfl (Nat.le_of_ble_eq_true rfl) rfl (Nat.le_of_ble_eq_true rfl) rfl (Nat.le_of_ble_eq_true rfl) (c_X5_isAt hj hfn hf1 hn1 ht1 htn hco) ?_
  refine T_ifneB (tgt := 10) dX5_take_5 (by decide) (fun h5 => by rw [hsg] at h5; cases h5) (fun h5 => ?_)
  refine T_iconst (v := bI false) dX5_take_8 (by decide) ?_
  refine T_bretB dX5_take_9 rfl ?_
  exact rt_i
set_option maxRecDepth 20000 in
theorem c_X5_takeDigitBut_s {S : Nat → Nat → Int32} {L : Nat → Nat → Int64} {nw sp : Nat} {d : Nat} {j f n t : Nat} {co : Nat → Int32} (hj : j < 4) (hfn : f + n ≤ 60) (hf1 : S 10 1 = nI f) (hn1 : S 10 2 = nI n) (ht1 : S 10 3 = nI t) (htn : t ≤ n) (hco : ∀ k, k < n → S (6 + j) (f + k) = co k) {m : Nat} {z : Int32} (hm : m ≤ 10) {v : Nat} (hd : dgb n co t m z = some v) : TT mX5_takeDigitBut (d + 1) 0 [some (.ref 10), some (.int (nI m)), some (.int (z)), none] [] (S, L, (nw, sp, 6 + j)) (rt (some (.int (nI v))) (uI S 10 3 (nI (t + 1)), L, (nw, sp, 6 + j))) := by
  obtain ⟨hd1, hd2⟩ := dgb_some hd
  obtain ⟨q1, q2, q3⟩ := dgt_some hm hd1
  refine T_ald0 dX5_takeDigitBut_0 ?_
  refine T_invV0i (M' := mX5_isAtEnd) dX5_takeDigitBut_1 ml_X5_33 imX5_isAtEnd rfl (Nat.le_of_ble_eq_true rfl) rfl (Nat.le_of_ble_eq_true rfl) rfl (Nat.le_of_ble_eq_true rfl) (c_X5_isAtEnd hn1 ht1 (by omega) htn) ?_
  refine T_ifeqB (tgt := 10) dX5_takeDigitBut_4 (by decide) (fun h4 => ?_) (fun h4 => by exact absurd (of_decide_eq_true h4) (by omega))
  refine T_ald0 dX5_takeDigitBut_10 ?_
  refine T_getR (q := 6 + j) dX5_takeDigitBut_11 lf_X5_9 rfl rfl rfl ?_
  refine T_ald0 dX5_takeDigitBut_14 ?_
  refine T_getN dX5_takeDigitBut_15 lf_X5_15 rfl rfl hf1 ?_
  refine T_ald0 dX5_takeDigitBut_18 ?_
  refine T_getN dX5_takeDigitBut_19 lf_X5_22 rfl rfl ht1 ?_
  refine T_iaddN dX5_takeDigitBut_22 ?_
  refine T_ialdV dX5_takeDigitBut_23 (kC hj) (by rw [lC hj]; omega) (hco _ (by omega)) ?_
  refine T_bipush (v := nI 48) dX5_takeDigitBut_24 (by decide) ?_
  refine T_isub dX5_takeDigitBut_26 ?_
  rw [q3]
  refine T_ist3 dX5_takeDigitBut_27 (by decide) rfl ?_
  refine T_ild3 dX5_takeDigitBut_28 ?_
  refine T_ild1 dX5_takeDigitBut_29 ?_
  refine T_invSN2i (M' := mX6_isBelow) dX5_takeDigitBut_30 ml_X5_37 imX6_isBelow (Nat.le_of_ble_eq_true rfl) rfl (Nat.le_of_ble_eq_true rfl) (c_X6_isBelow (by omega)) ?_
  refine T_ifeqB (tgt := 41) dX5_takeDigitBut_33 (by decide) (fun h33 => by rw [blw_n q2] at h33; cases h33) (fun h33 => ?_)
  refine T_ild3 dX5_takeDigitBut_36 ?_
  refine T_ild2 dX5_takeDigitBut_37 ?_
  refine T_cne (tgt := 44) dX5_takeDigitBut_38 (by decide) (fun h38 => ?_) (fun h38 => by exact absurd h38 hd2)
  refine T_ald0 dX5_takeDigitBut_44 ?_
  refine T_dup dX5_takeDigitBut_45 rfl ?_
  refine T_getN dX5_takeDigitBut_46 lf_X5_22 rfl rfl ht1 ?_
  refine T_iconst (v := nI 1) dX5_takeDigitBut_49 (by decide) ?_
  refine T_iaddN dX5_takeDigitBut_50 ?_
  refine T_putI dX5_takeDigitBut_51 lf_X5_22 rfl rfl rfl rfl ?_
  refine T_ild3 dX5_takeDigitBut_54 ?_
  refine T_iret dX5_takeDigitBut_55 rfl ?_
  exact rt_i
set_option maxRecDepth 20000 in
theorem c_X5_takeDigitBut_n {S : Nat → Nat → Int32} {L : Nat → Nat → Int64} {nw sp : Nat} {d : Nat} {j f n t : Nat} {co : Nat → Int32} (hj : j < 4) (hfn : f + n ≤ 60) (hf1 : S 10 1 = nI f) (hn1 : S 10 2 = nI n) (ht1 : S 10 3 = nI t) (htn : t ≤ n) (hco : ∀ k, k < n → S (6 + j) (f + k) = co k) {m : Nat} {z : Int32} (hm : m ≤ 10) (hd : dgb n co t m z = none) : TT mX5_takeDigitBut (d + 1) 0 [some (.ref 10), some (.int (nI m)), some (.int (z)), none] [] (S, L, (nw, sp, 6 + j)) (rt (some (.int (-9))) (S, L, (nw, sp, 6 + j))) := by
  by_cases ht : n ≤ t
  · skip
    refine T_ald0 dX5_takeDigitBut_0 ?_
    refine T_invV0i (M' := mX5_isAtEnd) dX5_takeDigitBut_1 ml_X5_33 imX5_isAtEnd rfl (Nat.le_of_ble_eq_true rfl) rfl (Nat.le_of_ble_eq_true rfl) rfl (Nat.le_of_ble_eq_true rfl) (c_X5_isAtEnd hn1 ht1 (by omega) htn) ?_
    refine T_ifeqB (tgt := 10) dX5_takeDigitBut_4 (by decide) (fun h4 => by exact absurd (of_decide_eq_false h4) (by omega)) (fun h4 => ?_)
    refine T_bipush (v := -9) dX5_takeDigitBut_7 (by decide) ?_
    refine T_iret dX5_takeDigitBut_9 rfl ?_
    exact rt_i
  · have ht : t < n := by omega
    rcases dgb_none hd with hd1 | ⟨v, hd1, hv⟩
    · skip
      refine T_ald0 dX5_takeDigitBut_0 ?_
      refine T_invV0i (M' := mX5_isAtEnd) dX5_takeDigitBut_1 ml_X5_33 imX5_isAtEnd rfl (Nat.le_of_ble_eq_true rfl) rfl (Nat.le_of_ble_eq_true rfl) rfl (Nat.le_of_ble_eq_true rfl) (c_X5_isAtEnd hn1 ht1 (by omega) htn) ?_
      refine T_ifeqB (tgt := 10) dX5_takeDigitBut_4 (by decide) (fun h4 => ?_) (fun h4 => by exact absurd (of_decide_eq_true h4) (by omega))
      refine T_ald0 dX5_takeDigitBut_10 ?_
      refine T_getR (q := 6 + j) dX5_takeDigitBut_11 lf_X5_9 rfl rfl rfl ?_
      refine T_ald0 dX5_takeDigitBut_14 ?_
      refine T_getN dX5_takeDigitBut_15 lf_X5_15 rfl rfl hf1 ?_
      refine T_ald0 dX5_takeDigitBut_18 ?_
      refine T_getN dX5_takeDigitBut_19 lf_X5_22 rfl rfl ht1 ?_
      refine T_iaddN dX5_takeDigitBut_22 ?_
      refine T_ialdV dX5_takeDigitBut_23 (kC hj) (by rw [lC hj]; omega) (hco _ (by omega)) ?_
      refine T_bipush (v := nI 48) dX5_takeDigitBut_24 (by decide) ?_
      refine T_isub dX5_takeDigitBut_26 ?_
      refine T_ist3 dX5_takeDigitBut_27 (by decide) rfl ?_
      refine T_ild3 dX5_takeDigitBut_28 ?_
      refine T_ild1 dX5_takeDigitBut_29 ?_
      refine T_invSN2i (M' := mX6_isBelow) dX5_takeDigitBut_30 ml_X5_37 imX6_isBelow (Nat.le_of_ble_eq_true rfl) rfl (Nat.le_of_ble_eq_true rfl) (c_X6_isBelow (by omega)) ?_
      refine T_ifeqB (tgt := 41) dX5_takeDigitBut_33 (by decide) (fun h33 => ?_) (fun h33 => by rw [dgt_none hd1 ht] at h33; cases h33)
      refine T_bipush (v := -9) dX5_takeDigitBut_41 (by decide) ?_
      refine T_iret dX5_takeDigitBut_43 rfl ?_
      exact rt_i
    · obtain ⟨q1, q2, q3⟩ := dgt_some hm hd1
      refine T_ald0 dX5_takeDigitBut_0 ?_
      refine T_invV0i (M' := mX5_isAtEnd) dX5_takeDigitBut_1 ml_X5_33 imX5_isAtEnd rfl (Nat.le_of_ble_eq_true rfl) rfl (Nat.le_of_ble_eq_true rfl) rfl (Nat.le_of_ble_eq_true rfl) (c_X5_isAtEnd hn1 ht1 (by omega) htn) ?_
      refine T_ifeqB (tgt := 10) dX5_takeDigitBut_4 (by decide) (fun h4 => ?_) (fun h4 => by exact absurd (of_decide_eq_true h4) (by omega))
      refine T_ald0 dX5_takeDigitBut_10 ?_
      refine T_getR (q := 6 + j) dX5_takeDigitBut_11 lf_X5_9 rfl rfl rfl ?_
      refine T_ald0 dX5_takeDigitBut_14 ?_
      refine T_getN dX5_takeDigitBut_15 lf_X5_15 rfl rfl hf1 ?_
      refine T_ald0 dX5_takeDigitBut_18 ?_
      refine T_getN dX5_takeDigitBut_19 lf_X5_22 rfl rfl ht1 ?_
      refine T_iaddN dX5_takeDigitBut_22 ?_
      refine T_ialdV dX5_takeDigitBut_23 (kC hj) (by rw [lC hj]; omega) (hco _ (by omega)) ?_
      refine T_bipush (v := nI 48) dX5_takeDigitBut_24 (by decide) ?_
      refine T_isub dX5_takeDigitBut_26 ?_
      rw [q3]
      refine T_ist3 dX5_takeDigitBut_27 (by decide) rfl ?_
      refine T_ild3 dX5_takeDigitBut_28 ?_
      refine T_ild1 dX5_takeDigitBut_29 ?_
      refine T_invSN2i (M' := mX6_isBelow) dX5_takeDigitBut_30 ml_X5_37 imX6_isBelow (Nat.le_of_ble_eq_true rfl) rfl (Nat.le_of_ble_eq_true rfl) (c_X6_isBelow (by omega)) ?_
      refine T_ifeqB (tgt := 41) dX5_takeDigitBut_33 (by decide) (fun h33 => by rw [blw_n q2] at h33; cases h33) (fun h33 => ?_)
      refine T_ild3 dX5_takeDigitBut_36 ?_
      refine T_ild2 dX5_takeDigitBut_37 ?_
      refine T_cne (tgt := 44) dX5_takeDigitBut_38 (by decide) (fun h38 => by exact absurd hv h38) (fun h38 => ?_)
      refine T_bipush (v := -9) dX5_takeDigitBut_41 (by decide) ?_
      refine T_iret dX5_takeDigitBut_43 rfl ?_
      exact rt_i
set_option maxRecDepth 20000 in
theorem c_X5_takeDigit_s {S : Nat → Nat → Int32} {L : Nat → Nat → Int64} {nw sp : Nat} {d : Nat} {j f n t : Nat} {co : Nat → Int32} (hj : j < 4) (hfn : f + n ≤ 60) (hf1 : S 10 1 = nI f) (hn1 : S 10 2 = nI n) (ht1 : S 10 3 = nI t) (htn : t ≤ n) (hco : ∀ k, k < n → S (6 + j) (f + k) = co k) {m : Nat} (hm : m ≤ 10) {v : Nat} (hd : dgt n co t m = some v) : TT mX5_takeDigit (d + 2) 0 [some (.ref 10), some (.int (nI m))] [] (S, L, (nw, sp, 6 + j)) (rt (some (.int (nI v))) (uI S 10 3 (nI (t + 1)), L, (nw, sp, 6 + j))) := by
  refine T_ald0 dX5_takeDigit_0 ?_
  refine T_ild1 dX5_takeDigit_1 ?_
  refine T_bipush (v := -9) dX5_takeDigit_2 (by decide) ?_
  refine T_invV2i (M' := mX5_takeDigitBut) dX5_takeDigit_4 ml_X5_29 imX5_takeDigitBut rfl (Nat.le_of_ble_eq_true rfl) rfl (Nat.le_of_ble_eq_true rfl) rfl (Nat.le_of_ble_eq_true rfl) (c_X5_takeDigitBut_s hj hfn hf1 hn1 ht1 htn hco hm (by rw [dgb_m9 hm]; exact hd)) ?_
  refine T_iret dX5_takeDigit_7 rfl ?_
  exact rt_i
set_option maxRecDepth 20000 in
theorem c_X5_takeDigit_n {S : Nat → Nat → Int32} {L : Nat → Nat → Int64} {nw sp : Nat} {d : Nat} {j f n t : Nat} {co : Nat → Int32} (hj : j < 4) (hfn : f + n ≤ 60) (hf1 : S 10 1 = nI f) (hn1 : S 10 2 = nI n) (ht1 : S 10 3 = nI t) (htn : t ≤ n) (hco : ∀ k, k < n → S (6 + j) (f + k) = co k) {m : Nat} (hm : m ≤ 10) (hd : dgt n co t m = none) : TT mX5_takeDigit (d + 2) 0 [some (.ref 10), some (.int (nI m))] [] (S, L, (nw, sp, 6 + j)) (rt (some (.int (-9))) (S, L, (nw, sp, 6 + j))) := by
  refine T_ald0 dX5_takeDigit_0 ?_
  refine T_ild1 dX5_takeDigit_1 ?_
  refine T_bipush (v := -9) dX5_takeDigit_2 (by decide) ?_
  refine T_invV2i (M' := mX5_takeDigitBut) dX5_takeDigit_4 ml_X5_29 imX5_takeDigitBut rfl (Nat.le_of_ble_eq_true rfl) rfl (Nat.le_of_ble_eq_true rfl) rfl (Nat.le_of_ble_eq_true rfl) (c_X5_takeDigitBut_n hj hfn hf1 hn1 ht1 htn hco hm (by rw [dgb_m9 hm]; exact hd)) ?_
  refine T_iret dX5_takeDigit_7 rfl ?_
  exact rt_i
set_option maxRecDepth 20000 in
theorem c_X5_takeKind_0 {S : Nat → Nat → Int32} {L : Nat → Nat → Int64} {nw sp : Nat} {d : Nat} {j f n t : Nat} {co : Nat → Int32} (hj : j < 4) (hfn : f + n ≤ 60) (hf1 : S 10 1 = nI f) (hn1 : S 10 2 = nI n) (ht1 : S 10 3 = nI t) (htn : t ≤ n) (hco : ∀ k, k < n → S (6 + j) (f + k) = co k) (k1 : sg n co t (nI 103) = true) : TT mX5_takeKind (d + 2) 0 [some (.ref 10)] [] (S, L, (nw, sp, 6 + j)) (rt (some (.int (nI 0))) (uI S 10 3 (nI (t + 1)), L, (nw, sp, 6 + j))) := by
  refine T_ald0 dX5_takeKind_0 ?_
  refine T_bipush (v := nI 103) dX5_takeKind_1 (by decide) ?_
  refine T_invV1i (M' := mX5_take) dX5_takeKind_3 ml_X5_41 imX5_take rfl (Nat.le_of_ble_eq_true rfl) rfl (Nat.le_of_ble_eq_true rfl) rfl (Nat.le_of_ble_eq_true rfl) (c_X5_take_t hj hfn hf1 hn1 ht1 htn hco (by assumption)) ?_
  refine T_ifeqB (tgt := 11) dX5_takeKind_6 (by decide) (fun h6 => by cases h6) (fun h6 => ?_)
  refine T_iconst (v := nI 0) dX5_takeKind_9 (by decide) ?_
  refine T_iret dX5_takeKind_10 rfl ?_
  exact rt_i
set_option maxRecDepth 20000 in
theorem c_X5_takeKind_1 {S : Nat → Nat → Int32} {L : Nat → Nat → Int64} {nw sp : Nat} {d : Nat} {j f n t : Nat} {co : Nat → Int32} (hj : j < 4) (hfn : f + n ≤ 60) (hf1 : S 10 1 = nI f) (hn1 : S 10 2 = nI n) (ht1 : S 10 3 = nI t) (htn : t ≤ n) (hco : ∀ k, k < n → S (6 + j) (f + k) = co k) (k1 : sg n co t (nI 103) = false) (k2 : sg n co t (nI 97) = true) : TT mX5_takeKind (d + 2) 0 [some (.ref 10)] [] (S, L, (nw, sp, 6 + j)) (rt (some (.int (nI 1))) (uI S 10 3 (nI (t + 1)), L, (nw, sp, 6 + j))) := by
  refine T_ald0 dX5_takeKind_0 ?_
  refine T_bipush (v := nI 103) dX5_takeKind_1 (by decide) ?_
  refine T_invV1i (M' := mX5_take) dX5_takeKind_3 ml_X5_41 imX5_take rfl (Nat.le_of_ble_eq_true rfl) rfl (Nat.le_of_ble_eq_true rfl) rfl (Nat.le_of_ble_eq_true rfl) (c_X5_take_f hj hfn hf1 hn1 ht1 htn hco (by assumption)) ?_
  refine T_ifeqB (tgt := 11) dX5_takeKind_6 (by decide) (fun h6 => ?_) (fun h6 => by cases h6)
  refine T_ald0 dX5_takeKind_11 ?_
  refine T_bipush (v := nI 97) dX5_takeKind_12 (by decide) ?_
  refine T_invV1i (M' := mX5_take) dX5_takeKind_14 ml_X5_41 imX5_take rfl (Nat.le_of_ble_eq_true rfl) rfl (Nat.le_of_ble_eq_true rfl) rfl (Nat.le_of_ble_eq_true rfl) (c_X5_take_t hj hfn hf1 hn1 ht1 htn hco (by assumption)) ?_
  refine T_ifeqB (tgt := 22) dX5_takeKind_17 (by decide) (fun h17 => by cases h17) (fun h17 => ?_)
  refine T_iconst (v := nI 1) dX5_takeKind_20 (by decide) ?_
  refine T_iret dX5_takeKind_21 rfl ?_
  exact rt_i
set_option maxRecDepth 20000 in
theorem c_X5_takeKind_2 {S : Nat → Nat → Int32} {L : Nat → Nat → Int64} {nw sp : Nat} {d : Nat} {j f n t : Nat} {co : Nat → Int32} (hj : j < 4) (hfn : f + n ≤ 60) (hf1 : S 10 1 = nI f) (hn1 : S 10 2 = nI n) (ht1 : S 10 3 = nI t) (htn : t ≤ n) (hco : ∀ k, k < n → S (6 + j) (f + k) = co k) (k1 : sg n co t (nI 103) = false) (k2 : sg n co t (nI 97) = false) (k3 : sg n co t (nI 99) = true) : TT mX5_takeKind (d + 2) 0 [some (.ref 10)] [] (S, L, (nw, sp, 6 + j)) (rt (some (.int (nI 2))) (uI S 10 3 (nI (t + 1)), L, (nw, sp, 6 + j))) := by
  refine T_ald0 dX5_takeKind_0 ?_
  refine T_bipush (v := nI 103) dX5_takeKind_1 (by decide) ?_
  refine T_invV1i (M' := mX5_take) dX5_takeKind_3 ml_X5_41 imX5_take rfl (Nat.le_of_ble_eq_true rfl) rfl (Nat.le_of_ble_eq_true rfl) rfl (Nat.le_of_ble_eq_true rfl) (c_X5_take_f hj hfn hf1 hn1 ht1 htn hco (by assumption)) ?_
  refine T_ifeqB (tgt := 11) dX5_takeKind_6 (by decide) (fun h6 => ?_) (fun h6 => by cases h6)
  refine T_ald0 dX5_takeKind_11 ?_
  refine T_bipush (v := nI 97) dX5_takeKind_12 (by decide) ?_
  refine T_invV1i (M' := mX5_take) dX5_takeKind_14 ml_X5_41 imX5_take rfl (Nat.le_of_ble_eq_true rfl) rfl (Nat.le_of_ble_eq_true rfl) rfl (Nat.le_of_ble_eq_true rfl) (c_X5_take_f hj hfn hf1 hn1 ht1 htn hco (by assumption)) ?_
  refine T_ifeqB (tgt := 22) dX5_takeKind_17 (by decide) (fun h17 => ?_) (fun h17 => by cases h17)
  refine T_ald0 dX5_takeKind_22 ?_
  refine T_bipush (v := nI 99) dX5_takeKind_23 (by decide) ?_
  refine T_invV1i (M' := mX5_take) dX5_takeKind_25 ml_X5_41 imX5_take rfl (Nat.le_of_ble_eq_true rfl) rfl (Nat.le_of_ble_eq_true rfl) rfl (Nat.le_of_ble_eq_true rfl) (c_X5_take_t hj hfn hf1 hn1 ht1 htn hco (by assumption)) ?_
  refine T_ifeqB (tgt := 35) dX5_takeKind_28 (by decide) (fun h28 => by cases h28) (fun h28 => ?_)
  refine T_iconst (v := nI 2) dX5_takeKind_31 (by decide) ?_
  refine T_goto (tgt := 37) dX5_takeKind_32 (by decide) ?_
  refine T_iret dX5_takeKind_37 rfl ?_
  exact rt_i
set_option maxRecDepth 20000 in
theorem c_X5_takeKind_n {S : Nat → Nat → Int32} {L : Nat → Nat → Int64} {nw sp : Nat} {d : Nat} {j f n t : Nat} {co : Nat → Int32} (hj : j < 4) (hfn : f + n ≤ 60) (hf1 : S 10 1 = nI f) (hn1 : S 10 2 = nI n) (ht1 : S 10 3 = nI t) (htn : t ≤ n) (hco : ∀ k, k < n → S (6 + j) (f + k) = co k) (k1 : sg n co t (nI 103) = false) (k2 : sg n co t (nI 97) = false) (k3 : sg n co t (nI 99) = false) : TT mX5_takeKind (d + 2) 0 [some (.ref 10)] [] (S, L, (nw, sp, 6 + j)) (rt (some (.int (-9))) (S, L, (nw, sp, 6 + j))) := by
  refine T_ald0 dX5_takeKind_0 ?_
  refine T_bipush (v := nI 103) dX5_takeKind_1 (by decide) ?_
  refine T_invV1i (M' := mX5_take) dX5_takeKind_3 ml_X5_41 imX5_take rfl (Nat.le_of_ble_eq_true rfl) rfl (Nat.le_of_ble_eq_true rfl) rfl (Nat.le_of_ble_eq_true rfl) (c_X5_take_f hj hfn hf1 hn1 ht1 htn hco (by assumption)) ?_
  refine T_ifeqB (tgt := 11) dX5_takeKind_6 (by decide) (fun h6 => ?_) (fun h6 => by cases h6)
  refine T_ald0 dX5_takeKind_11 ?_
  refine T_bipush (v := nI 97) dX5_takeKind_12 (by decide) ?_
  refine T_invV1i (M' := mX5_take) dX5_takeKind_14 ml_X5_41 imX5_take rfl (Nat.le_of_ble_eq_true rfl) rfl (Nat.le_of_ble_eq_true rfl) rfl (Nat.le_of_ble_eq_true rfl) (c_X5_take_f hj hfn hf1 hn1 ht1 htn hco (by assumption)) ?_
  refine T_ifeqB (tgt := 22) dX5_takeKind_17 (by decide) (fun h17 => ?_) (fun h17 => by cases h17)
  refine T_ald0 dX5_takeKind_22 ?_
  refine T_bipush (v := nI 99) dX5_takeKind_23 (by decide) ?_
  refine T_invV1i (M' := mX5_take) dX5_takeKind_25 ml_X5_41 imX5_take rfl (Nat.le_of_ble_eq_true rfl) rfl (Nat.le_of_ble_eq_true rfl) rfl (Nat.le_of_ble_eq_true rfl) (c_X5_take_f hj hfn hf1 hn1 ht1 htn hco (by assumption)) ?_
  refine T_ifeqB (tgt := 35) dX5_takeKind_28 (by decide) (fun h28 => ?_) (fun h28 => by cases h28)
  refine T_bipush (v := -9) dX5_takeKind_35 (by decide) ?_
  refine T_iret dX5_takeKind_37 rfl ?_
  exact rt_i
set_option maxRecDepth 20000 in
theorem c_takeKind_s {S : Nat → Nat → Int32} {L : Nat → Nat → Int64} {nw sp d : Nat} {j f n t : Nat} {co : Nat → Int32} (hj : j < 4) (hfn : f + n ≤ 60) (hf1 : S 10 1 = nI f) (hn1 : S 10 2 = nI n) (ht1 : S 10 3 = nI t) (htn : t ≤ n) (hco : ∀ k, k < n → S (6 + j) (f + k) = co k) {v : Nat} (hd : skd n co t = some v) : TT mX5_takeKind (d + 2) 0 [some (.ref 10)] [] (S, L, (nw, sp, 6 + j)) (rt (some (.int (nI v))) (uI S 10 3 (nI (t + 1)), L, (nw, sp, 6 + j))) := by
  unfold skd at hd
  split at hd
  · cases hd; exact c_X5_takeKind_0 hj hfn hf1 hn1 ht1 htn hco (by assumption)
  · rename_i k1
    split at hd
    · cases hd; exact c_X5_takeKind_1 hj hfn hf1 hn1 ht1 htn hco (by simpa using k1) (by assumption)
    · rename_i k2
      split at hd
      · cases hd; exact c_X5_takeKind_2 hj hfn hf1 hn1 ht1 htn hco (by simpa using k1) (by simpa using k2) (by assumption)
      · cases hd
set_option maxRecDepth 20000 in
theorem c_takeKind_n {S : Nat → Nat → Int32} {L : Nat → Nat → Int64} {nw sp d : Nat} {j f n t : Nat} {co : Nat → Int32} (hj : j < 4) (hfn : f + n ≤ 60) (hf1 : S 10 1 = nI f) (hn1 : S 10 2 = nI n) (ht1 : S 10 3 = nI t) (htn : t ≤ n) (hco : ∀ k, k < n → S (6 + j) (f + k) = co k) (hd : skd n co t = none) : TT mX5_takeKind (d + 2) 0 [some (.ref 10)] [] (S, L, (nw, sp, 6 + j)) (rt (some (.int (-9))) (S, L, (nw, sp, 6 + j))) := by
  unfold skd at hd
  split at hd
  · cases hd
  · rename_i k1
    split at hd
    · cases hd
    · rename_i k2
      split at hd
      · cases hd
      · rename_i k3
        exact c_X5_takeKind_n hj hfn hf1 hn1 ht1 htn hco (by simpa using k1) (by simpa using k2) (by simpa using k3)
