/-! the class lays a table by a text -/
def OF (l : List (Nat × Nat)) (S S' : Nat → Nat → Int32) : Prop := ∀ q k, (q, k) ∉ l → S' q k = S q k
theorem OF_r {l : List (Nat × Nat)} {S : Nat → Nat → Int32} : OF l S S := fun _ _ _ => rfl
theorem OF_u {l : List (Nat × Nat)} {S S' : Nat → Nat → Int32} {p k : Nat} {x : Int32} (h : OF l S S') (hm : (p, k) ∈ l) : OF l S (uI S' p k x) := by
  intro q i hq
  show (if q = p then (if i = k then x else S' q i) else S' q i) = _
  by_cases h1 : q = p
  · rw [if_pos h1]
    by_cases h2 : i = k
    · subst h1; subst h2; exact absurd hm hq
    · rw [if_neg h2]; exact h q i hq
  · rw [if_neg h1]; exact h q i hq
/-- the reader at place t of the text co of n codes -/
def RD (S : Nat → Nat → Int32) (j f n t : Nat) (co : Nat → Int32) : Prop := S 10 1 = nI f ∧ S 10 2 = nI n ∧ S 10 3 = nI t ∧ ∀ k, k < n → S (6 + j) (f + k) = co k
theorem RD.adv {S : Nat → Nat → Int32} {j f n t : Nat} {co : Nat → Int32} (hj : j < 4) (h : RD S j f n t co) (t' : Nat) : RD (uI S 10 3 (nI t')) j f n t' co := by
  refine ⟨?_, ?_, uI_s, fun k hk => ?_⟩
  · rw [uI_k (by decide)]; exact h.1
  · rw [uI_k (by decide)]; exact h.2.1
  · rw [uI_p (by omega)]; exact h.2.2.2 k hk
theorem RD.off {S : Nat → Nat → Int32} {j f n t q i : Nat} {x : Int32} {co : Nat → Int32} (h : RD S j f n t co) (h1 : q ≠ 10) (h2 : q ≠ 6 + j) : RD (uI S q i x) j f n t co := by
  refine ⟨?_, ?_, ?_, fun k hk => ?_⟩
  · rw [uI_p (fun e => h1 e.symm)]; exact h.1
  · rw [uI_p (fun e => h1 e.symm)]; exact h.2.1
  · rw [uI_p (fun e => h1 e.symm)]; exact h.2.2.1
  · rw [uI_p (fun e => h2 e.symm)]; exact h.2.2.2 k hk
def kv (n : Nat) (co : Nat → Int32) (t : Nat) : Nat := (skd n co t).getD 0
def dv (n : Nat) (co : Nat → Int32) (t m : Nat) : Nat := (dgt n co t m).getD 0
def pGf (n : Nat) (co : Nat → Int32) (t : Nat) : Nat := if sg n co t (nI 44) = false then 0 else if skd n co (t + 1) = none then 1 else if dgt n co (t + 2) 10 = none then 2 else if dgt n co (t + 3) 4 = none then 3 else 4
theorem skd_lt {n t v : Nat} {co : Nat → Int32} (h : skd n co t = some v) : t < n ∧ v ≤ 2 := by
  unfold skd at h
  split at h
  · rename_i q; cases h; exact ⟨(of_decide_eq_true q).1, by decide⟩
  · split at h
    · rename_i q; cases h; exact ⟨(of_decide_eq_true q).1, by decide⟩
    · split at h
      · rename_i q; cases h; exact ⟨(of_decide_eq_true q).1, by decide⟩
      · cases h
theorem sg_lt {n t : Nat} {co : Nat → Int32} {x : Int32} (h : sg n co t x = true) : t < n := (of_decide_eq_true h).1
set_option maxRecDepth 20000 in
theorem c_X4_layGuest {S : Nat → Nat → Int32} {L : Nat → Nat → Int64} {nw sp : Nat} {d : Nat} {T : Nat} (hT : T = 19 ∨ T = 28) {j f n t : Nat} {co : Nat → Int32} (hj : j < 4) (hfn : f + n ≤ 60) (hR : RD S j f n t co) (htn : t ≤ n) {i : Nat} (hi : i < 8) : TT mX4_layGuest (d + 3) 0 [some (.ref T), some (.ref 10), some (.int (nI i))] [] (S, L, (nw, sp, 6 + j)) (fun r σ' => ∃ S', σ' = (S', L, (nw, sp, 6 + j)) ∧ OF [(10, 3), (T + 1, i), (T + 2, i), (T + 3, i)] S S' ∧ r = some (.int (bI (decide (pGf n co t = 4)))) ∧ S' 10 3 = nI (t + pGf n co t) ∧ (pGf n co t = 4 → S' (T + 1) i = nI (kv n co (t + 1)) ∧ S' (T + 2) i = nI (dv n co (t + 2) 10) ∧ S' (T + 3) i = nI (dv n co (t + 3) 4))) := by
  cases hs : sg n co t (nI 44) with
  | false =>
    have hp : pGf n co t = 0 := if_pos hs
    refine T_ald1 dX4_layGuest_0 ?_
    refine T_bipush (v := nI 44) dX4_layGuest_1 (by decide) ?_
    refine T_invV1i (M' := mX5_take) dX4_layGuest_3 ml_X4_43 imX5_take rfl (Nat.le_of_ble_eq_true rfl) rfl (Nat.le_of_ble_eq_true rfl) rfl (Nat.le_of_ble_eq_true rfl) (c_X5_take_f hj hfn hR.1 hR.2.1 hR.2.2.1 (by omega) hR.2.2.2 hs) ?_
    refine T_ifneB (tgt := 11) dX4_layGuest_6 (by decide) (fun h6 => by cases h6) (fun h6 => ?_)
    refine T_iconst (v := bI false) dX4_layGuest_9 (by decide) ?_
    refine T_bretB dX4_layGuest_10 rfl ?_
    exact ⟨_, rfl, (by repeat first | exact OF_r | refine OF_u ?_ (by simp)), (by rw [hp]; rfl), (by rw [hp]; rcases hT with rfl | rfl <;> first | exact hR.2.2.1 | (simp [uI]; done) | (simp [uI]; exact hR.2.2.1)), fun q => (by rw [hp] at q; cases q)⟩
  | true =>
    have ht1 := sg_lt hs
    cases hk : skd n co (t + 1) with
    | none =>
      have hp : pGf n co t = 1 := (if_neg (by rw [hs]; decide)).trans (if_pos hk)
      refine T_ald1 dX4_layGuest_0 ?_
      refine T_bipush (v := nI 44) dX4_layGuest_1 (by decide) ?_
      refine T_invV1i (M' := mX5_take) dX4_layGuest_3 ml_X4_43 imX5_take rfl (Nat.le_of_ble_eq_true rfl) rfl (Nat.le_of_ble_eq_true rfl) rfl (Nat.le_of_ble_eq_true rfl) (c_X5_take_t hj hfn hR.1 hR.2.1 hR.2.2.1 (by omega) hR.2.2.2 hs) ?_
      refine T_ifneB (tgt := 11) dX4_layGuest_6 (by decide) (fun h6 => ?_) (fun h6 => by cases h6)
      refine T_ald0 dX4_layGuest_11 ?_
      refine T_getR (q := T + 1) dX4_layGuest_12 lf_X4_9 (kT hT) rfl (rT1 hT) ?_
      refine T_ild2 dX4_layGuest_15 ?_
      refine T_ald1 dX4_layGuest_16 ?_
      refine T_invV0i (M' := mX5_takeKind) dX4_layGuest_17 ml_X4_80 imX5_takeKind rfl (Nat.le_of_ble_eq_true rfl) rfl (Nat.le_of_ble_eq_true rfl) rfl (Nat.le_of_ble_eq_true rfl) (c_takeKind_n hj hfn (hR.adv hj (t + 1)).1 (hR.adv hj (t + 1)).2.1 (hR.adv hj (t + 1)).2.2.1 (by omega) (hR.adv hj (t + 1)).2.2.2 hk) ?_
      refine T_iast dX4_layGuest_20 (kT1 hT) (by rw [lT1 hT]; omega) rfl ?_
      refine T_ald0 dX4_layGuest_21 ?_
      refine T_getR (q := T + 1) dX4_layGuest_22 lf_X4_9 (kT hT) rfl (rT1 hT) ?_
      refine T_ild2 dX4_layGuest_25 ?_
      refine T_ialdV dX4_layGuest_26 (kT1 hT) (by rw [lT1 hT]; omega) uI_s ?_
      refine T_bipush (v := -9) dX4_layGuest_27 (by decide) ?_
      refine T_cne (tgt := 34) dX4_layGuest_29 (by decide) (fun h29 => by exact absurd rfl h29) (fun h29 => ?_)
      refine T_iconst (v := bI false) dX4_layGuest_32 (by decide) ?_
      refine T_bretB dX4_layGuest_33 rfl ?_
      exact ⟨_, rfl, (by repeat first | exact OF_r | refine OF_u ?_ (by simp)), (by rw [hp]; rfl), (by rw [hp]; rcases hT with rfl | rfl <;> first | exact hR.2.2.1 | (simp [uI]; done) | (simp [uI]; exact hR.2.2.1)), fun q => (by rw [hp] at q; cases q)⟩
    | some v1 =>
      have ht2 := skd_lt hk
      cases hd2 : dgt n co (t + 2) 10 with
      | none =>
        have hp : pGf n co t = 2 := (if_neg (by rw [hs]; decide)).trans ((if_neg (by rw [hk]; exact fun h => nomatch h)).trans (if_pos hd2))
        refine T_ald1 dX4_layGuest_0 ?_
        refine T_bipush (v := nI 44) dX4_layGuest_1 (by decide) ?_
        refine T_invV1i (M' := mX5_take) dX4_layGuest_3 ml_X4_43 imX5_take rfl (Nat.le_of_ble_eq_true rfl) rfl (Nat.le_of_ble_eq_true rfl) rfl (Nat.le_of_ble_eq_true rfl) (c_X5_take_t hj hfn hR.1 hR.2.1 hR.2.2.1 (by omega) hR.2.2.2 hs) ?_
        refine T_ifneB (tgt := 11) dX4_layGuest_6 (by decide) (fun h6 => ?_) (fun h6 => by cases h6)
        refine T_ald0 dX4_layGuest_11 ?_
        refine T_getR (q := T + 1) dX4_layGuest_12 lf_X4_9 (kT hT) rfl (rT1 hT) ?_
        refine T_ild2 dX4_layGuest_15 ?_
        refine T_ald1 dX4_layGuest_16 ?_
        refine T_invV0i (M' := mX5_takeKind) dX4_layGuest_17 ml_X4_80 imX5_takeKind rfl (Nat.le_of_ble_eq_true rfl) rfl (Nat.le_of_ble_eq_true rfl) rfl (Nat.le_of_ble_eq_true rfl) (c_takeKind_s hj hfn (hR.adv hj (t + 1)).1 (hR.adv hj (t + 1)).2.1 (hR.adv hj (t + 1)).2.2.1 (by omega) (hR.adv hj (t + 1)).2.2.2 hk) ?_
        refine T_iast dX4_layGuest_20 (kT1 hT) (by rw [lT1 hT]; omega) rfl ?_
        refine T_ald0 dX4_layGuest_21 ?_
        refine T_getR (q := T + 1) dX4_layGuest_22 lf_X4_9 (kT hT) rfl (rT1 hT) ?_
        refine T_ild2 dX4_layGuest_25 ?_
        refine T_ialdN dX4_layGuest_26 (kT1 hT) (by rw [lT1 hT]; omega) uI_s ?_
        refine T_bipush (v := -9) dX4_layGuest_27 (by decide) ?_
        refine T_cne (tgt := 34) dX4_layGuest_29 (by decide) (fun h29 => ?_) (fun h29 => by exact absurd h29 (nI_m9 (by omega)))
        refine T_ald0 dX4_layGuest_34 ?_
        refine T_getR (q := T + 2) dX4_layGuest_35 lf_X4_15 (kT hT) rfl (rT2 hT) ?_
        refine T_ild2 dX4_layGuest_38 ?_
        refine T_ald1 dX4_layGuest_39 ?_
        refine T_bipush (v := nI 10) dX4_layGuest_40 (by decide) ?_
        refine T_invV1i (M' := mX5_takeDigit) dX4_layGuest_42 ml_X4_66 imX5_takeDigit rfl (Nat.le_of_ble_eq_true rfl) rfl (Nat.le_of_ble_eq_true rfl) rfl (Nat.le_of_ble_eq_true rfl) (c_X5_takeDigit_n hj hfn (((hR.adv hj (t + 1)).adv hj (t + 2)).off (by omega) (by omega)).1 (((hR.adv hj (t + 1)).adv hj (t + 2)).off (by omega) (by omega)).2.1 (((hR.adv hj (t + 1)).adv hj (t + 2)).off (by omega) (by omega)).2.2.1 (by omega) (((hR.adv hj (t + 1)).adv hj (t + 2)).off (by omega) (by omega)).2.2.2 (by decide) hd2) ?_
        refine T_iast dX4_layGuest_45 (kT2 hT) (by rw [lT2 hT]; omega) rfl ?_
        refine T_ald0 dX4_layGuest_46 ?_
        refine T_getR (q := T + 2) dX4_layGuest_47 lf_X4_15 (kT hT) rfl (rT2 hT) ?_
        refine T_ild2 dX4_layGuest_50 ?_
        refine T_ialdV dX4_layGuest_51 (kT2 hT) (by rw [lT2 hT]; omega) uI_s ?_
        refine T_bipush (v := -9) dX4_layGuest_52 (by decide) ?_
        refine T_cne (tgt := 59) dX4_layGuest_54 (by decide) (fun h54 => by exact absurd rfl h54) (fun h54 => ?_)
        refine T_iconst (v := bI false) dX4_layGuest_57 (by decide) ?_
        refine T_bretB dX4_layGuest_58 rfl ?_
        exact ⟨_, rfl, (by repeat first | exact OF_r | refine OF_u ?_ (by simp)), (by rw [hp]; rfl), (by rw [hp]; rcases hT with rfl | rfl <;> first | exact hR.2.2.1 | (simp [uI]; done) | (simp [uI]; exact hR.2.2.1)), fun q => (by rw [hp] at q; cases q)⟩
      | some v2 =>
        have ht3 := dgt_some (by decide) hd2
        cases hd3 : dgt n co (t + 3) 4 with
        | none =>
          have hp : pGf n co t = 3 := (if_neg (by rw [hs]; decide)).trans ((if_neg (by rw [hk]; exact fun h => nomatch h)).trans ((if_neg (by rw [hd2]; exact fun h => nomatch h)).trans (if_pos hd3)))
          refine T_ald1 dX4_layGuest_0 ?_
          refine T_bipush (v := nI 44) dX4_layGuest_1 (by decide) ?_
          refine T_invV1i (M' := mX5_take) dX4_layGuest_3 ml_X4_43 imX5_take rfl (Nat.le_of_ble_eq_true rfl) rfl (Nat.le_of_ble_eq_true rfl) rfl (Nat.le_of_ble_eq_true rfl) (c_X5_take_t hj hfn hR.1 hR.2.1 hR.2.2.1 (by omega) hR.2.2.2 hs) ?_
          refine T_ifneB (tgt := 11) dX4_layGuest_6 (by decide) (fun h6 => ?_) (fun h6 => by cases h6)
          refine T_ald0 dX4_layGuest_11 ?_
          refine T_getR (q := T + 1) dX4_layGuest_12 lf_X4_9 (kT hT) rfl (rT1 hT) ?_
          refine T_ild2 dX4_layGuest_15 ?_
          refine T_ald1 dX4_layGuest_16 ?_
          refine T_invV0i (M' := mX5_takeKind) dX4_layGuest_17 ml_X4_80 imX5_takeKind rfl (Nat.le_of_ble_eq_true rfl) rfl (Nat.le_of_ble_eq_true rfl) rfl (Nat.le_of_ble_eq_true rfl) (c_takeKind_s hj hfn (hR.adv hj (t + 1)).1 (hR.adv hj (t + 1)).2.1 (hR.adv hj (t + 1)).2.2.1 (by omega) (hR.adv hj (t + 1)).2.2.2 hk) ?_
          refine T_iast dX4_layGuest_20 (kT1 hT) (by rw [lT1 hT]; omega) rfl ?_
          refine T_ald0 dX4_layGuest_21 ?_
          refine T_getR (q := T + 1) dX4_layGuest_22 lf_X4_9 (kT hT) rfl (rT1 hT) ?_
          refine T_ild2 dX4_layGuest_25 ?_
          refine T_ialdN dX4_layGuest_26 (kT1 hT) (by rw [lT1 hT]; omega) uI_s ?_
          refine T_bipush (v := -9) dX4_layGuest_27 (by decide) ?_
          refine T_cne (tgt := 34) dX4_layGuest_29 (by decide) (fun h29 => ?_) (fun h29 => by exact absurd h29 (nI_m9 (by omega)))
          refine T_ald0 dX4_layGuest_34 ?_
          refine T_getR (q := T + 2) dX4_layGuest_35 lf_X4_15 (kT hT) rfl (rT2 hT) ?_
          refine T_ild2 dX4_layGuest_38 ?_
          refine T_ald1 dX4_layGuest_39 ?_
          refine T_bipush (v := nI 10) dX4_layGuest_40 (by decide) ?_
          refine T_invV1i (M' := mX5_takeDigit) dX4_layGuest_42 ml_X4_66 imX5_takeDigit rfl (Nat.le_of_ble_eq_true rfl) rfl (Nat.le_of_ble_eq_true rfl) rfl (Nat.le_of_ble_eq_true rfl) (c_X5_takeDigit_s hj hfn (((hR.adv hj (t + 1)).adv hj (t + 2)).off (by omega) (by omega)).1 (((hR.adv hj (t + 1)).adv hj (t + 2)).off (by omega) (by omega)).2.1 (((hR.adv hj (t + 1)).adv hj (t + 2)).off (by omega) (by omega)).2.2.1 (by omega) (((hR.adv hj (t + 1)).adv hj (t + 2)).off (by omega) (by omega)).2.2.2 (by decide) hd2) ?_
          refine T_iast dX4_layGuest_45 (kT2 hT) (by rw [lT2 hT]; omega) rfl ?_
          refine T_ald0 dX4_layGuest_46 ?_
          refine T_getR (q := T + 2) dX4_layGuest_47 lf_X4_15 (kT hT) rfl (rT2 hT) ?_
          refine T_ild2 dX4_layGuest_50 ?_
          refine T_ialdN dX4_layGuest_51 (kT2 hT) (by rw [lT2 hT]; omega) uI_s ?_
          refine T_bipush (v := -9) dX4_layGuest_52 (by decide) ?_
          refine T_cne (tgt := 59) dX4_layGuest_54 (by decide) (fun h54 => ?_) (fun h54 => by exact absurd h54 (nI_m9 (by omega)))
          refine T_ald0 dX4_layGuest_59 ?_
          refine T_getR (q := T + 3) dX4_layGuest_60 lf_X4_18 (kT hT) rfl (rT3 hT) ?_
          refine T_ild2 dX4_layGuest_63 ?_
          refine T_ald1 dX4_layGuest_64 ?_
          refine T_iconst (v := nI 4) dX4_layGuest_65 (by decide) ?_
          refine T_invV1i (M' := mX5_takeDigit) dX4_layGuest_66 ml_X4_66 imX5_takeDigit rfl (Nat.le_of_ble_eq_true rfl) rfl (Nat.le_of_ble_eq_true rfl) rfl (Nat.le_of_ble_eq_true rfl) (c_X5_takeDigit_n hj hfn (((((hR.adv hj (t + 1)).adv hj (t + 2)).off (by omega) (by omega)).adv hj (t + 3)).off (by omega) (by omega)).1 (((((hR.adv hj (t + 1)).adv hj (t + 2)).off (by omega) (by omega)).adv hj (t + 3)).off (by omega) (by omega)).2.1 (((((hR.adv hj (t + 1)).adv hj (t + 2)).off (by omega) (by omega)).adv hj (t + 3)).off (by omega) (by omega)).2.2.1 (by omega) (((((hR.adv hj (t + 1)).adv hj (t + 2)).off (by omega) (by omega)).adv hj (t + 3)).off (by omega) (by omega)).2.2.2 (by decide) hd3) ?_
          refine T_iast dX4_layGuest_69 (kT3 hT) (by rw [lT3 hT]; omega) rfl ?_
          refine T_ald0 dX4_layGuest_70 ?_
          refine T_getR (q := T + 3) dX4_layGuest_71 lf_X4_18 (kT hT) rfl (rT3 hT) ?_
          refine T_ild2 dX4_layGuest_74 ?_
          refine T_ialdV dX4_layGuest_75 (kT3 hT) (by rw [lT3 hT]; omega) uI_s ?_
          refine T_bipush (v := -9) dX4_layGuest_76 (by decide) ?_
          refine T_ceq (tgt := 85) dX4_layGuest_78 (by decide) (fun h78 => ?_) (fun h78 => by exact absurd rfl h78)
          refine T_iconst (v := bI false) dX4_layGuest_85 (by decide) ?_
          refine T_bretB dX4_layGuest_86 rfl ?_
          exact ⟨_, rfl, (by repeat first | exact OF_r | refine OF_u ?_ (by simp)), (by rw [hp]; rfl), (by rw [hp]; rcases hT with rfl | rfl <;> first | exact hR.2.2.1 | (simp [uI]; done) | (simp [uI]; exact hR.2.2.1)), fun q => (by rw [hp] at q; cases q)⟩
        | some v3 =>
          have ht4 := dgt_some (by decide) hd3
          have hp : pGf n co t = 4 := (if_neg (by rw [hs]; decide)).trans ((if_neg (by rw [hk]; exact fun h => nomatch h)).trans ((if_neg (by rw [hd2]; exact fun h => nomatch h)).trans (if_neg (by rw [hd3]; exact fun h => nomatch h))))
          refine T_ald1 dX4_layGuest_0 ?_
          refine T_bipush (v := nI 44) dX4_layGuest_1 (by decide) ?_
          refine T_invV1i (M' := mX5_take) dX4_layGuest_3 ml_X4_43 imX5_take rfl (Nat.le_of_ble_eq_true rfl) rfl (Nat.le_of_ble_eq_true rfl) rfl (Nat.le_of_ble_eq_true rfl) (c_X5_take_t hj hfn hR.1 hR.2.1 hR.2.2.1 (by omega) hR.2.2.2 hs) ?_
          refine T_ifneB (tgt := 11) dX4_layGuest_6 (by decide) (fun h6 => ?_) (fun h6 => by cases h6)
          refine T_ald0 dX4_layGuest_11 ?_
          refine T_getR (q := T + 1) dX4_layGuest_12 lf_X4_9 (kT hT) rfl (rT1 hT) ?_
          refine T_ild2 dX4_layGuest_15 ?_
          refine T_ald1 dX4_layGuest_16 ?_
          refine T_invV0i (M' := mX5_takeKind) dX4_layGuest_17 ml_X4_80 imX5_takeKind rfl (Nat.le_of_ble_eq_true rfl) rfl (Nat.le_of_ble_eq_true rfl) rfl (Nat.le_of_ble_eq_true rfl) (c_takeKind_s hj hfn (hR.adv hj (t + 1)).1 (hR.adv hj (t + 1)).2.1 (hR.adv hj (t + 1)).2.2.1 (by omega) (hR.adv hj (t + 1)).2.2.2 hk) ?_
          refine T_iast dX4_layGuest_20 (kT1 hT) (by rw [lT1 hT]; omega) rfl ?_
          refine T_ald0 dX4_layGuest_21 ?_
          refine T_getR (q := T + 1) dX4_layGuest_22 lf_X4_9 (kT hT) rfl (rT1 hT) ?_
          refine T_ild2 dX4_layGuest_25 ?_
          refine T_ialdN dX4_layGuest_26 (kT1 hT) (by rw [lT1 hT]; omega) uI_s ?_
          refine T_bipush (v := -9) dX4_layGuest_27 (by decide) ?_
          refine T_cne (tgt := 34) dX4_layGuest_29 (by decide) (fun h29 => ?_) (fun h29 => by exact absurd h29 (nI_m9 (by omega)))
          refine T_ald0 dX4_layGuest_34 ?_
          refine T_getR (q := T + 2) dX4_layGuest_35 lf_X4_15 (kT hT) rfl (rT2 hT) ?_
          refine T_ild2 dX4_layGuest_38 ?_
          refine T_ald1 dX4_layGuest_39 ?_
          refine T_bipush (v := nI 10) dX4_layGuest_40 (by decide) ?_
          refine T_invV1i (M' := mX5_takeDigit) dX4_layGuest_42 ml_X4_66 imX5_takeDigit rfl (Nat.le_of_ble_eq_true rfl) rfl (Nat.le_of_ble_eq_true rfl) rfl (Nat.le_of_ble_eq_true rfl) (c_X5_takeDigit_s hj hfn (((hR.adv hj (t + 1)).adv hj (t + 2)).off (by omega) (by omega)).1 (((hR.adv hj (t + 1)).adv hj (t + 2)).off (by omega) (by omega)).2.1 (((hR.adv hj (t + 1)).adv hj (t + 2)).off (by omega) (by omega)).2.2.1 (by omega) (((hR.adv hj (t + 1)).adv hj (t + 2)).off (by omega) (by omega)).2.2.2 (by decide) hd2) ?_
          refine T_iast dX4_layGuest_45 (kT2 hT) (by rw [lT2 hT]; omega) rfl ?_
          refine T_ald0 dX4_layGuest_46 ?_
          refine T_getR (q := T + 2) dX4_layGuest_47 lf_X4_15 (kT hT) rfl (rT2 hT) ?_
          refine T_ild2 dX4_layGuest_50 ?_
          refine T_ialdN dX4_layGuest_51 (kT2 hT) (by rw [lT2 hT]; omega) uI_s ?_
          refine T_bipush (v := -9) dX4_layGuest_52 (by decide) ?_
          refine T_cne (tgt := 59) dX4_layGuest_54 (by decide) (fun h54 => ?_) (fun h54 => by exact absurd h54 (nI_m9 (by omega)))
          refine T_ald0 dX4_layGuest_59 ?_
          refine T_getR (q := T + 3) dX4_layGuest_60 lf_X4_18 (kT hT) rfl (rT3 hT) ?_
          refine T_ild2 dX4_layGuest_63 ?_
          refine T_ald1 dX4_layGuest_64 ?_
          refine T_iconst (v := nI 4) dX4_layGuest_65 (by decide) ?_
          refine T_invV1i (M' := mX5_takeDigit) dX4_layGuest_66 ml_X4_66 imX5_takeDigit rfl (Nat.le_of_ble_eq_true rfl) rfl (Nat.le_of_ble_eq_true rfl) rfl (Nat.le_of_ble_eq_true rfl) (c_X5_takeDigit_s hj hfn (((((hR.adv hj (t + 1)).adv hj (t + 2)).off (by omega) (by omega)).adv hj (t + 3)).off (by omega) (by omega)).1 (((((hR.adv hj (t + 1)).adv hj (t + 2)).off (by omega) (by omega)).adv hj (t + 3)).off (by omega) (by omega)).2.1 (((((hR.adv hj (t + 1)).adv hj (t + 2)).off (by omega) (by omega)).adv hj (t + 3)).off (by omega) (by omega)).2.2.1 (by omega) (((((hR.adv hj (t + 1)).adv hj (t + 2)).off (by omega) (by omega)).adv hj (t + 3)).off (by omega) (by omega)).2.2.2 (by decide) hd3) ?_
          refine T_iast dX4_layGuest_69 (kT3 hT) (by rw [lT3 hT]; omega) rfl ?_
          refine T_ald0 dX4_layGuest_70 ?_
          refine T_getR (q := T + 3) dX4_layGuest_71 lf_X4_18 (kT hT) rfl (rT3 hT) ?_
          refine T_ild2 dX4_layGuest_74 ?_
          refine T_ialdN dX4_layGuest_75 (kT3 hT) (by rw [lT3 hT]; omega) uI_s ?_
          refine T_bipush (v := -9) dX4_layGuest_76 (by decide) ?_
          refine T_ceq (tgt := 85) dX4_layGuest_78 (by decide) (fun h78 => by exact absurd h78 (nI_m9 (by omega))) (fun h78 => ?_)
          refine T_iconst (v := bI true) dX4_layGuest_81 (by decide) ?_
          refine T_goto (tgt := 86) dX4_layGuest_82 (by decide) ?_
          refine T_bretB dX4_layGuest_86 rfl ?_
          exact ⟨_, rfl, (by repeat first | exact OF_r | refine OF_u ?_ (by simp)), (by rw [hp]; rfl), (by rw [hp]; rcases hT with rfl | rfl <;> simp [uI]), fun _ => (by rw [show kv n co (t + 1) = v1 by unfold kv; rw [hk]; rfl, show dv n co (t + 2) 10 = v2 by unfold dv; rw [hd2]; rfl, show dv n co (t + 3) 4 = v3 by unfold dv; rw [hd3]; rfl]; rcases hT with rfl | rfl <;> simp [uI])⟩
def pDf (n : Nat) (co : Nat → Int32) (g t : Nat) : Nat := if sg n co t (nI 59) = false then 0 else if dgt n co (t + 1) g = none then 1 else if dgt n co (t + 2) 10 = none then 2 else 3
set_option maxRecDepth 20000 in
theorem c_X4_layDish {S : Nat → Nat → Int32} {L : Nat → Nat → Int64} {nw sp : Nat} {d : Nat} {T : Nat} (hT : T = 19 ∨ T = 28) {j f n t : Nat} {co : Nat → Int32} (hj : j < 4) (hfn : f + n ≤ 60) (hR : RD S j f n t co) (htn : t ≤ n) {i g : Nat} (hi : i < 6) (hg : S T 8 = nI g) (hg10 : g ≤ 10) : TT mX4_layDish (d + 3) 0 [some (.ref T), some (.ref 10), some (.int (nI i))] [] (S, L, (nw, sp, 6 + j)) (fun r σ' => ∃ S', σ' = (S', L, (nw, sp, 6 + j)) ∧ OF [(10, 3), (T + 5, i), (T + 6, i)] S S' ∧ r = some (.int (bI (decide (pDf n co g t = 3)))) ∧ S' 10 3 = nI (t + pDf n co g t) ∧ (pDf n co g t = 3 → S' (T + 5) i = nI (dv n co (t + 1) g) ∧ S' (T + 6) i = nI (dv n co (t + 2) 10))) := by
  cases hs : sg n co t (nI 59) with
  | false =>
    have hp : pDf n co g t = 0 := if_pos hs
    refine T_ald1 dX4_layDish_0 ?_
    refine T_bipush (v := nI 59) dX4_layDish_1 (by decide) ?_
    refine T_invV1i (M' := mX5_take) dX4_layDish_3 ml_X4_43 imX5_take rfl (Nat.le_of_ble_eq_true rfl) rfl (Nat.le_of_ble_eq_true rfl) rfl (Nat.le_of_ble_eq_true rfl) (c_X5_take_f hj hfn hR.1 hR.2.1 hR.2.2.1 (by omega) hR.2.2.2 hs) ?_
    refine T_ifneB (tgt := 11) dX4_layDish_6 (by decide) (fun h6 => by cases h6) (fun h6 => ?_)
    refine T_iconst (v := bI false) dX4_layDish_9 (by decide) ?_
    refine T_bretB dX4_layDish_10 rfl ?_
    exact ⟨_, rfl, (by repeat first | exact OF_r | refine OF_u ?_ (by simp)), (by rw [hp]; rfl), (by rw [hp]; rcases hT with rfl | rfl <;> first | exact hR.2.2.1 | (simp [uI]; done) | (simp [uI]; exact hR.2.2.1)), fun q => (by rw [hp] at q; cases q)⟩
  | true =>
    have ht1 := sg_lt hs
    cases hd1 : dgt n co (t + 1) g with
    | none =>
      have hp : pDf n co g t = 1 := (if_neg (by rw [hs]; decide)).trans (if_pos hd1)
      refine T_ald1 dX4_layDish_0 ?_
      refine T_bipush (v := nI 59) dX4_layDish_1 (by decide) ?_
      refine T_invV1i (M' := mX5_take) dX4_layDish_3 ml_X4_43 imX5_take rfl (Nat.le_of_ble_eq_true rfl) rfl (Nat.le_of_ble_eq_true rfl) rfl (Nat.le_of_ble_eq_true rfl) (c_X5_take_t hj hfn hR.1 hR.2.1 hR.2.2.1 (by omega) hR.2.2.2 hs) ?_
      refine T_ifneB (tgt := 11) dX4_layDish_6 (by decide) (fun h6 => ?_) (fun h6 => by cases h6)
      refine T_ald0 dX4_layDish_11 ?_
      refine T_getR (q := T + 5) dX4_layDish_12 lf_X4_24 (kT hT) rfl (rT5 hT) ?_
      refine T_ild2 dX4_layDish_15 ?_
      refine T_ald1 dX4_layDish_16 ?_
      refine T_ald0 dX4_layDish_17 ?_
      refine T_getN dX4_layDish_18 lf_X4_36 (kT hT) rfl (by first | exact hg | (rw [uI_p (by omega)]; exact hg)) ?_
      refine T_invV1i (M' := mX5_takeDigit) dX4_layDish_21 ml_X4_66 imX5_takeDigit rfl (Nat.le_of_ble_eq_true rfl) rfl (Nat.le_of_ble_eq_true rfl) rfl (Nat.le_of_ble_eq_true rfl) (c_X5_takeDigit_n hj hfn (hR.adv hj (t + 1)).1 (hR.adv hj (t + 1)).2.1 (hR.adv hj (t + 1)).2.2.1 (by omega) (hR.adv hj (t + 1)).2.2.2 hg10 hd1) ?_
      refine T_iast dX4_layDish_24 (kT5 hT) (by rw [lT5 hT]; omega) rfl ?_
      refine T_ald0 dX4_layDish_25 ?_
      refine T_getR (q := T + 5) dX4_layDish_26 lf_X4_24 (kT hT) rfl (rT5 hT) ?_
      refine T_ild2 dX4_layDish_29 ?_
      refine T_ialdV dX4_layDish_30 (kT5 hT) (by rw [lT5 hT]; omega) uI_s ?_
      refine T_bipush (v := -9) dX4_layDish_31 (by decide) ?_
      refine T_cne (tgt := 38) dX4_layDish_33 (by decide) (fun h33 => by exact absurd rfl h33) (fun h33 => ?_)
      refine T_iconst (v := bI false) dX4_layDish_36 (by decide) ?_
      refine T_bretB dX4_layDish_37 rfl ?_
      exact ⟨_, rfl, (by repeat first | exact OF_r | refine OF_u ?_ (by simp)), (by rw [hp]; rfl), (by rw [hp]; rcases hT with rfl | rfl <;> first | exact hR.2.2.1 | (simp [uI]; done) | (simp [uI]; exact hR.2.2.1)), fun q => (by rw [hp] at q; cases q)⟩
    | some v1 =>
      have ht2 := dgt_some hg10 hd1
      cases hd2 : dgt n co (t + 2) 10 with
      | none =>
        have hp : pDf n co g t = 2 := (if_neg (by rw [hs]; decide)).trans ((if_neg (by rw [hd1]; exact fun h => nomatch h)).trans (if_pos hd2))
        refine T_ald1 dX4_layDish_0 ?_
        refine T_bipush (v := nI 59) dX4_layDish_1 (by decide) ?_
        refine T_invV1i (M' := mX5_take) dX4_layDish_3 ml_X4_43 imX5_take rfl (Nat.le_of_ble_eq_true rfl) rfl (Nat.le_of_ble_eq_true rfl) rfl (Nat.le_of_ble_eq_true rfl) (c_X5_take_t hj hfn hR.1 hR.2.1 hR.2.2.1 (by omega) hR.2.2.2 hs) ?_
        refine T_ifneB (tgt := 11) dX4_layDish_6 (by decide) (fun h6 => ?_) (fun h6 => by cases h6)
        refine T_ald0 dX4_layDish_11 ?_
        refine T_getR (q := T + 5) dX4_layDish_12 lf_X4_24 (kT hT) rfl (rT5 hT) ?_
        refine T_ild2 dX4_layDish_15 ?_
        refine T_ald1 dX4_layDish_16 ?_
        refine T_ald0 dX4_layDish_17 ?_
        refine T_getN dX4_layDish_18 lf_X4_36 (kT hT) rfl (by first | exact hg | (rw [uI_p (by omega)]; exact hg)) ?_
        refine T_invV1i (M' := mX5_takeDigit) dX4_layDish_21 ml_X4_66 imX5_takeDigit rfl (Nat.le_of_ble_eq_true rfl) rfl (Nat.le_of_ble_eq_true rfl) rfl (Nat.le_of_ble_eq_true rfl) (c_X5_takeDigit_s hj hfn (hR.adv hj (t + 1)).1 (hR.adv hj (t + 1)).2.1 (hR.adv hj (t + 1)).2.2.1 (by omega) (hR.adv hj (t + 1)).2.2.2 hg10 hd1) ?_
        refine T_iast dX4_layDish_24 (kT5 hT) (by rw [lT5 hT]; omega) rfl ?_
        refine T_ald0 dX4_layDish_25 ?_
        refine T_getR (q := T + 5) dX4_layDish_26 lf_X4_24 (kT hT) rfl (rT5 hT) ?_
        refine T_ild2 dX4_layDish_29 ?_
        refine T_ialdN dX4_layDish_30 (kT5 hT) (by rw [lT5 hT]; omega) uI_s ?_
        refine T_bipush (v := -9) dX4_layDish_31 (by decide) ?_
        refine T_cne (tgt := 38) dX4_layDish_33 (by decide) (fun h33 => ?_) (fun h33 => by exact absurd h33 (nI_m9 (by omega)))
        refine T_ald0 dX4_layDish_38 ?_
        refine T_getR (q := T + 6) dX4_layDish_39 lf_X4_27 (kT hT) rfl (rT6 hT) ?_
        refine T_ild2 dX4_layDish_42 ?_
        refine T_ald1 dX4_layDish_43 ?_
        refine T_bipush (v := nI 10) dX4_layDish_44 (by decide) ?_
        refine T_invV1i (M' := mX5_takeDigit) dX4_layDish_46 ml_X4_66 imX5_takeDigit rfl (Nat.le_of_ble_eq_true rfl) rfl (Nat.le_of_ble_eq_true rfl) rfl (Nat.le_of_ble_eq_true rfl) (c_X5_takeDigit_n hj hfn (((hR.adv hj (t + 1)).adv hj (t + 2)).off (by omega) (by omega)).1 (((hR.adv hj (t + 1)).adv hj (t + 2)).off (by omega) (by omega)).2.1 (((hR.adv hj (t + 1)).adv hj (t + 2)).off (by omega) (by omega)).2.2.1 (by omega) (((hR.adv hj (t + 1)).adv hj (t + 2)).off (by omega) (by omega)).2.2.2 (by decide) hd2) ?_
        refine T_iast dX4_layDish_49 (kT6 hT) (by rw [lT6 hT]; omega) rfl ?_
        refine T_ald0 dX4_layDish_50 ?_
        refine T_getR (q := T + 6) dX4_layDish_51 lf_X4_27 (kT hT) rfl (rT6 hT) ?_
        refine T_ild2 dX4_layDish_54 ?_
        refine T_ialdV dX4_layDish_55 (kT6 hT) (by rw [lT6 hT]; omega) uI_s ?_
        refine T_bipush (v := -9) dX4_layDish_56 (by decide) ?_
        refine T_ceq (tgt := 65) dX4_layDish_58 (by decide) (fun h58 => ?_) (fun h58 => by exact absurd rfl h58)
        refine T_iconst (v := bI false) dX4_layDish_65 (by decide) ?_
        refine T_bretB dX4_layDish_66 rfl ?_
        exact ⟨_, rfl, (by repeat first | exact OF_r | refine OF_u ?_ (by simp)), (by rw [hp]; rfl), (by rw [hp]; rcases hT with rfl | rfl <;> first | exact hR.2.2.1 | (simp [uI]; done) | (simp [uI]; exact hR.2.2.1)), fun q => (by rw [hp] at q; cases q)⟩
      | some v2 =>
        have ht3 := dgt_some (by decide) hd2
        have hp : pDf n co g t = 3 := (if_neg (by rw [hs]; decide)).trans ((if_neg (by rw [hd1]; exact fun h => nomatch h)).trans (if_neg (by rw [hd2]; exact fun h => nomatch h)))
        refine T_ald1 dX4_layDish_0 ?_
        refine T_bipush (v := nI 59) dX4_layDish_1 (by decide) ?_
        refine T_invV1i (M' := mX5_take) dX4_layDish_3 ml_X4_43 imX5_take rfl (Nat.le_of_ble_eq_true rfl) rfl (Nat.le_of_ble_eq_true rfl) rfl (Nat.le_of_ble_eq_true rfl) (c_X5_take_t hj hfn hR.1 hR.2.1 hR.2.2.1 (by omega) hR.2.2.2 hs) ?_
        refine T_ifneB (tgt := 11) dX4_layDish_6 (by decide) (fun h6 => ?_) (fun h6 => by cases h6)
        refine T_ald0 dX4_layDish_11 ?_
        refine T_getR (q := T + 5) dX4_layDish_12 lf_X4_24 (kT hT) rfl (rT5 hT) ?_
        refine T_ild2 dX4_layDish_15 ?_
        refine T_ald1 dX4_layDish_16 ?_
        refine T_ald0 dX4_layDish_17 ?_
        refine T_getN dX4_layDish_18 lf_X4_36 (kT hT) rfl (by first | exact hg | (rw [uI_p (by omega)]; exact hg)) ?_
        refine T_invV1i (M' := mX5_takeDigit) dX4_layDish_21 ml_X4_66 imX5_takeDigit rfl (Nat.le_of_ble_eq_true rfl) rfl (Nat.le_of_ble_eq_true rfl) rfl (Nat.le_of_ble_eq_true rfl) (c_X5_takeDigit_s hj hfn (hR.adv hj (t + 1)).1 (hR.adv hj (t + 1)).2.1 (hR.adv hj (t + 1)).2.2.1 (by omega) (hR.adv hj (t + 1)).2.2.2 hg10 hd1) ?_
        refine T_iast dX4_layDish_24 (kT5 hT) (by rw [lT5 hT]; omega) rfl ?_
        refine T_ald0 dX4_layDish_25 ?_
        refine T_getR (q := T + 5) dX4_layDish_26 lf_X4_24 (kT hT) rfl (rT5 hT) ?_
        refine T_ild2 dX4_layDish_29 ?_
        refine T_ialdN dX4_layDish_30 (kT5 hT) (by rw [lT5 hT]; omega) uI_s ?_
        refine T_bipush (v := -9) dX4_layDish_31 (by decide) ?_
        refine T_cne (tgt := 38) dX4_layDish_33 (by decide) (fun h33 => ?_) (fun h33 => by exact absurd h33 (nI_m9 (by omega)))
        refine T_ald0 dX4_layDish_38 ?_
        refine T_getR (q := T + 6) dX4_layDish_39 lf_X4_27 (kT hT) rfl (rT6 hT) ?_
        refine T_ild2 dX4_layDish_42 ?_
        refine T_ald1 dX4_layDish_43 ?_
        refine T_bipush (v := nI 10) dX4_layDish_44 (by decide) ?_
        refine T_invV1i (M' := mX5_takeDigit) dX4_layDish_46 ml_X4_66 imX5_takeDigit rfl (Nat.le_of_ble_eq_true rfl) rfl (Nat.le_of_ble_eq_true rfl) rfl (Nat.le_of_ble_eq_true rfl) (c_X5_takeDigit_s hj hfn (((hR.adv hj (t + 1)).adv hj (t + 2)).off (by omega) (by omega)).1 (((hR.adv hj (t + 1)).adv hj (t + 2)).off (by omega) (by omega)).2.1 (((hR.adv hj (t + 1)).adv hj (t + 2)).off (by omega) (by omega)).2.2.1 (by omega) (((hR.adv hj (t + 1)).adv hj (t + 2)).off (by omega) (by omega)).2.2.2 (by decide) hd2) ?_
        refine T_iast dX4_layDish_49 (kT6 hT) (by rw [lT6 hT]; omega) rfl ?_
        refine T_ald0 dX4_layDish_50 ?_
        refine T_getR (q := T + 6) dX4_layDish_51 lf_X4_27 (kT hT) rfl (rT6 hT) ?_
        refine T_ild2 dX4_layDish_54 ?_
        refine T_ialdN dX4_layDish_55 (kT6 hT) (by rw [lT6 hT]; omega) uI_s ?_
        refine T_bipush (v := -9) dX4_layDish_56 (by decide) ?_
        refine T_ceq (tgt := 65) dX4_layDish_58 (by decide) (fun h58 => by exact absurd h58 (nI_m9 (by omega))) (fun h58 => ?_)
        refine T_iconst (v := bI true) dX4_layDish_61 (by decide) ?_
        refine T_goto (tgt := 66) dX4_layDish_62 (by decide) ?_
        refine T_bretB dX4_layDish_66 rfl ?_
        exact ⟨_, rfl, (by repeat first | exact OF_r | refine OF_u ?_ (by simp)), (by rw [hp]; rfl), (by rw [hp]; rcases hT with rfl | rfl <;> simp [uI]), fun _ => (by rw [show dv n co (t + 1) g = v1 by unfold dv; rw [hd1]; rfl, show dv n co (t + 2) 10 = v2 by unfold dv; rw [hd2]; rfl]; rcases hT with rfl | rfl <;> simp [uI])⟩
def pBf (n : Nat) (co : Nat → Int32) (g t : Nat) : Nat := if sg n co t (nI 47) = false then 0 else if dgt n co (t + 1) g = none then 1 else if dgb n co (t + 2) g (nI (dv n co (t + 1) g)) = none then 2 else 3
set_option maxRecDepth 20000 in
theorem c_X4_layBorder {S : Nat → Nat → Int32} {L : Nat → Nat → Int64} {nw sp : Nat} {d : Nat} {T : Nat} (hT : T = 19 ∨ T = 28) {j f n t : Nat} {co : Nat → Int32} (hj : j < 4) (hfn : f + n ≤ 60) (hR : RD S j f n t co) (htn : t ≤ n) {g : Nat} (hg : S T 8 = nI g) (hg10 : g ≤ 10) : TT mX4_layBorder (d + 3) 0 [some (.ref T), some (.ref 10), none, none] [] (S, L, (nw, sp, 6 + j)) (fun r σ' => ∃ S', σ' = (S', L, (nw, sp, 6 + j)) ∧ OF [(10, 3), (T, 11)] S S' ∧ r = some (.int (bI (decide (pBf n co g t = 3)))) ∧ S' 10 3 = nI (t + pBf n co g t) ∧ (pBf n co g t = 3 → S' T 11 = nI (8 * dv n co (t + 1) g + dv n co (t + 2) g))) := by
  cases hs : sg n co t (nI 47) with
  | false =>
    have hp : pBf n co g t = 0 := if_pos hs
    refine T_ald1 dX4_layBorder_0 ?_
    refine T_bipush (v := nI 47) dX4_layBorder_1 (by decide) ?_
    refine T_invV1i (M' := mX5_take) dX4_layBorder_3 ml_X4_43 imX5_take rfl (Nat.le_of_ble_eq_true rfl) rfl (Nat.le_of_ble_eq_true rfl) rfl (Nat.le_of_ble_eq_true rfl) (c_X5_take_f hj hfn hR.1 hR.2.1 hR.2.2.1 (by omega) hR.2.2.2 hs) ?_
    refine T_ifneB (tgt := 11) dX4_layBorder_6 (by decide) (fun h6 => by cases h6) (fun h6 => ?_)
    refine T_iconst (v := bI false) dX4_layBorder_9 (by decide) ?_
    refine T_bretB dX4_layBorder_10 rfl ?_
    exact ⟨_, rfl, (by repeat first | exact OF_r | refine OF_u ?_ (by simp)), (by rw [hp]; rfl), (by rw [hp]; rcases hT with rfl | rfl <;> first | exact hR.2.2.1 | (simp [uI]; done) | (simp [uI]; exact hR.2.2.1)), fun q => (by rw [hp] at q; cases q)⟩
  | true =>
    have ht1 := sg_lt hs
    cases hd1 : dgt n co (t + 1) g with
    | none =>
      have hp : pBf n co g t = 1 := (if_neg (by rw [hs]; decide)).trans (if_pos hd1)
      refine T_ald1 dX4_layBorder_0 ?_
      refine T_bipush (v := nI 47) dX4_layBorder_1 (by decide) ?_
      refine T_invV1i (M' := mX5_take) dX4_layBorder_3 ml_X4_43 imX5_take rfl (Nat.le_of_ble_eq_true rfl) rfl (Nat.le_of_ble_eq_true rfl) rfl (Nat.le_of_ble_eq_true rfl) (c_X5_take_t hj hfn hR.1 hR.2.1 hR.2.2.1 (by omega) hR.2.2.2 hs) ?_
      refine T_ifneB (tgt := 11) dX4_layBorder_6 (by decide) (fun h6 => ?_) (fun h6 => by cases h6)
      refine T_ald1 dX4_layBorder_11 ?_
      refine T_ald0 dX4_layBorder_12 ?_
      refine T_getN dX4_layBorder_13 lf_X4_36 (kT hT) rfl (by first | exact hg | (rw [uI_p (by omega)]; exact hg)) ?_
      refine T_invV1i (M' := mX5_takeDigit) dX4_layBorder_16 ml_X4_66 imX5_takeDigit rfl (Nat.le_of_ble_eq_true rfl) rfl (Nat.le_of_ble_eq_true rfl) rfl (Nat.le_of_ble_eq_true rfl) (c_X5_takeDigit_n hj hfn (hR.adv hj (t + 1)).1 (hR.adv hj (t + 1)).2.1 (hR.adv hj (t + 1)).2.2.1 (by omega) (hR.adv hj (t + 1)).2.2.2 hg10 hd1) ?_
      refine T_ist2 dX4_layBorder_19 (by decide) rfl ?_
      refine T_ild2 dX4_layBorder_20 ?_
      refine T_bipush (v := -9) dX4_layBorder_21 (by decide) ?_
      refine T_cne (tgt := 28) dX4_layBorder_23 (by decide) (fun h23 => by exact absurd rfl h23) (fun h23 => ?_)
      refine T_iconst (v := bI false) dX4_layBorder_26 (by decide) ?_
      refine T_bretB dX4_layBorder_27 rfl ?_
      exact ⟨_, rfl, (by repeat first | exact OF_r | refine OF_u ?_ (by simp)), (by rw [hp]; rfl), (by rw [hp]; rcases hT with rfl | rfl <;> first | exact hR.2.2.1 | (simp [uI]; done) | (simp [uI]; exact hR.2.2.1)), fun q => (by rw [hp] at q; cases q)⟩
    | some v1 =>
      have ht2 := dgt_some hg10 hd1
      have hv1 : dv n co (t + 1) g = v1 := by unfold dv; rw [hd1]; rfl
      cases hd2 : dgb n co (t + 2) g (nI v1) with
      | none =>
        have hp : pBf n co g t = 2 := (if_neg (by rw [hs]; decide)).trans ((if_neg (by rw [hd1]; exact fun h => nomatch h)).trans (if_pos (by rw [hv1]; exact hd2)))
        refine T_ald1 dX4_layBorder_0 ?_
        refine T_bipush (v := nI 47) dX4_layBorder_1 (by decide) ?_
        refine T_invV1i (M' := mX5_take) dX4_layBorder_3 ml_X4_43 imX5_take rfl (Nat.le_of_ble_eq_true rfl) rfl (Nat.le_of_ble_eq_true rfl) rfl (Nat.le_of_ble_eq_true rfl) (c_X5_take_t hj hfn hR.1 hR.2.1 hR.2.2.1 (by omega) hR.2.2.2 hs) ?_
        refine T_ifneB (tgt := 11) dX4_layBorder_6 (by decide) (fun h6 => ?_) (fun h6 => by cases h6)
        refine T_ald1 dX4_layBorder_11 ?_
        refine T_ald0 dX4_layBorder_12 ?_
        refine T_getN dX4_layBorder_13 lf_X4_36 (kT hT) rfl (by first | exact hg | (rw [uI_p (by omega)]; exact hg) | (rw [uI_p (by omega), uI_p (by omega)]; exact hg)) ?_
        refine T_invV1i (M' := mX5_takeDigit) dX4_layBorder_16 ml_X4_66 imX5_takeDigit rfl (Nat.le_of_ble_eq_true rfl) rfl (Nat.le_of_ble_eq_true rfl) rfl (Nat.le_of_ble_eq_true rfl) (c_X5_takeDigit_s hj hfn (hR.adv hj (t + 1)).1 (hR.adv hj (t + 1)).2.1 (hR.adv hj (t + 1)).2.2.1 (by omega) (hR.adv hj (t + 1)).2.2.2 hg10 hd1) ?_
        refine T_ist2 dX4_layBorder_19 (by decide) rfl ?_
        refine T_ild2 dX4_layBorder_20 ?_
        refine T_bipush (v := -9) dX4_layBorder_21 (by decide) ?_
        refine T_cne (tgt := 28) dX4_layBorder_23 (by decide) (fun h23 => ?_) (fun h23 => by exact absurd h23 (nI_m9 (by omega)))
        refine T_ald1 dX4_layBorder_28 ?_
        refine T_ald0 dX4_layBorder_29 ?_
        refine T_getN dX4_layBorder_30 lf_X4_36 (kT hT) rfl (by first | exact hg | (rw [uI_p (by omega)]; exact hg) | (rw [uI_p (by omega), uI_p (by omega)]; exact hg)) ?_
        refine T_ild2 dX4_layBorder_33 ?_
        refine T_invV2i (M' := mX5_takeDigitBut) dX4_layBorder_34 ml_X4_84 imX5_takeDigitBut rfl (Nat.le_of_ble_eq_true rfl) rfl (Nat.le_of_ble_eq_true rfl) rfl (Nat.le_of_ble_eq_true rfl) (c_X5_takeDigitBut_n hj hfn ((hR.adv hj (t + 1)).adv hj (t + 2)).1 ((hR.adv hj (t + 1)).adv hj (t + 2)).2.1 ((hR.adv hj (t + 1)).adv hj (t + 2)).2.2.1 (by omega) ((hR.adv hj (t + 1)).adv hj (t + 2)).2.2.2 hg10 hd2) ?_
        refine T_ist3 dX4_layBorder_37 (by decide) rfl ?_
        refine T_ild3 dX4_layBorder_38 ?_
        refine T_bipush (v := -9) dX4_layBorder_39 (by decide) ?_
        refine T_cne (tgt := 46) dX4_layBorder_41 (by decide) (fun h41 => by exact absurd rfl h41) (fun h41 => ?_)
        refine T_iconst (v := bI false) dX4_layBorder_44 (by decide) ?_
        refine T_bretB dX4_layBorder_45 rfl ?_
        exact ⟨_, rfl, (by repeat first | exact OF_r | refine OF_u ?_ (by simp)), (by rw [hp]; rfl), (by rw [hp]; rcases hT with rfl | rfl <;> first | exact hR.2.2.1 | (simp [uI]; done) | (simp [uI]; exact hR.2.2.1)), fun q => (by rw [hp] at q; cases q)⟩
      | some v2 =>
        have ht3 := dgt_some hg10 (dgb_some hd2).1
        have hp : pBf n co g t = 3 := (if_neg (by rw [hs]; decide)).trans ((if_neg (by rw [hd1]; exact fun h => nomatch h)).trans (if_neg (by rw [hv1, hd2]; exact fun h => nomatch h)))
        refine T_ald1 dX4_layBorder_0 ?_
        refine T_bipush (v := nI 47) dX4_layBorder_1 (by decide) ?_
        refine T_invV1i (M' := mX5_take) dX4_layBorder_3 ml_X4_43 imX5_take rfl (Nat.le_of_ble_eq_true rfl) rfl (Nat.le_of_ble_eq_true rfl) rfl (Nat.le_of_ble_eq_true rfl) (c_X5_take_t hj hfn hR.1 hR.2.1 hR.2.2.1 (by omega) hR.2.2.2 hs) ?_
        refine T_ifneB (tgt := 11) dX4_layBorder_6 (by decide) (fun h6 => ?_) (fun h6 => by cases h6)
        refine T_ald1 dX4_layBorder_11 ?_
        refine T_ald0 dX4_layBorder_12 ?_
        refine T_getN dX4_layBorder_13 lf_X4_36 (kT hT) rfl (by first | exact hg | (rw [uI_p (by omega)]; exact hg) | (rw [uI_p (by omega), uI_p (by omega)]; exact hg)) ?_
        refine T_invV1i (M' := mX5_takeDigit) dX4_layBorder_16 ml_X4_66 imX5_takeDigit rfl (Nat.le_of_ble_eq_true rfl) rfl (Nat.le_of_ble_eq_true rfl) rfl (Nat.le_of_ble_eq_true rfl) (c_X5_takeDigit_s hj hfn (hR.adv hj (t + 1)).1 (hR.adv hj (t + 1)).2.1 (hR.adv hj (t + 1)).2.2.1 (by omega) (hR.adv hj (t + 1)).2.2.2 hg10 hd1) ?_
        refine T_ist2 dX4_layBorder_19 (by decide) rfl ?_
        refine T_ild2 dX4_layBorder_20 ?_
        refine T_bipush (v := -9) dX4_layBorder_21 (by decide) ?_
        refine T_cne (tgt := 28) dX4_layBorder_23 (by decide) (fun h23 => ?_) (fun h23 => by exact absurd h23 (nI_m9 (by omega)))
        refine T_ald1 dX4_layBorder_28 ?_
        refine T_ald0 dX4_layBorder_29 ?_
        refine T_getN dX4_layBorder_30 lf_X4_36 (kT hT) rfl (by first | exact hg | (rw [uI_p (by omega)]; exact hg) | (rw [uI_p (by omega), uI_p (by omega)]; exact hg)) ?_
        refine T_ild2 dX4_layBorder_33 ?_
        refine T_invV2i (M' := mX5_takeDigitBut) dX4_layBorder_34 ml_X4_84 imX5_takeDigitBut rfl (Nat.le_of_ble_eq_true rfl) rfl (Nat.le_of_ble_eq_true rfl) rfl (Nat.le_of_ble_eq_true rfl) (c_X5_takeDigitBut_s hj hfn ((hR.adv hj (t + 1)).adv hj (t + 2)).1 ((hR.adv hj (t + 1)).adv hj (t + 2)).2.1 ((hR.adv hj (t + 1)).adv hj (t + 2)).2.2.1 (by omega) ((hR.adv hj (t + 1)).adv hj (t + 2)).2.2.2 hg10 hd2) ?_
        refine T_ist3 dX4_layBorder_37 (by decide) rfl ?_
        refine T_ild3 dX4_layBorder_38 ?_
        refine T_bipush (v := -9) dX4_layBorder_39 (by decide) ?_
        refine T_cne (tgt := 46) dX4_layBorder_41 (by decide) (fun h41 => ?_) (fun h41 => by exact absurd h41 (nI_m9 (by omega)))
        refine T_ald0 dX4_layBorder_46 ?_
        refine T_ild2 dX4_layBorder_47 ?_
        refine T_ild3 dX4_layBorder_48 ?_
        refine T_invSN2i (M' := mX6_borderOf) dX4_layBorder_49 ml_X4_88 imX6_borderOf (Nat.le_of_ble_eq_true rfl) rfl (Nat.le_of_ble_eq_true rfl) c_X6_borderOf ?_
        refine T_putI dX4_layBorder_52 lf_X4_91 (kT hT) rfl rfl rfl ?_
        refine T_iconst (v := bI true) dX4_layBorder_55 (by decide) ?_
        refine T_bretB dX4_layBorder_56 rfl ?_
        exact ⟨_, rfl, (by repeat first | exact OF_r | refine OF_u ?_ (by simp)), (by rw [hp]; rfl), (by rw [hp]; rcases hT with rfl | rfl <;> simp [uI]), fun _ => (by rw [show dv n co (t + 1) g = v1 by unfold dv; rw [hd1]; rfl, show dv n co (t + 2) g = v2 by unfold dv; rw [(dgb_some hd2).1]; rfl]; rcases hT with rfl | rfl <;> simp [uI])⟩
