/-! the reference: the sheets -/
def SHM (S : Nat → Nat → Int32) (h : HS) : Prop := ∀ j, j < 4 → S 38 j = (if h.1 j then nI (h.2.1 j) else -9) ∧ (h.1 j = true → S 39 j = nI (h.2.2.1 j)) ∧ ∀ i, i < 60 → S 40 (60 * j + i) = h.2.2.2 j i
theorem SHM.cong {S S' : Nat → Nat → Int32} {h : HS} (hH : SHM S h) (hq : ∀ q, 38 ≤ q → q ≤ 40 → S' q = S q) : SHM S' h := by
  intro j hj
  rw [hq 38 (by decide) (by decide), hq 39 (by decide) (by decide), hq 40 (by decide) (by decide)]
  exact hH j hj
def FN (S S' : Nat → Nat → Int32) : Prop := (∀ q, q ≠ 37 → ¬ (38 ≤ q ∧ q ≤ 40) → S' q = S q) ∧ ∀ k, k ≠ 0 → S' 37 k = S 37 k
theorem FN_r {S : Nat → Nat → Int32} : FN S S := ⟨fun _ _ _ => rfl, fun _ _ => rfl⟩
theorem FN_u {S S' : Nat → Nat → Int32} {q k : Nat} {x : Int32} (h : FN S S') (h1 : 38 ≤ q) (h2 : q ≤ 40) : FN S (uI S' q k x) :=
  ⟨fun z h3 h4 => by rw [uI_p (by omega)]; exact h.1 z h3 h4, fun i hi => by rw [uI_p (by omega)]; exact h.2 i hi⟩
theorem FN_0 {S S' : Nat → Nat → Int32} {x : Int32} (h : FN S S') : FN S (uI S' 37 0 x) :=
  ⟨fun z h3 h4 => by rw [uI_p h3]; exact h.1 z h3 h4, fun i hi => by rw [uI_k hi]; exact h.2 i hi⟩
/-- a row filled from o on -/
def wo (S : Nat → Nat → Int32) (q o : Nat) (x : Int32) (i : Nat) : Nat → Nat → Int32 := fun r k => if r = q ∧ o ≤ k ∧ k < o + i then x else S r k
theorem wo_0 {S : Nat → Nat → Int32} {q o : Nat} {x : Int32} : wo S q o x 0 = S := by
  funext r k
  exact if_neg (by omega)
theorem wo_s {S : Nat → Nat → Int32} {q o i : Nat} {x : Int32} : uI (wo S q o x i) q (o + i) x = wo S q o x (i + 1) := by
  funext r k
  by_cases h1 : r = q
  · subst h1
    by_cases h2 : k = o + i
    · subst h2; rw [uI_s]; exact (if_pos (by omega)).symm
    · rw [uI_k h2]
      by_cases h3 : o ≤ k ∧ k < o + i
      · exact (if_pos ⟨rfl, h3⟩).trans (if_pos (by omega)).symm
      · exact (if_neg (fun q => h3 q.2)).trans (if_neg (by omega)).symm
  · rw [uI_p h1]
    exact (if_neg (fun q => h1 q.1)).trans (if_neg (fun q => h1 q.1)).symm
theorem wo_p {S : Nat → Nat → Int32} {q o i r : Nat} {x : Int32} (h : r ≠ q) : wo S q o x i r = S r := by
  funext k; exact if_neg (fun z => h z.1)
set_option maxRecDepth 20000 in
theorem c_X7_against {S : Nat → Nat → Int32} {L : Nat → Nat → Int64} {R : Nat × Nat × Nat} {d : Nat} {h : HS} (hH : SHM S h) (hBH : BH h) {j : Nat} {l x y : Int32} (hj : j < 4) : TT mX7_against (d + 0) 0 [some (.ref 37), some (.int (nI j)), some (.int (l)), some (.int (x)), some (.int (y))] [] (S, L, R) (rt (some (.int (nI (fau (h.1 j) (h.2.1 j) (h.2.2.1 j) l x y)))) (S, L, R)) := by
  have hJ := hH j hj
  have hb := hBH j hj
  unfold fau
  cases hth : h.1 j with
  | false =>
    rw [hth] at hJ
    have hs : S 38 j = -9 := hJ.1
    rw [if_pos rfl]
    refine T_ald0 dX7_against_0 ?_
    refine T_getR (q := 38) dX7_against_1 lf_X7_9 rfl rfl rfl ?_
    refine T_ild1 dX7_against_4 ?_
    refine T_ialdV dX7_against_5 rfl (by show _ < 4; omega) hs ?_
    refine T_bipush (v := -9) dX7_against_6 (by decide) ?_
    refine T_ceq (tgt := 23) dX7_against_8 (by decide) (fun h8 => ?_) (fun h8 => by exact absurd rfl h8)
    refine T_ald0 dX7_against_23 ?_
    refine T_getR (q := 38) dX7_against_24 lf_X7_9 rfl rfl rfl ?_
    refine T_ild1 dX7_against_27 ?_
    refine T_ialdV dX7_against_28 rfl (by show _ < 4; omega) hs ?_
    refine T_bipush (v := -9) dX7_against_29 (by decide) ?_
    refine T_cne (tgt := 36) dX7_against_31 (by decide) (fun h31 => by exact absurd rfl h31) (fun h31 => ?_)
    refine T_iconst (v := nI 1) dX7_against_34 (by decide) ?_
    refine T_iret dX7_against_35 rfl ?_
    exact rt_i
  | true =>
    rw [hth] at hJ
    have hs : S 38 j = nI (h.2.1 j) := hJ.1
    have hln := hJ.2.1 rfl
    obtain ⟨hla, hle⟩ := hb hth
    rw [if_neg (by decide)]
    by_cases hl : l = nI (h.2.1 j)
    · subst hl
      rw [if_neg (fun q => q rfl)]
      by_cases hy : y < 0
      · rw [if_pos hy]
        refine T_ald0 dX7_against_0 ?_
        refine T_getR (q := 38) dX7_against_1 lf_X7_9 rfl rfl rfl ?_
        refine T_ild1 dX7_against_4 ?_
        refine T_ialdN dX7_against_5 rfl (by show _ < 4; omega) hs ?_
        refine T_bipush (v := -9) dX7_against_6 (by decide) ?_
        refine T_ceq (tgt := 23) dX7_against_8 (by decide) (fun h8 => by exact absurd h8 (nI_m9 (by omega))) (fun h8 => ?_)
        refine T_ald0 dX7_against_11 ?_
        refine T_getR (q := 38) dX7_against_12 lf_X7_9 rfl rfl rfl ?_
        refine T_ild1 dX7_against_15 ?_
        refine T_ialdN dX7_against_16 rfl (by show _ < 4; omega) hs ?_
        refine T_ild2 dX7_against_17 ?_
        refine T_ceqN (tgt := 23) dX7_against_18 (by decide) (by omega) (by omega) (fun h18 => ?_) (fun h18 => by exact absurd rfl h18)
        refine T_ald0 dX7_against_23 ?_
        refine T_getR (q := 38) dX7_against_24 lf_X7_9 rfl rfl rfl ?_
        refine T_ild1 dX7_against_27 ?_
        refine T_ialdN dX7_against_28 rfl (by show _ < 4; omega) hs ?_
        refine T_bipush (v := -9) dX7_against_29 (by decide) ?_
        refine T_cne (tgt := 36) dX7_against_31 (by decide) (fun h31 => ?_) (fun h31 => by exact absurd h31 (nI_m9 (by omega)))
        refine T_ild4 dX7_against_36 ?_
        refine T_ifge (tgt := 43) dX7_against_38 (by decide) (fun h38 => by exact absurd hy (Int32.not_lt.mpr h38)) (fun h38 => ?_)
        refine T_iconst (v := nI 4) dX7_against_41 (by decide) ?_
        refine T_iret dX7_against_42 rfl ?_
        exact rt_i
      · rw [if_neg hy]
        obtain ⟨k, hk, rfl⟩ := nI_of hy
        by_cases hx : x < 0
        · rw [if_neg (by rw [hasB_f (fun i k h1 _ h3 => not_nI hx (by omega) h1)]; decide)]
          refine T_ald0 dX7_against_0 ?_
          refine T_getR (q := 38) dX7_against_1 lf_X7_9 rfl rfl rfl ?_
          refine T_ild1 dX7_against_4 ?_
          refine T_ialdN dX7_against_5 rfl (by show _ < 4; omega) hs ?_
          refine T_bipush (v := -9) dX7_against_6 (by decide) ?_
          refine T_ceq (tgt := 23) dX7_against_8 (by decide) (fun h8 => by exact absurd h8 (nI_m9 (by omega))) (fun h8 => ?_)
          refine T_ald0 dX7_against_11 ?_
          refine T_getR (q := 38) dX7_against_12 lf_X7_9 rfl rfl rfl ?_
          refine T_ild1 dX7_against_15 ?_
          refine T_ialdN dX7_against_16 rfl (by show _ < 4; omega) hs ?_
          refine T_ild2 dX7_against_17 ?_
          refine T_ceqN (tgt := 23) dX7_against_18 (by decide) (by omega) (by omega) (fun h18 => ?_) (fun h18 => by exact absurd rfl h18)
          refine T_ald0 dX7_against_23 ?_
          refine T_getR (q := 38) dX7_against_24 lf_X7_9 rfl rfl rfl ?_
          refine T_ild1 dX7_against_27 ?_
          refine T_ialdN dX7_against_28 rfl (by show _ < 4; omega) hs ?_
          refine T_bipush (v := -9) dX7_against_29 (by decide) ?_
          refine T_cne (tgt := 36) dX7_against_31 (by decide) (fun h31 => ?_) (fun h31 => by exact absurd h31 (nI_m9 (by omega)))
          refine T_ild4 dX7_against_36 ?_
          refine T_ifgeN (tgt := 43) dX7_against_38 (by decide) (by omega) ?_
          refine T_ild3 dX7_against_43 ?_
          refine T_iflt (tgt := 70) dX7_against_44 (by decide) (fun h44 => ?_) (fun h44 => by exact absurd hx h44)
          refine T_iconst (v := nI 3) dX7_against_70 (by decide) ?_
          refine T_goto (tgt := 75) dX7_against_71 (by decide) ?_
          refine T_iret dX7_against_75 rfl ?_
          exact rt_i
        · obtain ⟨i, hi, rfl⟩ := nI_of hx
          refine T_ald0 dX7_against_0 ?_
          refine T_getR (q := 38) dX7_against_1 lf_X7_9 rfl rfl rfl ?_
          refine T_ild1 dX7_against_4 ?_
          refine T_ialdN dX7_against_5 rfl (by show _ < 4; omega) hs ?_
          refine T_bipush (v := -9) dX7_against_6 (by decide) ?_
          refine T_ceq (tgt := 23) dX7_against_8 (by decide) (fun h8 => by exact absurd h8 (nI_m9 (by omega))) (fun h8 => ?_)
          refine T_ald0 dX7_against_11 ?_
          refine T_getR (q := 38) dX7_against_12 lf_X7_9 rfl rfl rfl ?_
          refine T_ild1 dX7_against_15 ?_
          refine T_ialdN dX7_against_16 rfl (by show _ < 4; omega) hs ?_
          refine T_ild2 dX7_against_17 ?_
          refine T_ceqN (tgt := 23) dX7_against_18 (by decide) (by omega) (by omega) (fun h18 => ?_) (fun h18 => by exact absurd rfl h18)
          refine T_ald0 dX7_against_23 ?_
          refine T_getR (q := 38) dX7_against_24 lf_X7_9 rfl rfl rfl ?_
          refine T_ild1 dX7_against_27 ?_
          refine T_ialdN dX7_against_28 rfl (by show _ < 4; omega) hs ?_
          refine T_bipush (v := -9) dX7_against_29 (by decide) ?_
          refine T_cne (tgt := 36) dX7_against_31 (by decide) (fun h31 => ?_) (fun h31 => by exact absurd h31 (nI_m9 (by omega)))
          refine T_ild4 dX7_against_36 ?_
          refine T_ifgeN (tgt := 43) dX7_against_38 (by decide) (by omega) ?_
          refine T_ild3 dX7_against_43 ?_
          refine T_ifltN (tgt := 70) dX7_against_44 (by decide) (by omega) ?_
          refine T_ild3 dX7_against_47 ?_
          refine T_ald0 dX7_against_48 ?_
          refine T_getR (q := 39) dX7_against_49 lf_X7_13 rfl rfl rfl ?_
          refine T_ild1 dX7_against_52 ?_
          refine T_ialdN dX7_against_53 rfl (by show _ < 4; omega) hln ?_
          refine T_cgtN (tgt := 70) dX7_against_54 (by decide) (by omega) (by omega) (fun h54 => ?_) (fun h54 => ?_)
          · refine T_iconst (v := nI 3) dX7_against_70 (by decide) ?_
            refine T_goto (tgt := 75) dX7_against_71 (by decide) ?_
            refine T_iret dX7_against_75 rfl ?_
            first
              | (rw [if_pos (hasB_i rfl rfl (show i + k ≤ h.2.2.1 j by omega))]; exact rt_i)
              | (rw [if_neg (by rw [hasB_f (fun i2 k2 h1 h2 h3 => by have := nI_inj hi (by omega) h1; have := nI_inj hk (by omega) h2; omega)]; decide)]; exact rt_i)
              | fail "leaf"
          · refine T_ild4 dX7_against_57 ?_
            refine T_ald0 dX7_against_59 ?_
            refine T_getR (q := 39) dX7_against_60 lf_X7_13 rfl rfl rfl ?_
            refine T_ild1 dX7_against_63 ?_
            refine T_ialdN dX7_against_64 rfl (by show _ < 4; omega) hln ?_
            refine T_ild3 dX7_against_65 ?_
            refine T_isubN dX7_against_66 (by omega) ?_
            refine T_cleN (tgt := 74) dX7_against_67 (by decide) (by omega) (by omega) (fun h67 => ?_) (fun h67 => ?_)
            · refine T_iconst (v := nI 0) dX7_against_74 (by decide) ?_
              refine T_iret dX7_against_75 rfl ?_
              first
                | (rw [if_pos (hasB_i rfl rfl (show i + k ≤ h.2.2.1 j by omega))]; exact rt_i)
                | (rw [if_neg (by rw [hasB_f (fun i2 k2 h1 h2 h3 => by have := nI_inj hi (by omega) h1; have := nI_inj hk (by omega) h2; omega)]; decide)]; exact rt_i)
                | fail "leaf"
            · refine T_iconst (v := nI 3) dX7_against_70 (by decide) ?_
              refine T_goto (tgt := 75) dX7_against_71 (by decide) ?_
              refine T_iret dX7_against_75 rfl ?_
              first
                | (rw [if_pos (hasB_i rfl rfl (show i + k ≤ h.2.2.1 j by omega))]; exact rt_i)
                | (rw [if_neg (by rw [hasB_f (fun i2 k2 h1 h2 h3 => by have := nI_inj hi (by omega) h1; have := nI_inj hk (by omega) h2; omega)]; decide)]; exact rt_i)
                | fail "leaf"
    · rw [if_pos hl]
      refine T_ald0 dX7_against_0 ?_
      refine T_getR (q := 38) dX7_against_1 lf_X7_9 rfl rfl rfl ?_
      refine T_ild1 dX7_against_4 ?_
      refine T_ialdN dX7_against_5 rfl (by show _ < 4; omega) hs ?_
      refine T_bipush (v := -9) dX7_against_6 (by decide) ?_
      refine T_ceq (tgt := 23) dX7_against_8 (by decide) (fun h8 => by exact absurd h8 (nI_m9 (by omega))) (fun h8 => ?_)
      refine T_ald0 dX7_against_11 ?_
      refine T_getR (q := 38) dX7_against_12 lf_X7_9 rfl rfl rfl ?_
      refine T_ild1 dX7_against_15 ?_
      refine T_ialdN dX7_against_16 rfl (by show _ < 4; omega) hs ?_
      refine T_ild2 dX7_against_17 ?_
      refine T_ceq (tgt := 23) dX7_against_18 (by decide) (fun h18 => by exact absurd h18.symm hl) (fun h18 => ?_)
      refine T_iconst (v := nI 2) dX7_against_21 (by decide) ?_
      refine T_iret dX7_against_22 rfl ?_
      exact rt_i
set_option maxRecDepth 20000 in
theorem c_X7_sheet {S : Nat → Nat → Int32} {L : Nat → Nat → Int64} {R : Nat × Nat × Nat} {d : Nat} {h : HS} (hH : SHM S h) (hBH : BH h) {x l y : Int32} : TT mX7_sheet (d + 2) 0 [some (.ref 37), some (.int (x)), some (.int (l)), some (.int (y)), none] [] (S, L, R) (fun r σ' => ∃ S', σ' = (S', L, R) ∧ r = some (.int (aSheet x l y)) ∧ SHM S' (sSheet h x l y) ∧ FN S S' ∧ S' 37 0 = nI (fSheet x l y)) := by
  refine T_ald0 dX7_sheet_0 ?_
  refine T_iconst (v := nI 0) dX7_sheet_1 (by decide) ?_
  refine T_putI dX7_sheet_2 lf_X7_68 rfl rfl rfl rfl ?_
  refine T_ild1 dX7_sheet_5 ?_
  refine T_invS1i (M' := mX7_isSheet) dX7_sheet_6 ml_X7_87 imX7_isSheet (Nat.le_of_ble_eq_true rfl) rfl (Nat.le_of_ble_eq_true rfl) c_X7_isSheet ?_
  refine T_ifneB (tgt := 14) dX7_sheet_9 (by decide) (fun h9 => ?_) (fun h9 => ?_)
  · obtain ⟨j, hj, rfl⟩ := blw_t h9
    have ij : ix (nI j) = j := ix_n (by omega)
    refine T_ild2 dX7_sheet_14 ?_
    refine T_invS1i (M' := mX7_isSort) dX7_sheet_15 ml_X7_91 imX7_isSort (Nat.le_of_ble_eq_true rfl) rfl (Nat.le_of_ble_eq_true rfl) c_X7_isSort ?_
    refine T_ifeqB (tgt := 27) dX7_sheet_18 (by decide) (fun h18 => ?_) (fun h18 => ?_)
    · refine T_bipush (v := -2) dX7_sheet_27 (by decide) ?_
      refine T_iret dX7_sheet_29 rfl ?_
      rw [show aSheet (nI j) l y = -2 from (if_pos h9).trans (if_neg (by first | (simp [h18]; done) | simp [h18, nle60 h24])), show sSheet h (nI j) l y = h from if_neg (by first | (simp [h18]; done) | simp [h18, nle60 h24]), show fSheet (nI j) l y = 0 from if_neg (by first | (simp [h18]; done) | simp [h18, nle60 h24])]; exact ⟨_, rfl, rfl, hH.cong (fun q h1 h2 => uI_p (by omega)), FN_0 FN_r, uI_s⟩
    · refine T_ild3 dX7_sheet_21 ?_
      refine T_bipush (v := nI 60) dX7_sheet_22 (by decide) ?_
      refine T_cle (tgt := 30) dX7_sheet_24 (by decide) (fun h24 => ?_) (fun h24 => ?_)
      · refine T_ild3 dX7_sheet_30 ?_
        refine T_ifge (tgt := 40) dX7_sheet_31 (by decide) (fun h31 => ?_) (fun h31 => ?_)
        · obtain ⟨la, hla, rfl⟩ := blw_t h18
          obtain ⟨n, hn, rfl⟩ := nI_of (Int32.not_lt.mpr h31)
          have hn6 : n ≤ 60 := (nI_leI hn (by decide)).mp h24
          have il : ix (nI la) = la := ix_n (by omega)
          have i_n : ix (nI n) = n := ix_n hn
          refine T_ald0 dX7_sheet_40 ?_
          refine T_getR (q := 38) dX7_sheet_41 lf_X7_9 rfl rfl rfl ?_
          refine T_ild1 dX7_sheet_44 ?_
          refine T_ild2 dX7_sheet_45 ?_
          refine T_iast dX7_sheet_46 rfl (by show _ < 4; omega) rfl ?_
          refine T_ald0 dX7_sheet_47 ?_
          refine T_getR (q := 39) dX7_sheet_48 lf_X7_13 rfl rfl rfl ?_
          refine T_ild1 dX7_sheet_51 ?_
          refine T_ild3 dX7_sheet_52 ?_
          refine T_iast dX7_sheet_53 rfl (by show _ < 4; omega) rfl ?_
          refine T_iconst (v := nI 0) dX7_sheet_54 (by decide) ?_
          refine T_ist4 dX7_sheet_55 (by decide) rfl ?_
          have key : TT mX7_sheet (d + 2) 57 [some (.ref 37), some (.int (nI j)), some (.int (nI la)), some (.int (nI n)), some (.int (nI 0))] [] (wo (uI (uI (uI S 37 0 (nI 0)) 38 j (nI la)) 39 j (nI n)) 40 (60 * j) (nI 0) 0, L, R) (fun r σ' => ∃ S', σ' = (S', L, R) ∧ r = some (.int (aSheet (nI j) (nI la) (nI n))) ∧ SHM S' (sSheet h (nI j) (nI la) (nI n)) ∧ FN S S' ∧ S' 37 0 = nI (fSheet (nI j) (nI la) (nI n))) := by
            refine up_ind (P := fun i => TT mX7_sheet (d + 2) 57 [some (.ref 37), some (.int (nI j)), some (.int (nI la)), some (.int (nI n)), some (.int (nI i))] [] (wo (uI (uI (uI S 37 0 (nI 0)) 38 j (nI la)) 39 j (nI n)) 40 (60 * j) (nI 0) i, L, R) (fun r σ' => ∃ S', σ' = (S', L, R) ∧ r = some (.int (aSheet (nI j) (nI la) (nI n))) ∧ SHM S' (sSheet h (nI j) (nI la) (nI n)) ∧ FN S S' ∧ S' 37 0 = nI (fSheet (nI j) (nI la) (nI n)))) 60 ?_ ?_
            · have hy : ¬ nI n < 0 := nI_pos hn
              refine T_ild4 dX7_sheet_57 ?_
              refine T_bipush (v := nI 60) dX7_sheet_59 (by decide) ?_
              refine T_cgeN (tgt := 83) dX7_sheet_61 (by decide) (by omega) (by omega) (fun h61 => ?_) (fun h61 => by exfalso; omega)
              refine T_iconst (v := nI 1) dX7_sheet_83 (by decide) ?_
              refine T_iret dX7_sheet_84 rfl ?_
              rw [show aSheet (nI j) (nI la) (nI n) = nI 1 from (if_pos h9).trans ((if_pos (by simp [h18, le60 h24])).trans (if_neg hy)), show sSheet h (nI j) (nI la) (nI n) = (va_up h.1 j true, va_up h.2.1 j la, va_up h.2.2.1 j n, va_up h.2.2.2 j (fun _ => nI 0)) from (if_pos (by simp [h9, h18, le60 h24, hy])).trans (by rw [ij, il, i_n]), show fSheet (nI j) (nI la) (nI n) = 0 from if_neg (by simp [hy])]; refine ⟨_, rfl, rfl, fun k hk => ?_, ⟨fun z h1 h2 => by rw [wo_p (by omega), uI_p (by omega), uI_p (by omega), uI_p (by omega)], fun z hz => by rw [wo_p (by decide), uI_p (by decide), uI_p (by decide), uI_k hz]⟩, by rw [wo_p (by decide), uI_p (by decide), uI_p (by decide), uI_s]⟩
              have q := hH k hk
              by_cases e : k = j
              · subst e
                simp only [va_up, if_true]
                refine ⟨?_, fun _ => ?_, fun i hi => ?_⟩
                · rw [wo_p (by decide), uI_p (by decide), uI_s]
                · rw [wo_p (by decide), uI_s]
                · exact if_pos ⟨rfl, by omega, by omega⟩
              · simp only [va_up, if_neg e]
                refine ⟨?_, fun h1 => ?_, fun i hi => ?_⟩
                · rw [wo_p (by decide), uI_p (by decide), uI_k e, uI_p (by decide)]; exact q.1
                · rw [wo_p (by decide), uI_k e, uI_p (by decide), uI_p (by decide)]; exact q.2.1 h1
                · rw [show wo (uI (uI (uI S 37 0 (nI 0)) 38 j (nI la)) 39 j (nI n)) 40 (60 * j) (nI 0) 60 40 (60 * k + i) = (uI (uI (uI S 37 0 (nI 0)) 38 j (nI la)) 39 j (nI n)) 40 (60 * k + i) from if_neg (by omega), uI_p (by decide), uI_p (by decide), uI_p (by decide)]; exact q.2.2 i hi
            · intro i hi ih
              refine T_ild4 dX7_sheet_57 ?_
              refine T_bipush (v := nI 60) dX7_sheet_59 (by decide) ?_
              refine T_cgeN (tgt := 83) dX7_sheet_61 (by decide) (by omega) (by omega) (fun h61 => by exfalso; omega) (fun h61 => ?_)
              refine T_ald0 dX7_sheet_64 ?_
              refine T_getR (q := 40) dX7_sheet_65 lf_X7_16 rfl rfl rfl ?_
              refine T_bipush (v := nI 60) dX7_sheet_68 (by decide) ?_
              refine T_ild1 dX7_sheet_70 ?_
              refine T_imulN dX7_sheet_71 ?_
              refine T_ild4 dX7_sheet_72 ?_
              refine T_iaddN dX7_sheet_74 ?_
              refine T_iconst (v := nI 0) dX7_sheet_75 (by decide) ?_
              refine T_iast dX7_sheet_76 rfl (by show _ < 240; omega) rfl ?_
              refine T_inc4N dX7_sheet_77 (by decide) rfl ?_
              refine T_goto (tgt := 57) dX7_sheet_80 (by decide) ?_
              rw [wo_s]; exact ih
          rw [wo_0] at key
          exact key
        · refine T_ald0 dX7_sheet_34 ?_
          refine T_iconst (v := nI 4) dX7_sheet_35 (by decide) ?_
          refine T_invV1i (M' := mX7_fails) dX7_sheet_36 ml_X7_98 imX7_fails rfl (Nat.le_of_ble_eq_true rfl) rfl (Nat.le_of_ble_eq_true rfl) rfl (Nat.le_of_ble_eq_true rfl) c_X7_fails ?_
          refine T_iret dX7_sheet_39 rfl ?_
          have hy : y < 0 := Int32.not_le.mp h31
          rw [show aSheet (nI j) l y = -10 - nI 4 from (if_pos h9).trans ((if_pos (by simp [h18, le60 h24])).trans (if_pos hy)), show sSheet h (nI j) l y = h from if_neg (by simp [hy]), show fSheet (nI j) l y = 4 from if_pos (by simp [h9, h18, le60 h24, hy])]; exact ⟨_, rfl, rfl, (hH.cong (fun q h1 h2 => by rw [uI_p (by omega), uI_p (by omega)])), FN_0 (FN_0 FN_r), uI_s⟩
      · refine T_bipush (v := -2) dX7_sheet_27 (by decide) ?_
        refine T_iret dX7_sheet_29 rfl ?_
        rw [show aSheet (nI j) l y = -2 from (if_pos h9).trans (if_neg (by first | (simp [h18]; done) | simp [h18, nle60 h24])), show sSheet h (nI j) l y = h from if_neg (by first | (simp [h18]; done) | simp [h18, nle60 h24]), show fSheet (nI j) l y = 0 from if_neg (by first | (simp [h18]; done) | simp [h18, nle60 h24])]; exact ⟨_, rfl, rfl, hH.cong (fun q h1 h2 => uI_p (by omega)), FN_0 FN_r, uI_s⟩
  · refine T_iconst (v := -1) dX7_sheet_12 (by decide) ?_
    refine T_iret dX7_sheet_13 rfl ?_
    rw [show aSheet x l y = -1 from if_neg (by simp [h9]), show sSheet h x l y = h from if_neg (by simp [h9]), show fSheet x l y = 0 from if_neg (by simp [h9])]; exact ⟨_, rfl, rfl, hH.cong (fun q h1 h2 => uI_p (by omega)), FN_0 FN_r, uI_s⟩
set_option maxRecDepth 20000 in
theorem c_X7_lose {S : Nat → Nat → Int32} {L : Nat → Nat → Int64} {R : Nat × Nat × Nat} {d : Nat} {h : HS} (hH : SHM S h) (hBH : BH h) {x : Int32} : TT mX7_lose (d + 2) 0 [some (.ref 37), some (.int (x)), none] [] (S, L, R) (fun r σ' => ∃ S', σ' = (S', L, R) ∧ r = some (.int (aLose h x)) ∧ SHM S' (sLose h x) ∧ (∀ q, q ≠ 38 → S' q = S q)) := by
  refine T_ild1 dX7_lose_0 ?_
  refine T_invS1i (M' := mX7_isSheet) dX7_lose_1 ml_X7_87 imX7_isSheet (Nat.le_of_ble_eq_true rfl) rfl (Nat.le_of_ble_eq_true rfl) c_X7_isSheet ?_
  refine T_ifneB (tgt := 9) dX7_lose_4 (by decide) (fun h4 => ?_) (fun h4 => ?_)
  · obtain ⟨j, hj, rfl⟩ := blw_t h4
    have ij : ix (nI j) = j := ix_n (by omega)
    rw [show sLose h (nI j) = (va_up h.1 j false, h.2) from (if_pos h4).trans (by rw [ij])]
    have hJ := (hH j hj).1
    cases hth : h.1 j with
    | false =>
      rw [hth] at hJ
      have hs : S 38 j = -9 := hJ
      refine T_ald0 dX7_lose_9 ?_
      refine T_getR (q := 38) dX7_lose_10 lf_X7_9 rfl rfl rfl ?_
      refine T_ild1 dX7_lose_13 ?_
      refine T_ialdV dX7_lose_14 rfl (by show _ < 4; omega) hs ?_
      refine T_bipush (v := -9) dX7_lose_15 (by decide) ?_
      refine T_cne (tgt := 24) dX7_lose_17 (by decide) (fun h17 => by exact absurd rfl h17) (fun h17 => ?_)
      refine T_iconst (v := nI 0) dX7_lose_20 (by decide) ?_
      refine T_goto (tgt := 25) dX7_lose_21 (by decide) ?_
      refine T_ist2 dX7_lose_25 (by decide) rfl ?_
      refine T_ald0 dX7_lose_26 ?_
      refine T_getR (q := 38) dX7_lose_27 lf_X7_9 rfl rfl rfl ?_
      refine T_ild1 dX7_lose_30 ?_
      refine T_bipush (v := -9) dX7_lose_31 (by decide) ?_
      refine T_iast dX7_lose_33 rfl (by show _ < 4; omega) rfl ?_
      refine T_ild2 dX7_lose_34 ?_
      refine T_iret dX7_lose_35 rfl ?_
      refine ⟨_, rfl, ?_, fun k hk => ?_, fun q hq => uI_p hq⟩
      · first | (rw [show aLose h (nI j) = nI 1 from (if_pos h4).trans (if_pos (by rw [ij]; exact hth))]; done) | (rw [show aLose h (nI j) = nI 0 from (if_pos h4).trans (if_neg (by rw [ij, hth]; decide))]; done)
      · have q := hH k hk
        by_cases e : k = j
        · subst e
          simp only [va_up, if_true]
          exact ⟨uI_s.trans rfl, fun q => (nomatch q), fun i hi => by rw [uI_p (by decide)]; exact q.2.2 i hi⟩
        · simp only [va_up, if_neg e]
          rw [uI_k e, uI_p (by decide), uI_p (by decide)]; exact q
    | true =>
      rw [hth] at hJ
      have hs : S 38 j = nI (h.2.1 j) := hJ
      obtain ⟨hla, hle⟩ := hBH j hj hth
      refine T_ald0 dX7_lose_9 ?_
      refine T_getR (q := 38) dX7_lose_10 lf_X7_9 rfl rfl rfl ?_
      refine T_ild1 dX7_lose_13 ?_
      refine T_ialdN dX7_lose_14 rfl (by show _ < 4; omega) hs ?_
      refine T_bipush (v := -9) dX7_lose_15 (by decide) ?_
      refine T_cne (tgt := 24) dX7_lose_17 (by decide) (fun h17 => ?_) (fun h17 => by exact absurd h17 (nI_m9 (by omega)))
      refine T_iconst (v := nI 1) dX7_lose_24 (by decide) ?_
      refine T_ist2 dX7_lose_25 (by decide) rfl ?_
      refine T_ald0 dX7_lose_26 ?_
      refine T_getR (q := 38) dX7_lose_27 lf_X7_9 rfl rfl rfl ?_
      refine T_ild1 dX7_lose_30 ?_
      refine T_bipush (v := -9) dX7_lose_31 (by decide) ?_
      refine T_iast dX7_lose_33 rfl (by show _ < 4; omega) rfl ?_
      refine T_ild2 dX7_lose_34 ?_
      refine T_iret dX7_lose_35 rfl ?_
      refine ⟨_, rfl, ?_, fun k hk => ?_, fun q hq => uI_p hq⟩
      · first | (rw [show aLose h (nI j) = nI 1 from (if_pos h4).trans (if_pos (by rw [ij]; exact hth))]; done) | (rw [show aLose h (nI j) = nI 0 from (if_pos h4).trans (if_neg (by rw [ij, hth]; decide))]; done)
      · have q := hH k hk
        by_cases e : k = j
        · subst e
          simp only [va_up, if_true]
          exact ⟨uI_s.trans rfl, fun q => (nomatch q), fun i hi => by rw [uI_p (by decide)]; exact q.2.2 i hi⟩
        · simp only [va_up, if_neg e]
          rw [uI_k e, uI_p (by decide), uI_p (by decide)]; exact q
  · refine T_iconst (v := -1) dX7_lose_7 (by decide) ?_
    refine T_iret dX7_lose_8 rfl ?_
    rw [show aLose h x = -1 from if_neg (by simp [h4]), show sLose h x = h from if_neg (by simp [h4])]; exact ⟨_, rfl, rfl, hH, fun _ _ => rfl⟩
