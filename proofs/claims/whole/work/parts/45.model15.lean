/-! a text that is told; the reference takes its table -/
theorem gph_ok {n : Nat} {co : Nat → Int32} : ∀ (k i g : Nat), i + k = 8 → gph n co k = (true, g) → i ≤ g ∧ g ≤ 8 ∧ 3 ≤ g ∧ ∀ r, i ≤ r → r < g → pGf n co (2 + 4 * r) = 4
  | 0, i, g, hi, h => by
    have h : (true, 8) = (true, g) := h
    cases h
    exact ⟨by omega, by omega, by omega, fun r h1 h2 => by omega⟩
  | k + 1, i, g, hi, h => by
    rw [show k + 1 = 8 - i by omega, gph_at (by omega)] at h
    by_cases c : 3 ≤ i ∧ sg n co (2 + 4 * i) (nI 47) = true
    · rw [if_pos c] at h; cases h
      exact ⟨Nat.le_refl _, by omega, c.1, fun r h1 h2 => by omega⟩
    · rw [if_neg c] at h
      by_cases q : pGf n co (2 + 4 * i) = 4
      · rw [if_pos q, show 8 - (i + 1) = k by omega] at h
        obtain ⟨a1, a2, a3, a4⟩ := gph_ok k (i + 1) g (by omega) h
        refine ⟨by omega, a2, a3, fun r h1 h2 => ?_⟩
        by_cases e : r = i
        · rw [e]; exact q
        · exact a4 r (by omega) h2
      · rw [if_neg q] at h; cases h
theorem dph_ok {n g : Nat} {co : Nat → Int32} : ∀ (k i m : Nat), i + k = 6 → dph n co g k = (true, m) → i ≤ m ∧ m ≤ 6 ∧ 0 < m
  | 0, i, m, hi, h => by
    have h : (true, 6) = (true, m) := h
    cases h
    exact ⟨by omega, by omega, by omega⟩
  | k + 1, i, m, hi, h => by
    rw [show k + 1 = 6 - i by omega, dph_at (by omega)] at h
    by_cases c : 0 < i ∧ n ≤ 5 + 4 * g + 3 * i
    · rw [if_pos c] at h; cases h
      exact ⟨Nat.le_refl _, by omega, c.1⟩
    · rw [if_neg c] at h
      by_cases q : pDf n co g (5 + 4 * g + 3 * i) = 3
      · rw [if_pos q, show 6 - (i + 1) = k by omega] at h
        obtain ⟨a1, a2, a3⟩ := dph_ok k (i + 1) m (by omega) h
        exact ⟨by omega, a2, a3⟩
      · rw [if_neg q] at h; cases h
theorem psr_ok {n : Nat} {co : Nat → Int32} (h : (psr n co).1 = true) : ∃ g m, psr n co = (true, n, g, m) ∧ pBf n co g (2 + 4 * g) = 3 ∧ 3 ≤ g ∧ g ≤ 8 ∧ 1 ≤ m ∧ m ≤ 6 := by
  cases hs : sg n co 0 (nI 116) with
  | false => rw [psr_a hs] at h; cases h
  | true =>
    by_cases hd : dgt n co 1 4 = none
    · rw [psr_b hs hd] at h; cases h
    · have hX : TX n co := ⟨hs, hd⟩
      cases hg : gph n co 8 with
      | mk b g =>
        cases b with
        | false => rw [psr_c hX hg] at h; cases h
        | true =>
          by_cases hb : pBf n co g (2 + 4 * g) = 3
          · cases hd2 : dph n co g 6 with
            | mk b m =>
              cases b with
              | false => rw [psr_f hX hg hb hd2] at h; cases h
              | true =>
                by_cases hn : n ≤ 5 + 4 * g + 3 * m
                · have q1 := gph_ok 8 0 g rfl hg
                  have q2 := dph_ok 6 0 m rfl hd2
                  exact ⟨g, m, psr_g hX hg hb hd2 hn, hb, q1.2.2.1, q1.2.1, q2.2.2, q2.2.1⟩
                · rw [psr_h hX hg hb hd2 hn] at h; cases h
          · rw [psr_d hX hg rfl hb] at h; cases h
theorem dv_lt {n t m : Nat} {co : Nat → Int32} (h1 : 1 ≤ m) (h2 : m ≤ 10) : dv n co t m < m := by
  unfold dv
  cases e : dgt n co t m with
  | none => exact h1
  | some v => exact (dgt_some h2 e).2.1
theorem kv_le {n t : Nat} {co : Nat → Int32} : kv n co t ≤ 2 := by
  unfold kv
  cases e : skd n co t with
  | none => exact Nat.zero_le _
  | some v => exact (skd_lt e).2
theorem pBf_ne {n g t : Nat} {co : Nat → Int32} (h : pBf n co g t = 3) : dv n co (t + 1) g ≠ dv n co (t + 2) g := by
  unfold pBf at h
  split at h; · cases h
  split at h; · cases h
  split at h; · cases h
  rename_i q
  cases e : dgb n co (t + 2) g (nI (dv n co (t + 1) g)) with
  | none => exact absurd e q
  | some v =>
    obtain ⟨e1, e2⟩ := dgb_some e
    intro e3
    rw [show dv n co (t + 2) g = v by unfold dv; rw [e1]; rfl] at e3
    exact e2 (congrArg nI e3.symm)
theorem pTab_WL {n g m : Nat} {co : Nat → Int32} (hb : pBf n co g (2 + 4 * g) = 3) (h3 : 3 ≤ g) (h8 : g ≤ 8) (h1 : 1 ≤ m) (h6 : m ≤ 6) : WL (pTab n co g m) := by
  have v1 := dv_lt (n := n) (t := 2 + 4 * g + 1) (m := g) (co := co) (by omega) (by omega)
  have v2 := dv_lt (n := n) (t := 2 + 4 * g + 2) (m := g) (co := co) (by omega) (by omega)
  have ne := pBf_ne hb
  have so := dv_lt (n := n) (t := 1) (m := 4) (co := co) (by decide) (by decide)
  refine ⟨h3, h8, h1, h6, ?_, ?_, ?_, ?_, ?_, Nat.zero_le _, fun i _ => ⟨kv_le, ?_, ?_⟩, fun i _ => ⟨?_, ?_⟩, fun i hi => absurd hi (Nat.not_lt_zero i)⟩
  · show dv n co 1 4 ≤ 3; omega
  · show 8 * dv n co (2 + 4 * g + 1) g + dv n co (2 + 4 * g + 2) g < 64; omega
  · show (8 * dv n co (2 + 4 * g + 1) g + dv n co (2 + 4 * g + 2) g) / 8 < g; omega
  · show (8 * dv n co (2 + 4 * g + 1) g + dv n co (2 + 4 * g + 2) g) % 8 < g; omega
  · show (8 * dv n co (2 + 4 * g + 1) g + dv n co (2 + 4 * g + 2) g) / 8 ≠ (8 * dv n co (2 + 4 * g + 1) g + dv n co (2 + 4 * g + 2) g) % 8; omega
  · exact Nat.le_of_lt_succ (dv_lt (by decide) (by decide))
  · exact Nat.le_of_lt_succ (dv_lt (by decide) (by decide))
  · exact dv_lt (by omega) (by omega)
  · exact Nat.le_of_lt_succ (dv_lt (by decide) (by decide))
def FK (S S' : Nat → Nat → Int32) : Prop := (∀ q, q ≠ 37 → ¬ (41 ≤ q ∧ q ≤ 45) → S' q = S q) ∧ ∀ k, ¬ (5 ≤ k ∧ k ≤ 9) → k ≠ 31 → S' 37 k = S 37 k
theorem FK_r {S : Nat → Nat → Int32} : FK S S := ⟨fun _ _ _ => rfl, fun _ _ _ => rfl⟩
theorem FK_u {S S' : Nat → Nat → Int32} {q k : Nat} {x : Int32} (h : FK S S') (h1 : 41 ≤ q) (h2 : q ≤ 45) : FK S (uI S' q k x) :=
  ⟨fun z g1 g2 => by rw [uI_p (by omega)]; exact h.1 z g1 g2, fun i g1 g2 => by rw [uI_p (by omega)]; exact h.2 i g1 g2⟩
theorem FK_7 {S S' : Nat → Nat → Int32} {k : Nat} {x : Int32} (h : FK S S') (h1 : (5 ≤ k ∧ k ≤ 9) ∨ k = 31) : FK S (uI S' 37 k x) :=
  ⟨fun z g1 g2 => by rw [uI_p g1]; exact h.1 z g1 g2, fun i g1 g2 => by rw [uI_k (by omega)]; exact h.2 i g1 g2⟩
set_option maxRecDepth 20000 in
theorem c_X7_takeTable {S : Nat → Nat → Int32} {L : Nat → Nat → Int64} {R : Nat × Nat × Nat} {d : Nat} {n g m : Nat} {co : Nat → Int32} (hRT : RT S n co g m) (h1 : 1 ≤ g) (h8 : g ≤ 8) (h6 : m ≤ 6) : TT mX7_takeTable (d + 0) 0 [some (.ref 37), none] [] (S, L, R) (fun r σ' => ∃ S', σ' = (S', L, R) ∧ r = none ∧ MV S' (pTab n co g m) ∧ FK S S') := by
  obtain ⟨r16, r17, r18, r19, r20, rG, rD⟩ := hRT
  have v1 := dv_lt (n := n) (t := 2 + 4 * g + 1) (m := g) (co := co) (by omega) (by omega)
  have v2 := dv_lt (n := n) (t := 2 + 4 * g + 2) (m := g) (co := co) (by omega) (by omega)
  refine T_ald0 dX7_takeTable_0 ?_
  refine T_ald0 dX7_takeTable_1 ?_
  refine T_getN dX7_takeTable_2 lf_X7_108 rfl rfl r16 ?_
  refine T_putI dX7_takeTable_5 lf_X7_111 rfl rfl rfl rfl ?_
  refine T_ald0 dX7_takeTable_8 ?_
  refine T_ald0 dX7_takeTable_9 ?_
  refine T_getN dX7_takeTable_10 lf_X7_114 rfl rfl ((uI_k (by decide)).trans r17) ?_
  refine T_putI dX7_takeTable_13 lf_X7_78 rfl rfl rfl rfl ?_
  refine T_iconst (v := nI 0) dX7_takeTable_16 (by decide) ?_
  refine T_ist1 dX7_takeTable_17 (by decide) rfl ?_
  refine up_ind (P := fun i => ∀ S3, FK S S3 → S3 37 5 = nI g → S3 37 7 = nI (dv n co 1 4) → (∀ k, k < i → S3 41 k = nI (kv n co (2 + 4 * k + 1)) ∧ S3 42 k = nI (dv n co (2 + 4 * k + 2) 10) ∧ S3 43 k = nI (dv n co (2 + 4 * k + 3) 4)) → TT mX7_takeTable (d + 0) 18 [some (.ref 37), some (.int (nI i))] [] (S3, L, R) (fun r σ' => ∃ S', σ' = (S', L, R) ∧ r = none ∧ MV S' (pTab n co g m) ∧ FK S S')) g ?_ ?_ _ (FK_7 (FK_7 FK_r (by decide)) (by decide)) uI_s ((uI_k (by decide)).trans uI_s) (fun k hk => absurd hk (Nat.not_lt_zero k))
  · intro S3 hK h5 h7 h3
    refine T_ild1 dX7_takeTable_18 ?_
    refine T_ald0 dX7_takeTable_19 ?_
    refine T_getN dX7_takeTable_20 lf_X7_78 rfl rfl h5 ?_
    refine T_cgeN (tgt := 68) dX7_takeTable_23 (by decide) (by omega) (by omega) (fun h23 => ?_) (fun h23 => by exfalso; omega)
    refine T_ald0 dX7_takeTable_68 ?_
    refine T_ald0 dX7_takeTable_69 ?_
    refine T_getN dX7_takeTable_70 lf_X7_117 rfl rfl ((hK.2 18 (by decide) (by decide)).trans r18) ?_
    refine T_putI dX7_takeTable_73 lf_X7_120 rfl rfl rfl rfl ?_
    refine T_ald0 dX7_takeTable_76 ?_
    refine T_ald0 dX7_takeTable_77 ?_
    refine T_getN dX7_takeTable_78 lf_X7_123 rfl rfl ((uI_k (by decide)).trans ((hK.2 19 (by decide) (by decide)).trans r19)) ?_
    refine T_putI dX7_takeTable_81 lf_X7_126 rfl rfl rfl rfl ?_
    refine T_ald0 dX7_takeTable_84 ?_
    refine T_ald0 dX7_takeTable_85 ?_
    refine T_getN dX7_takeTable_86 lf_X7_129 rfl rfl ((uI_k (by decide)).trans ((uI_k (by decide)).trans ((hK.2 20 (by decide) (by decide)).trans r20))) ?_
    refine T_putI dX7_takeTable_89 lf_X7_81 rfl rfl rfl rfl ?_
    refine T_iconst (v := nI 0) dX7_takeTable_92 (by decide) ?_
    refine T_ist1 dX7_takeTable_93 (by decide) rfl ?_
    refine up_ind (P := fun i => ∀ S4, FK S S4 → S4 37 5 = nI g → S4 37 6 = nI m → S4 37 7 = nI (dv n co 1 4) → S4 37 8 = nI (dv n co (2 + 4 * g + 1) g) → S4 37 9 = nI (dv n co (2 + 4 * g + 2) g) → (∀ k, k < g → S4 41 k = nI (kv n co (2 + 4 * k + 1)) ∧ S4 42 k = nI (dv n co (2 + 4 * k + 2) 10) ∧ S4 43 k = nI (dv n co (2 + 4 * k + 3) 4)) → (∀ k, k < i → S4 44 k = nI (dv n co (5 + 4 * g + 3 * k + 1) g) ∧ S4 45 k = nI (dv n co (5 + 4 * g + 3 * k + 2) 10)) → TT mX7_takeTable (d + 0) 94 [some (.ref 37), some (.int (nI i))] [] (S4, L, R) (fun r σ' => ∃ S', σ' = (S', L, R) ∧ r = none ∧ MV S' (pTab n co g m) ∧ FK S S')) m ?_ ?_ _ (FK_7 (FK_7 (FK_7 hK (by decide)) (by decide)) (by decide)) ((uI_k (by decide)).trans ((uI_k (by decide)).trans ((uI_k (by decide)).trans h5))) uI_s ((uI_k (by decide)).trans ((uI_k (by decide)).trans ((uI_k (by decide)).trans h7))) ((uI_k (by decide)).trans ((uI_k (by decide)).trans uI_s)) ((uI_k (by decide)).trans uI_s) (fun k hk => ?_) (fun k hk => absurd hk (Nat.not_lt_zero k))
    · intro S4 hK h5 h6_ h7 h8_ h9 h3 h4
      refine T_ild1 dX7_takeTable_94 ?_
      refine T_ald0 dX7_takeTable_95 ?_
      refine T_getN dX7_takeTable_96 lf_X7_81 rfl rfl h6_ ?_
      refine T_cgeN (tgt := 132) dX7_takeTable_99 (by decide) (by omega) (by omega) (fun h99 => ?_) (fun h99 => by exfalso; omega)
      refine T_ald0 dX7_takeTable_132 ?_
      refine T_iconst (v := nI 0) dX7_takeTable_133 (by decide) ?_
      refine T_putI dX7_takeTable_134 lf_X7_132 rfl rfl rfl rfl ?_
      refine T_vret dX7_takeTable_137 rfl ?_
      refine ⟨_, rfl, rfl, ⟨?_, ?_, ?_, ?_, ?_, uI_s, fun k hk => ?_, fun k hk => ?_, fun k hk => absurd hk (Nat.not_lt_zero k)⟩, FK_7 hK (Or.inr rfl)⟩
      · exact ((uI_k (by decide)).trans h5)
      · exact ((uI_k (by decide)).trans h6_)
      · exact ((uI_k (by decide)).trans h7)
      · rw [show pTab n co g m 3 0 / 8 = dv n co (2 + 4 * g + 1) g by show (8 * dv n co (2 + 4 * g + 1) g + dv n co (2 + 4 * g + 2) g) / 8 = _; omega]; exact ((uI_k (by decide)).trans h8_)
      · rw [show pTab n co g m 3 0 % 8 = dv n co (2 + 4 * g + 2) g by show (8 * dv n co (2 + 4 * g + 1) g + dv n co (2 + 4 * g + 2) g) % 8 = _; omega]; exact ((uI_k (by decide)).trans h9)
      · have q := h3 k hk
        exact ⟨((congrFun (uI_p (by decide)) _).trans q.1), ((congrFun (uI_p (by decide)) _).trans q.2.1), ((congrFun (uI_p (by decide)) _).trans q.2.2)⟩
      · have q := h4 k hk
        exact ⟨((congrFun (uI_p (by decide)) _).trans q.1), ((congrFun (uI_p (by decide)) _).trans q.2)⟩
    · intro i hi ih S4 hK h5 h6_ h7 h8_ h9 h3 h4
      have k49 : S4 49 i = _ := (congrFun (hK.1 49 (by decide) (by decide)) i).trans (rD i hi).1
      have k50 : S4 50 i = _ := (congrFun (hK.1 50 (by decide) (by decide)) i).trans (rD i hi).2
      refine T_ild1 dX7_takeTable_94 ?_
      refine T_ald0 dX7_takeTable_95 ?_
      refine T_getN dX7_takeTable_96 lf_X7_81 rfl rfl h6_ ?_
      refine T_cgeN (tgt := 132) dX7_takeTable_99 (by decide) (by omega) (by omega) (fun h99 => by exfalso; omega) (fun h99 => ?_)
      refine T_ald0 dX7_takeTable_102 ?_
      refine T_getR (q := 44) dX7_takeTable_103 lf_X7_28 rfl rfl rfl ?_
      refine T_ild1 dX7_takeTable_106 ?_
      refine T_ald0 dX7_takeTable_107 ?_
      refine T_getR (q := 49) dX7_takeTable_108 lf_X7_43 rfl rfl rfl ?_
      refine T_ild1 dX7_takeTable_111 ?_
      refine T_ialdN dX7_takeTable_112 rfl (by show _ < 6; omega) k49 ?_
      refine T_iast dX7_takeTable_113 rfl (by show _ < 6; omega) rfl ?_
      refine T_ald0 dX7_takeTable_114 ?_
      refine T_getR (q := 45) dX7_takeTable_115 lf_X7_31 rfl rfl rfl ?_
      refine T_ild1 dX7_takeTable_118 ?_
      refine T_ald0 dX7_takeTable_119 ?_
      refine T_getR (q := 50) dX7_takeTable_120 lf_X7_46 rfl rfl rfl ?_
      refine T_ild1 dX7_takeTable_123 ?_
      refine T_ialdN dX7_takeTable_124 rfl (by show _ < 6; omega) ((congrFun (uI_p (by decide)) _).trans k50) ?_
      refine T_iast dX7_takeTable_125 rfl (by show _ < 6; omega) rfl ?_
      refine T_inc1N dX7_takeTable_126 (by decide) rfl ?_
      refine T_goto (tgt := 94) dX7_takeTable_129 (by decide) ?_
      refine ih _ (FK_u (FK_u hK (by decide) (by decide)) (by decide) (by decide)) ((congrFun (uI_p (by decide)) _).trans ((congrFun (uI_p (by decide)) _).trans h5)) ((congrFun (uI_p (by decide)) _).trans ((congrFun (uI_p (by decide)) _).trans h6_)) ((congrFun (uI_p (by decide)) _).trans ((congrFun (uI_p (by decide)) _).trans h7)) ((congrFun (uI_p (by decide)) _).trans ((congrFun (uI_p (by decide)) _).trans h8_)) ((congrFun (uI_p (by decide)) _).trans ((congrFun (uI_p (by decide)) _).trans h9)) (fun k hk => ?_) (fun k hk => ?_)
      · have q := h3 k hk
        exact ⟨((congrFun (uI_p (by decide)) _).trans ((congrFun (uI_p (by decide)) _).trans q.1)), ((congrFun (uI_p (by decide)) _).trans ((congrFun (uI_p (by decide)) _).trans q.2.1)), ((congrFun (uI_p (by decide)) _).trans ((congrFun (uI_p (by decide)) _).trans q.2.2))⟩
      · by_cases e : k = i
        · subst e; exact ⟨((congrFun (uI_p (by decide)) _).trans uI_s), uI_s⟩
        · have q := h4 k (by omega)
          exact ⟨((congrFun (uI_p (by decide)) _).trans ((uI_k e).trans q.1)), ((uI_k e).trans ((congrFun (uI_p (by decide)) _).trans q.2))⟩
    · have q := h3 k hk
      exact ⟨((congrFun (uI_p (by decide)) _).trans ((congrFun (uI_p (by decide)) _).trans ((congrFun (uI_p (by decide)) _).trans q.1))), ((congrFun (uI_p (by decide)) _).trans ((congrFun (uI_p (by decide)) _).trans ((congrFun (uI_p (by decide)) _).trans q.2.1))), ((congrFun (uI_p (by decide)) _).trans ((congrFun (uI_p (by decide)) _).trans ((congrFun (uI_p (by decide)) _).trans q.2.2)))⟩
  · intro i hi ih S3 hK h5 h7 h3
    have k46 : S3 46 i = _ := (congrFun (hK.1 46 (by decide) (by decide)) i).trans (rG i hi).1
    have k47 : S3 47 i = _ := (congrFun (hK.1 47 (by decide) (by decide)) i).trans (rG i hi).2.1
    have k48 : S3 48 i = _ := (congrFun (hK.1 48 (by decide) (by decide)) i).trans (rG i hi).2.2
    refine T_ild1 dX7_takeTable_18 ?_
    refine T_ald0 dX7_takeTable_19 ?_
    refine T_getN dX7_takeTable_20 lf_X7_78 rfl rfl h5 ?_
    refine T_cgeN (tgt := 68) dX7_takeTable_23 (by decide) (by omega) (by omega) (fun h23 => by exfalso; omega) (fun h23 => ?_)
    refine T_ald0 dX7_takeTable_26 ?_
    refine T_getR (q := 41) dX7_takeTable_27 lf_X7_19 rfl rfl rfl ?_
    refine T_ild1 dX7_takeTable_30 ?_
    refine T_ald0 dX7_takeTable_31 ?_
    refine T_getR (q := 46) dX7_takeTable_32 lf_X7_34 rfl rfl rfl ?_
    refine T_ild1 dX7_takeTable_35 ?_
    refine T_ialdN dX7_takeTable_36 rfl (by show _ < 8; omega) k46 ?_
    refine T_iast dX7_takeTable_37 rfl (by show _ < 8; omega) rfl ?_
    refine T_ald0 dX7_takeTable_38 ?_
    refine T_getR (q := 42) dX7_takeTable_39 lf_X7_22 rfl rfl rfl ?_
    refine T_ild1 dX7_takeTable_42 ?_
    refine T_ald0 dX7_takeTable_43 ?_
    refine T_getR (q := 47) dX7_takeTable_44 lf_X7_37 rfl rfl rfl ?_
    refine T_ild1 dX7_takeTable_47 ?_
    refine T_ialdN dX7_takeTable_48 rfl (by show _ < 8; omega) ((congrFun (uI_p (by decide)) _).trans k47) ?_
    refine T_iast dX7_takeTable_49 rfl (by show _ < 8; omega) rfl ?_
    refine T_ald0 dX7_takeTable_50 ?_
    refine T_getR (q := 43) dX7_takeTable_51 lf_X7_25 rfl rfl rfl ?_
    refine T_ild1 dX7_takeTable_54 ?_
    refine T_ald0 dX7_takeTable_55 ?_
    refine T_getR (q := 48) dX7_takeTable_56 lf_X7_40 rfl rfl rfl ?_
    refine T_ild1 dX7_takeTable_59 ?_
    refine T_ialdN dX7_takeTable_60 rfl (by show _ < 8; omega) ((congrFun (uI_p (by decide)) _).trans ((congrFun (uI_p (by decide)) _).trans k48)) ?_
    refine T_iast dX7_takeTable_61 rfl (by show _ < 8; omega) rfl ?_
    refine T_inc1N dX7_takeTable_62 (by decide) rfl ?_
    refine T_goto (tgt := 18) dX7_takeTable_65 (by decide) ?_
    refine ih _ (FK_u (FK_u (FK_u hK (by decide) (by decide)) (by decide) (by decide)) (by decide) (by decide)) ((congrFun (uI_p (by decide)) _).trans ((congrFun (uI_p (by decide)) _).trans ((congrFun (uI_p (by decide)) _).trans h5))) ((congrFun (uI_p (by decide)) _).trans ((congrFun (uI_p (by decide)) _).trans ((congrFun (uI_p (by decide)) _).trans h7))) (fun k hk => ?_)
    by_cases e : k = i
    · subst e; exact ⟨((congrFun (uI_p (by decide)) _).trans ((congrFun (uI_p (by decide)) _).trans uI_s)), ((congrFun (uI_p (by decide)) _).trans uI_s), uI_s⟩
    · have q := h3 k (by omega)
      exact ⟨((congrFun (uI_p (by decide)) _).trans ((congrFun (uI_p (by decide)) _).trans ((uI_k e).trans q.1))), ((congrFun (uI_p (by decide)) _).trans ((uI_k e).trans ((congrFun (uI_p (by decide)) _).trans q.2.1))), ((uI_k e).trans ((congrFun (uI_p (by decide)) _).trans ((congrFun (uI_p (by decide)) _).trans q.2.2)))⟩
set_option maxRecDepth 20000 in
theorem c_X7_table {S : Nat → Nat → Int32} {L : Nat → Nat → Int64} {R : Nat × Nat × Nat} {d : Nat} {a : Nat → Nat → Nat} (hM : MV S a) (hWF : WFA a) {h : HS} (hH : SHM S h) (hBH : BH h) {x l y z : Int32} : TT mX7_table (d + 4) 0 [some (.ref 37), some (.int (x)), some (.int (l)), some (.int (y)), some (.int (z)), none, none] [] (S, L, R) (fun r σ' => ∃ S', σ' = (S', L, R) ∧ r = some (.int (aTable h x l y z)) ∧ MV S' (sTable a h x l y z) ∧ (∀ q, q < 37 ∨ (38 ≤ q ∧ q ≤ 40) → S' q = S q) ∧ S' 37 1 = S 37 1 ∧ S' 37 0 = nI (fTable h x l y z)) := by
  obtain ⟨mg, mdn, mso, msa, mpe, mrn, mgu, mdi, mre⟩ := id hM
  obtain ⟨b8, b6, b3, b64, br8⟩ := hWF.b
  refine T_ald0 dX7_table_0 ?_
  refine T_iconst (v := nI 0) dX7_table_1 (by decide) ?_
  refine T_putI dX7_table_2 lf_X7_68 rfl rfl rfl rfl ?_
  refine T_ild1 dX7_table_5 ?_
  refine T_invS1i (M' := mX7_isSheet) dX7_table_6 ml_X7_87 imX7_isSheet (Nat.le_of_ble_eq_true rfl) rfl (Nat.le_of_ble_eq_true rfl) c_X7_isSheet ?_
  refine T_ifneB (tgt := 14) dX7_table_9 (by decide) (fun h9 => ?_) (fun h9 => ?_)
  · obtain ⟨j, hj, rfl⟩ := blw_t h9
    have ij : ix (nI j) = j := ix_n (by omega)
    refine T_ild2 dX7_table_14 ?_
    refine T_invS1i (M' := mX7_isSort) dX7_table_15 ml_X7_91 imX7_isSort (Nat.le_of_ble_eq_true rfl) rfl (Nat.le_of_ble_eq_true rfl) c_X7_isSort ?_
    refine T_ifneB (tgt := 24) dX7_table_18 (by decide) (fun h18 => ?_) (fun h18 => ?_)
    · have hfl := fau_le (th := h.1 j) (la := h.2.1 j) (n := h.2.2.1 j) (l := l) (x := y) (y := z)
      refine T_ald0 dX7_table_24 ?_
      refine T_ild1 dX7_table_25 ?_
      refine T_ild2 dX7_table_26 ?_
      refine T_ild3 dX7_table_27 ?_
      refine T_ild4 dX7_table_28 ?_
      refine T_invV4i (M' := mX7_against) dX7_table_30 ml_X7_94 imX7_against rfl (Nat.le_of_ble_eq_true rfl) rfl (Nat.le_of_ble_eq_true rfl) rfl (Nat.le_of_ble_eq_true rfl) (c_X7_against (hH.cong (fun q h1 h2 => uI_p (by omega))) hBH hj) ?_
      refine T_ist5 dX7_table_33 (by decide) rfl ?_
      refine T_ild5 dX7_table_35 ?_
      refine T_ifeqN (tgt := 47) dX7_table_37 (by decide) (by omega) (fun h37 => ?_) (fun h37 => ?_)
      · obtain ⟨t1, t2, t3, t4⟩ := fau_0 h37
        obtain ⟨f, m, rfl, rfl, hfm⟩ := hasB_t t4
        have le6 := (hBH j hj t1).2
        have if_ : ix (nI f) = f := ix_n (by omega)
        have im : ix (nI m) = m := ix_n (by omega)
        have hf0 : fC h (nI j) l (nI f) (nI m) = 0 := by unfold fC; rw [ij]; exact h37
        refine T_bipush (v := nI 60) dX7_table_47 (by decide) ?_
        refine T_ild1 dX7_table_49 ?_
        refine T_imulN dX7_table_50 ?_
        refine T_ild3 dX7_table_51 ?_
        refine T_iaddN dX7_table_52 ?_
        refine T_ist6 dX7_table_53 (by decide) rfl ?_
        refine T_ald0 dX7_table_55 ?_
        refine T_ild6 dX7_table_56 ?_
        refine T_putI dX7_table_58 lf_X7_84 rfl rfl rfl rfl ?_
        refine T_ald0 dX7_table_61 ?_
        refine T_ild6 dX7_table_62 ?_
        refine T_ild4 dX7_table_64 ?_
        refine T_iaddN dX7_table_66 ?_
        refine T_invV1 (M' := mX7_readTable) dX7_table_67 ml_X7_102 imX7_readTable rfl (Nat.le_of_ble_eq_true rfl) rfl (Nat.le_of_ble_eq_true rfl) rfl (Nat.le_of_ble_eq_true rfl) (c_X7_readTable (by omega) (show RM (uI (uI S 37 0 (nI 0)) 37 15 (nI (60 * j + f))) (60 * j + f) m 0 (coH h (nI j) (nI f)) from ⟨uI_s, fun k hk => by rw [uI_p (by decide), uI_p (by decide), show 60 * j + f + k = 60 * j + (f + k) by omega, (hH j hj).2.2 _ (by omega)]; unfold coH; rw [ij, if_]⟩)) (fun r σ' hq => ?_)
        obtain ⟨S2, rfl, hT, rfl, p3, p4⟩ := hq
        have fr : ∀ q, q ≠ 37 → ¬ (46 ≤ q ∧ q ≤ 50) → S2 q = S q := fun q h1 h2 => by rw [hT.1 q h1 h2, uI_p h1, uI_p h1]
        have f7 : ∀ k, ¬ (15 ≤ k ∧ k ≤ 20) → k ≠ 0 → S2 37 k = S 37 k := fun k h1 h2 => by rw [hT.2 k h1, uI_k (by omega), uI_k h2]
        have f0 : S2 37 0 = nI 0 := by rw [hT.2 0 (by decide), uI_k (by decide), uI_s]
        refine T_ifneB (tgt := 84) dX7_table_70 (by decide) (fun h70 => ?_) (fun h70 => ?_)
        · obtain ⟨g, m2, eps, hb3, hg3, hg8, hm1, hm6⟩ := psr_ok h70
          have p5 : RT S2 m (coH h (nI j) (nI f)) g m2 := by have q := p3 h70; rw [eps] at q; exact q
          refine T_ald0 dX7_table_84 ?_
          refine T_invV0 (M' := mX7_takeTable) dX7_table_85 ml_X7_105 imX7_takeTable rfl (Nat.le_of_ble_eq_true rfl) rfl (Nat.le_of_ble_eq_true rfl) rfl (Nat.le_of_ble_eq_true rfl) (c_X7_takeTable p5 (by omega) hg8 hm6) (fun r σ' hq => ?_)
          obtain ⟨S3, rfl, rfl, hM3, hK3⟩ := hq
          refine T_ald0 dX7_table_88 ?_
          refine T_getN dX7_table_89 lf_X7_78 rfl rfl hM3.1 ?_
          refine T_iret dX7_table_92 rfl ?_
          rw [show aTable h (nI j) l (nI f) (nI m) = nI g from (if_pos h9).trans ((if_pos h18).trans ((if_neg (fun q => q hf0)).trans (by rw [im, if_pos h70, eps]))), show sTable a h (nI j) l (nI f) (nI m) = pTab m (coH h (nI j) (nI f)) g m2 from (if_pos (by rw [im, h9, h18, decide_eq_true hf0, h70]; rfl)).trans (by rw [im, eps]), show fTable h (nI j) l (nI f) (nI m) = 0 from (if_pos (by rw [h9, h18]; rfl)).trans hf0]
          exact ⟨S3, rfl, rfl, hM3, fun q hq => by rw [hK3.1 q (by omega) (by omega), fr q (by omega) (by omega)], by rw [hK3.2 1 (by decide) (by decide), f7 1 (by decide) (by decide)], by rw [hK3.2 0 (by decide) (by decide), f0]⟩
        · refine T_bipush (v := -100) dX7_table_73 (by decide) ?_
          refine T_ald0 dX7_table_75 ?_
          refine T_getN dX7_table_76 lf_X7_84 rfl rfl (p4 h70) ?_
          refine T_ild6 dX7_table_79 ?_
          refine T_isubN dX7_table_81 (by omega) ?_
          refine T_isub dX7_table_82 ?_
          refine T_iret dX7_table_83 rfl ?_
          rw [Nat.add_sub_cancel_left, show aTable h (nI j) l (nI f) (nI m) = -100 - nI (psr m (coH h (nI j) (nI f))).2.1 from (if_pos h9).trans ((if_pos h18).trans ((if_neg (fun q => q hf0)).trans (by rw [im, if_neg (by simp [h70])]))), show sTable a h (nI j) l (nI f) (nI m) = a from if_neg (by rw [im, h70]; simp), show fTable h (nI j) l (nI f) (nI m) = 0 from (if_pos (by rw [h9, h18]; rfl)).trans hf0]
          exact ⟨S2, rfl, rfl, hM.cong (fun q hq => fr q (by omega) (by omega)) (fun k hk => f7 k (by omega) (by omega)), fun q hq => fr q (by omega) (by omega), f7 1 (by decide) (by decide), f0⟩
      · refine T_ald0 dX7_table_40 ?_
        refine T_ild5 dX7_table_41 ?_
        refine T_invV1i (M' := mX7_fails) dX7_table_43 ml_X7_98 imX7_fails rfl (Nat.le_of_ble_eq_true rfl) rfl (Nat.le_of_ble_eq_true rfl) rfl (Nat.le_of_ble_eq_true rfl) c_X7_fails ?_
        refine T_iret dX7_table_46 rfl ?_
        have hf : fC h (nI j) l y z = fau (h.1 j) (h.2.1 j) (h.2.2.1 j) l y z := by unfold fC; rw [ij]
        rw [show aTable h (nI j) l y z = -10 - nI (fau (h.1 j) (h.2.1 j) (h.2.2.1 j) l y z) from (if_pos h9).trans ((if_pos h18).trans ((if_pos (by rw [hf]; exact h37)).trans (by rw [hf]))), show sTable a h (nI j) l y z = a from if_neg (by rw [hf, decide_eq_false h37]; simp), show fTable h (nI j) l y z = fau (h.1 j) (h.2.1 j) (h.2.2.1 j) l y z from (if_pos (by rw [h9, h18]; rfl)).trans hf]; exact ⟨_, rfl, rfl, MV.cong (hM.cong (fun q hq => uI_p (by omega)) (fun k hk => uI_k (by omega))) (fun q hq => uI_p (by omega)) (fun k hk => uI_k (by omega)), fun q hq => by rw [uI_p (by omega), uI_p (by omega)], by rw [uI_k (by decide), uI_k (by decide)], uI_s⟩
    · refine T_bipush (v := -2) dX7_table_21 (by decide) ?_
      refine T_iret dX7_table_23 rfl ?_
      rw [show aTable h (nI j) l y z = -2 from (if_pos h9).trans (if_neg (by simp [h18])), show sTable a h (nI j) l y z = a from if_neg (by simp [h18]), show fTable h (nI j) l y z = 0 from if_neg (by simp [h18])]; exact ⟨_, rfl, rfl, hM.cong (fun q hq => uI_p (by omega)) (fun k hk => uI_k (by omega)), fun q hq => uI_p (by omega), uI_k (by decide), uI_s⟩
  · refine T_iconst (v := -1) dX7_table_12 (by decide) ?_
    refine T_iret dX7_table_13 rfl ?_
    rw [show aTable h x l y z = -1 from if_neg (by simp [h9]), show sTable a h x l y z = a from if_neg (by simp [h9]), show fTable h x l y z = 0 from if_neg (by simp [h9])]; exact ⟨_, rfl, rfl, hM.cong (fun q hq => uI_p (by omega)) (fun k hk => uI_k (by omega)), fun q hq => uI_p (by omega), uI_k (by decide), uI_s⟩
