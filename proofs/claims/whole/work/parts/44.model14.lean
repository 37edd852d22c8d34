/-! the reference reads a whole text -/
def FT (S S' : Nat → Nat → Int32) : Prop := (∀ q, q ≠ 37 → ¬ (46 ≤ q ∧ q ≤ 50) → S' q = S q) ∧ ∀ k, ¬ (15 ≤ k ∧ k ≤ 20) → S' 37 k = S 37 k
theorem FT_r {S : Nat → Nat → Int32} : FT S S := ⟨fun _ _ _ => rfl, fun _ _ => rfl⟩
theorem FT_7 {S S' : Nat → Nat → Int32} {k : Nat} {x : Int32} (h : FT S S') (h1 : 15 ≤ k) (h2 : k ≤ 20) : FT S (uI S' 37 k x) :=
  ⟨fun q g1 g2 => by rw [uI_p g1]; exact h.1 q g1 g2, fun i hi => by rw [uI_k (by omega)]; exact h.2 i hi⟩
theorem FT_OF {S S1 S2 : Nat → Nat → Int32} {l : List (Nat × Nat)} (h : FT S S1) (o : OF l S1 S2) (hl : ∀ x ∈ l, (x.1 = 37 ∧ 15 ≤ x.2 ∧ x.2 ≤ 20) ∨ (46 ≤ x.1 ∧ x.1 ≤ 50)) : FT S S2 := by
  refine ⟨fun q g1 g2 => ?_, fun k hk => ?_⟩
  · rw [← h.1 q g1 g2]; funext k
    exact o q k (fun hx => by have := hl _ hx; simp only at this; omega)
  · rw [← h.2 k hk]
    exact o 37 k (fun hx => by have := hl _ hx; simp only at this; omega)
def MG (S : Nat → Nat → Int32) (n : Nat) (co : Nat → Int32) (m : Nat) : Prop := ∀ k, k < m → S 46 k = nI (kv n co (2 + 4 * k + 1)) ∧ S 47 k = nI (dv n co (2 + 4 * k + 2) 10) ∧ S 48 k = nI (dv n co (2 + 4 * k + 3) 4)
def MD_ (S : Nat → Nat → Int32) (n : Nat) (co : Nat → Int32) (g m : Nat) : Prop := ∀ k, k < m → S 49 k = nI (dv n co (5 + 4 * g + 3 * k + 1) g) ∧ S 50 k = nI (dv n co (5 + 4 * g + 3 * k + 2) 10)
theorem MG.cong {S S' : Nat → Nat → Int32} {n m : Nat} {co : Nat → Int32} (h : MG S n co m) (hq : ∀ q, 46 ≤ q → q ≤ 48 → S' q = S q) : MG S' n co m := fun k hk => by
  rw [hq 46 (by decide) (by decide), hq 47 (by decide) (by decide), hq 48 (by decide) (by decide)]; exact h k hk
theorem MD_.cong {S S' : Nat → Nat → Int32} {n g m : Nat} {co : Nat → Int32} (h : MD_ S n co g m) (hq : ∀ q, 49 ≤ q → q ≤ 50 → S' q = S q) : MD_ S' n co g m := fun k hk => by
  rw [hq 49 (by decide) (by decide), hq 50 (by decide) (by decide)]; exact h k hk
def RT (S : Nat → Nat → Int32) (n : Nat) (co : Nat → Int32) (g m : Nat) : Prop := S 37 16 = nI (dv n co 1 4) ∧ S 37 17 = nI g ∧ S 37 18 = nI (dv n co (2 + 4 * g + 1) g) ∧ S 37 19 = nI (dv n co (2 + 4 * g + 2) g) ∧ S 37 20 = nI m ∧ MG S n co g ∧ MD_ S n co g m
def TX (n : Nat) (co : Nat → Int32) : Prop := sg n co 0 (nI 116) = true ∧ ¬ dgt n co 1 4 = none
theorem psr_a {n : Nat} {co : Nat → Int32} (h : sg n co 0 (nI 116) = false) : psr n co = (false, 0, 0, 0) := if_pos h
theorem psr_b {n : Nat} {co : Nat → Int32} (h : sg n co 0 (nI 116) = true) (h2 : dgt n co 1 4 = none) : psr n co = (false, 1, 0, 0) := (if_neg (by rw [h]; decide)).trans (if_pos h2)
theorem psr_c {n q : Nat} {co : Nat → Int32} (h : TX n co) (hg : gph n co 8 = (false, q)) : psr n co = (false, q, 0, 0) := by
  refine (if_neg (by rw [h.1]; decide)).trans ((if_neg h.2).trans ?_)
  rw [hg]; rfl
theorem psr_d {n g c : Nat} {co : Nat → Int32} (h : TX n co) (hg : gph n co 8 = (true, g)) (hb : pBf n co g (2 + 4 * g) = c) (hc : c ≠ 3) : psr n co = (false, 2 + 4 * g + c, 0, 0) := by
  refine (if_neg (by rw [h.1]; decide)).trans ((if_neg h.2).trans ?_)
  rw [hg]
  refine (if_neg (by simp)).trans ?_
  show (if pBf n co g (2 + 4 * g) ≠ 3 then _ else _) = _
  rw [hb, if_pos hc]
theorem psr_e {n g : Nat} {co : Nat → Int32} (h : TX n co) (hg : gph n co 8 = (true, g)) (hb : pBf n co g (2 + 4 * g) = 3) : psr n co = (if (dph n co g 6).1 = false then (false, (dph n co g 6).2, 0, 0) else if n ≤ 5 + 4 * g + 3 * (dph n co g 6).2 then (true, n, g, (dph n co g 6).2) else (false, 5 + 4 * g + 3 * (dph n co g 6).2, 0, 0)) := by
  refine (if_neg (by rw [h.1]; decide)).trans ((if_neg h.2).trans ?_)
  rw [hg]
  refine (if_neg (by simp)).trans ?_
  show (if pBf n co g (2 + 4 * g) ≠ 3 then _ else _) = _
  rw [hb, if_neg (fun q => q rfl)]
theorem psr_f {n g q : Nat} {co : Nat → Int32} (h : TX n co) (hg : gph n co 8 = (true, g)) (hb : pBf n co g (2 + 4 * g) = 3) (hd : dph n co g 6 = (false, q)) : psr n co = (false, q, 0, 0) := by
  rw [psr_e h hg hb, hd]; exact if_pos rfl
theorem psr_g {n g m : Nat} {co : Nat → Int32} (h : TX n co) (hg : gph n co 8 = (true, g)) (hb : pBf n co g (2 + 4 * g) = 3) (hd : dph n co g 6 = (true, m)) (hm : n ≤ 5 + 4 * g + 3 * m) : psr n co = (true, n, g, m) := by
  rw [psr_e h hg hb, hd]; exact (if_neg (by simp)).trans (if_pos hm)
theorem psr_h {n g m : Nat} {co : Nat → Int32} (h : TX n co) (hg : gph n co 8 = (true, g)) (hb : pBf n co g (2 + 4 * g) = 3) (hd : dph n co g 6 = (true, m)) (hm : ¬ n ≤ 5 + 4 * g + 3 * m) : psr n co = (false, 5 + 4 * g + 3 * m, 0, 0) := by
  rw [psr_e h hg hb, hd]; exact (if_neg (by simp)).trans (if_neg hm)
theorem sg_2 {n t : Nat} {co : Nat → Int32} (h : sg n co t (nI 44) = true) : sg n co t (nI 47) = false := decide_eq_false (fun q => by
  have e := (of_decide_eq_true h).2
  rw [q.2] at e
  exact absurd e (by decide))
set_option maxRecDepth 20000 in
theorem c_rT173 {S : Nat → Nat → Int32} {L : Nat → Nat → Int64} {R : Nat × Nat × Nat} {d : Nat} {F n : Nat} {co : Nat → Int32} (hF : F + n ≤ 240) (hX : TX n co) {g : Nat} (hg : gph n co 8 = (true, g)) (hb : pBf n co g (2 + 4 * g) = 3) (h3 : 3 ≤ g) (h8 : g ≤ 8) {S1 : Nat → Nat → Int32} (hT : FT S S1) (hR : RM S1 F n (5 + 4 * g) co) (h16 : S1 37 16 = nI (dv n co 1 4)) (h17 : S1 37 17 = nI g) (h18 : S1 37 18 = nI (dv n co (2 + 4 * g + 1) g)) (h19 : S1 37 19 = nI (dv n co (2 + 4 * g + 2) g)) (hG : MG S1 n co g) (h20 : S1 37 20 = nI 0) (hn : 5 + 4 * g ≤ n) : TT mX7_readTable (d + 3) 173 [some (.ref 37), some (.int (nI (F + n)))] [] (S1, L, R) (fun r σ' => ∃ S', σ' = (S', L, R) ∧ FT S S' ∧ r = some (.int (bI (psr n co).1)) ∧ ((psr n co).1 = true → RT S' n co (psr n co).2.2.1 (psr n co).2.2.2) ∧ ((psr n co).1 = false → S' 37 15 = nI (F + (psr n co).2.1))) := by
  refine up_ind (P := fun i => ∀ S2, FT S S2 → RM S2 F n (5 + 4 * g + 3 * i) co → S2 37 16 = nI (dv n co 1 4) → S2 37 17 = nI g → S2 37 18 = nI (dv n co (2 + 4 * g + 1) g) → S2 37 19 = nI (dv n co (2 + 4 * g + 2) g) → MG S2 n co g → S2 37 20 = nI i → MD_ S2 n co g i → 5 + 4 * g + 3 * i ≤ n → dph n co g 6 = dph n co g (6 - i) → TT mX7_readTable (d + 3) 173 [some (.ref 37), some (.int (nI (F + n)))] [] (S2, L, R) (fun r σ' => ∃ S', σ' = (S', L, R) ∧ FT S S' ∧ r = some (.int (bI (psr n co).1)) ∧ ((psr n co).1 = true → RT S' n co (psr n co).2.2.1 (psr n co).2.2.2) ∧ ((psr n co).1 = false → S' 37 15 = nI (F + (psr n co).2.1)))) 6 ?_ ?_ S1 hT (by rw [Nat.mul_zero, Nat.add_zero]; exact hR) h16 h17 h18 h19 hG h20 (fun k hk => absurd hk (Nat.not_lt_zero k)) (by omega) rfl
  · intro S2 hT hR h16 h17 h18 h19 hG h20 hD hn hdd
    have hdd : dph n co g 6 = (true, 6) := hdd
    refine T_ald0 dX7_readTable_173 ?_
    refine T_getN dX7_readTable_174 lf_X7_129 rfl rfl h20 ?_
    refine T_ifeqN (tgt := 197) dX7_readTable_177 (by decide) (by omega) (fun h177 => by exfalso; omega) (fun h177 => ?_)
    refine T_ald0 dX7_readTable_180 ?_
    refine T_getN dX7_readTable_181 lf_X7_129 rfl rfl h20 ?_
    refine T_bipush (v := nI 6) dX7_readTable_184 (by decide) ?_
    refine T_cgeN (tgt := 217) dX7_readTable_186 (by decide) (by omega) (by omega) (fun h186 => ?_) (fun h186 => by exfalso; omega)
    refine T_ald0 dX7_readTable_217 ?_
    refine T_getN dX7_readTable_218 lf_X7_84 rfl rfl hR.1 ?_
    refine T_ild1 dX7_readTable_221 ?_
    refine T_cneN (tgt := 229) dX7_readTable_222 (by decide) (by omega) (by omega) (fun h222 => ?_) (fun h222 => ?_)
    · refine T_iconst (v := bI false) dX7_readTable_229 (by decide) ?_
      refine T_bretB dX7_readTable_230 rfl ?_
      first
        | (have hps : psr n co = (true, n, g, 6) := psr_g hX hg hb hdd (by omega)
           exact ⟨_, rfl, hT, by rw [hps], fun _ => (by rw [hps]; exact ⟨h16, h17, h18, h19, h20, hG, hD⟩), fun q => (by rw [hps] at q; cases q)⟩)
        | (have hps : psr n co = (false, 5 + 4 * g + 3 * 6, 0, 0) := psr_h hX hg hb hdd (by omega)
           exact ⟨_, rfl, hT, by rw [hps], fun q => (by rw [hps] at q; cases q), fun _ => (by rw [hps]; dsimp only; exact hR.1)⟩)
        | fail "leaf"
    · refine T_iconst (v := bI true) dX7_readTable_225 (by decide) ?_
      refine T_goto (tgt := 230) dX7_readTable_226 (by decide) ?_
      refine T_bretB dX7_readTable_230 rfl ?_
      first
        | (have hps : psr n co = (true, n, g, 6) := psr_g hX hg hb hdd (by omega)
           exact ⟨_, rfl, hT, by rw [hps], fun _ => (by rw [hps]; exact ⟨h16, h17, h18, h19, h20, hG, hD⟩), fun q => (by rw [hps] at q; cases q)⟩)
        | (have hps : psr n co = (false, 5 + 4 * g + 3 * 6, 0, 0) := psr_h hX hg hb hdd (by omega)
           exact ⟨_, rfl, hT, by rw [hps], fun q => (by rw [hps] at q; cases q), fun _ => (by rw [hps]; dsimp only; exact hR.1)⟩)
        | fail "leaf"
  · intro i hi ih S2 hT hR h16 h17 h18 h19 hG h20 hD hn hdd
    rw [dph_at hi] at hdd
    have k197 : ¬ (0 < i ∧ n ≤ (5 + 4 * g + 3 * i)) → TT mX7_readTable (d + 3) 197 [some (.ref 37), some (.int (nI (F + n)))] [] (S2, L, R) (fun r σ' => ∃ S', σ' = (S', L, R) ∧ FT S S' ∧ r = some (.int (bI (psr n co).1)) ∧ ((psr n co).1 = true → RT S' n co (psr n co).2.2.1 (psr n co).2.2.2) ∧ ((psr n co).1 = false → S' 37 15 = nI (F + (psr n co).2.1))) := by
      intro hc
      cases hs : sg n co (5 + 4 * g + 3 * i) (nI 59) with
      | false =>
        have hp : pDf n co g (5 + 4 * g + 3 * i) = 0 := if_pos hs
        refine T_ald0 dX7_readTable_197 ?_
        refine T_ild1 dX7_readTable_198 ?_
        refine T_bipush (v := nI 59) dX7_readTable_199 (by decide) ?_
        refine T_invV2i (M' := mX7_isSign) dX7_readTable_201 ml_X7_135 imX7_isSign rfl (Nat.le_of_ble_eq_true rfl) rfl (Nat.le_of_ble_eq_true rfl) rfl (Nat.le_of_ble_eq_true rfl) (c_X7_isSign_f hF (by omega) hR hs) ?_
        refine T_ifeqB (tgt := 215) dX7_readTable_204 (by decide) (fun h204 => ?_) (fun h204 => by cases h204)
        refine T_iconst (v := bI false) dX7_readTable_215 (by decide) ?_
        refine T_bretB dX7_readTable_216 rfl ?_
        have hps : psr n co = (false, (5 + 4 * g + 3 * i) + 0, 0, 0) := psr_f hX hg hb (by rw [hdd, if_neg hc, hp]; rfl)
        exact ⟨_, rfl, hT, by rw [hps], fun q => (by rw [hps] at q; cases q), fun _ => (by rw [hps]; dsimp only; exact hR.1)⟩
      | true =>
        refine T_ald0 dX7_readTable_197 ?_
        refine T_ild1 dX7_readTable_198 ?_
        refine T_bipush (v := nI 59) dX7_readTable_199 (by decide) ?_
        refine T_invV2i (M' := mX7_isSign) dX7_readTable_201 ml_X7_135 imX7_isSign rfl (Nat.le_of_ble_eq_true rfl) rfl (Nat.le_of_ble_eq_true rfl) rfl (Nat.le_of_ble_eq_true rfl) (c_X7_isSign_t hF (by omega) hR hs) ?_
        refine T_ifeqB (tgt := 215) dX7_readTable_204 (by decide) (fun h204 => by cases h204) (fun h204 => ?_)
        refine T_ald0 dX7_readTable_207 ?_
        refine T_ild1 dX7_readTable_208 ?_
        refine T_invV1 (M' := mX7_readDish) dX7_readTable_209 ml_X7_146 imX7_readDish rfl (Nat.le_of_ble_eq_true rfl) rfl (Nat.le_of_ble_eq_true rfl) rfl (Nat.le_of_ble_eq_true rfl) (c_X7_readDish hF hR.adv1 hi ((uI_k (by decide)).trans h20) ((uI_k (by decide)).trans h17) (by omega) (by omega) hs) (fun r σ' hq => ?_)
        obtain ⟨S3, rfl, o, rfl, p3, p4⟩ := hq
        have hT3 : FT S S3 := FT_OF (FT_7 hT (by decide) (by decide)) o (by simp)
        have e37 : ∀ k, k ≠ 15 → k ≠ 20 → S3 37 k = S2 37 k := fun k k1 k2 => (o 37 k (by simp [k1, k2])).trans (uI_k k1)
        refine T_ifneB (tgt := 173) dX7_readTable_212 (by decide) (fun h212 => ?_) (fun h212 => ?_)
        · have p3' := of_decide_eq_true h212
          rw [p3'] at p3
          obtain ⟨q1, q2, q3⟩ := p4 p3'
          have hR3 : RM S3 F n (5 + 4 * g + 3 * (i + 1)) co := (hR.adv1).of o (by simp) (p3.trans (congrArg nI (by omega)))
          refine ih S3 hT3 hR3 ((e37 16 (by decide) (by decide)).trans h16) ((e37 17 (by decide) (by decide)).trans h17) ((e37 18 (by decide) (by decide)).trans h18) ((e37 19 (by decide) (by decide)).trans h19) (hG.cong (fun q g1 g2 => ?_)) q1 (fun k hk => ?_) (by have := pDf_lt p3'; omega) ?_
          · funext k; exact (o q k (by simp; omega)).trans (congrFun (uI_p (by omega)) k)
          · by_cases e : k = i
            · subst e; exact ⟨q2, q3⟩
            · have := hD k (by omega)
              exact ⟨(o 49 k (by simp [e])).trans ((congrFun (uI_p (by decide)) k).trans this.1), (o 50 k (by simp [e])).trans ((congrFun (uI_p (by decide)) k).trans this.2)⟩
          · rw [hdd, if_neg hc, if_pos p3']
        · refine T_iconst (v := bI false) dX7_readTable_215 (by decide) ?_
          refine T_bretB dX7_readTable_216 rfl ?_
          have hps : psr n co = (false, (5 + 4 * g + 3 * i) + pDf n co g (5 + 4 * g + 3 * i), 0, 0) := psr_f hX hg hb (by rw [hdd, if_neg hc, if_neg (of_decide_eq_false h212)])
          exact ⟨_, rfl, hT3, by rw [hps], fun q => (by rw [hps] at q; cases q), fun _ => (by rw [hps]; dsimp only; exact p3)⟩
    refine T_ald0 dX7_readTable_173 ?_
    refine T_getN dX7_readTable_174 lf_X7_129 rfl rfl h20 ?_
    refine T_ifeqN (tgt := 197) dX7_readTable_177 (by decide) (by omega) (fun h177 => ?_) (fun h177 => ?_)
    · exact k197 (by omega)
    · refine T_ald0 dX7_readTable_180 ?_
      refine T_getN dX7_readTable_181 lf_X7_129 rfl rfl h20 ?_
      refine T_bipush (v := nI 6) dX7_readTable_184 (by decide) ?_
      refine T_cgeN (tgt := 217) dX7_readTable_186 (by decide) (by omega) (by omega) (fun h186 => by exfalso; omega) (fun h186 => ?_)
      refine T_ald0 dX7_readTable_189 ?_
      refine T_getN dX7_readTable_190 lf_X7_84 rfl rfl hR.1 ?_
      refine T_ild1 dX7_readTable_193 ?_
      refine T_cgeN (tgt := 217) dX7_readTable_194 (by decide) (by omega) (by omega) (fun h194 => ?_) (fun h194 => ?_)
      · refine T_ald0 dX7_readTable_217 ?_
        refine T_getN dX7_readTable_218 lf_X7_84 rfl rfl hR.1 ?_
        refine T_ild1 dX7_readTable_221 ?_
        refine T_cneN (tgt := 229) dX7_readTable_222 (by decide) (by omega) (by omega) (fun h222 => ?_) (fun h222 => ?_)
        · refine T_iconst (v := bI false) dX7_readTable_229 (by decide) ?_
          refine T_bretB dX7_readTable_230 rfl ?_
          first
            | (exfalso; omega)
            | (have hps : psr n co = (true, n, g, i) := psr_g hX hg hb (by rw [hdd, if_pos ⟨by omega, by omega⟩]) (by omega)
               exact ⟨_, rfl, hT, by rw [hps], fun _ => (by rw [hps]; exact ⟨h16, h17, h18, h19, h20, hG, hD⟩), fun q => (by rw [hps] at q; cases q)⟩)
            | fail "leaf"
        · refine T_iconst (v := bI true) dX7_readTable_225 (by decide) ?_
          refine T_goto (tgt := 230) dX7_readTable_226 (by decide) ?_
          refine T_bretB dX7_readTable_230 rfl ?_
          first
            | (exfalso; omega)
            | (have hps : psr n co = (true, n, g, i) := psr_g hX hg hb (by rw [hdd, if_pos ⟨by omega, by omega⟩]) (by omega)
               exact ⟨_, rfl, hT, by rw [hps], fun _ => (by rw [hps]; exact ⟨h16, h17, h18, h19, h20, hG, hD⟩), fun q => (by rw [hps] at q; cases q)⟩)
            | fail "leaf"
      · exact k197 (by omega)
set_option maxRecDepth 20000 in
theorem c_rT72 {S : Nat → Nat → Int32} {L : Nat → Nat → Int64} {R : Nat × Nat × Nat} {d : Nat} {F n : Nat} {co : Nat → Int32} (hF : F + n ≤ 240) (hX : TX n co) {g : Nat} (hgg : gph n co 8 = gph n co (8 - g)) (h8 : g ≤ 8) (hnc : g < 8 → sg n co (2 + 4 * g) (nI 44) = false) {S1 : Nat → Nat → Int32} (hT : FT S S1) (hR : RM S1 F n (2 + 4 * g) co) (h16 : S1 37 16 = nI (dv n co 1 4)) (h17 : S1 37 17 = nI g) (hG : MG S1 n co g) (h20 : S1 37 20 = nI 0) (hn : 2 + 4 * g ≤ n) : TT mX7_readTable (d + 3) 72 [some (.ref 37), some (.int (nI (F + n)))] [] (S1, L, R) (fun r σ' => ∃ S', σ' = (S', L, R) ∧ FT S S' ∧ r = some (.int (bI (psr n co).1)) ∧ ((psr n co).1 = true → RT S' n co (psr n co).2.2.1 (psr n co).2.2.2) ∧ ((psr n co).1 = false → S' 37 15 = nI (F + (psr n co).2.1))) := by
  by_cases h3 : 3 ≤ g
  · cases hs : sg n co (2 + 4 * g) (nI 47) with
    | false =>
      have hps : psr n co = (false, 2 + 4 * g, 0, 0) := by
        by_cases h8' : g < 8
        · have hp : pGf n co (2 + 4 * g) = 0 := if_pos (hnc h8')
          refine psr_c hX ?_
          rw [hgg, gph_at h8', if_neg (by rw [hs]; simp), if_neg (by rw [hp]; decide), hp]; rfl
        · have e8 : g = 8 := by omega
          have hgt : gph n co 8 = (true, g) := by rw [hgg, e8]; rfl
          exact psr_d hX hgt (if_pos hs) (by decide)
      refine T_ald0 dX7_readTable_72 ?_
      refine T_getN dX7_readTable_73 lf_X7_114 rfl rfl h17 ?_
      refine T_iconst (v := nI 3) dX7_readTable_76 (by decide) ?_
      refine T_cltN (tgt := 90) dX7_readTable_77 (by decide) (by omega) (by omega) (fun h77 => by exfalso; omega) (fun h77 => ?_)
      refine T_ald0 dX7_readTable_80 ?_
      refine T_ild1 dX7_readTable_81 ?_
      refine T_bipush (v := nI 47) dX7_readTable_82 (by decide) ?_
      refine T_invV2i (M' := mX7_isSign) dX7_readTable_84 ml_X7_135 imX7_isSign rfl (Nat.le_of_ble_eq_true rfl) rfl (Nat.le_of_ble_eq_true rfl) rfl (Nat.le_of_ble_eq_true rfl) (c_X7_isSign_f hF (by omega) hR hs) ?_
      refine T_ifneB (tgt := 92) dX7_readTable_87 (by decide) (fun h87 => by cases h87) (fun h87 => ?_)
      refine T_iconst (v := bI false) dX7_readTable_90 (by decide) ?_
      refine T_bretB dX7_readTable_91 rfl ?_
      exact ⟨_, rfl, hT, by rw [hps], fun q => (by rw [hps] at q; cases q), fun _ => (by rw [hps]; dsimp only; exact hR.1)⟩
    | true =>
      have hgt : gph n co 8 = (true, g) := by
        by_cases h8' : g < 8
        · rw [hgg, gph_at h8', if_pos ⟨h3, hs⟩]
        · have e8 : g = 8 := by omega
          rw [hgg, e8]; rfl
      have ht1 := sg_lt hs
      have c0 : ∀ c, (if dgt n co (2 + 4 * g + 1) g = none then 1 else if dgb n co (2 + 4 * g + 2) g (nI (dv n co (2 + 4 * g + 1) g)) = none then 2 else 3) = c → pBf n co g (2 + 4 * g) = c := fun c h => (if_neg (by rw [hs]; decide)).trans h
      cases hd1 : dgt n co (2 + 4 * g + 1) g with
      | none =>
        have hps := psr_d hX hgt (c0 1 (if_pos hd1)) (by decide)
        refine T_ald0 dX7_readTable_72 ?_
        refine T_getN dX7_readTable_73 lf_X7_114 rfl rfl h17 ?_
        refine T_iconst (v := nI 3) dX7_readTable_76 (by decide) ?_
        refine T_cltN (tgt := 90) dX7_readTable_77 (by decide) (by omega) (by omega) (fun h77 => by exfalso; omega) (fun h77 => ?_)
        refine T_ald0 dX7_readTable_80 ?_
        refine T_ild1 dX7_readTable_81 ?_
        refine T_bipush (v := nI 47) dX7_readTable_82 (by decide) ?_
        refine T_invV2i (M' := mX7_isSign) dX7_readTable_84 ml_X7_135 imX7_isSign rfl (Nat.le_of_ble_eq_true rfl) rfl (Nat.le_of_ble_eq_true rfl) rfl (Nat.le_of_ble_eq_true rfl) (c_X7_isSign_t hF (by omega) hR hs) ?_
        refine T_ifneB (tgt := 92) dX7_readTable_87 (by decide) (fun h87 => ?_) (fun h87 => by cases h87)
        refine T_ald0 dX7_readTable_92 ?_
        refine T_ald0 dX7_readTable_93 ?_
        refine T_ild1 dX7_readTable_94 ?_
        refine T_ald0 dX7_readTable_95 ?_
        refine T_getN dX7_readTable_96 lf_X7_114 rfl rfl ((uI_k (by decide)).trans h17) ?_
        refine T_iconst (v := nI 1) dX7_readTable_99 (by decide) ?_
        refine T_isubN dX7_readTable_100 (by omega) ?_
        refine T_invV2i (M' := mX7_digit) dX7_readTable_101 ml_X7_139 imX7_digit rfl (Nat.le_of_ble_eq_true rfl) rfl (Nat.le_of_ble_eq_true rfl) rfl (Nat.le_of_ble_eq_true rfl) (c_X7_digit_n hF (by omega) hR.adv1 (show g ≤ 10 by omega) (show g = g - 1 + 1 by omega) hd1) ?_
        refine T_putI dX7_readTable_104 lf_X7_117 rfl rfl rfl rfl ?_
        refine T_ald0 dX7_readTable_107 ?_
        refine T_getV dX7_readTable_108 lf_X7_117 rfl rfl uI_s ?_
        refine T_bipush (v := -9) dX7_readTable_111 (by decide) ?_
        refine T_cne (tgt := 118) dX7_readTable_113 (by decide) (fun h113 => by exact absurd rfl h113) (fun h113 => ?_)
        refine T_iconst (v := bI false) dX7_readTable_116 (by decide) ?_
        refine T_bretB dX7_readTable_117 rfl ?_
        exact ⟨_, rfl, FT_7 (FT_7 hT (by decide) (by decide)) (by decide) (by decide), by rw [hps], fun q => (by rw [hps] at q; cases q), fun _ => (by rw [hps]; dsimp only; exact ((uI_k (by decide)).trans (uI_s.trans (congrArg nI (by omega)))))⟩
      | some v1 =>
        have ht2 := dgt_some (show g ≤ 10 by omega) hd1
        have hv1 : dv n co (2 + 4 * g + 1) g = v1 := by unfold dv; rw [hd1]; rfl
        have hdn : ¬ dgt n co (2 + 4 * g + 1) g = none := by rw [hd1]; exact fun h => nomatch h
        have hb2 : dgb n co (2 + 4 * g + 2) g (nI v1) = none → pBf n co g (2 + 4 * g) = 2 := fun q => c0 2 ((if_neg hdn).trans (if_pos (by rw [hv1]; exact q)))
        have k147 : (2 + 4 * g + 2 < n → ¬ co (2 + 4 * g + 2) = nI (48 + v1)) → TT mX7_readTable (d + 3) 147 [some (.ref 37), some (.int (nI (F + n)))] [] ((uI (uI (uI S1 37 15 (nI (F + (2 + 4 * g) + 1))) 37 15 (nI (F + (2 + 4 * g + 1) + 1))) 37 18 (nI v1)), L, R) (fun r σ' => ∃ S', σ' = (S', L, R) ∧ FT S S' ∧ r = some (.int (bI (psr n co).1)) ∧ ((psr n co).1 = true → RT S' n co (psr n co).2.2.1 (psr n co).2.2.2) ∧ ((psr n co).1 = false → S' 37 15 = nI (F + (psr n co).2.1))) := by
          intro hne
          cases hd2 : dgt n co (2 + 4 * g + 2) g with
          | none =>
            have hps := psr_d hX hgt (hb2 (by unfold dgb; rw [hd2])) (by decide)
            refine T_ald0 dX7_readTable_147 ?_
            refine T_ald0 dX7_readTable_148 ?_
            refine T_ild1 dX7_readTable_149 ?_
            refine T_ald0 dX7_readTable_150 ?_
            refine T_getN dX7_readTable_151 lf_X7_114 rfl rfl ((uI_k (by decide)).trans ((uI_k (by decide)).trans ((uI_k (by decide)).trans h17))) ?_
            refine T_iconst (v := nI 1) dX7_readTable_154 (by decide) ?_
            refine T_isubN dX7_readTable_155 (by omega) ?_
            refine T_invV2i (M' := mX7_digit) dX7_readTable_156 ml_X7_139 imX7_digit rfl (Nat.le_of_ble_eq_true rfl) rfl (Nat.le_of_ble_eq_true rfl) rfl (Nat.le_of_ble_eq_true rfl) (c_X7_digit_n hF (by omega) (((hR.adv1).adv1).fld (by decide)) (show g ≤ 10 by omega) (show g = g - 1 + 1 by omega) hd2) ?_
            refine T_putI dX7_readTable_159 lf_X7_123 rfl rfl rfl rfl ?_
            refine T_ald0 dX7_readTable_162 ?_
            refine T_getV dX7_readTable_163 lf_X7_123 rfl rfl uI_s ?_
            refine T_bipush (v := -9) dX7_readTable_166 (by decide) ?_
            refine T_cne (tgt := 173) dX7_readTable_168 (by decide) (fun h168 => by exact absurd rfl h168) (fun h168 => ?_)
            refine T_iconst (v := bI false) dX7_readTable_171 (by decide) ?_
            refine T_bretB dX7_readTable_172 rfl ?_
            exact ⟨_, rfl, FT_7 (FT_7 (FT_7 (FT_7 hT (by decide) (by decide)) (by decide) (by decide)) (by decide) (by decide)) (by decide) (by decide), by rw [hps], fun q => (by rw [hps] at q; cases q), fun _ => (by rw [hps]; dsimp only; exact ((uI_k (by decide)).trans ((uI_k (by decide)).trans (uI_s.trans (congrArg nI (by omega))))))⟩
          | some v2 =>
            have ht3 := dgt_some (show g ≤ 10 by omega) hd2
            have hv2 : dv n co (2 + 4 * g + 2) g = v2 := by unfold dv; rw [hd2]; rfl
            have hvv : ¬ nI v2 = nI v1 := fun e => hne ht3.1 (by
              have h1 : co (2 + 4 * g + 2) - nI 48 + nI 48 = nI v1 + nI 48 := by rw [ht3.2.2, e]
              rw [Int32.sub_add_cancel, nI_add, Nat.add_comm v1 48] at h1
              exact h1)
            have hb : pBf n co g (2 + 4 * g) = 3 := c0 3 ((if_neg hdn).trans (if_neg (by rw [hv1]; unfold dgb; rw [hd2]; simp [hvv])))
            refine T_ald0 dX7_readTable_147 ?_
            refine T_ald0 dX7_readTable_148 ?_
            refine T_ild1 dX7_readTable_149 ?_
            refine T_ald0 dX7_readTable_150 ?_
            refine T_getN dX7_readTable_151 lf_X7_114 rfl rfl ((uI_k (by decide)).trans ((uI_k (by decide)).trans ((uI_k (by decide)).trans h17))) ?_
            refine T_iconst (v := nI 1) dX7_readTable_154 (by decide) ?_
            refine T_isubN dX7_readTable_155 (by omega) ?_
            refine T_invV2i (M' := mX7_digit) dX7_readTable_156 ml_X7_139 imX7_digit rfl (Nat.le_of_ble_eq_true rfl) rfl (Nat.le_of_ble_eq_true rfl) rfl (Nat.le_of_ble_eq_true rfl) (c_X7_digit_s hF (by omega) (((hR.adv1).adv1).fld (by decide)) (show g ≤ 10 by omega) (show g = g - 1 + 1 by omega) hd2) ?_
            refine T_putI dX7_readTable_159 lf_X7_123 rfl rfl rfl rfl ?_
            refine T_ald0 dX7_readTable_162 ?_
            refine T_getN dX7_readTable_163 lf_X7_123 rfl rfl uI_s ?_
            refine T_bipush (v := -9) dX7_readTable_166 (by decide) ?_
            refine T_cne (tgt := 173) dX7_readTable_168 (by decide) (fun h168 => ?_) (fun h168 => by exact absurd h168 (nI_m9 (by omega)))
            have hR5 : RM (uI (uI (uI (uI (uI S1 37 15 (nI (F + (2 + 4 * g) + 1))) 37 15 (nI (F + (2 + 4 * g + 1) + 1))) 37 18 (nI v1)) 37 15 (nI (F + (2 + 4 * g + 1 + 1) + 1))) 37 19 (nI v2)) F n (2 + 4 * g + 1 + 1 + 1) co := (((((hR.adv1).adv1).fld (by decide)).adv1).fld (by decide))
            rw [show 2 + 4 * g + 1 + 1 + 1 = 5 + 4 * g by omega] at hR5
            refine c_rT173 hF hX hgt hb h3 h8 (FT_7 (FT_7 (FT_7 (FT_7 (FT_7 hT (by decide) (by decide)) (by decide) (by decide)) (by decide) (by decide)) (by decide) (by decide)) (by decide) (by decide)) hR5 ?_ ?_ ?_ ?_ (hG.cong (fun q g1 g2 => by rw [uI_p (by omega), uI_p (by omega), uI_p (by omega), uI_p (by omega), uI_p (by omega)])) ?_ (by omega)
            · exact ((uI_k (by decide)).trans ((uI_k (by decide)).trans ((uI_k (by decide)).trans ((uI_k (by decide)).trans ((uI_k (by decide)).trans h16)))))
            · exact ((uI_k (by decide)).trans ((uI_k (by decide)).trans ((uI_k (by decide)).trans ((uI_k (by decide)).trans ((uI_k (by decide)).trans h17)))))
            · rw [hv1]; exact ((uI_k (by decide)).trans ((uI_k (by decide)).trans uI_s))
            · rw [hv2]; exact uI_s
            · exact ((uI_k (by decide)).trans ((uI_k (by decide)).trans ((uI_k (by decide)).trans ((uI_k (by decide)).trans ((uI_k (by decide)).trans h20)))))
        refine T_ald0 dX7_readTable_72 ?_
        refine T_getN dX7_readTable_73 lf_X7_114 rfl rfl h17 ?_
        refine T_iconst (v := nI 3) dX7_readTable_76 (by decide) ?_
        refine T_cltN (tgt := 90) dX7_readTable_77 (by decide) (by omega) (by omega) (fun h77 => by exfalso; omega) (fun h77 => ?_)
        refine T_ald0 dX7_readTable_80 ?_
        refine T_ild1 dX7_readTable_81 ?_
        refine T_bipush (v := nI 47) dX7_readTable_82 (by decide) ?_
        refine T_invV2i (M' := mX7_isSign) dX7_readTable_84 ml_X7_135 imX7_isSign rfl (Nat.le_of_ble_eq_true rfl) rfl (Nat.le_of_ble_eq_true rfl) rfl (Nat.le_of_ble_eq_true rfl) (c_X7_isSign_t hF (by omega) hR hs) ?_
        refine T_ifneB (tgt := 92) dX7_readTable_87 (by decide) (fun h87 => ?_) (fun h87 => by cases h87)
        refine T_ald0 dX7_readTable_92 ?_
        refine T_ald0 dX7_readTable_93 ?_
        refine T_ild1 dX7_readTable_94 ?_
        refine T_ald0 dX7_readTable_95 ?_
        refine T_getN dX7_readTable_96 lf_X7_114 rfl rfl ((uI_k (by decide)).trans h17) ?_
        refine T_iconst (v := nI 1) dX7_readTable_99 (by decide) ?_
        refine T_isubN dX7_readTable_100 (by omega) ?_
        refine T_invV2i (M' := mX7_digit) dX7_readTable_101 ml_X7_139 imX7_digit rfl (Nat.le_of_ble_eq_true rfl) rfl (Nat.le_of_ble_eq_true rfl) rfl (Nat.le_of_ble_eq_true rfl) (c_X7_digit_s hF (by omega) hR.adv1 (show g ≤ 10 by omega) (show g = g - 1 + 1 by omega) hd1) ?_
        refine T_putI dX7_readTable_104 lf_X7_117 rfl rfl rfl rfl ?_
        refine T_ald0 dX7_readTable_107 ?_
        refine T_getN dX7_readTable_108 lf_X7_117 rfl rfl uI_s ?_
        refine T_bipush (v := -9) dX7_readTable_111 (by decide) ?_
        refine T_cne (tgt := 118) dX7_readTable_113 (by decide) (fun h113 => ?_) (fun h113 => by exact absurd h113 (nI_m9 (by omega)))
        refine T_ald0 dX7_readTable_118 ?_
        refine T_getN dX7_readTable_119 lf_X7_84 rfl rfl (((hR.adv1).adv1).fld (by decide)).1 ?_
        refine T_ild1 dX7_readTable_122 ?_
        refine T_cgeN (tgt := 147) dX7_readTable_123 (by decide) (by omega) (by omega) (fun h123 => ?_) (fun h123 => ?_)
        · first
            | (exact k147 (fun q => absurd q (by omega)))
            | (exact k147 (fun _ => h142))
            | fail "leaf"
        · refine T_ald0 dX7_readTable_126 ?_
          refine T_getR (q := 40) dX7_readTable_127 lf_X7_16 rfl rfl rfl ?_
          refine T_ald0 dX7_readTable_130 ?_
          refine T_getN dX7_readTable_131 lf_X7_84 rfl rfl (((hR.adv1).adv1).fld (by decide)).1 ?_
          refine T_ialdV dX7_readTable_134 rfl (by show _ < 240; omega) ((((hR.adv1).adv1).fld (by decide)).2 _ (by omega)) ?_
          refine T_bipush (v := nI 48) dX7_readTable_135 (by decide) ?_
          refine T_ald0 dX7_readTable_137 ?_
          refine T_getN dX7_readTable_138 lf_X7_117 rfl rfl uI_s ?_
          refine T_iaddN dX7_readTable_141 ?_
          refine T_cne (tgt := 147) dX7_readTable_142 (by decide) (fun h142 => ?_) (fun h142 => ?_)
          · first
              | (exact k147 (fun q => absurd q (by omega)))
              | (exact k147 (fun _ => h142))
              | fail "leaf"
          · refine T_iconst (v := bI false) dX7_readTable_145 (by decide) ?_
            refine T_bretB dX7_readTable_146 rfl ?_
            have hd2 : dgt n co (2 + 4 * g + 2) g = some v1 := dgt_i (by omega) (by omega) ht2.2.1 (by rw [show co (2 + 4 * g + 2) = nI (48 + v1) from h142, pk_sub (by omega)]; exact congrArg nI (by omega))
            have hps := psr_d hX hgt (hb2 (by unfold dgb; rw [hd2]; exact if_pos rfl)) (by decide)
            exact ⟨_, rfl, FT_7 (FT_7 (FT_7 hT (by decide) (by decide)) (by decide) (by decide)) (by decide) (by decide), by rw [hps], fun q => (by rw [hps] at q; cases q), fun _ => (by rw [hps]; dsimp only; exact ((uI_k (by decide)).trans (uI_s.trans (congrArg nI (by omega)))))⟩
  · have h8' : g < 8 := by omega
    have hp : pGf n co (2 + 4 * g) = 0 := if_pos (hnc h8')
    have hps : psr n co = (false, 2 + 4 * g, 0, 0) := by
      refine psr_c hX ?_
      rw [hgg, gph_at h8', if_neg (fun q => h3 q.1), if_neg (by rw [hp]; decide), hp]; rfl
    refine T_ald0 dX7_readTable_72 ?_
    refine T_getN dX7_readTable_73 lf_X7_114 rfl rfl h17 ?_
    refine T_iconst (v := nI 3) dX7_readTable_76 (by decide) ?_
    refine T_cltN (tgt := 90) dX7_readTable_77 (by decide) (by omega) (by omega) (fun h77 => ?_) (fun h77 => by exfalso; omega)
    refine T_iconst (v := bI false) dX7_readTable_90 (by decide) ?_
    refine T_bretB dX7_readTable_91 rfl ?_
    exact ⟨_, rfl, hT, by rw [hps], fun q => (by rw [hps] at q; cases q), fun _ => (by rw [hps]; dsimp only; exact hR.1)⟩
set_option maxRecDepth 20000 in
theorem c_rT43 {S : Nat → Nat → Int32} {L : Nat → Nat → Int64} {R : Nat × Nat × Nat} {d : Nat} {F n : Nat} {co : Nat → Int32} (hF : F + n ≤ 240) (hX : TX n co) {S1 : Nat → Nat → Int32} (hT : FT S S1) (hR : RM S1 F n 2 co) (h16 : S1 37 16 = nI (dv n co 1 4)) (h17 : S1 37 17 = nI 0) (h20 : S1 37 20 = nI 0) (hn : 2 ≤ n) : TT mX7_readTable (d + 3) 43 [some (.ref 37), some (.int (nI (F + n)))] [] (S1, L, R) (fun r σ' => ∃ S', σ' = (S', L, R) ∧ FT S S' ∧ r = some (.int (bI (psr n co).1)) ∧ ((psr n co).1 = true → RT S' n co (psr n co).2.2.1 (psr n co).2.2.2) ∧ ((psr n co).1 = false → S' 37 15 = nI (F + (psr n co).2.1))) := by
  refine up_ind (P := fun i => ∀ S2, FT S S2 → RM S2 F n (2 + 4 * i) co → S2 37 16 = nI (dv n co 1 4) → S2 37 17 = nI i → MG S2 n co i → S2 37 20 = nI 0 → 2 + 4 * i ≤ n → gph n co 8 = gph n co (8 - i) → TT mX7_readTable (d + 3) 43 [some (.ref 37), some (.int (nI (F + n)))] [] (S2, L, R) (fun r σ' => ∃ S', σ' = (S', L, R) ∧ FT S S' ∧ r = some (.int (bI (psr n co).1)) ∧ ((psr n co).1 = true → RT S' n co (psr n co).2.2.1 (psr n co).2.2.2) ∧ ((psr n co).1 = false → S' 37 15 = nI (F + (psr n co).2.1)))) 8 ?_ ?_ S1 hT hR h16 h17 (fun k hk => absurd hk (Nat.not_lt_zero k)) h20 hn rfl
  · intro S2 hT hR h16 h17 hG h20 hn hgg
    refine T_ald0 dX7_readTable_43 ?_
    refine T_getN dX7_readTable_44 lf_X7_114 rfl rfl h17 ?_
    refine T_bipush (v := nI 8) dX7_readTable_47 (by decide) ?_
    refine T_cgeN (tgt := 72) dX7_readTable_49 (by decide) (by omega) (by omega) (fun h49 => ?_) (fun h49 => by exfalso; omega)
    exact c_rT72 hF hX hgg (by decide) (fun q => absurd q (by decide)) hT hR h16 h17 hG h20 hn
  · intro i hi ih S2 hT hR h16 h17 hG h20 hn hgg
    cases hs : sg n co (2 + 4 * i) (nI 44) with
    | false =>
      refine T_ald0 dX7_readTable_43 ?_
      refine T_getN dX7_readTable_44 lf_X7_114 rfl rfl h17 ?_
      refine T_bipush (v := nI 8) dX7_readTable_47 (by decide) ?_
      refine T_cgeN (tgt := 72) dX7_readTable_49 (by decide) (by omega) (by omega) (fun h49 => by exfalso; omega) (fun h49 => ?_)
      refine T_ald0 dX7_readTable_52 ?_
      refine T_ild1 dX7_readTable_53 ?_
      refine T_bipush (v := nI 44) dX7_readTable_54 (by decide) ?_
      refine T_invV2i (M' := mX7_isSign) dX7_readTable_56 ml_X7_135 imX7_isSign rfl (Nat.le_of_ble_eq_true rfl) rfl (Nat.le_of_ble_eq_true rfl) rfl (Nat.le_of_ble_eq_true rfl) (c_X7_isSign_f hF (by omega) hR hs) ?_
      refine T_ifeqB (tgt := 72) dX7_readTable_59 (by decide) (fun h59 => ?_) (fun h59 => by cases h59)
      exact c_rT72 hF hX hgg (by omega) (fun _ => hs) hT hR h16 h17 hG h20 hn
    | true =>
      refine T_ald0 dX7_readTable_43 ?_
      refine T_getN dX7_readTable_44 lf_X7_114 rfl rfl h17 ?_
      refine T_bipush (v := nI 8) dX7_readTable_47 (by decide) ?_
      refine T_cgeN (tgt := 72) dX7_readTable_49 (by decide) (by omega) (by omega) (fun h49 => by exfalso; omega) (fun h49 => ?_)
      refine T_ald0 dX7_readTable_52 ?_
      refine T_ild1 dX7_readTable_53 ?_
      refine T_bipush (v := nI 44) dX7_readTable_54 (by decide) ?_
      refine T_invV2i (M' := mX7_isSign) dX7_readTable_56 ml_X7_135 imX7_isSign rfl (Nat.le_of_ble_eq_true rfl) rfl (Nat.le_of_ble_eq_true rfl) rfl (Nat.le_of_ble_eq_true rfl) (c_X7_isSign_t hF (by omega) hR hs) ?_
      refine T_ifeqB (tgt := 72) dX7_readTable_59 (by decide) (fun h59 => by cases h59) (fun h59 => ?_)
      refine T_ald0 dX7_readTable_62 ?_
      refine T_ild1 dX7_readTable_63 ?_
      refine T_invV1 (M' := mX7_readGuest) dX7_readTable_64 ml_X7_143 imX7_readGuest rfl (Nat.le_of_ble_eq_true rfl) rfl (Nat.le_of_ble_eq_true rfl) rfl (Nat.le_of_ble_eq_true rfl) (c_X7_readGuest hF hR.adv1 hi ((uI_k (by decide)).trans h17) hs) (fun r σ' hq => ?_)
      obtain ⟨S3, rfl, o, rfl, p3, p4⟩ := hq
      have hT3 : FT S S3 := FT_OF (FT_7 hT (by decide) (by decide)) o (by simp)
      have e37 : ∀ k, k ≠ 15 → k ≠ 17 → S3 37 k = S2 37 k := fun k k1 k2 => (o 37 k (by simp [k1, k2])).trans (uI_k k1)
      refine T_ifneB (tgt := 43) dX7_readTable_67 (by decide) (fun h67 => ?_) (fun h67 => ?_)
      · have p3' := of_decide_eq_true h67
        rw [p3'] at p3
        obtain ⟨q1, q2, q3, q4⟩ := p4 p3'
        have hR3 : RM S3 F n (2 + 4 * (i + 1)) co := (hR.adv1).of o (by simp) (p3.trans (congrArg nI (by omega)))
        refine ih S3 hT3 hR3 ((e37 16 (by decide) (by decide)).trans h16) q1 (fun k hk => ?_) ((e37 20 (by decide) (by decide)).trans h20) (by have := pGf_lt p3'; omega) ?_
        · by_cases e : k = i
          · subst e; exact ⟨q2, q3, q4⟩
          · have := hG k (by omega)
            exact ⟨(o 46 k (by simp [e])).trans ((congrFun (uI_p (by decide)) k).trans this.1), (o 47 k (by simp [e])).trans ((congrFun (uI_p (by decide)) k).trans this.2.1), (o 48 k (by simp [e])).trans ((congrFun (uI_p (by decide)) k).trans this.2.2)⟩
        · rw [hgg, gph_at hi, if_neg (by rw [sg_2 hs]; simp), if_pos p3']
      · refine T_iconst (v := bI false) dX7_readTable_70 (by decide) ?_
        refine T_bretB dX7_readTable_71 rfl ?_
        have hps := psr_c hX (show gph n co 8 = (false, 2 + 4 * i + pGf n co (2 + 4 * i)) by rw [hgg, gph_at hi, if_neg (by rw [sg_2 hs]; simp), if_neg (of_decide_eq_false h67)])
        exact ⟨_, rfl, hT3, by rw [hps], fun q => (by rw [hps] at q; cases q), fun _ => (by rw [hps]; dsimp only; exact p3)⟩
set_option maxRecDepth 20000 in
theorem c_X7_readTable {S : Nat → Nat → Int32} {L : Nat → Nat → Int64} {R : Nat × Nat × Nat} {d : Nat} {F n : Nat} {co : Nat → Int32} (hF : F + n ≤ 240) (hR : RM S F n 0 co) : TT mX7_readTable (d + 3) 0 [some (.ref 37), some (.int (nI (F + n)))] [] (S, L, R) (fun r σ' => ∃ S', σ' = (S', L, R) ∧ FT S S' ∧ r = some (.int (bI (psr n co).1)) ∧ ((psr n co).1 = true → RT S' n co (psr n co).2.2.1 (psr n co).2.2.2) ∧ ((psr n co).1 = false → S' 37 15 = nI (F + (psr n co).2.1))) := by
  cases hs : sg n co 0 (nI 116) with
  | false =>
    have hps := psr_a hs
    refine T_ald0 dX7_readTable_0 ?_
    refine T_iconst (v := nI 0) dX7_readTable_1 (by decide) ?_
    refine T_putI dX7_readTable_2 lf_X7_114 rfl rfl rfl rfl ?_
    refine T_ald0 dX7_readTable_5 ?_
    refine T_iconst (v := nI 0) dX7_readTable_6 (by decide) ?_
    refine T_putI dX7_readTable_7 lf_X7_129 rfl rfl rfl rfl ?_
    refine T_ald0 dX7_readTable_10 ?_
    refine T_ild1 dX7_readTable_11 ?_
    refine T_bipush (v := nI 116) dX7_readTable_12 (by decide) ?_
    refine T_invV2i (M' := mX7_isSign) dX7_readTable_14 ml_X7_135 imX7_isSign rfl (Nat.le_of_ble_eq_true rfl) rfl (Nat.le_of_ble_eq_true rfl) rfl (Nat.le_of_ble_eq_true rfl) (c_X7_isSign_f hF (by omega) ((hR.fld (by decide)).fld (by decide)) hs) ?_
    refine T_ifneB (tgt := 22) dX7_readTable_17 (by decide) (fun h17 => by cases h17) (fun h17 => ?_)
    refine T_iconst (v := bI false) dX7_readTable_20 (by decide) ?_
    refine T_bretB dX7_readTable_21 rfl ?_
    exact ⟨_, rfl, FT_7 (FT_7 FT_r (by decide) (by decide)) (by decide) (by decide), by rw [hps], fun q => (by rw [hps] at q; cases q), fun _ => (by rw [hps]; dsimp only; exact ((hR.fld (by decide)).fld (by decide)).1)⟩
  | true =>
    have ht1 := sg_lt hs
    cases hd : dgt n co 1 4 with
    | none =>
      have hps := psr_b hs hd
      refine T_ald0 dX7_readTable_0 ?_
      refine T_iconst (v := nI 0) dX7_readTable_1 (by decide) ?_
      refine T_putI dX7_readTable_2 lf_X7_114 rfl rfl rfl rfl ?_
      refine T_ald0 dX7_readTable_5 ?_
      refine T_iconst (v := nI 0) dX7_readTable_6 (by decide) ?_
      refine T_putI dX7_readTable_7 lf_X7_129 rfl rfl rfl rfl ?_
      refine T_ald0 dX7_readTable_10 ?_
      refine T_ild1 dX7_readTable_11 ?_
      refine T_bipush (v := nI 116) dX7_readTable_12 (by decide) ?_
      refine T_invV2i (M' := mX7_isSign) dX7_readTable_14 ml_X7_135 imX7_isSign rfl (Nat.le_of_ble_eq_true rfl) rfl (Nat.le_of_ble_eq_true rfl) rfl (Nat.le_of_ble_eq_true rfl) (c_X7_isSign_t hF (by omega) ((hR.fld (by decide)).fld (by decide)) hs) ?_
      refine T_ifneB (tgt := 22) dX7_readTable_17 (by decide) (fun h17 => ?_) (fun h17 => by cases h17)
      refine T_ald0 dX7_readTable_22 ?_
      refine T_ald0 dX7_readTable_23 ?_
      refine T_ild1 dX7_readTable_24 ?_
      refine T_iconst (v := nI 3) dX7_readTable_25 (by decide) ?_
      refine T_invV2i (M' := mX7_digit) dX7_readTable_26 ml_X7_139 imX7_digit rfl (Nat.le_of_ble_eq_true rfl) rfl (Nat.le_of_ble_eq_true rfl) rfl (Nat.le_of_ble_eq_true rfl) (c_X7_digit_n hF (by omega) ((hR.fld (by decide)).fld (by decide)).adv1 (by decide) (show 4 = 3 + 1 from rfl) hd) ?_
      refine T_putI dX7_readTable_29 lf_X7_108 rfl rfl rfl rfl ?_
      refine T_ald0 dX7_readTable_32 ?_
      refine T_getV dX7_readTable_33 lf_X7_108 rfl rfl uI_s ?_
      refine T_bipush (v := -9) dX7_readTable_36 (by decide) ?_
      refine T_cne (tgt := 43) dX7_readTable_38 (by decide) (fun h38 => by exact absurd rfl h38) (fun h38 => ?_)
      refine T_iconst (v := bI false) dX7_readTable_41 (by decide) ?_
      refine T_bretB dX7_readTable_42 rfl ?_
      exact ⟨_, rfl, FT_7 (FT_7 (FT_7 (FT_7 FT_r (by decide) (by decide)) (by decide) (by decide)) (by decide) (by decide)) (by decide) (by decide), by rw [hps], fun q => (by rw [hps] at q; cases q), fun _ => (by rw [hps]; dsimp only; exact ((((hR.fld (by decide)).fld (by decide)).adv1).fld (by decide)).1)⟩
    | some v =>
      have ht2 := dgt_some (by decide) hd
      refine T_ald0 dX7_readTable_0 ?_
      refine T_iconst (v := nI 0) dX7_readTable_1 (by decide) ?_
      refine T_putI dX7_readTable_2 lf_X7_114 rfl rfl rfl rfl ?_
      refine T_ald0 dX7_readTable_5 ?_
      refine T_iconst (v := nI 0) dX7_readTable_6 (by decide) ?_
      refine T_putI dX7_readTable_7 lf_X7_129 rfl rfl rfl rfl ?_
      refine T_ald0 dX7_readTable_10 ?_
      refine T_ild1 dX7_readTable_11 ?_
      refine T_bipush (v := nI 116) dX7_readTable_12 (by decide) ?_
      refine T_invV2i (M' := mX7_isSign) dX7_readTable_14 ml_X7_135 imX7_isSign rfl (Nat.le_of_ble_eq_true rfl) rfl (Nat.le_of_ble_eq_true rfl) rfl (Nat.le_of_ble_eq_true rfl) (c_X7_isSign_t hF (by omega) ((hR.fld (by decide)).fld (by decide)) hs) ?_
      refine T_ifneB (tgt := 22) dX7_readTable_17 (by decide) (fun h17 => ?_) (fun h17 => by cases h17)
      refine T_ald0 dX7_readTable_22 ?_
      refine T_ald0 dX7_readTable_23 ?_
      refine T_ild1 dX7_readTable_24 ?_
      refine T_iconst (v := nI 3) dX7_readTable_25 (by decide) ?_
      refine T_invV2i (M' := mX7_digit) dX7_readTable_26 ml_X7_139 imX7_digit rfl (Nat.le_of_ble_eq_true rfl) rfl (Nat.le_of_ble_eq_true rfl) rfl (Nat.le_of_ble_eq_true rfl) (c_X7_digit_s hF (by omega) ((hR.fld (by decide)).fld (by decide)).adv1 (by decide) (show 4 = 3 + 1 from rfl) hd) ?_
      refine T_putI dX7_readTable_29 lf_X7_108 rfl rfl rfl rfl ?_
      refine T_ald0 dX7_readTable_32 ?_
      refine T_getN dX7_readTable_33 lf_X7_108 rfl rfl uI_s ?_
      refine T_bipush (v := -9) dX7_readTable_36 (by decide) ?_
      refine T_cne (tgt := 43) dX7_readTable_38 (by decide) (fun h38 => ?_) (fun h38 => by exact absurd h38 (nI_m9 (by omega)))
      refine c_rT43 hF ⟨hs, by rw [hd]; exact fun h => nomatch h⟩ (FT_7 (FT_7 (FT_7 (FT_7 (FT_7 FT_r (by decide) (by decide)) (by decide) (by decide)) (by decide) (by decide)) (by decide) (by decide)) (by decide) (by decide)) (((((hR.fld (by decide)).fld (by decide)).adv1).adv1).fld (by decide)) ?_ ?_ ?_ (by omega)
      · rw [show dv n co 1 4 = v by unfold dv; rw [hd]; rfl]; exact uI_s
      · exact ((uI_k (by decide)).trans ((uI_k (by decide)).trans ((uI_k (by decide)).trans ((uI_k (by decide)).trans uI_s))))
      · exact ((uI_k (by decide)).trans ((uI_k (by decide)).trans ((uI_k (by decide)).trans uI_s)))
