/-! the reference: the game -/
def ph (g b : Nat) : Nat → Nat → Option Nat
  | 0, _ => some b
  | t + 1, q => match ph g b t (q / 4) with
    | none => none
    | some x => beh g x (q % 4)
theorem ph_n {g b t q : Nat} (h : ph g b t (q / 4) = none) : ph g b (t + 1) q = none := by unfold ph; rw [h]
theorem ph_s {g b t q x : Nat} (h : ph g b t (q / 4) = some x) : ph g b (t + 1) q = beh g x (q % 4) := by
  show (match ph g b t (q / 4) with | none => none | some x => beh g x (q % 4)) = _
  rw [h]
theorem ph_none {g b i : Nat} : ∀ k q, ph g b i (q / 4 ^ k) = none → ph g b (i + k) q = none
  | 0, q, h => by rw [Nat.pow_zero, Nat.div_one] at h; exact h
  | k + 1, q, h => by
    rw [Nat.pow_succ, Nat.mul_comm, ← Nat.div_div_eq_div_mul] at h
    exact ph_n (ph_none k (q / 4) h)
def okB (g b : Nat) : Prop := b < 64 ∧ b / 8 < g ∧ b % 8 < g ∧ b / 8 ≠ b % 8
theorem ph_ok {g b : Nat} (hg : g ≤ 8) (hb : okB g b) : ∀ t q x, ph g b t q = some x → okB g x
  | 0, q, x, h => by cases h; exact hb
  | t + 1, q, x, h => by
    cases e : ph g b t (q / 4) with
    | none => rw [ph_n e] at h; cases h
    | some y =>
      rw [ph_s e] at h
      have hy := ph_ok hg hb t (q / 4) y e
      exact beh_some hg hy.2.1 hy.2.2.1 h
def bo (f : Nat → Option Int) : Nat → Option Int
  | 0 => none
  | k + 1 => match f k, bo f k with
    | none, o => o
    | some m, none => some m
    | some m, some y => if y < m then some m else some y
def bi (f : Nat → Option Int) : Nat → Nat
  | 0 => 0
  | k + 1 => match f k, bo f k with
    | none, _ => bi f k
    | some _, none => k
    | some m, some y => if y < m then k else bi f k
def gd (o : Option Int) : Int := match o with
  | none => -1000
  | some m => m
theorem bo_n {f : Nat → Option Int} {k : Nat} (h : f k = none) : bo f (k + 1) = bo f k ∧ bi f (k + 1) = bi f k := by
  constructor
  · show (match f k, bo f k with | none, o => o | some m, none => some m | some m, some y => if y < m then some m else some y) = _
    rw [h]
  · show (match f k, bo f k with | none, _ => bi f k | some _, none => k | some m, some y => if y < m then k else bi f k) = _
    rw [h]
theorem bo_f {f : Nat → Option Int} {k : Nat} {m : Int} (h : f k = some m) (h2 : bo f k = none) : bo f (k + 1) = some m ∧ bi f (k + 1) = k := by
  constructor
  · show (match f k, bo f k with | none, o => o | some m, none => some m | some m, some y => if y < m then some m else some y) = _
    rw [h, h2]
  · show (match f k, bo f k with | none, _ => bi f k | some _, none => k | some m, some y => if y < m then k else bi f k) = _
    rw [h, h2]
theorem bo_t {f : Nat → Option Int} {k : Nat} {m y : Int} (h : f k = some m) (h2 : bo f k = some y) (h3 : y < m) : bo f (k + 1) = some m ∧ bi f (k + 1) = k := by
  constructor
  · show (match f k, bo f k with | none, o => o | some m, none => some m | some m, some y => if y < m then some m else some y) = _
    rw [h, h2]; exact if_pos h3
  · show (match f k, bo f k with | none, _ => bi f k | some _, none => k | some m, some y => if y < m then k else bi f k) = _
    rw [h, h2]; exact if_pos h3
theorem bo_k {f : Nat → Option Int} {k : Nat} {m y : Int} (h : f k = some m) (h2 : bo f k = some y) (h3 : ¬ y < m) : bo f (k + 1) = some y ∧ bi f (k + 1) = bi f k := by
  constructor
  · show (match f k, bo f k with | none, o => o | some m, none => some m | some m, some y => if y < m then some m else some y) = _
    rw [h, h2]; exact if_neg h3
  · show (match f k, bo f k with | none, _ => bi f k | some _, none => k | some m, some y => if y < m then k else bi f k) = _
    rw [h, h2]; exact if_neg h3
theorem bo_b {f : Nat → Option Int} (hf : ∀ r m, f r = some m → -60 ≤ m ∧ m ≤ 60) : ∀ k y, bo f k = some y → -60 ≤ y ∧ y ≤ 60
  | 0, y, h => by cases h
  | k + 1, y, h => by
    cases e : f k with
    | none => rw [(bo_n e).1] at h; exact bo_b hf k y h
    | some m =>
      cases e2 : bo f k with
      | none => rw [(bo_f e e2).1] at h; cases h; exact hf k _ e
      | some z =>
        by_cases q : z < m
        · rw [(bo_t e e2 q).1] at h; cases h; exact hf k _ e
        · rw [(bo_k e e2 q).1] at h; cases h; exact bo_b hf k _ e2
theorem bo_mxs {f : Nat → Option Int} {F : Nat → Int} (hF : ∀ r, F r = gd (f r)) (hf : ∀ r m, f r = some m → -60 ≤ m ∧ m ≤ 60) : ∀ k, mxs F k = gd (bo f k)
  | 0 => rfl
  | k + 1 => by
    have ih := bo_mxs hF hf k
    have e0 : mxs F (k + 1) = if mxs F k < F k then F k else mxs F k := rfl
    rw [e0, ih, hF k]
    cases e : f k with
    | none =>
      rw [(bo_n e).1]
      refine if_neg (fun q => ?_)
      cases e2 : bo f k with
      | none => rw [e2] at q; exact absurd q (by decide)
      | some z => rw [e2] at q; have := bo_b hf k z e2; have q2 : z < -1000 := q; omega
    | some m =>
      have hm := hf k m e
      cases e2 : bo f k with
      | none => rw [(bo_f e e2).1]; exact if_pos (show (-1000 : Int) < m by omega)
      | some z =>
        by_cases q : z < m
        · rw [(bo_t e e2 q).1]; exact if_pos q
        · rw [(bo_k e e2 q).1]; exact if_neg q
theorem bo_arx {f : Nat → Option Int} {F : Nat → Int} (hF : ∀ r, F r = gd (f r)) (hf : ∀ r m, f r = some m → -60 ≤ m ∧ m ≤ 60) : ∀ k, mxt F k = gd (bo f (k + 1)) ∧ (bo f (k + 1) ≠ none → arx F k = bi f (k + 1)) ∧ (bo f (k + 1) = none → arx F k = 0)
  | 0 => by
    have e0 : mxt F 0 = F 0 := rfl
    rw [e0, hF 0]
    cases e : f 0 with
    | none => rw [(bo_n e).1]; exact ⟨rfl, fun h => absurd rfl h, fun _ => rfl⟩
    | some m => rw [(bo_f e rfl).1, (bo_f e rfl).2]; exact ⟨rfl, fun _ => rfl, fun _ => rfl⟩
  | k + 1 => by
    obtain ⟨i1, i2, i3⟩ := bo_arx hF hf k
    have e0 : mxt F (k + 1) = if mxt F k < F (k + 1) then F (k + 1) else mxt F k := rfl
    have e9 : arx F (k + 1) = if mxt F k < F (k + 1) then k + 1 else arx F k := rfl
    rw [e0, e9, i1, hF (k + 1)]
    cases e : f (k + 1) with
    | none =>
      have hn : ¬ gd (bo f (k + 1)) < gd none := by
        cases e2 : bo f (k + 1) with
        | none => decide
        | some z => intro q; have := bo_b hf _ z e2; have q2 : z < -1000 := q; omega
      rw [(bo_n e).1, (bo_n e).2, if_neg hn, if_neg hn]
      exact ⟨rfl, i2, i3⟩
    | some m =>
      have hm := hf _ m e
      cases e2 : bo f (k + 1) with
      | none =>
        have hq : gd none < gd (some m) := show (-1000 : Int) < m by omega
        rw [(bo_f e e2).1, (bo_f e e2).2, if_pos hq, if_pos hq]; exact ⟨rfl, fun _ => rfl, fun h => by cases h⟩
      | some z =>
        by_cases q : z < m
        · have hq : gd (some z) < gd (some m) := q
          rw [(bo_t e e2 q).1, (bo_t e e2 q).2, if_pos hq, if_pos hq]; exact ⟨rfl, fun _ => rfl, fun h => by cases h⟩
        · have hq : ¬ gd (some z) < gd (some m) := q
          rw [(bo_k e e2 q).1, (bo_k e e2 q).2, if_neg hq, if_neg hq]; exact ⟨rfl, fun _ => i2 (by rw [e2]; intro h; cases h), fun h => by cases h⟩
/-- a value as the reference keeps it -/
def vI (mx : Bool) : Option Int → Int32
  | none => -9
  | some m => zI (100 + (if mx then m else -m))
theorem vI_neg (mx : Bool) (m : Int) : vI (!mx) (some m) = vI mx (some (-m)) := by
  cases mx
  · show zI (100 + m) = zI (100 + - -m); rw [Int.neg_neg]
  · rfl
theorem vI_9 {mx : Bool} {m : Int} (h : -60 ≤ m ∧ m ≤ 60) : ¬ vI mx (some m) = -9 := by
  intro e
  have e2 : zI (100 + (if mx then m else -m)) = zI (-9) := e
  cases mx
  · have e3 : zI (100 + -m) = zI (-9) := e2
    have := (zI_eq (by omega) (by omega) (by omega) (by omega)).mp e3; omega
  · have e3 : zI (100 + m) = zI (-9) := e2
    have := (zI_eq (by omega) (by omega) (by omega) (by omega)).mp e3; omega
theorem vI_le {m y : Int} (h : -60 ≤ m ∧ m ≤ 60) (h2 : -60 ≤ y ∧ y ≤ 60) : vI true (some m) ≤ vI true (some y) ↔ m ≤ y := by
  show zI (100 + m) ≤ zI (100 + y) ↔ _
  rw [zI_le (by omega) (by omega) (by omega) (by omega)]; omega
theorem vI_ge {m y : Int} (h : -60 ≤ m ∧ m ≤ 60) (h2 : -60 ≤ y ∧ y ≤ 60) : vI false (some y) ≤ vI false (some m) ↔ m ≤ y := by
  show zI (100 + -y) ≤ zI (100 + -m) ↔ _
  rw [zI_le (by omega) (by omega) (by omega) (by omega)]; omega
theorem beh_ex {g b : Nat} (h3 : 3 ≤ g) (hb : okB g b) : ∃ r x, r < 4 ∧ beh g b r = some x := by
  obtain ⟨h1, h2, h4, h5⟩ := hb
  by_cases e : nb g (b / 8) 0 = b % 8
  · refine ⟨1, _, by decide, (if_pos (by decide)).trans (if_neg (fun q => ?_))⟩
    unfold nb at e q
    rw [if_pos (by decide)] at e
    rw [if_neg (by decide)] at q
    split at e <;> split at q <;> omega
  · exact ⟨0, _, by decide, (if_pos (by decide)).trans (if_neg e)⟩
/-- what stands behind each request, as its margin for who asks -/
def fM (a : Nat → Nat → Nat) (n c b r : Nat) : Option Int := match beh (a 0 0) b r with
  | none => none
  | some x => some (- GM a n (1 - c) x)
theorem fM_gd {a : Nat → Nat → Nat} {n c b : Nat} (r : Nat) : MB a n c b r = gd (fM a n c b r) := by
  unfold MB fM
  cases beh (a 0 0) b r <;> rfl
theorem bo_ex {f : Nat → Option Int} : ∀ k r m, r < k → f r = some m → bo f k ≠ none
  | 0, r, m, h, _ => absurd h (Nat.not_lt_zero r)
  | k + 1, r, m, h, e => by
    cases e1 : f k with
    | none =>
      rw [(bo_n e1).1]
      have : r ≠ k := fun q => by rw [q, e1] at e; cases e
      exact bo_ex k r m (by omega) e
    | some z =>
      cases e2 : bo f k with
      | none => rw [(bo_f e1 e2).1]; intro h; cases h
      | some y =>
        by_cases q : y < z
        · rw [(bo_t e1 e2 q).1]; intro h; cases h
        · rw [(bo_k e1 e2 q).1]; intro h; cases h
theorem GM_60 {a : Nat → Nat → Nat} (hW : WL a) : ∀ n c b, okB (a 0 0) b → (-60 ≤ GM a n c b ∧ GM a n c b ≤ 60) ∧ (∀ r m, fM a n c b r = some m → -60 ≤ m ∧ m ≤ 60) ∧ bo (fM a n c b) 4 = some (GM a (n + 1) c b)
  | 0, c, b, hb => by
    have l1 := fun c b => land_le (c := c) (b := b) hW
    have f1 : ∀ r m, fM a 0 c b r = some m → -60 ≤ m ∧ m ≤ 60 := by
      intro r m h
      unfold fM at h
      cases e : beh (a 0 0) b r with
      | none => rw [e] at h; cases h
      | some x =>
        rw [e] at h
        cases h
        have q1 := l1 (1 - c) x
        have q2 := l1 (1 - (1 - c)) x
        show -60 ≤ - ((land a (1 - c) x : Int) - (land a (1 - (1 - c)) x : Int)) ∧ _ ≤ (60 : Int)
        constructor
        · omega
        · show - ((land a (1 - c) x : Int) - (land a (1 - (1 - c)) x : Int)) ≤ 60
          omega
    refine ⟨?_, f1, ?_⟩
    · have q1 := l1 c b
      have q2 := l1 (1 - c) b
      show -60 ≤ (land a c b : Int) - (land a (1 - c) b : Int) ∧ (land a c b : Int) - (land a (1 - c) b : Int) ≤ 60
      omega
    · obtain ⟨r, x, hr, hx⟩ := beh_ex hW.1 hb
      have hne := bo_ex (f := fM a 0 c b) 4 r (- GM a 0 (1 - c) x) hr (by unfold fM; rw [hx])
      have hm := bo_mxs (F := MB a 0 c b) (f := fM a 0 c b) fM_gd f1 4
      cases e : bo (fM a 0 c b) 4 with
      | none => exact absurd e hne
      | some y => rw [e] at hm; rw [GM_s, hm]; rfl
  | n + 1, c, b, hb => by
    have ih := GM_60 hW n c b hb
    have f1 : ∀ r m, fM a (n + 1) c b r = some m → -60 ≤ m ∧ m ≤ 60 := by
      intro r m h
      unfold fM at h
      cases e : beh (a 0 0) b r with
      | none => rw [e] at h; cases h
      | some x =>
        rw [e] at h
        have hx := beh_some hW.2.1 hb.2.1 hb.2.2.1 e
        have q := GM_60 hW n (1 - c) x hx
        have q2 := bo_b q.2.1 4 _ q.2.2
        cases h
        omega
    refine ⟨bo_b ih.2.1 4 _ ih.2.2, f1, ?_⟩
    obtain ⟨r, x, hr, hx⟩ := beh_ex hW.1 hb
    have hne := bo_ex (f := fM a (n + 1) c b) 4 r (- GM a (n + 1) (1 - c) x) hr (by unfold fM; rw [hx])
    have hm := bo_mxs (F := MB a (n + 1) c b) (f := fM a (n + 1) c b) fM_gd f1 4
    cases e : bo (fM a (n + 1) c b) 4 with
    | none => exact absurd e hne
    | some y => rw [e] at hm; rw [GM_s, hm]; rfl
  termination_by n => n
set_option maxRecDepth 20000 in
theorem c_X7_behindRow {S : Nat → Nat → Int32} {L : Nat → Nat → Int64} {R : Nat × Nat × Nat} {d : Nat} {a : Nat → Nat → Nat} (hM : MV S a) (hW : WL a) {t row : Nat} (ht1 : 1 ≤ t) (ht : t ≤ 4) (hrow : row < 2 ^ 20) : TT mX7_behindRow (d + 2) 0 [some (.ref 37), some (.int (nI row)), some (.int (nI t)), none, none, none] [] (S, L, R) (rt (some (.int (oI (ph (a 0 0) (a 3 0) t row)))) (S, L, R)) := by
  obtain ⟨mg, mdn, mso, msa, mpe, mrn, mgu, mdi, mre⟩ := id hM
  obtain ⟨w3, w8, wd1, wd6, wso, wb, wbs, wbp, wne, wrn, wgu, wdi, wre⟩ := id hW
  refine T_iconst (v := nI 1) dX7_behindRow_0 (by decide) ?_
  refine T_ist3 dX7_behindRow_1 (by decide) rfl ?_
  refine T_iconst (v := nI 1) dX7_behindRow_2 (by decide) ?_
  refine T_ist4 dX7_behindRow_3 (by decide) rfl ?_
  skip
  refine up_ind (P := fun i => TT mX7_behindRow (d + 2) 5 [some (.ref 37), some (.int (nI row)), some (.int (nI t)), some (.int (nI (4 ^ i))), some (.int (nI (i + 1))), none] [] (S, L, R) (rt (some (.int (oI (ph (a 0 0) (a 3 0) t row)))) (S, L, R))) (t - 1) ?_ ?_
  · refine T_ild4 dX7_behindRow_5 ?_
    refine T_ild2 dX7_behindRow_7 ?_
    refine T_cgeN (tgt := 21) dX7_behindRow_8 (by decide) (by omega) (by omega) (fun h8 => ?_) (fun h8 => by exfalso; omega)
    refine T_ald0 dX7_behindRow_21 ?_
    refine T_invV0i (M' := mX7_stateNow) dX7_behindRow_22 ml_X7_171 imX7_stateNow rfl (Nat.le_of_ble_eq_true rfl) rfl (Nat.le_of_ble_eq_true rfl) rfl (Nat.le_of_ble_eq_true rfl) (c_X7_stateNow hM) ?_
    refine T_ist4 dX7_behindRow_25 (by decide) rfl ?_
    refine T_iconst (v := nI 0) dX7_behindRow_27 (by decide) ?_
    refine T_ist5 dX7_behindRow_28 (by decide) rfl ?_
    skip
    refine up_ind (P := fun i => ∀ D, D = 4 ^ (t - 1 - i) → TT mX7_behindRow (d + 2) 30 [some (.ref 37), some (.int (nI row)), some (.int (nI t)), some (.int (nI D)), some (.int (oI (ph (a 0 0) (a 3 0) i (row / 4 ^ (t - i))))), some (.int (nI i))] [] (S, L, R) (rt (some (.int (oI (ph (a 0 0) (a 3 0) t row)))) (S, L, R))) t ?_ ?_ _ rfl
    · intro D hD
      refine T_ild5 dX7_behindRow_30 ?_
      refine T_ild2 dX7_behindRow_32 ?_
      refine T_cgeN (tgt := 75) dX7_behindRow_33 (by decide) (by omega) (by omega) (fun h33 => ?_) (fun h33 => by exfalso; omega)
      refine T_ild4 dX7_behindRow_75 ?_
      refine T_iret dX7_behindRow_77 rfl ?_
      rw [Nat.sub_self, Nat.pow_zero, Nat.div_one]; exact rt_i
    · intro i hi ih D hD
      have hDp : 0 < D := by rw [hD]; exact Nat.pow_pos (by decide)
      have hDl : D ≤ 64 := by rw [hD]; exact (show 4 ^ (t - 1 - i) ≤ 4 ^ 3 from Nat.pow_le_pow_right (by decide) (by omega))
      cases e : ph (a 0 0) (a 3 0) i (row / 4 ^ (t - i)) with
      | none =>
        have hz : ph (a 0 0) (a 3 0) t row = none := by
          have := ph_none _ _ e
          rw [show i + (t - i) = t by omega] at this; exact this
        rw [hz]
        show TT mX7_behindRow (d + 2) 30 [some (.ref 37), some (.int (nI row)), some (.int (nI t)), some (.int (nI D)), some (.int (-9)), some (.int (nI i))] [] (S, L, R) (rt (some (.int (-9))) (S, L, R))
        refine T_ild5 dX7_behindRow_30 ?_
        refine T_ild2 dX7_behindRow_32 ?_
        refine T_cgeN (tgt := 75) dX7_behindRow_33 (by decide) (by omega) (by omega) (fun h33 => by exfalso; omega) (fun h33 => ?_)
        refine T_ild4 dX7_behindRow_36 ?_
        refine T_bipush (v := -9) dX7_behindRow_38 (by decide) ?_
        refine T_ceq (tgt := 75) dX7_behindRow_40 (by decide) (fun h40 => ?_) (fun h40 => by exact absurd rfl h40)
        refine T_ild4 dX7_behindRow_75 ?_
        refine T_iret dX7_behindRow_77 rfl ?_
        exact rt_i
      | some b' =>
        obtain ⟨o1, o2, o3, o4⟩ := ph_ok w8 ⟨wb, wbs, wbp, wne⟩ _ _ _ e
        have hd2 : row / D / 4 = row / 4 ^ (t - i) := by rw [hD, Nat.div_div_eq_div_mul, ← Nat.pow_succ, show (t - 1 - i).succ = t - i by omega]
        have hd3 : row / 4 ^ (t - (i + 1)) = row / D := by rw [hD, show t - 1 - i = t - (i + 1) by omega]
        have hdl : row / D ≤ row := Nat.div_le_self _ _
        have hnx : ph (a 0 0) (a 3 0) (i + 1) (row / 4 ^ (t - (i + 1))) = beh (a 0 0) b' (row / D % 4) := by
          rw [hd3]; exact ph_s (by rw [hd2]; exact e)
        rw [hnx] at ih
        show TT mX7_behindRow (d + 2) 30 [some (.ref 37), some (.int (nI row)), some (.int (nI t)), some (.int (nI D)), some (.int (nI b')), some (.int (nI i))] [] (S, L, R) (rt (some (.int (oI (ph (a 0 0) (a 3 0) t row)))) (S, L, R))
        refine T_ild5 dX7_behindRow_30 ?_
        refine T_ild2 dX7_behindRow_32 ?_
        refine T_cgeN (tgt := 75) dX7_behindRow_33 (by decide) (by omega) (by omega) (fun h33 => by exfalso; omega) (fun h33 => ?_)
        refine T_ild4 dX7_behindRow_36 ?_
        refine T_bipush (v := -9) dX7_behindRow_38 (by decide) ?_
        refine T_ceq (tgt := 75) dX7_behindRow_40 (by decide) (fun h40 => by exact absurd h40 (nI_m9 (by omega))) (fun h40 => ?_)
        refine T_ald0 dX7_behindRow_43 ?_
        refine T_ild4 dX7_behindRow_44 ?_
        refine T_ild1 dX7_behindRow_46 ?_
        refine T_ild3 dX7_behindRow_47 ?_
        refine T_idivN dX7_behindRow_48 (by omega) (by omega) (by omega) ?_
        refine T_iconst (v := nI 4) dX7_behindRow_49 (by decide) ?_
        refine T_iremN dX7_behindRow_50 (by omega) (by omega) (by omega) ?_
        refine T_invV2i (M' := mX7_behind) dX7_behindRow_51 ml_X7_175 imX7_behind rfl (Nat.le_of_ble_eq_true rfl) rfl (Nat.le_of_ble_eq_true rfl) rfl (Nat.le_of_ble_eq_true rfl) (c_X7_behind mg w8 o1 o2 o3 (by omega)) ?_
        refine T_ist4 dX7_behindRow_54 (by decide) rfl ?_
        refine T_ild3 dX7_behindRow_56 ?_
        refine T_iconst (v := nI 1) dX7_behindRow_57 (by decide) ?_
        refine T_cleN (tgt := 67) dX7_behindRow_58 (by decide) (by omega) (by omega) (fun h58 => ?_) (fun h58 => ?_)
        · refine T_iconst (v := nI 1) dX7_behindRow_67 (by decide) ?_
          refine T_ist3 dX7_behindRow_68 (by decide) rfl ?_
          refine T_inc5N dX7_behindRow_69 (by decide) rfl ?_
          refine T_goto (tgt := 30) dX7_behindRow_72 (by decide) ?_
          first
            | (exact ih _ (by rw [hD, show t - 1 - i = (t - 1 - (i + 1)) + 1 by (have : t - 1 - i ≠ 0 := fun q => by rw [q] at hD; simp at hD; omega); omega, Nat.pow_succ, Nat.mul_div_cancel _ (by decide)]))
            | (exact ih _ (by
                have : t - 1 - i = 0 := by
                  rcases Nat.eq_zero_or_pos (t - 1 - i) with q | q
                  · exact q
                  · have := Nat.pow_le_pow_right (n := 4) (by decide) q; rw [← hD] at this; omega
                rw [show t - 1 - (i + 1) = 0 by omega]))
        · refine T_ild3 dX7_behindRow_61 ?_
          refine T_iconst (v := nI 4) dX7_behindRow_62 (by decide) ?_
          refine T_idivN dX7_behindRow_63 (by omega) (by omega) (by omega) ?_
          refine T_goto (tgt := 68) dX7_behindRow_64 (by decide) ?_
          refine T_ist3 dX7_behindRow_68 (by decide) rfl ?_
          refine T_inc5N dX7_behindRow_69 (by decide) rfl ?_
          refine T_goto (tgt := 30) dX7_behindRow_72 (by decide) ?_
          first
            | (exact ih _ (by rw [hD, show t - 1 - i = (t - 1 - (i + 1)) + 1 by (have : t - 1 - i ≠ 0 := fun q => by rw [q] at hD; simp at hD; omega); omega, Nat.pow_succ, Nat.mul_div_cancel _ (by decide)]))
            | (exact ih _ (by
                have : t - 1 - i = 0 := by
                  rcases Nat.eq_zero_or_pos (t - 1 - i) with q | q
                  · exact q
                  · have := Nat.pow_le_pow_right (n := 4) (by decide) q; rw [← hD] at this; omega
                rw [show t - 1 - (i + 1) = 0 by omega]))
  · intro i hi ih
    rw [Nat.pow_succ] at ih
    refine T_ild4 dX7_behindRow_5 ?_
    refine T_ild2 dX7_behindRow_7 ?_
    refine T_cgeN (tgt := 21) dX7_behindRow_8 (by decide) (by omega) (by omega) (fun h8 => by exfalso; omega) (fun h8 => ?_)
    refine T_ild3 dX7_behindRow_11 ?_
    refine T_iconst (v := nI 4) dX7_behindRow_12 (by decide) ?_
    refine T_imulN dX7_behindRow_13 ?_
    refine T_ist3 dX7_behindRow_14 (by decide) rfl ?_
    refine T_inc4N dX7_behindRow_15 (by decide) rfl ?_
    refine T_goto (tgt := 5) dX7_behindRow_18 (by decide) ?_
    exact ih
set_option maxRecDepth 20000 in
theorem c_X7_bestOf {S : Nat → Nat → Int32} {L : Nat → Nat → Int64} {R : Nat × Nat × Nat} {d : Nat} {row : Nat} {mx : Bool} {f : Nat → Option Int} (hr : row < 64) (hv : ∀ r, r < 4 → S 52 (4 * row + r) = vI mx (f r)) (hf : ∀ r m, f r = some m → -60 ≤ m ∧ m ≤ 60) : TT mX7_bestOf (d + 0) 0 [some (.ref 37), some (.int (nI row)), some (.int (bI mx)), none, none, none] [] (S, L, R) (fun r σ' => ∃ y, σ' = (uI S 37 28 y, L, R) ∧ r = some (.int (vI mx (bo f 4))) ∧ (bo f 4 ≠ none → y = nI (bi f 4))) := by
  refine T_bipush (v := -9) dX7_bestOf_0 (by decide) ?_
  refine T_ist3 dX7_bestOf_2 (by decide) rfl ?_
  refine T_iconst (v := nI 0) dX7_bestOf_3 (by decide) ?_
  refine T_ist4 dX7_bestOf_4 (by decide) rfl ?_
  skip
  have key : ∀ y x5, (bo f 0 ≠ none → y = nI (bi f 0)) → TT mX7_bestOf (d + 0) 6 [some (.ref 37), some (.int (nI row)), some (.int (bI mx)), some (.int (vI mx (bo f 0))), some (.int (nI 0)), x5] [] (uI S 37 28 y, L, R) (fun r σ' => ∃ y, σ' = (uI S 37 28 y, L, R) ∧ r = some (.int (vI mx (bo f 4))) ∧ (bo f 4 ≠ none → y = nI (bi f 4))) := by
    refine up_ind (P := fun i => ∀ y x5, (bo f i ≠ none → y = nI (bi f i)) → TT mX7_bestOf (d + 0) 6 [some (.ref 37), some (.int (nI row)), some (.int (bI mx)), some (.int (vI mx (bo f i))), some (.int (nI i)), x5] [] (uI S 37 28 y, L, R) (fun r σ' => ∃ y, σ' = (uI S 37 28 y, L, R) ∧ r = some (.int (vI mx (bo f 4))) ∧ (bo f 4 ≠ none → y = nI (bi f 4)))) 4 ?_ ?_
    · intro y x5 hy
      refine T_ild4 dX7_bestOf_6 ?_
      refine T_iconst (v := nI 4) dX7_bestOf_8 (by decide) ?_
      refine T_cgeN (tgt := 72) dX7_bestOf_9 (by decide) (by omega) (by omega) (fun h9 => ?_) (fun h9 => by exfalso; omega)
      refine T_ild3 dX7_bestOf_72 ?_
      refine T_iret dX7_bestOf_73 rfl ?_
      exact ⟨y, rfl, rfl, hy⟩
    · intro i hi ih y x5 hy
      cases hf1 : f i with
      | none =>
        refine T_ild4 dX7_bestOf_6 ?_
        refine T_iconst (v := nI 4) dX7_bestOf_8 (by decide) ?_
        refine T_cgeN (tgt := 72) dX7_bestOf_9 (by decide) (by omega) (by omega) (fun h9 => by exfalso; omega) (fun h9 => ?_)
        refine T_ald0 dX7_bestOf_12 ?_
        refine T_getR (q := 52) dX7_bestOf_13 lf_X7_52 rfl rfl rfl ?_
        refine T_iconst (v := nI 4) dX7_bestOf_16 (by decide) ?_
        refine T_ild1 dX7_bestOf_17 ?_
        refine T_imulN dX7_bestOf_18 ?_
        refine T_ild4 dX7_bestOf_19 ?_
        refine T_iaddN dX7_bestOf_21 ?_
        refine T_ialdV dX7_bestOf_22 rfl (by show _ < 256; omega) ((congrFun (uI_p (by decide)) _).trans (hv i hi)) ?_
        rw [hf1]
        refine T_ist5 dX7_bestOf_23 (by decide) rfl ?_
        refine T_ild5 dX7_bestOf_25 ?_
        refine T_bipush (v := -9) dX7_bestOf_27 (by decide) ?_
        refine T_ceq (tgt := 66) dX7_bestOf_29 (by decide) (fun h29 => ?_) (fun h29 => by exact absurd rfl h29)
        refine T_inc4N dX7_bestOf_66 (by decide) rfl ?_
        refine T_goto (tgt := 6) dX7_bestOf_69 (by decide) ?_
        rw [(bo_n hf1).1, (bo_n hf1).2] at ih
        first | (exact ih _ _ (fun h => absurd rfl h)) | (exact ih _ _ (fun _ => rfl)) | (exact ih _ _ hy)
      | some m =>
        have hm := hf i m hf1
        cases hb1 : bo f i with
        | none =>
          rw [hb1] at hy
          refine T_ild4 dX7_bestOf_6 ?_
          refine T_iconst (v := nI 4) dX7_bestOf_8 (by decide) ?_
          refine T_cgeN (tgt := 72) dX7_bestOf_9 (by decide) (by omega) (by omega) (fun h9 => by exfalso; omega) (fun h9 => ?_)
          refine T_ald0 dX7_bestOf_12 ?_
          refine T_getR (q := 52) dX7_bestOf_13 lf_X7_52 rfl rfl rfl ?_
          refine T_iconst (v := nI 4) dX7_bestOf_16 (by decide) ?_
          refine T_ild1 dX7_bestOf_17 ?_
          refine T_imulN dX7_bestOf_18 ?_
          refine T_ild4 dX7_bestOf_19 ?_
          refine T_iaddN dX7_bestOf_21 ?_
          refine T_ialdV dX7_bestOf_22 rfl (by show _ < 256; omega) ((congrFun (uI_p (by decide)) _).trans (hv i hi)) ?_
          rw [hf1]
          refine T_ist5 dX7_bestOf_23 (by decide) rfl ?_
          refine T_ild5 dX7_bestOf_25 ?_
          refine T_bipush (v := -9) dX7_bestOf_27 (by decide) ?_
          refine T_ceq (tgt := 66) dX7_bestOf_29 (by decide) (fun h29 => by exact absurd h29 (vI_9 hm)) (fun h29 => ?_)
          refine T_ild3 dX7_bestOf_32 ?_
          refine T_bipush (v := -9) dX7_bestOf_33 (by decide) ?_
          refine T_ceq (tgt := 57) dX7_bestOf_35 (by decide) (fun h35 => ?_) (fun h35 => by exact absurd rfl h35)
          refine T_ild5 dX7_bestOf_57 ?_
          refine T_ist3 dX7_bestOf_59 (by decide) rfl ?_
          refine T_ald0 dX7_bestOf_60 ?_
          refine T_ild4 dX7_bestOf_61 ?_
          refine T_putI dX7_bestOf_63 lf_X7_211 rfl rfl rfl rfl ?_
          refine T_inc4N dX7_bestOf_66 (by decide) rfl ?_
          refine T_goto (tgt := 6) dX7_bestOf_69 (by decide) ?_
          rw [uI_uI]
          rw [(bo_f hf1 hb1).1, (bo_f hf1 hb1).2] at ih
          first | (exact ih _ _ (fun h => absurd rfl h)) | (exact ih _ _ (fun _ => rfl)) | (exact ih _ _ hy)
        | some z =>
          have hz := bo_b hf i z hb1
          rw [hb1] at hy
          cases mx with
          | true =>
            refine T_ild4 dX7_bestOf_6 ?_
            refine T_iconst (v := nI 4) dX7_bestOf_8 (by decide) ?_
            refine T_cgeN (tgt := 72) dX7_bestOf_9 (by decide) (by omega) (by omega) (fun h9 => by exfalso; omega) (fun h9 => ?_)
            refine T_ald0 dX7_bestOf_12 ?_
            refine T_getR (q := 52) dX7_bestOf_13 lf_X7_52 rfl rfl rfl ?_
            refine T_iconst (v := nI 4) dX7_bestOf_16 (by decide) ?_
            refine T_ild1 dX7_bestOf_17 ?_
            refine T_imulN dX7_bestOf_18 ?_
            refine T_ild4 dX7_bestOf_19 ?_
            refine T_iaddN dX7_bestOf_21 ?_
            refine T_ialdV dX7_bestOf_22 rfl (by show _ < 256; omega) ((congrFun (uI_p (by decide)) _).trans (hv i hi)) ?_
            rw [hf1]
            refine T_ist5 dX7_bestOf_23 (by decide) rfl ?_
            refine T_ild5 dX7_bestOf_25 ?_
            refine T_bipush (v := -9) dX7_bestOf_27 (by decide) ?_
            refine T_ceq (tgt := 66) dX7_bestOf_29 (by decide) (fun h29 => by exact absurd h29 (vI_9 hm)) (fun h29 => ?_)
            refine T_ild3 dX7_bestOf_32 ?_
            refine T_bipush (v := -9) dX7_bestOf_33 (by decide) ?_
            refine T_ceq (tgt := 57) dX7_bestOf_35 (by decide) (fun h35 => by exact absurd h35 (vI_9 hz)) (fun h35 => ?_)
            refine T_ild2 dX7_bestOf_38 ?_
            refine T_ifeqB (tgt := 51) dX7_bestOf_39 (by decide) (fun h39 => by cases h39) (fun h39 => ?_)
            refine T_ild5 dX7_bestOf_42 ?_
            refine T_ild3 dX7_bestOf_44 ?_
            refine T_cle (tgt := 66) dX7_bestOf_45 (by decide) (fun h45 => ?_) (fun h45 => ?_)
            · refine T_inc4N dX7_bestOf_66 (by decide) rfl ?_
              refine T_goto (tgt := 6) dX7_bestOf_69 (by decide) ?_
              first
              | (have q : ¬ z < m := by have := (vI_le hm hz).mp h45; omega
                 rw [(bo_k hf1 hb1 q).1, (bo_k hf1 hb1 q).2] at ih
                 first | (exact ih _ _ (fun h => absurd rfl h)) | (exact ih _ _ (fun _ => rfl)) | (exact ih _ _ hy))
              | (have q : z < m := Int.not_le.mp (fun h => h45 ((vI_le hm hz).mpr h))
                 rw [uI_uI]
                 rw [(bo_t hf1 hb1 q).1, (bo_t hf1 hb1 q).2] at ih
                 first | (exact ih _ _ (fun h => absurd rfl h)) | (exact ih _ _ (fun _ => rfl)) | (exact ih _ _ hy))
              | fail "leaf"
            · refine T_goto (tgt := 57) dX7_bestOf_48 (by decide) ?_
              refine T_ild5 dX7_bestOf_57 ?_
              refine T_ist3 dX7_bestOf_59 (by decide) rfl ?_
              refine T_ald0 dX7_bestOf_60 ?_
              refine T_ild4 dX7_bestOf_61 ?_
              refine T_putI dX7_bestOf_63 lf_X7_211 rfl rfl rfl rfl ?_
              refine T_inc4N dX7_bestOf_66 (by decide) rfl ?_
              refine T_goto (tgt := 6) dX7_bestOf_69 (by decide) ?_
              first
              | (have q : ¬ z < m := by have := (vI_le hm hz).mp h45; omega
                 rw [(bo_k hf1 hb1 q).1, (bo_k hf1 hb1 q).2] at ih
                 first | (exact ih _ _ (fun h => absurd rfl h)) | (exact ih _ _ (fun _ => rfl)) | (exact ih _ _ hy))
              | (have q : z < m := Int.not_le.mp (fun h => h45 ((vI_le hm hz).mpr h))
                 rw [uI_uI]
                 rw [(bo_t hf1 hb1 q).1, (bo_t hf1 hb1 q).2] at ih
                 first | (exact ih _ _ (fun h => absurd rfl h)) | (exact ih _ _ (fun _ => rfl)) | (exact ih _ _ hy))
              | fail "leaf"
          | false =>
            refine T_ild4 dX7_bestOf_6 ?_
            refine T_iconst (v := nI 4) dX7_bestOf_8 (by decide) ?_
            refine T_cgeN (tgt := 72) dX7_bestOf_9 (by decide) (by omega) (by omega) (fun h9 => by exfalso; omega) (fun h9 => ?_)
            refine T_ald0 dX7_bestOf_12 ?_
            refine T_getR (q := 52) dX7_bestOf_13 lf_X7_52 rfl rfl rfl ?_
            refine T_iconst (v := nI 4) dX7_bestOf_16 (by decide) ?_
            refine T_ild1 dX7_bestOf_17 ?_
            refine T_imulN dX7_bestOf_18 ?_
            refine T_ild4 dX7_bestOf_19 ?_
            refine T_iaddN dX7_bestOf_21 ?_
            refine T_ialdV dX7_bestOf_22 rfl (by show _ < 256; omega) ((congrFun (uI_p (by decide)) _).trans (hv i hi)) ?_
            rw [hf1]
            refine T_ist5 dX7_bestOf_23 (by decide) rfl ?_
            refine T_ild5 dX7_bestOf_25 ?_
            refine T_bipush (v := -9) dX7_bestOf_27 (by decide) ?_
            refine T_ceq (tgt := 66) dX7_bestOf_29 (by decide) (fun h29 => by exact absurd h29 (vI_9 hm)) (fun h29 => ?_)
            refine T_ild3 dX7_bestOf_32 ?_
            refine T_bipush (v := -9) dX7_bestOf_33 (by decide) ?_
            refine T_ceq (tgt := 57) dX7_bestOf_35 (by decide) (fun h35 => by exact absurd h35 (vI_9 hz)) (fun h35 => ?_)
            refine T_ild2 dX7_bestOf_38 ?_
            refine T_ifeqB (tgt := 51) dX7_bestOf_39 (by decide) (fun h39 => ?_) (fun h39 => by cases h39)
            refine T_ild5 dX7_bestOf_51 ?_
            refine T_ild3 dX7_bestOf_53 ?_
            refine T_cge (tgt := 66) dX7_bestOf_54 (by decide) (fun h54 => ?_) (fun h54 => ?_)
            · refine T_inc4N dX7_bestOf_66 (by decide) rfl ?_
              refine T_goto (tgt := 6) dX7_bestOf_69 (by decide) ?_
              first
              | (have q : ¬ z < m := by have := (vI_ge hm hz).mp h54; omega
                 rw [(bo_k hf1 hb1 q).1, (bo_k hf1 hb1 q).2] at ih
                 first | (exact ih _ _ (fun h => absurd rfl h)) | (exact ih _ _ (fun _ => rfl)) | (exact ih _ _ hy))
              | (have q : z < m := Int.not_le.mp (fun h => h54 ((vI_ge hm hz).mpr h))
                 rw [uI_uI]
                 rw [(bo_t hf1 hb1 q).1, (bo_t hf1 hb1 q).2] at ih
                 first | (exact ih _ _ (fun h => absurd rfl h)) | (exact ih _ _ (fun _ => rfl)) | (exact ih _ _ hy))
              | fail "leaf"
            · refine T_ild5 dX7_bestOf_57 ?_
              refine T_ist3 dX7_bestOf_59 (by decide) rfl ?_
              refine T_ald0 dX7_bestOf_60 ?_
              refine T_ild4 dX7_bestOf_61 ?_
              refine T_putI dX7_bestOf_63 lf_X7_211 rfl rfl rfl rfl ?_
              refine T_inc4N dX7_bestOf_66 (by decide) rfl ?_
              refine T_goto (tgt := 6) dX7_bestOf_69 (by decide) ?_
              first
              | (have q : ¬ z < m := by have := (vI_ge hm hz).mp h54; omega
                 rw [(bo_k hf1 hb1 q).1, (bo_k hf1 hb1 q).2] at ih
                 first | (exact ih _ _ (fun h => absurd rfl h)) | (exact ih _ _ (fun _ => rfl)) | (exact ih _ _ hy))
              | (have q : z < m := Int.not_le.mp (fun h => h54 ((vI_ge hm hz).mpr h))
                 rw [uI_uI]
                 rw [(bo_t hf1 hb1 q).1, (bo_t hf1 hb1 q).2] at ih
                 first | (exact ih _ _ (fun h => absurd rfl h)) | (exact ih _ _ (fun _ => rfl)) | (exact ih _ _ hy))
              | fail "leaf"
  have k2 := key (S 37 28) none (fun h => absurd rfl h)
  rw [uI_id rfl] at k2
  exact k2
