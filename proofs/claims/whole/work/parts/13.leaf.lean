/-! switches; leaves of the class: small static methods, Table's reads -/
section TSW
variable {M : MD} {d pc : Nat} {lo : List (Option Value)} {st : List Value} {σ : SG} {Q : Option Value → SG → Prop}
theorem T_sw {a len : Nat} {dflt b : Int} {offs : Array Int} {x : Int32} (tgs : List Nat) (dt : Nat) (hd : decode M.2.1 pc = .ok (.tableswitch dflt (a : Int) b offs, len)) (hb : b = a + tgs.length - 1) (hok : ∀ j, j < tgs.length → offs[j]? = some ((tgs.getD j 0 : Int) - pc)) (hdt : (pc : Int) + dflt = dt) (hsm : a + tgs.length < 100)
    (kc : ∀ j, j < tgs.length → x = nI (a + j) → TT M d (tgs.getD j 0) lo st σ Q) (ko : (∀ j, j < tgs.length → x ≠ nI (a + j)) → TT M d dt lo st σ Q) : TT M d pc lo (.int x :: st) σ Q := by
  by_cases h : x.toInt < a ∨ b < x.toInt
  · refine T_swOut hd h hdt (ko fun j hj e => ?_)
    rw [e, nI_toInt (by omega)] at h
    omega
  · have h1 : ¬ x.toInt < a := fun q => h (Or.inl q)
    have h2 : ¬ b < x.toInt := fun q => h (Or.inr q)
    have hx : ¬ x < 0 := by
      intro q
      have := Int32.lt_iff_toInt_lt.mp q
      have h0 : (0 : Int32).toInt = 0 := rfl
      omega
    obtain ⟨n, hn, e⟩ := nI_of hx
    have ht : x.toInt = n := by rw [e]; exact nI_toInt hn
    have hj : n - a < tgs.length := by omega
    refine T_swIn hd h1 h2 (off := (tgs.getD (n - a) 0 : Int) - pc) ?_ (by omega) (kc (n - a) hj (by rw [e]; congr 1; omega))
    rw [show (x.toInt - (a : Int)).toNat = n - a by omega]
    exact hok _ hj
theorem T_lk {len : Nat} {dflt : Int} {ps : Array (Int × Int)} {x : Int32} (tgs : List (Nat × Nat)) (dt : Nat) (hd : decode M.2.1 pc = .ok (.lookupswitch dflt ps, len)) (hp : (ps.toList.zip (ps.toList.drop 1)).all (fun (a, next) => a.1 < next.1) = true) (hps : ps.toList = tgs.map (fun q => ((q.1 : Int), (q.2 : Int) - pc))) (hdt : (pc : Int) + dflt = dt) (hsm : ∀ q ∈ tgs, q.1 < 100)
    (kc : ∀ j, j < tgs.length → x = nI (tgs.getD j (0, 0)).1 → TT M d (tgs.getD j (0, 0)).2 lo st σ Q) (ko : (∀ j, j < tgs.length → x ≠ nI (tgs.getD j (0, 0)).1) → TT M d dt lo st σ Q) : TT M d pc lo (.int x :: st) σ Q := by
  have key : ∀ (l : List (Nat × Nat)) (v : Int), (Op.lookupswitch.offset (l.map (fun q => ((q.1 : Int), (q.2 : Int) - pc))) dflt v = dflt ∧ ∀ j, j < l.length → ((l.getD j (0, 0)).1 : Int) ≠ v) ∨ ∃ j, j < l.length ∧ ((l.getD j (0, 0)).1 : Int) = v ∧ Op.lookupswitch.offset (l.map (fun q => ((q.1 : Int), (q.2 : Int) - pc))) dflt v = ((l.getD j (0, 0)).2 : Int) - pc := by
    intro l v
    induction l with
    | nil => left; exact ⟨rfl, fun j hj => absurd hj (Nat.not_lt_zero j)⟩
    | cons q t ih =>
      by_cases hq : (q.1 : Int) = v
      · right
        refine ⟨0, by simp, hq, ?_⟩
        simp [Op.lookupswitch.offset, hq]
      · rcases ih with ⟨h1, h2⟩ | ⟨j, h1, h2, h3⟩
        · left
          refine ⟨by simpa [Op.lookupswitch.offset, hq] using h1, fun j hj => ?_⟩
          match j, hj with
          | 0, _ => exact hq
          | j + 1, hj => exact h2 j (by simpa using hj)
        · right
          exact ⟨j + 1, by simpa using h1, h2, by simpa [Op.lookupswitch.offset, hq] using h3⟩
  have hmem : ∀ j, j < tgs.length → (tgs.getD j (0, 0)).1 < 100 := fun j hj => hsm _ (by rw [List.getD_eq_getElem?_getD, List.getElem?_eq_getElem hj]; exact List.getElem_mem hj)
  rcases key tgs x.toInt with ⟨h1, h2⟩ | ⟨j, h1, h2, h3⟩
  · refine T_look (off := dflt) hd hp (by rw [hps]; exact h1) hdt (ko fun j hj e => ?_)
    refine h2 j hj ?_
    rw [e, nI_toInt (by have := hmem j hj; omega)]
  · refine T_look (off := ((tgs.getD j (0, 0)).2 : Int) - pc) hd hp (by rw [hps]; exact h3) (by omega) (kc j h1 ?_)
    have := hmem j h1
    refine (Int32.toInt_inj).mp ?_
    rw [nI_toInt (by omega)]; omega
end TSW
def blw (x : Int32) (n : Nat) : Bool := decide (∃ j : Nat, j < n ∧ x = nI j)
theorem blw_t {x : Int32} {n : Nat} (h : blw x n = true) : ∃ j : Nat, j < n ∧ x = nI j := of_decide_eq_true h
theorem blw_n {j n : Nat} (h : j < n) : blw (nI j) n = true := decide_eq_true ⟨j, h, rfl⟩
theorem blw_f {x : Int32} {n j : Nat} (h : blw x n = false) (hj : j < n) : x ≠ nI j := fun e => of_decide_eq_false h ⟨j, hj, e⟩
def stp (g a b : Nat) : Nat := if a ≤ b then b - a else b + g - a
def who (g k s p : Nat) : Int32 := if k = s ∨ k = p then -9 else if stp g s k < stp g s p then 0 else 1
def sm (f : Nat → Nat) : Nat → Nat
  | 0 => 0
  | n + 1 => sm f n + f n
def minN (k m so : Nat) : Nat := if k = 2 then (m + so) / 2 else if k = 1 then m + so - 1 else m + so
def nb (g k r : Nat) : Nat := if r % 2 = 0 then (if k = 0 then g - 1 else k - 1) else (if k = g - 1 then 0 else k + 1)
def beh (g b r : Nat) : Option Nat := if r < 2 then (if nb g (b / 8) r = b % 8 then none else some (8 * nb g (b / 8) r + b % 8)) else (if b / 8 = nb g (b % 8) r then none else some (8 * (b / 8) + nb g (b % 8) r))
def isB (g b : Nat) : Bool := decide (b / 8 < g) && decide (b % 8 < g) && decide (b / 8 ≠ b % 8)
theorem sub_add_n {a b g : Nat} (h : a ≤ b + g) : nI b - nI a + nI g = nI (b + g - a) := by
  rw [← pk_sub h, ← nI_add]
  simp only [Int32.sub_eq_add_neg, Int32.add_assoc]
  rw [Int32.add_comm (-nI a) (nI g)]
theorem aunt_n : ∀ v, v < 100 → (if nI v - nI 1 < nI 0 then nI 0 else nI v - nI 1) = nI (v - 1) := by decide +kernel
set_option maxRecDepth 20000 in
theorem c_X6_isBelow {S : Nat → Nat → Int32} {L : Nat → Nat → Int64} {R : Nat × Nat × Nat} {d : Nat} {x : Int32} {n : Nat} (hn : n < 2 ^ 31) : TT mX6_isBelow (d + 0) 0 [some (.int x), some (.int (nI n))] [] (S, L, R) (rt (some (.int (bI (blw x n)))) (S, L, R)) := by
  refine T_ild0 dX6_isBelow_0 ?_
  refine T_iflt (tgt := 13) dX6_isBelow_1 (by decide) (fun h => ?_) (fun h => ?_)
  · refine T_iconst (v := bI false) dX6_isBelow_13 (by decide) ?_
    refine T_bretB dX6_isBelow_14 rfl ?_
    rw [show blw x n = false from decide_eq_false (fun ⟨j, h1, h2⟩ => by rw [h2] at h; exact nI_pos (by omega) h)]
    exact rt_i
  · obtain ⟨j, hj, rfl⟩ := nI_of h
    refine T_ild0 dX6_isBelow_4 ?_
    refine T_ild1 dX6_isBelow_5 ?_
    refine T_cgeN (tgt := 13) dX6_isBelow_6 (by decide) hj hn (fun h6 => ?_) (fun h6 => ?_)
    · refine T_iconst (v := bI false) dX6_isBelow_13 (by decide) ?_
      refine T_bretB dX6_isBelow_14 rfl ?_
      rw [show blw (nI j) n = false from decide_eq_false (fun ⟨i, h1, h2⟩ => by have := nI_inj hj (by omega) h2; omega)]
      exact rt_i
    · refine T_iconst (v := bI true) dX6_isBelow_9 (by decide) ?_
      refine T_goto (tgt := 14) dX6_isBelow_10 (by decide) ?_
      refine T_bretB dX6_isBelow_14 rfl ?_
      rw [show blw (nI j) n = true from decide_eq_true ⟨j, h6, rfl⟩]
      exact rt_i
set_option maxRecDepth 20000 in
theorem c_X6_isSheet {S : Nat → Nat → Int32} {L : Nat → Nat → Int64} {R : Nat × Nat × Nat} {d : Nat} {x : Int32} : TT mX6_isSheet (d + 1) 0 [some (.int x)] [] (S, L, R) (rt (some (.int (bI (blw x 4)))) (S, L, R)) := by
  refine T_ild0 dX6_isSheet_0 ?_
  refine T_iconst (v := nI 4) dX6_isSheet_1 (by decide) ?_
  refine T_invS2i (M' := mX6_isBelow) dX6_isSheet_2 ml_X6_64 imX6_isBelow (Nat.le_of_ble_eq_true rfl) rfl (Nat.le_of_ble_eq_true rfl) (c_X6_isBelow (by omega)) ?_
  refine T_bretB dX6_isSheet_5 rfl ?_
  exact rt_i
set_option maxRecDepth 20000 in
theorem c_X6_borderOf {S : Nat → Nat → Int32} {L : Nat → Nat → Int64} {R : Nat × Nat × Nat} {d : Nat} {a b : Nat} : TT mX6_borderOf (d + 0) 0 [some (.int (nI a)), some (.int (nI b))] [] (S, L, R) (rt (some (.int (nI (8 * a + b)))) (S, L, R)) := by
  refine T_ild0 dX6_borderOf_0 ?_
  refine T_bipush (v := nI 8) dX6_borderOf_1 (by decide) ?_
  refine T_imulN dX6_borderOf_3 ?_
  refine T_ild1 dX6_borderOf_4 ?_
  refine T_iaddN dX6_borderOf_5 ?_
  refine T_iret dX6_borderOf_6 rfl ?_
  rw [Nat.mul_comm a 8]; exact rt_i
set_option maxRecDepth 20000 in
theorem c_X6_saltOf {S : Nat → Nat → Int32} {L : Nat → Nat → Int64} {R : Nat × Nat × Nat} {d : Nat} {b : Nat} (hb : b < 64) : TT mX6_saltOf (d + 0) 0 [some (.int (nI b))] [] (S, L, R) (rt (some (.int (nI (b / 8)))) (S, L, R)) := by
  refine T_ild0 dX6_saltOf_0 ?_
  refine T_bipush (v := nI 8) dX6_saltOf_1 (by decide) ?_
  refine T_idivN dX6_saltOf_3 (by omega) (by omega) (by omega) ?_
  refine T_iret dX6_saltOf_4 rfl ?_
  exact rt_i
set_option maxRecDepth 20000 in
theorem c_X6_pepperOf {S : Nat → Nat → Int32} {L : Nat → Nat → Int64} {R : Nat × Nat × Nat} {d : Nat} {b : Nat} (hb : b < 64) : TT mX6_pepperOf (d + 0) 0 [some (.int (nI b))] [] (S, L, R) (rt (some (.int (nI (b % 8)))) (S, L, R)) := by
  refine T_ild0 dX6_pepperOf_0 ?_
  refine T_bipush (v := nI 8) dX6_pepperOf_1 (by decide) ?_
  refine T_iremN dX6_pepperOf_3 (by omega) (by omega) (by omega) ?_
  refine T_iret dX6_pepperOf_4 rfl ?_
  exact rt_i
set_option maxRecDepth 20000 in
theorem c_X6_standsAt {S : Nat → Nat → Int32} {L : Nat → Nat → Int64} {R : Nat × Nat × Nat} {d : Nat} {b r : Nat} (hb : b < 64) (hr : r < 4) : TT mX6_standsAt (d + 1) 0 [some (.int (nI b)), some (.int (nI r))] [] (S, L, R) (rt (some (.int (nI (if r < 2 then b / 8 else b % 8)))) (S, L, R)) := by
  refine T_ild1 dX6_standsAt_0 ?_
  refine T_iconst (v := nI 2) dX6_standsAt_1 (by decide) ?_
  refine T_cgeN (tgt := 12) dX6_standsAt_2 (by decide) (by omega) (by omega) (fun h2 => ?_) (fun h2 => ?_)
  · refine T_ild0 dX6_standsAt_12 ?_
    refine T_invS1i (M' := mX6_pepperOf) dX6_standsAt_13 ml_X6_164 imX6_pepperOf (Nat.le_of_ble_eq_true rfl) rfl (Nat.le_of_ble_eq_true rfl) (c_X6_pepperOf (by omega)) ?_
    refine T_iret dX6_standsAt_16 rfl ?_
    first | (rw [if_pos (by omega)]; exact rt_i) | (rw [if_neg (by omega)]; exact rt_i)
  · refine T_ild0 dX6_standsAt_5 ?_
    refine T_invS1i (M' := mX6_saltOf) dX6_standsAt_6 ml_X6_161 imX6_saltOf (Nat.le_of_ble_eq_true rfl) rfl (Nat.le_of_ble_eq_true rfl) (c_X6_saltOf (by omega)) ?_
    refine T_goto (tgt := 16) dX6_standsAt_9 (by decide) ?_
    refine T_iret dX6_standsAt_16 rfl ?_
    first | (rw [if_pos (by omega)]; exact rt_i) | (rw [if_neg (by omega)]; exact rt_i)
set_option maxRecDepth 20000 in
theorem c_X4_isLaid {S : Nat → Nat → Int32} {L : Nat → Nat → Int64} {R : Nat × Nat × Nat} {d : Nat} {T : Nat} (hT : T = 19 ∨ T = 28) {g : Nat} (hg : S T 8 = nI g) (hg8 : g ≤ 8) : TT mX4_isLaid (d + 0) 0 [some (.ref T)] [] (S, L, R) (rt (some (.int (bI (decide (0 < g))))) (S, L, R)) := by
  refine T_ald0 dX4_isLaid_0 ?_
  refine T_getN dX4_isLaid_1 lf_X4_36 (kT hT) rfl hg ?_
  refine T_ifleN (tgt := 11) dX4_isLaid_4 (by decide) (by omega) (fun h4 => ?_) (fun h4 => ?_)
  · refine T_iconst (v := bI false) dX4_isLaid_11 (by decide) ?_
    refine T_bretB dX4_isLaid_12 rfl ?_
    first | (rw [decide_eq_true (by omega : 0 < g)]; exact rt_i) | (rw [decide_eq_false (by omega : ¬ 0 < g)]; exact rt_i)
  · refine T_iconst (v := bI true) dX4_isLaid_7 (by decide) ?_
    refine T_goto (tgt := 12) dX4_isLaid_8 (by decide) ?_
    refine T_bretB dX4_isLaid_12 rfl ?_
    first | (rw [decide_eq_true (by omega : 0 < g)]; exact rt_i) | (rw [decide_eq_false (by omega : ¬ 0 < g)]; exact rt_i)
set_option maxRecDepth 20000 in
theorem c_X4_stepsBehind {S : Nat → Nat → Int32} {L : Nat → Nat → Int64} {R : Nat × Nat × Nat} {d : Nat} {T : Nat} (hT : T = 19 ∨ T = 28) {g : Nat} (hg : S T 8 = nI g) (hg8 : g ≤ 8) {a b : Nat} (ha : a < g) (hb : b < g) : TT mX4_stepsBehind (d + 0) 0 [some (.ref T), some (.int (nI a)), some (.int (nI b))] [] (S, L, R) (rt (some (.int (nI (stp g a b)))) (S, L, R)) := by
  refine T_ild2 dX4_stepsBehind_0 ?_
  refine T_ild1 dX4_stepsBehind_1 ?_
  refine T_cltN (tgt := 11) dX4_stepsBehind_2 (by decide) (by omega) (by omega) (fun h2 => ?_) (fun h2 => ?_)
  · refine T_ild2 dX4_stepsBehind_11 ?_
    refine T_ild1 dX4_stepsBehind_12 ?_
    refine T_isub dX4_stepsBehind_13 ?_
    refine T_ald0 dX4_stepsBehind_14 ?_
    refine T_getN dX4_stepsBehind_15 lf_X4_36 (kT hT) rfl hg ?_
    refine T_iadd dX4_stepsBehind_18 ?_
    refine T_iret dX4_stepsBehind_19 rfl ?_
    first | (rw [sub_add_n (by omega), show b + g - a = stp g a b by unfold stp; rw [if_neg (by omega)]]; exact rt_i) | (rw [show b - a = stp g a b by unfold stp; rw [if_pos (by omega)]]; exact rt_i)
  · refine T_ild2 dX4_stepsBehind_5 ?_
    refine T_ild1 dX4_stepsBehind_6 ?_
    refine T_isubN dX4_stepsBehind_7 (by omega) ?_
    refine T_goto (tgt := 19) dX4_stepsBehind_8 (by decide) ?_
    refine T_iret dX4_stepsBehind_19 rfl ?_
    first | (rw [sub_add_n (by omega), show b + g - a = stp g a b by unfold stp; rw [if_neg (by omega)]]; exact rt_i) | (rw [show b - a = stp g a b by unfold stp; rw [if_pos (by omega)]]; exact rt_i)
set_option maxRecDepth 20000 in
theorem c_X4_ownerOf {S : Nat → Nat → Int32} {L : Nat → Nat → Int64} {R : Nat × Nat × Nat} {d : Nat} {T : Nat} (hT : T = 19 ∨ T = 28) {g : Nat} (hg : S T 8 = nI g) (hg8 : g ≤ 8) {k b : Nat} (hk : k < g) (hb : b < 64) (hs : b / 8 < g) (hp : b % 8 < g) : TT mX4_ownerOf (d + 1) 0 [some (.ref T), some (.int (nI k)), some (.int (nI b)), none, none] [] (S, L, R) (rt (some (.int (who g k (b / 8) (b % 8)))) (S, L, R)) := by
  have q1 : stp g (b / 8) k < 100 := by unfold stp; split <;> omega
  have q2 : stp g (b / 8) (b % 8) < 100 := by unfold stp; split <;> omega
  refine T_ild2 dX4_ownerOf_0 ?_
  refine T_invSN1i (M' := mX6_saltOf) dX4_ownerOf_1 ml_X4_100 imX6_saltOf (Nat.le_of_ble_eq_true rfl) rfl (Nat.le_of_ble_eq_true rfl) (c_X6_saltOf (by omega)) ?_
  refine T_ist3 dX4_ownerOf_4 (by decide) rfl ?_
  refine T_ild2 dX4_ownerOf_5 ?_
  refine T_invSN1i (M' := mX6_pepperOf) dX4_ownerOf_6 ml_X4_103 imX6_pepperOf (Nat.le_of_ble_eq_true rfl) rfl (Nat.le_of_ble_eq_true rfl) (c_X6_pepperOf (by omega)) ?_
  refine T_ist4 dX4_ownerOf_9 (by decide) rfl ?_
  refine T_ild1 dX4_ownerOf_11 ?_
  refine T_ild3 dX4_ownerOf_12 ?_
  refine T_ceqN (tgt := 22) dX4_ownerOf_13 (by decide) (by omega) (by omega) (fun h13 => ?_) (fun h13 => ?_)
  · refine T_bipush (v := -9) dX4_ownerOf_22 (by decide) ?_
    refine T_iret dX4_ownerOf_24 rfl ?_
    first | (rw [show who g k (b / 8) (b % 8) = -9 from if_pos (by omega)]; exact rt_i) | (rw [show who g k (b / 8) (b % 8) = nI 0 from (if_neg (by omega)).trans (if_pos (by omega))]; exact rt_i) | (rw [show who g k (b / 8) (b % 8) = nI 1 from (if_neg (by omega)).trans (if_neg (by omega))]; exact rt_i)
  · refine T_ild1 dX4_ownerOf_16 ?_
    refine T_ild4 dX4_ownerOf_17 ?_
    refine T_cneN (tgt := 25) dX4_ownerOf_19 (by decide) (by omega) (by omega) (fun h19 => ?_) (fun h19 => ?_)
    · refine T_ald0 dX4_ownerOf_25 ?_
      refine T_ild3 dX4_ownerOf_26 ?_
      refine T_ild1 dX4_ownerOf_27 ?_
      refine T_invV2i (M' := mX4_stepsBehind) dX4_ownerOf_28 ml_X4_106 imX4_stepsBehind (kT hT) (Nat.le_of_ble_eq_true rfl) rfl (Nat.le_of_ble_eq_true rfl) rfl (Nat.le_of_ble_eq_true rfl) (c_X4_stepsBehind hT hg hg8 (by omega) (by omega)) ?_
      refine T_ald0 dX4_ownerOf_31 ?_
      refine T_ild3 dX4_ownerOf_32 ?_
      refine T_ild4 dX4_ownerOf_33 ?_
      refine T_invV2i (M' := mX4_stepsBehind) dX4_ownerOf_35 ml_X4_106 imX4_stepsBehind (kT hT) (Nat.le_of_ble_eq_true rfl) rfl (Nat.le_of_ble_eq_true rfl) rfl (Nat.le_of_ble_eq_true rfl) (c_X4_stepsBehind hT hg hg8 (by omega) (by omega)) ?_
      refine T_cgeN (tgt := 45) dX4_ownerOf_38 (by decide) (by omega) (by omega) (fun h38 => ?_) (fun h38 => ?_)
      · refine T_iconst (v := nI 1) dX4_ownerOf_45 (by decide) ?_
        refine T_iret dX4_ownerOf_46 rfl ?_
        first | (rw [show who g k (b / 8) (b % 8) = -9 from if_pos (by omega)]; exact rt_i) | (rw [show who g k (b / 8) (b % 8) = nI 0 from (if_neg (by omega)).trans (if_pos (by omega))]; exact rt_i) | (rw [show who g k (b / 8) (b % 8) = nI 1 from (if_neg (by omega)).trans (if_neg (by omega))]; exact rt_i)
      · refine T_iconst (v := nI 0) dX4_ownerOf_41 (by decide) ?_
        refine T_goto (tgt := 46) dX4_ownerOf_42 (by decide) ?_
        refine T_iret dX4_ownerOf_46 rfl ?_
        first | (rw [show who g k (b / 8) (b % 8) = -9 from if_pos (by omega)]; exact rt_i) | (rw [show who g k (b / 8) (b % 8) = nI 0 from (if_neg (by omega)).trans (if_pos (by omega))]; exact rt_i) | (rw [show who g k (b / 8) (b % 8) = nI 1 from (if_neg (by omega)).trans (if_neg (by omega))]; exact rt_i)
    · refine T_bipush (v := -9) dX4_ownerOf_22 (by decide) ?_
      refine T_iret dX4_ownerOf_24 rfl ?_
      first | (rw [show who g k (b / 8) (b % 8) = -9 from if_pos (by omega)]; exact rt_i) | (rw [show who g k (b / 8) (b % 8) = nI 0 from (if_neg (by omega)).trans (if_pos (by omega))]; exact rt_i) | (rw [show who g k (b / 8) (b % 8) = nI 1 from (if_neg (by omega)).trans (if_neg (by omega))]; exact rt_i)
