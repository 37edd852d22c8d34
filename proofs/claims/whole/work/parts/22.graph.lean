/-! the fewest minutes, then the fewest requests: what both plans come to -/
theorem fb_holes : ∀ (m n : Nat) (f : Nat → Nat), (∀ i, i < n → f i < m) → (∀ i j, i < j → j < n → f i ≠ f j) → n ≤ m := by
  intro m
  induction m with
  | zero =>
    intro n f h1 _
    rcases Nat.eq_zero_or_pos n with h | h
    · omega
    · exact absurd (h1 0 h) (Nat.not_lt_zero _)
  | succ m ih =>
    intro n f h1 h2
    by_cases hx : ∃ i, i < n ∧ f i = m
    · obtain ⟨a, ha, hfa⟩ := hx
      have hg := ih (n - 1) (fun i => if i < a then f i else f (i + 1)) (by
        intro i hi
        by_cases q : i < a
        · simp only [if_pos q]
          have b1 := h1 i (by omega)
          have b2 := h2 i a q ha
          omega
        · simp only [if_neg q]
          have b1 := h1 (i + 1) (by omega)
          have b2 := h2 a (i + 1) (by omega) (by omega)
          omega) (by
        intro i j hij hj
        by_cases q : i < a
        · by_cases r : j < a
          · simp only [if_pos q, if_pos r]
            exact h2 i j hij (by omega)
          · simp only [if_pos q, if_neg r]
            exact h2 i (j + 1) (by omega) (by omega)
        · have r : ¬ j < a := by omega
          simp only [if_neg q, if_neg r]
          exact h2 (i + 1) (j + 1) (by omega) (by omega))
      omega
    · have hg := ih n f (fun i hi => by
        have b1 := h1 i hi
        have b2 : f i ≠ m := fun e => hx ⟨i, hi, e⟩
        omega) h2
      omega
section GR
variable (nx : Nat → Nat → Option Nat) (gl : Nat → Bool) (mf : Nat → Nat → Nat)
def CC : Nat → Nat → Nat → Prop
  | 0, b, M => gl b = true ∧ M = 0
  | k + 1, b, M => ∃ r t M', r < 4 ∧ nx b r = some t ∧ CC k t M' ∧ M = M' + mf b r
def LX (b M k : Nat) : Prop := CC nx gl mf k b M ∧ ∀ k' M', CC nx gl mf k' b M' → M < M' ∨ (M = M' ∧ k ≤ k')
def GOK : Prop := ∀ b r t, b < 64 → nx b r = some t → t < 64
end GR
section GRT
variable {nx : Nat → Nat → Option Nat} {gl : Nat → Bool} {mf : Nat → Nat → Nat}
theorem LX_ex {b : Nat} (h : ∃ k M, CC nx gl mf k b M) : ∃ M k, LX nx gl mf b M k := by
  obtain ⟨k0, M0, h0⟩ := h
  obtain ⟨M, ⟨k1, h1⟩, h2⟩ := pk_least (fun M => ∃ k, CC nx gl mf k b M) ⟨M0, k0, h0⟩
  obtain ⟨k, h3, h4⟩ := pk_least (fun k => CC nx gl mf k b M) ⟨k1, h1⟩
  refine ⟨M, k, h3, fun k' M' h => ?_⟩
  rcases Nat.lt_trichotomy M M' with q | q | q
  · exact Or.inl q
  · subst q
    exact Or.inr ⟨rfl, Nat.not_lt.mp (fun z => h4 k' z h)⟩
  · exact absurd ⟨k', h⟩ (h2 M' q)
theorem LX_uniq {b M k M' k' : Nat} (h : LX nx gl mf b M k) (h' : LX nx gl mf b M' k') : M = M' ∧ k = k' := by
  have q1 := h.2 _ _ h'.1
  have q2 := h'.2 _ _ h.1
  omega
theorem LX_goal {b : Nat} (h : gl b = true) : LX nx gl mf b 0 0 := ⟨⟨h, rfl⟩, fun k' M' _ => by omega⟩
theorem LX_0 {b M : Nat} (h : LX nx gl mf b M 0) : gl b = true ∧ M = 0 := h.1
theorem LX_ng {b M k : Nat} (h : LX nx gl mf b M k) (hk : k ≠ 0) : gl b = false := by
  cases e : gl b with
  | false => rfl
  | true => exact absurd (LX_uniq h (LX_goal e)).2 hk
theorem LX_step {b M k : Nat} (h : LX nx gl mf b M (k + 1)) : ∃ r t M', r < 4 ∧ nx b r = some t ∧ LX nx gl mf t M' k ∧ M = M' + mf b r := by
  obtain ⟨r, t, M', h1, h2, h3, h4⟩ := h.1
  refine ⟨r, t, M', h1, h2, ⟨h3, fun k' M'' q => ?_⟩, h4⟩
  have := h.2 (k' + 1) (M'' + mf b r) ⟨r, t, M'', h1, h2, q, rfl⟩
  omega
theorem LX_down (hok : GOK nx) {b M k : Nat} (hb : b < 64) (h : LX nx gl mf b M k) : ∀ i, i ≤ k → ∃ b' M', b' < 64 ∧ LX nx gl mf b' M' (k - i) := by
  intro i
  induction i with
  | zero => intro _; exact ⟨b, M, hb, h⟩
  | succ i ih =>
    intro hi
    obtain ⟨b', M', h1, h2⟩ := ih (by omega)
    rw [show k - i = (k - (i + 1)) + 1 by omega] at h2
    obtain ⟨r, t, M'', h3, h4, h5, h6⟩ := LX_step h2
    exact ⟨t, M'', hok _ _ _ h1 h4, h5⟩
theorem LX_k (hok : GOK nx) {b M k : Nat} (hb : b < 64) (h : LX nx gl mf b M k) : k ≤ 63 := by
  have hd : ∀ i, ∃ b', i ≤ k → b' < 64 ∧ ∃ M', LX nx gl mf b' M' i := by
    intro i
    by_cases q : i ≤ k
    · obtain ⟨b', M', h1, h2⟩ := LX_down hok hb h (k - i) (by omega)
      rw [show k - (k - i) = i by omega] at h2
      exact ⟨b', fun _ => ⟨h1, M', h2⟩⟩
    · exact ⟨0, fun z => absurd z q⟩
  obtain ⟨f, hf⟩ : ∃ f : Nat → Nat, ∀ i, i ≤ k → f i < 64 ∧ ∃ M', LX nx gl mf (f i) M' i := ⟨fun i => (hd i).choose, fun i => (hd i).choose_spec⟩
  have := fb_holes 64 (k + 1) f (fun i hi => (hf i (by omega)).1) (fun i j hij hj e => by
    obtain ⟨M1, l1⟩ := (hf i (by omega)).2
    obtain ⟨M2, l2⟩ := (hf j (by omega)).2
    rw [e] at l1
    have := (LX_uniq l1 l2).2
    omega)
  omega
theorem CC_le (hm : ∀ b r, mf b r ≤ 12) : ∀ {k b M : Nat}, CC nx gl mf k b M → M ≤ 12 * k
  | 0, b, M, h => by have := h.2; omega
  | k + 1, b, M, h => by
    obtain ⟨r, t, M', -, -, h3, h4⟩ := h
    have := CC_le hm h3
    have := hm b r
    omega
theorem enc_le (hok : GOK nx) {K b M k k' M' : Nat} (hK : 64 < K) (hb : b < 64) (h : LX nx gl mf b M k) (h' : CC nx gl mf k' b M') : K * M + k ≤ K * M' + k' := by
  have hk := LX_k hok hb h
  rcases h.2 _ _ h' with q | ⟨q1, q2⟩
  · have : K * (M + 1) ≤ K * M' := Nat.mul_le_mul_left K q
    rw [Nat.mul_add] at this
    omega
  · subst q1; omega
theorem enc_inj {K M k M' k' : Nat} (hk : k < K) (hk' : k' < K) (h : K * M + k = K * M' + k') : M = M' ∧ k = k' := by
  have h1 : (K * M + k) % K = k := by rw [Nat.mul_add_mod, Nat.mod_eq_of_lt hk]
  have h2 : (K * M' + k') % K = k' := by rw [Nat.mul_add_mod, Nat.mod_eq_of_lt hk']
  have e : k = k' := by rw [← h1, h, h2]
  subst e
  exact ⟨Nat.eq_of_mul_eq_mul_left (by omega) (Nat.add_right_cancel h), rfl⟩
end GRT
section SW
variable (nx : Nat → Nat → Option Nat) (gl : Nat → Bool) (mf : Nat → Nat → Nat) (K F : Nat)
def VAL (lb : Nat → Nat) : Prop := ∀ b, b < 64 → lb b = F ∨ (lb b < F ∧ ∃ k M, CC nx gl mf k b M ∧ lb b = K * M + k)
def rlx (lb : Nat → Nat) (b r : Nat) : Nat → Nat := match nx b r with
  | none => lb
  | some t => if lb t + (K * mf b r + 1) < lb b then upN lb b (lb t + (K * mf b r + 1)) else lb
def rch (lb : Nat → Nat) (b r : Nat) : Bool := match nx b r with
  | none => false
  | some t => decide (lb t + (K * mf b r + 1) < lb b)
def swp (lb : Nat → Nat) : Nat → Nat → Nat
  | 0 => lb
  | m + 1 => rlx nx mf K (swp lb m) (m / 4) (m % 4)
def swc (lb : Nat → Nat) : Nat → Bool
  | 0 => false
  | m + 1 => rch nx mf K (swp nx mf K lb m) (m / 4) (m % 4) || swc lb m
def FINb (lb : Nat → Nat) (b : Nat) : Prop := (∀ M k, LX nx gl mf b M k → lb b = K * M + k) ∧ ((¬ ∃ k M, CC nx gl mf k b M) → lb b = F)
def FIN (lb : Nat → Nat) : Prop := ∀ b, b < 64 → FINb nx gl mf K F lb b
end SW
section SWT
variable {nx : Nat → Nat → Option Nat} {gl : Nat → Bool} {mf : Nat → Nat → Nat} {K F : Nat}
theorem rlx_le {lb : Nat → Nat} {b r x : Nat} : rlx nx mf K lb b r x ≤ lb x := by
  unfold rlx
  cases e : nx b r with
  | none => exact Nat.le_refl _
  | some t =>
    by_cases hc : lb t + (K * mf b r + 1) < lb b
    · simp only [if_pos hc]
      unfold upN
      by_cases q : x = b
      · subst q; simp only [if_pos]; omega
      · simp only [if_neg q]; exact Nat.le_refl _
    · simp only [if_neg hc]; exact Nat.le_refl _
theorem rlx_val {lb : Nat → Nat} {b r : Nat} (hok : GOK nx) (hb : b < 64) (hr : r < 4) (hV : VAL nx gl mf K F lb) : VAL nx gl mf K F (rlx nx mf K lb b r) := by
  unfold rlx
  cases e : nx b r with
  | none => exact hV
  | some t =>
    by_cases hc : lb t + (K * mf b r + 1) < lb b
    · simp only [if_pos hc]
      intro x hx
      unfold upN
      by_cases q : x = b
      · subst q
        simp only [if_pos]
        right
        have hbl : lb x ≤ F := by rcases hV x hx with h | h <;> omega
        refine ⟨by omega, ?_⟩
        rcases hV t (hok _ _ _ hb e) with h | ⟨h1, k, M, h2, h3⟩
        · omega
        · exact ⟨k + 1, M + mf x r, ⟨r, t, M, hr, e, h2, rfl⟩, by rw [h3, Nat.mul_add]; omega⟩
      · simp only [if_neg q]; exact hV x hx
    · simp only [if_neg hc]; exact hV
theorem swp_le {lb : Nat → Nat} : ∀ m x, swp nx mf K lb m x ≤ lb x
  | 0, x => Nat.le_refl _
  | m + 1, x => Nat.le_trans rlx_le (swp_le m x)
theorem swp_mono {lb : Nat → Nat} {m x : Nat} : ∀ i, swp nx mf K lb (m + i) x ≤ swp nx mf K lb m x
  | 0 => Nat.le_refl _
  | i + 1 => Nat.le_trans rlx_le (swp_mono i)
theorem swp_val {lb : Nat → Nat} (hok : GOK nx) (hV : VAL nx gl mf K F lb) : ∀ m, m ≤ 256 → VAL nx gl mf K F (swp nx mf K lb m)
  | 0, _ => hV
  | m + 1, h => rlx_val hok (by omega) (by omega) (swp_val hok hV m (by omega))
theorem swc_f {lb : Nat → Nat} : ∀ m, swc nx mf K lb m = false → swp nx mf K lb m = lb
  | 0, _ => rfl
  | m + 1, h => by
    have h : (rch nx mf K (swp nx mf K lb m) (m / 4) (m % 4) || swc nx mf K lb m) = false := h
    rw [Bool.or_eq_false_iff] at h
    have ih := swc_f m h.2
    show rlx nx mf K (swp nx mf K lb m) (m / 4) (m % 4) = lb
    rw [ih] at h ⊢
    have h1 := h.1
    unfold rch at h1
    unfold rlx
    cases e : nx (m / 4) (m % 4) with
    | none => rfl
    | some t =>
      rw [e] at h1
      exact if_neg (of_decide_eq_false h1)
theorem val_ge {lb : Nat → Nat} (hok : GOK nx) (hK : 64 < K) (hV : VAL nx gl mf K F lb) {b M k : Nat} (hb : b < 64) (h : LX nx gl mf b M k) (hF : K * M + k ≤ F) : K * M + k ≤ lb b := by
  rcases hV b hb with q | ⟨-, k', M', q1, q2⟩
  · omega
  · rw [q2]; exact enc_le hok hK hb h q1
theorem val_un {lb : Nat → Nat} (hV : VAL nx gl mf K F lb) {b : Nat} (hb : b < 64) (h : ¬ ∃ k M, CC nx gl mf k b M) : lb b = F := by
  rcases hV b hb with q | ⟨-, k', M', q1, q2⟩
  · exact q
  · exact absurd ⟨k', M', q1⟩ h
/-- all that is small enough: minutes of a step, the mark of what can't be come to -/
def BIG (mf : Nat → Nat → Nat) (K F : Nat) : Prop := 64 < K ∧ (∀ b r, mf b r ≤ 12) ∧ K * 756 + 63 < F
theorem opt_lt (hok : GOK nx) (hB : BIG mf K F) {b M k : Nat} (hb : b < 64) (h : LX nx gl mf b M k) : K * M + k < F := by
  have h1 := LX_k hok hb h
  have h2 := CC_le hB.2.1 h.1
  have h3 : K * M ≤ K * 756 := Nat.mul_le_mul_left K (by omega)
  have := hB.2.2
  omega
/-- what stands final stays so; a step's end that is final makes its start final -/
theorem fin_keep (hok : GOK nx) (hB : BIG mf K F) {lb : Nat → Nat} (hV : VAL nx gl mf K F lb) {b m : Nat} (hm : m ≤ 256) (hb : b < 64) (h : FINb nx gl mf K F lb b) : FINb nx gl mf K F (swp nx mf K lb m) b := by
  have hV' := swp_val hok hV m hm
  refine ⟨fun M k hl => ?_, fun hn => val_un hV' hb hn⟩
  have h1 := h.1 M k hl
  have h2 := val_ge hok hB.1 hV' hb hl (Nat.le_of_lt (opt_lt hok hB hb hl))
  have h3 := swp_le (nx := nx) (mf := mf) (K := K) (lb := lb) m b
  omega
theorem fin_new (hok : GOK nx) (hB : BIG mf K F) {lb : Nat → Nat} (hV : VAL nx gl mf K F lb) {b r t M k M' : Nat} (hb : b < 64) (hr : r < 4) (ht : nx b r = some t) (hl : LX nx gl mf b M (k + 1)) (hl' : LX nx gl mf t M' k) (hM : M = M' + mf b r) (hf : FINb nx gl mf K F lb t) : FINb nx gl mf K F (swp nx mf K lb 256) b := by
  have hV' := swp_val hok hV 256 (Nat.le_refl _)
  have ht64 := hok _ _ _ hb ht
  refine ⟨fun M0 k0 h0 => ?_, fun hn => val_un hV' hb hn⟩
  obtain ⟨e1, e2⟩ := LX_uniq hl h0
  subst e1; subst e2
  have g1 := val_ge hok hB.1 hV' hb hl (Nat.le_of_lt (opt_lt hok hB hb hl))
  have g2 := (fin_keep hok hB hV (m := 4 * b + r) (by omega) ht64 hf).1 _ _ hl'
  have g3 : swp nx mf K lb (4 * b + r + 1) b ≤ K * M + (k + 1) := by
    show rlx nx mf K (swp nx mf K lb (4 * b + r)) ((4 * b + r) / 4) ((4 * b + r) % 4) b ≤ _
    rw [show (4 * b + r) / 4 = b by omega, show (4 * b + r) % 4 = r by omega]
    have e3 : K * M = K * M' + K * mf b r := by rw [hM, Nat.mul_add]
    unfold rlx
    rw [ht]
    by_cases hc : swp nx mf K lb (4 * b + r) t + (K * mf b r + 1) < swp nx mf K lb (4 * b + r) b
    · simp only [if_pos hc]
      unfold upN
      simp only [if_pos]
      omega
    · simp only [if_neg hc]
      omega
  have g4 := swp_mono (nx := nx) (mf := mf) (K := K) (lb := lb) (m := 4 * b + r + 1) (x := b) (256 - (4 * b + r + 1))
  rw [show 4 * b + r + 1 + (256 - (4 * b + r + 1)) = 256 by omega] at g4
  omega
theorem nonf_ex (hok : GOK nx) (hB : BIG mf K F) {lb : Nat → Nat} (hV : VAL nx gl mf K F lb) (hg : ∀ b, b < 64 → gl b = true → lb b = 0) (h : ¬ FIN nx gl mf K F lb) : ∃ b, b < 64 ∧ ¬ FINb nx gl mf K F lb b ∧ FINb nx gl mf K F (swp nx mf K lb 256) b := by
  have h1 : ∃ v, ∃ b M k, b < 64 ∧ LX nx gl mf b M k ∧ ¬ FINb nx gl mf K F lb b ∧ v = K * M + k := by
    refine Classical.byContradiction fun hx => h (fun b hb => ?_)
    refine Classical.byContradiction fun hn => ?_
    refine hx ?_
    have hr : ∃ k M, CC nx gl mf k b M := Classical.byContradiction fun q => hn ⟨fun M k hl => absurd ⟨k, M, hl.1⟩ q, fun _ => val_un hV hb q⟩
    obtain ⟨M, k, hl⟩ := LX_ex hr
    exact ⟨_, b, M, k, hb, hl, hn, rfl⟩
  obtain ⟨v, ⟨b, M, k, hb, hl, hn, hv⟩, hmin⟩ := pk_least _ h1
  refine ⟨b, hb, hn, ?_⟩
  match k, hl, hv with
  | 0, hl, hv =>
    obtain ⟨q1, q2⟩ := LX_0 hl
    refine absurd ⟨fun M' k' h' => ?_, fun hx => absurd ⟨0, M, hl.1⟩ hx⟩ hn
    obtain ⟨e1, e2⟩ := LX_uniq hl h'
    subst e1; subst e2
    rw [hg b hb q1, q2]; simp
  | k + 1, hl, hv =>
    obtain ⟨r, t, M', h3, h4, h5, h6⟩ := LX_step hl
    refine fin_new hok hB hV hb h3 h4 hl h5 h6 ?_
    refine Classical.byContradiction fun hx => ?_
    refine hmin (K * M' + k) ?_ ⟨t, M', k, hok _ _ _ hb h4, h5, hx, rfl⟩
    rw [hv, h6, Nat.mul_add]; omega
end SWT
/-- how many are not final yet -/
noncomputable def nonf (nx : Nat → Nat → Option Nat) (gl : Nat → Bool) (mf : Nat → Nat → Nat) (K F : Nat) (lb : Nat → Nat) : Nat → Nat
  | 0 => 0
  | n + 1 => nonf nx gl mf K F lb n + @ite _ (FINb nx gl mf K F lb n) (Classical.propDecidable _) 0 1
section SWU
variable {nx : Nat → Nat → Option Nat} {gl : Nat → Bool} {mf : Nat → Nat → Nat} {K F : Nat}
theorem nonf_le {lb : Nat → Nat} : ∀ n, nonf nx gl mf K F lb n ≤ n
  | 0 => Nat.le_refl _
  | n + 1 => by
    have := nonf_le (lb := lb) n
    show nonf nx gl mf K F lb n + @ite _ (FINb nx gl mf K F lb n) (Classical.propDecidable _) 0 1 ≤ n + 1
    split <;> omega
theorem nonf_0 {lb : Nat → Nat} : ∀ n, nonf nx gl mf K F lb n = 0 → ∀ b, b < n → FINb nx gl mf K F lb b
  | 0, _, b, hb => absurd hb (Nat.not_lt_zero b)
  | n + 1, h, b, hb => by
    have h : nonf nx gl mf K F lb n + @ite _ (FINb nx gl mf K F lb n) (Classical.propDecidable _) 0 1 = 0 := h
    split at h
    · rename_i hf
      by_cases e : b = n
      · exact e ▸ hf
      · exact nonf_0 n (by omega) b (by omega)
    · omega
theorem nonf_mono {lb lb' : Nat → Nat} : ∀ n, (∀ b, b < n → FINb nx gl mf K F lb b → FINb nx gl mf K F lb' b) → nonf nx gl mf K F lb' n ≤ nonf nx gl mf K F lb n
  | 0, _ => Nat.le_refl _
  | n + 1, h => by
    have ih := nonf_mono n (fun b hb => h b (by omega))
    show nonf nx gl mf K F lb' n + @ite _ (FINb nx gl mf K F lb' n) (Classical.propDecidable _) 0 1 ≤ nonf nx gl mf K F lb n + @ite _ (FINb nx gl mf K F lb n) (Classical.propDecidable _) 0 1
    have hn := h n (by omega)
    split
    · split <;> omega
    · split
      · rename_i q1 q2; exact absurd (hn q2) q1
      · omega
theorem nonf_lt {lb lb' : Nat → Nat} : ∀ n, (∀ b, b < n → FINb nx gl mf K F lb b → FINb nx gl mf K F lb' b) → (∃ b, b < n ∧ ¬ FINb nx gl mf K F lb b ∧ FINb nx gl mf K F lb' b) → nonf nx gl mf K F lb' n < nonf nx gl mf K F lb n
  | 0, _, ⟨b, hb, _⟩ => absurd hb (Nat.not_lt_zero b)
  | n + 1, h, ⟨b, hb, h1, h2⟩ => by
    show nonf nx gl mf K F lb' n + @ite _ (FINb nx gl mf K F lb' n) (Classical.propDecidable _) 0 1 < nonf nx gl mf K F lb n + @ite _ (FINb nx gl mf K F lb n) (Classical.propDecidable _) 0 1
    by_cases e : b = n
    · subst e
      have ih := nonf_mono b (fun c hc => h c (by omega))
      rw [if_pos h2, if_neg h1]; omega
    · have ih := nonf_lt n (fun c hc => h c (by omega)) ⟨b, by omega, h1, h2⟩
      have hn := h n (by omega)
      split
      · split <;> omega
      · split
        · rename_i q1 q2; exact absurd (hn q2) q1
        · omega
theorem swp_fin (hok : GOK nx) (hB : BIG mf K F) {lb : Nat → Nat} (hV : VAL nx gl mf K F lb) (hg : ∀ b, b < 64 → gl b = true → lb b = 0) (h : swc nx mf K lb 256 = false) : FIN nx gl mf K F lb := by
  refine Classical.byContradiction fun hn => ?_
  obtain ⟨b, hb, h1, h2⟩ := nonf_ex hok hB hV hg hn
  rw [swc_f 256 h] at h2
  exact h1 h2
theorem swp_down (hok : GOK nx) (hB : BIG mf K F) {lb : Nat → Nat} (hV : VAL nx gl mf K F lb) (hg : ∀ b, b < 64 → gl b = true → lb b = 0) (h : 0 < nonf nx gl mf K F lb 64) : nonf nx gl mf K F (swp nx mf K lb 256) 64 < nonf nx gl mf K F lb 64 := by
  refine nonf_lt 64 (fun b hb q => fin_keep hok hB hV (Nat.le_refl _) hb q) ?_
  refine nonf_ex hok hB hV hg (fun hf => ?_)
  have : nonf nx gl mf K F lb 64 = 0 := by
    have : ∀ n, n ≤ 64 → nonf nx gl mf K F lb n = 0 := by
      intro n
      induction n with
      | zero => intro _; rfl
      | succ n ih =>
        intro hn
        show nonf nx gl mf K F lb n + @ite _ (FINb nx gl mf K F lb n) (Classical.propDecidable _) 0 1 = 0
        rw [ih (by omega), if_pos (hf n (by omega))]
    exact this 64 (Nat.le_refl _)
  omega
theorem swp_goal {lb : Nat → Nat} (hg : ∀ b, b < 64 → gl b = true → lb b = 0) (m : Nat) : ∀ b, b < 64 → gl b = true → swp nx mf K lb m b = 0 := fun b hb h => by
  have := swp_le (nx := nx) (mf := mf) (K := K) (lb := lb) m b
  have := hg b hb h
  omega
theorem nochg (hok : GOK nx) (hB : BIG mf K F) {lb : Nat → Nat} (hV : VAL nx gl mf K F lb) (hF : FIN nx gl mf K F lb) : ∀ m, m ≤ 256 → swp nx mf K lb m = lb ∧ swc nx mf K lb m = false
  | 0, _ => ⟨rfl, rfl⟩
  | m + 1, hm => by
    obtain ⟨h1, h2⟩ := nochg hok hB hV hF m (by omega)
    have key : rch nx mf K lb (m / 4) (m % 4) = false := by
      unfold rch
      cases e : nx (m / 4) (m % 4) with
      | none => rfl
      | some t =>
        refine decide_eq_false fun hc => ?_
        have hb : m / 4 < 64 := by omega
        have ht := hok _ _ _ hb e
        have hlb : lb (m / 4) ≤ F := by rcases hV _ hb with q | q <;> omega
        rcases hV t ht with q | ⟨q1, k, M, q2, q3⟩
        · omega
        · have c1 : CC nx gl mf (k + 1) (m / 4) (M + mf (m / 4) (m % 4)) := ⟨m % 4, t, M, by omega, e, q2, rfl⟩
          obtain ⟨M0, k0, l0⟩ := LX_ex ⟨_, _, c1⟩
          have g1 := (hF _ hb).1 _ _ l0
          have g2 := enc_le hok hB.1 hb l0 c1
          rw [Nat.mul_add] at g2
          omega
    refine ⟨?_, ?_⟩
    · show rlx nx mf K (swp nx mf K lb m) (m / 4) (m % 4) = lb
      rw [h1]
      unfold rch at key
      unfold rlx
      cases e : nx (m / 4) (m % 4) with
      | none => rfl
      | some t =>
        rw [e] at key
        exact if_neg (of_decide_eq_false key)
    · show (rch nx mf K (swp nx mf K lb m) (m / 4) (m % 4) || swc nx mf K lb m) = false
      rw [h1, key, h2]; rfl
end SWU
