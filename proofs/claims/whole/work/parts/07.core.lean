/-! THE CORE: a fixed world of 57 places, one judgement TT for the methods that make nothing -/
abbrev SG : Type := (Nat → Nat → Int32) × (Nat → Nat → Int64) × (Nat × Nat × Nat)
def kdL : List Nat := [6, 10, 3, 3, 3, 3, 8, 8, 8, 8, 5, 8, 0, 1, 8, 8, 2, 9, 9, 4, 8, 8, 8, 8, 8, 8, 8, 8, 4, 8, 8, 8, 8, 8, 8, 8, 8, 7, 8, 8, 8, 8, 8, 8, 8, 8, 8, 8, 8, 8, 8, 8, 8, 9, 9, 8, 8]
def lnL : List Nat := [0, 4, 0, 0, 0, 0, 60, 60, 60, 60, 0, 0, 0, 0, 64, 8, 0, 8, 8, 0, 8, 8, 8, 8, 6, 6, 8, 8, 0, 8, 8, 8, 8, 6, 6, 8, 8, 0, 4, 4, 240, 8, 8, 8, 6, 6, 8, 8, 8, 6, 6, 64, 256, 8, 8, 8, 8]
def kd (p : Nat) : Nat := kdL.getD p 11
def ln (p : Nat) : Nat := lnL.getD p 0
def nFL : List Nat := [3, 2, 2, 4, 13, 4, 9, 34]
def nF (ci : Nat) : Nat := nFL.getD ci 0
def isRL : List (List Nat) := [[], [0, 1], [0, 1], [0], [0, 1, 2, 3, 4, 5, 6, 7], [0], [0, 1, 2, 3, 4, 5, 6], [2, 3, 4, 10, 11, 12, 13, 14, 21, 22, 23, 24, 25, 26, 27, 29, 30, 32, 33]]
def isR (ci k : Nat) : Bool := (isRL.getD ci []).elem k
def mfL : List Nat := [0, 0, 38, 39, 40, 0, 0, 0, 0, 0, 41, 42, 43, 44, 45, 0, 0, 0, 0, 0, 0, 46, 47, 48, 49, 50, 51, 52, 0, 53, 54, 0, 55, 56]
/-- where a reference field points to -/
def rf (R : Nat × Nat × Nat) (p k : Nat) : Nat :=
  if p = 0 then (if k = 5 then R.1 else if k = 6 then R.2.1 else [1, 10, 12, 13, 16].getD k 0)
  else if p < 6 then p + 4
  else if p = 10 then R.2.2
  else if p = 37 then mfL.getD k 0
  else p + 1 + k
def cv (ad : Nat → Nat) : Value → Value
  | .ref p => .ref (ad p)
  | v => v
def fv (ad : Nat → Nat) (σ : SG) (p ci k : Nat) : Value := if isR ci k then .ref (ad (rf σ.2.2 p k)) else .int (σ.1 p k)
def fvs (ad : Nat → Nat) (σ : SG) (p ci : Nat) : List Value := (List.range (nF ci)).map (fv ad σ p ci)
def cellE (ad : Nat → Nat) (cI cJ cO : ClassId) (σ : SG) (p : Nat) : va_E :=
  if kd p < 8 then .inr (kd p, fvs ad σ p (kd p))
  else if kd p = 8 then .inl (cI, ln p, .inl (σ.1 p))
  else if kd p = 9 then .inl (cJ, ln p, .inr (.inl (σ.2.1 p)))
  else .inl (cO, 4, .inr (.inr (.inr (.inr (fun i => some (ad (2 + i)))))))
def wl (ad : Nat → Nat) (cI cJ cO : ClassId) (σ : SG) : va_W := (List.range 57).map (fun p => (ad p, cellE ad cI cJ cO σ p))
def AD (ad : Nat → Nat) : Nat → Prop := fun q => ∃ p, p < 57 ∧ ad p = q
def rmD (d : Nat) : Room := { frames := d, cells := 0, slots := 0, locals := 40 * d }
abbrev tysW (cI cJ cO : ClassId) : List (ClassId × FieldType) := [(cI, .int), (cJ, .long), (cO, .object RX3)]
def WD (G : va_G) (ad : Nat → Nat) (cI cJ cO : ClassId) (σ : SG) (U : State) : Prop := va_P G vwCl (wl ad cI cJ cO σ) U.heap ∧ va_K G vwCl (tysW cI cJ cO) U ∧ ∀ w ∈ nwL, va_Nw w U
def QQ (G : va_G) (ad : Nat → Nat) (cI cJ cO : ClassId) (Q : Option Value → SG → Prop) : Array Value → State → Outcome → State → Prop := fun _ st oc t => (∃ (r : Option Value) (σ' : SG), oc = .returned (r.map (cv ad)) ∧ Q r σ' ∧ WD G ad cI cJ cO σ' t) ∧ va_F (AD ad) st t
def LH (ad : Nat → Nat) (ls : Array Slot) (nL : Nat) (lo : List (Option Value)) : Prop := ls.size = nL ∧ lv_wf ls ∧ ∀ (i : Nat) (v : Value), lo[i]? = some (some v) → ls[i]? = some (.val (cv ad v))
def inj57 (ad : Nat → Nat) : Prop := ∀ a b, a < 57 → b < 57 → ad a = ad b → a = b
def CX (M : MD) (p : Program) (s : State) (m : MethodId) (args : Array Value) (meth : Method) (c : Code) (G : va_G) (ad : Nat → Nat) (cI cJ cO : ClassId) : Prop :=
  p.tables.exec = Jvm.exec ∧ c.code = M.2.1 ∧ c.maxLocals = M.2.2.1 ∧ s.vm.findClass M.1.cls = some m.cls ∧ (∀ w ∈ lU, w.before args s = true) ∧ meth.sig.returnType = M.2.2.2 ∧ meth.locks = false ∧ va_K G vwCl (tysW cI cJ cO) s ∧ (∀ w ∈ nwL, va_Nw w s) ∧ inj57 ad
/-- from pc on, with these locals, this stack, this world, at this depth of room, the method comes to an end with Q -/
def TT (M : MD) (d pc : Nat) (lo : List (Option Value)) (st : List Value) (σ : SG) (Q : Option Value → SG → Prop) : Prop :=
  ∀ (l : Launch) (p : Program) (e : Env) (s : State) (m : MethodId) (args : Array Value) (below : List Frame) (meth : Method) (c : Code) (G : va_G) (ad : Nat → Nat) (cI cJ cO : ClassId), CX M p s m args meth c G ad cI cJ cO →
  ∀ (H : Heap) (locs : List Loc) (ls : Array Slot), va_P G vwCl (wl ad cI cJ cO σ) H → va_S (AD ad) s.heap H locs → LH ad ls M.2.2.1 lo →
  W p l e (rmD d) s m args below meth c H locs 0 0 (MQ below (QQ G ad cI cJ cO Q) args s 0 0 (AD ad)) (F0 m pc ls (st.map (cv ad)))
theorem cv_cat (ad : Nat → Nat) (v : Value) : (cv ad v).category = v.category := by cases v <;> rfl
theorem cv_sum (ad : Nat → Nat) (st : List Value) : ((st.map (cv ad)).map fun v => v.category).sum = (st.map fun v => v.category).sum := by
  rw [List.map_map]; congr 1; apply List.map_congr_left; intro v _; exact cv_cat ad v
theorem wl_get {ad : Nat → Nat} {cI cJ cO : ClassId} {σ : SG} {p : Nat} (hp : p < 57) : (wl ad cI cJ cO σ)[p]? = some (ad p, cellE ad cI cJ cO σ p) := by
  unfold wl
  rw [List.getElem?_map, List.getElem?_range hp]; rfl
theorem wl_set {ad : Nat → Nat} {cI cJ cO : ClassId} {σ σ' : SG} {p : Nat} {e : va_E} (hp : p < 57) (he : cellE ad cI cJ cO σ' p = e) (ho : ∀ q, q < 57 → q ≠ p → cellE ad cI cJ cO σ' q = cellE ad cI cJ cO σ q) : (wl ad cI cJ cO σ).set p (ad p, e) = wl ad cI cJ cO σ' := by
  apply List.ext_getElem?
  intro i
  rw [List.getElem?_set]
  by_cases hi : i < 57
  · rw [wl_get hi, wl_get hi]
    by_cases hpi : p = i
    · subst hpi
      simp [wl, hp, he]
    · rw [if_neg hpi, ho i hi (fun h => hpi h.symm)]
  · have h1 : ∀ τ : SG, (wl ad cI cJ cO τ)[i]? = none := fun τ => by
      rw [List.getElem?_eq_none_iff]; simp [wl]; omega
    have hne : ¬ p = i := fun h => hi (h ▸ hp)
    rw [if_neg hne, h1, h1]
theorem wl_D {ad : Nat → Nat} {cI cJ cO : ClassId} {σ : SG} (hinj : inj57 ad) : va_D (AD ad) (wl ad cI cJ cO σ) := by
  have key : ∀ (i : Nat) (x : Nat × va_E), (wl ad cI cJ cO σ)[i]? = some x → i < 57 ∧ x.1 = ad i := by
    intro i x h
    have hi : i < 57 := by
      have := (List.getElem?_eq_some_iff.mp h).1
      simpa [wl] using this
    rw [wl_get hi] at h
    cases h
    exact ⟨hi, rfl⟩
  refine ⟨fun i j x y hx hy e => ?_, fun k x hx => ?_⟩
  · obtain ⟨h1, h2⟩ := key i x hx
    obtain ⟨h3, h4⟩ := key j y hy
    exact hinj i j h1 h3 (by rw [← h2, ← h4, e])
  · obtain ⟨h1, h2⟩ := key k x hx
    exact ⟨k, h1, h2.symm⟩
theorem kd_lt {p k : Nat} (h : kd p = k) (hk : k < 11) : p < 57 := by
  rcases Nat.lt_or_ge p 57 with q | q
  · exact q
  · have hn : kdL[p]? = none := List.getElem?_eq_none_iff.mpr q
    have : kd p = 11 := by unfold kd; rw [List.getD_eq_getElem?_getD, hn]; rfl
    omega
theorem cell_obj {ad : Nat → Nat} {cI cJ cO : ClassId} {σ : SG} {p ci : Nat} (h : kd p = ci) (hc : ci < 8) : cellE ad cI cJ cO σ p = .inr (ci, fvs ad σ p ci) := by
  unfold cellE; rw [h, if_pos hc]
theorem cell_int {ad : Nat → Nat} {cI cJ cO : ClassId} {σ : SG} {p : Nat} (h : kd p = 8) : cellE ad cI cJ cO σ p = .inl (cI, ln p, .inl (σ.1 p)) := by
  unfold cellE; rw [h, if_neg (by decide), if_pos rfl]
theorem cell_long {ad : Nat → Nat} {cI cJ cO : ClassId} {σ : SG} {p : Nat} (h : kd p = 9) : cellE ad cI cJ cO σ p = .inl (cJ, ln p, .inr (.inl (σ.2.1 p))) := by
  unfold cellE; rw [h, if_neg (by decide), if_neg (by decide), if_pos rfl]
theorem cell_sh {ad : Nat → Nat} {cI cJ cO : ClassId} {σ : SG} {p : Nat} (h : kd p = 10) : cellE ad cI cJ cO σ p = .inl (cO, 4, .inr (.inr (.inr (.inr (fun i => some (ad (2 + i))))))) := by
  unfold cellE; rw [h, if_neg (by decide), if_neg (by decide), if_neg (by decide)]
theorem fvs_get {ad : Nat → Nat} {σ : SG} {p ci k : Nat} (hk : k < nF ci) : (fvs ad σ p ci)[k]? = some (fv ad σ p ci k) := by
  unfold fvs; rw [List.getElem?_map, List.getElem?_range hk]; rfl
theorem fvs_set {ad : Nat → Nat} {σ σ' : SG} {p ci k : Nat} {v : Value} (hk : k < nF ci) (hv : fv ad σ' p ci k = v) (ho : ∀ j, j < nF ci → j ≠ k → fv ad σ' p ci j = fv ad σ p ci j) : (fvs ad σ p ci).set k v = fvs ad σ' p ci := by
  apply List.ext_getElem?
  intro i
  rw [List.getElem?_set]
  by_cases hi : i < nF ci
  · rw [fvs_get hi, fvs_get hi]
    by_cases h : k = i
    · subst h
      rw [if_pos rfl, hv]; simp [fvs, hk]
    · rw [if_neg h, ho i hi (fun e => h e.symm)]
  · have h1 : ∀ τ : SG, (fvs ad τ p ci)[i]? = none := fun τ => by
      rw [List.getElem?_eq_none_iff]; simp [fvs]; omega
    have hne : ¬ k = i := fun h => hi (h ▸ hk)
    rw [if_neg hne, h1, h1]
/-- the world with one number changed -/
def uI (S : Nat → Nat → Int32) (p k : Nat) (x : Int32) : Nat → Nat → Int32 := fun a b => if a = p then (if b = k then x else S a b) else S a b
def uL (L : Nat → Nat → Int64) (p k : Nat) (x : Int64) : Nat → Nat → Int64 := fun a b => if a = p then (if b = k then x else L a b) else L a b
theorem uI_p {S : Nat → Nat → Int32} {p k a : Nat} {x : Int32} (h : a ≠ p) : uI S p k x a = S a := by funext b; simp [uI, h]
theorem uL_p {S : Nat → Nat → Int64} {p k a : Nat} {x : Int64} (h : a ≠ p) : uL S p k x a = S a := by funext b; simp [uL, h]
theorem uI_row {S : Nat → Nat → Int32} {p k : Nat} {x : Int32} : uI S p k x p = upd (S p) k x := by funext b; simp [uI, upd]
theorem uL_row {S : Nat → Nat → Int64} {p k : Nat} {x : Int64} : uL S p k x p = vp_updL (S p) k x := by funext b; simp [uL, vp_updL]
theorem uI_s {S : Nat → Nat → Int32} {p k : Nat} {x : Int32} : uI S p k x p k = x := by simp [uI]
theorem uI_k {S : Nat → Nat → Int32} {p k j : Nat} {x : Int32} (h : j ≠ k) : uI S p k x p j = S p j := by simp [uI, h]
theorem uL_s {S : Nat → Nat → Int64} {p k : Nat} {x : Int64} : uL S p k x p k = x := by simp [uL]
theorem uL_k {S : Nat → Nat → Int64} {p k j : Nat} {x : Int64} (h : j ≠ k) : uL S p k x p j = S p j := by simp [uL, h]
theorem cell_off {ad : Nat → Nat} {cI cJ cO : ClassId} {S S' : Nat → Nat → Int32} {L : Nat → Nat → Int64} {R : Nat × Nat × Nat} {q : Nat} (h : S' q = S q) : cellE ad cI cJ cO (S', L, R) q = cellE ad cI cJ cO (S, L, R) q := by
  unfold cellE fvs
  have h2 : ∀ ci, fv ad (S', L, R) q ci = fv ad (S, L, R) q ci := by intro ci; funext k; simp only [fv, h]
  simp only [h2, h]
theorem cell_offL {ad : Nat → Nat} {cI cJ cO : ClassId} {S : Nat → Nat → Int32} {L L' : Nat → Nat → Int64} {R : Nat × Nat × Nat} {q : Nat} (h : L' q = L q) : cellE ad cI cJ cO (S, L', R) q = cellE ad cI cJ cO (S, L, R) q := by
  unfold cellE fvs
  have h2 : ∀ ci, fv ad (S, L', R) q ci = fv ad (S, L, R) q ci := by intro ci; funext k; simp only [fv]
  simp only [h2, h]
