/-! what the class shows, what the reference shows: one picture -/
def okR (R : Nat × Nat × Nat) : Prop := (R.1 = 19 ∧ R.2.1 = 28) ∨ (R.1 = 28 ∧ R.2.1 = 19)
def CI (S : Nat → Nat → Int32) (R : Nat × Nat × Nat) (a : Nat → Nat → Nat) (h : HS) (t f : Int32) : Prop := TV S R.1 a ∧ SHC S h ∧ S 0 7 = t ∧ S 0 8 = f
def MI (S : Nat → Nat → Int32) (a : Nat → Nat → Nat) (h : HS) (t f : Int32) : Prop := MV S a ∧ SHM S h ∧ S 37 1 = t ∧ S 37 0 = f
theorem SHC_cong {S S' : Nat → Nat → Int32} {h : HS} (hH : SHC S h) (hq : ∀ q, 2 ≤ q → q ≤ 9 → S' q = S q) : SHC S' h := by
  intro j hj
  rw [hq (2 + j) (by omega) (by omega), hq (6 + j) (by omega) (by omega)]
  exact hH j hj
theorem CI.cong {S S' : Nat → Nat → Int32} {R : Nat × Nat × Nat} {a : Nat → Nat → Nat} {h : HS} {t f : Int32} (hR : okR R) (hC : CI S R a h t f) (hq : ∀ q, q < 37 → S' q = S q) : CI S' R a h t f :=
  ⟨hC.1.cong (fun q h1 h2 _ => hq q (by unfold okR at hR; omega)), SHC_cong hC.2.1 (fun q h1 h2 => hq q (by omega)), by rw [hq 0 (by decide)]; exact hC.2.2.1, by rw [hq 0 (by decide)]; exact hC.2.2.2⟩
theorem MI.cong {S S' : Nat → Nat → Int32} {a : Nat → Nat → Nat} {h : HS} {t f : Int32} (hM : MI S a h t f) (hq : ∀ q, 37 ≤ q → S' q = S q) : MI S' a h t f :=
  ⟨hM.1.cong (fun q h1 => hq q (by omega)) (fun k _ => by rw [hq 37 (by decide)]), hM.2.1.cong (fun q h1 h2 => hq q (by omega)), by rw [hq 37 (by decide)]; exact hM.2.2.1, by rw [hq 37 (by decide)]; exact hM.2.2.2⟩
def CQ (S : Nat → Nat → Int32) (PA : Option Value → Prop) (a : Nat → Nat → Nat) (h : HS) (t f : Int32) : Option Value → SG → Prop := fun r σ' => ∃ S' L' R', σ' = (S', L', R') ∧ okR R' ∧ PA r ∧ CI S' R' a h t f ∧ ∀ q, 37 ≤ q → S' q = S q
def RQ (S : Nat → Nat → Int32) (R : Nat × Nat × Nat) (PA : Option Value → Prop) (a : Nat → Nat → Nat) (h : HS) (t f : Int32) : Option Value → SG → Prop := fun r σ' => ∃ S' L', σ' = (S', L', R) ∧ PA r ∧ MI S' a h t f ∧ ∀ q, q < 37 → S' q = S q
set_option maxRecDepth 20000 in
theorem k6_table {S : Nat → Nat → Int32} {L : Nat → Nat → Int64} {R : Nat × Nat × Nat} {a : Nat → Nat → Nat} {h : HS} {t f : Int32} {x1 x2 x3 x4 : Int32} (hR : okR R) (hwf : WFA a) (hbh : BH h) (hC : CI S R a h t f) : TT mX6_table (0 + 6) 0 [some (.ref 0), some (.int x1), some (.int x2), some (.int x3), some (.int x4), none, none] [] (S, L, R) (CQ S (fun r => r = some (.int (aTable h x1 x2 x3 x4))) (sTable a h x1 x2 x3 x4) h t (nI (fTable h x1 x2 x3 x4))) := by
  obtain ⟨nw, sp, cd⟩ := R
  have hR0 : (nw = 19 ∧ sp = 28) ∨ (nw = 28 ∧ sp = 19) := hR
  have hnw : nw = 19 ∨ nw = 28 := by omega
  obtain ⟨hV, hH, hT, hF⟩ := id hC
  have hV : TV S nw a := hV
  refine T_mono (c_X6_table hR0 hV hwf hH hbh) (fun r σ' q => ?_)
  obtain ⟨S', nw', sp', cd', rfl, rfl, g0, g1, g2, g3, g4⟩ := q
  exact ⟨S', L, _, rfl, g0, rfl, ⟨g1, SHC_cong hH (fun q h1 h2 => g2 q (Or.inl ⟨h1, h2⟩)), (g3 7 (by decide)).trans hT, g4⟩, fun q hq => g2 q (Or.inr hq)⟩
set_option maxRecDepth 20000 in
theorem k6_ofGuest {S : Nat → Nat → Int32} {L : Nat → Nat → Int64} {R : Nat × Nat × Nat} {a : Nat → Nat → Nat} {h : HS} {t f : Int32} {x1 x2 : Int32} (hR : okR R) (hwf : WFA a) (hbh : BH h) (hC : CI S R a h t f) : TT mX6_ofGuest (0 + 3) 0 [some (.ref 0), some (.int x1), some (.int x2)] [] (S, L, R) (CQ S (fun r => r = some (.int (aGuest a x1 x2))) a h t f) := by
  obtain ⟨nw, sp, cd⟩ := R
  have hR0 : (nw = 19 ∧ sp = 28) ∨ (nw = 28 ∧ sp = 19) := hR
  have hnw : nw = 19 ∨ nw = 28 := by omega
  obtain ⟨hV, hH, hT, hF⟩ := id hC
  have hV : TV S nw a := hV
  refine T_mono (c_X6_ofGuest hnw hV hwf) (fun r σ' q => ?_)
  obtain ⟨rfl, rfl⟩ := q
  exact ⟨S, L, _, rfl, hR, rfl, hC, fun _ _ => rfl⟩
set_option maxRecDepth 20000 in
theorem k6_ofDish {S : Nat → Nat → Int32} {L : Nat → Nat → Int64} {R : Nat × Nat × Nat} {a : Nat → Nat → Nat} {h : HS} {t f : Int32} {x1 x2 : Int32} (hR : okR R) (hwf : WFA a) (hbh : BH h) (hC : CI S R a h t f) : TT mX6_ofDish (0 + 3) 0 [some (.ref 0), some (.int x1), some (.int x2)] [] (S, L, R) (CQ S (fun r => r = some (.int (aDish a x1 x2))) a h t f) := by
  obtain ⟨nw, sp, cd⟩ := R
  have hR0 : (nw = 19 ∧ sp = 28) ∨ (nw = 28 ∧ sp = 19) := hR
  have hnw : nw = 19 ∨ nw = 28 := by omega
  obtain ⟨hV, hH, hT, hF⟩ := id hC
  have hV : TV S nw a := hV
  refine T_mono (c_X6_ofDish hnw hV hwf) (fun r σ' q => ?_)
  obtain ⟨rfl, rfl⟩ := q
  exact ⟨S, L, _, rfl, hR, rfl, hC, fun _ _ => rfl⟩
set_option maxRecDepth 20000 in
theorem k6_whose {S : Nat → Nat → Int32} {L : Nat → Nat → Int64} {R : Nat × Nat × Nat} {a : Nat → Nat → Nat} {h : HS} {t f : Int32} {x1 : Int32} (hR : okR R) (hwf : WFA a) (hbh : BH h) (hC : CI S R a h t f) : TT mX6_whose (0 + 2) 0 [some (.ref 0), some (.int x1)] [] (S, L, R) (CQ S (fun r => r = some (.int (aWhose a x1))) a h t f) := by
  obtain ⟨nw, sp, cd⟩ := R
  have hR0 : (nw = 19 ∧ sp = 28) ∨ (nw = 28 ∧ sp = 19) := hR
  have hnw : nw = 19 ∨ nw = 28 := by omega
  obtain ⟨hV, hH, hT, hF⟩ := id hC
  have hV : TV S nw a := hV
  refine T_mono (c_X6_whose hnw hV hwf) (fun r σ' q => ?_)
  obtain ⟨rfl, rfl⟩ := q
  exact ⟨S, L, _, rfl, hR, rfl, hC, fun _ _ => rfl⟩
set_option maxRecDepth 20000 in
theorem k6_land {S : Nat → Nat → Int32} {L : Nat → Nat → Int64} {R : Nat × Nat × Nat} {a : Nat → Nat → Nat} {h : HS} {t f : Int32} {x1 : Int32} (hR : okR R) (hwf : WFA a) (hbh : BH h) (hC : CI S R a h t f) : TT mX6_land (0 + 3) 0 [some (.ref 0), some (.int x1)] [] (S, L, R) (CQ S (fun r => r = some (.int (aLand a x1))) a h t f) := by
  obtain ⟨nw, sp, cd⟩ := R
  have hR0 : (nw = 19 ∧ sp = 28) ∨ (nw = 28 ∧ sp = 19) := hR
  have hnw : nw = 19 ∨ nw = 28 := by omega
  obtain ⟨hV, hH, hT, hF⟩ := id hC
  have hV : TV S nw a := hV
  refine T_mono (c_X6_land hnw hV hwf) (fun r σ' q => ?_)
  obtain ⟨rfl, rfl⟩ := q
  exact ⟨S, L, _, rfl, hR, rfl, hC, fun _ _ => rfl⟩
set_option maxRecDepth 20000 in
theorem k6_chew {S : Nat → Nat → Int32} {L : Nat → Nat → Int64} {R : Nat × Nat × Nat} {a : Nat → Nat → Nat} {h : HS} {t f : Int32} {x1 x2 : Int32} (hR : okR R) (hwf : WFA a) (hbh : BH h) (hC : CI S R a h t f) : TT mX6_chew (0 + 1) 0 [some (.ref 0), some (.int x1), some (.int x2), none] [] (S, L, R) (CQ S (fun r => r = some (.int (aChew a x1 x2))) (sChew a x1 x2) h t f) := by
  obtain ⟨nw, sp, cd⟩ := R
  have hR0 : (nw = 19 ∧ sp = 28) ∨ (nw = 28 ∧ sp = 19) := hR
  have hnw : nw = 19 ∨ nw = 28 := by omega
  obtain ⟨hV, hH, hT, hF⟩ := id hC
  have hV : TV S nw a := hV
  refine T_mono (c_X6_chew hnw hV hwf) (fun r σ' q => ?_)
  obtain ⟨S', rfl, rfl, g1, g2⟩ := q
  exact ⟨S', L, _, rfl, hR, rfl, ⟨g1, SHC_cong hH (fun q h1 h2 => g2.1 q (Or.inl ⟨h1, h2⟩)), g2.2.1.trans hT, g2.2.2.trans hF⟩, fun q hq => g2.1 q (Or.inr hq)⟩
set_option maxRecDepth 20000 in
theorem k6_cook {S : Nat → Nat → Int32} {L : Nat → Nat → Int64} {R : Nat × Nat × Nat} {a : Nat → Nat → Nat} {h : HS} {t f : Int32} {x1 : Int32} (hR : okR R) (hwf : WFA a) (hbh : BH h) (hC : CI S R a h t f) : TT mX6_cook (0 + 1) 0 [some (.ref 0), some (.int x1), none] [] (S, L, R) (CQ S (fun r => r = some (.int (aCook a x1))) (sCook a x1) h t f) := by
  obtain ⟨nw, sp, cd⟩ := R
  have hR0 : (nw = 19 ∧ sp = 28) ∨ (nw = 28 ∧ sp = 19) := hR
  have hnw : nw = 19 ∨ nw = 28 := by omega
  obtain ⟨hV, hH, hT, hF⟩ := id hC
  have hV : TV S nw a := hV
  refine T_mono (c_X6_cook hnw hV hwf) (fun r σ' q => ?_)
  obtain ⟨S', rfl, rfl, g1, g2⟩ := q
  exact ⟨S', L, _, rfl, hR, rfl, ⟨g1, SHC_cong hH (fun q h1 h2 => g2.1 q (Or.inl ⟨h1, h2⟩)), g2.2.1.trans hT, g2.2.2.trans hF⟩, fun q hq => g2.1 q (Or.inr hq)⟩
set_option maxRecDepth 20000 in
theorem k6_rate {S : Nat → Nat → Int32} {L : Nat → Nat → Int64} {R : Nat × Nat × Nat} {a : Nat → Nat → Nat} {h : HS} {t f : Int32} {x1 x2 : Int32} (hR : okR R) (hwf : WFA a) (hbh : BH h) (hC : CI S R a h t f) : TT mX6_rate (0 + 1) 0 [some (.ref 0), some (.int x1), some (.int x2), none] [] (S, L, R) (CQ S (fun r => r = some (.int (aRate a x1 x2))) (sRate a x1 x2) h t f) := by
  obtain ⟨nw, sp, cd⟩ := R
  have hR0 : (nw = 19 ∧ sp = 28) ∨ (nw = 28 ∧ sp = 19) := hR
  have hnw : nw = 19 ∨ nw = 28 := by omega
  obtain ⟨hV, hH, hT, hF⟩ := id hC
  have hV : TV S nw a := hV
  refine T_mono (c_X6_rate hnw hV hwf) (fun r σ' q => ?_)
  obtain ⟨S', rfl, rfl, g1, g2⟩ := q
  exact ⟨S', L, _, rfl, hR, rfl, ⟨g1, SHC_cong hH (fun q h1 h2 => g2.1 q (Or.inl ⟨h1, h2⟩)), g2.2.1.trans hT, g2.2.2.trans hF⟩, fun q hq => g2.1 q (Or.inr hq)⟩
set_option maxRecDepth 20000 in
theorem k6_carry {S : Nat → Nat → Int32} {L : Nat → Nat → Int64} {R : Nat × Nat × Nat} {a : Nat → Nat → Nat} {h : HS} {t f : Int32} {x1 x2 : Int32} (hR : okR R) (hwf : WFA a) (hbh : BH h) (hC : CI S R a h t f) : TT mX6_carry (0 + 1) 0 [some (.ref 0), some (.int x1), some (.int x2), none] [] (S, L, R) (CQ S (fun r => r = some (.int (aCarry a x1 x2))) (sCarry a x1 x2) h t f) := by
  obtain ⟨nw, sp, cd⟩ := R
  have hR0 : (nw = 19 ∧ sp = 28) ∨ (nw = 28 ∧ sp = 19) := hR
  have hnw : nw = 19 ∨ nw = 28 := by omega
  obtain ⟨hV, hH, hT, hF⟩ := id hC
  have hV : TV S nw a := hV
  refine T_mono (c_X6_carry hnw hV hwf) (fun r σ' q => ?_)
  obtain ⟨S', rfl, rfl, g1, g2⟩ := q
  exact ⟨S', L, _, rfl, hR, rfl, ⟨g1, SHC_cong hH (fun q h1 h2 => g2.1 q (Or.inl ⟨h1, h2⟩)), g2.2.1.trans hT, g2.2.2.trans hF⟩, fun q hq => g2.1 q (Or.inr hq)⟩
set_option maxRecDepth 20000 in
theorem k6_pass {S : Nat → Nat → Int32} {L : Nat → Nat → Int64} {R : Nat × Nat × Nat} {a : Nat → Nat → Nat} {h : HS} {t f : Int32} {x1 : Int32} (hR : okR R) (hwf : WFA a) (hbh : BH h) (hC : CI S R a h t f) : TT mX6_pass (0 + 3) 0 [some (.ref 0), some (.int x1), none, none] [] (S, L, R) (CQ S (fun r => r = some (.int (aPass a x1))) (sPass a x1) h t f) := by
  obtain ⟨nw, sp, cd⟩ := R
  have hR0 : (nw = 19 ∧ sp = 28) ∨ (nw = 28 ∧ sp = 19) := hR
  have hnw : nw = 19 ∨ nw = 28 := by omega
  obtain ⟨hV, hH, hT, hF⟩ := id hC
  have hV : TV S nw a := hV
  refine T_mono (c_X6_pass hnw hV hwf) (fun r σ' q => ?_)
  obtain ⟨S', rfl, rfl, g1, g2⟩ := q
  exact ⟨S', L, _, rfl, hR, rfl, ⟨g1, SHC_cong hH (fun q h1 h2 => g2.1 q (Or.inl ⟨h1, h2⟩)), g2.2.1.trans hT, g2.2.2.trans hF⟩, fun q hq => g2.1 q (Or.inr hq)⟩
set_option maxRecDepth 20000 in
theorem k6_dinner {S : Nat → Nat → Int32} {L : Nat → Nat → Int64} {R : Nat × Nat × Nat} {a : Nat → Nat → Nat} {h : HS} {t f : Int32} {x1 x2 x3 x4 x5 : Int32} (hR : okR R) (hwf : WFA a) (hbh : BH h) (hC : CI S R a h t f) : TT mX6_dinner (0 + 4) 0 [some (.ref 0), some (.int x1), some (.int x2), some (.int x3), some (.int x4), some (.int x5), none, none] [] (S, L, R) (CQ S (fun r => r = some (.int (aDinner a h x1 x2 x3 x4 x5))) a h t (nI (fDinner h x1 x2 x3 x4 x5))) := by
  obtain ⟨nw, sp, cd⟩ := R
  have hR0 : (nw = 19 ∧ sp = 28) ∨ (nw = 28 ∧ sp = 19) := hR
  have hnw : nw = 19 ∨ nw = 28 := by omega
  obtain ⟨hV, hH, hT, hF⟩ := id hC
  have hV : TV S nw a := hV
  refine T_mono (c_X6_dinner hnw hV hwf hH hbh) (fun r σ' q => ?_)
  obtain ⟨S', rfl, rfl, g1, g2, g3⟩ := q
  exact ⟨S', L, _, rfl, hR, rfl, ⟨hV.cong (fun q h1 h2 _ => g1 q (by omega) (by omega)), SHC_cong hH (fun q h1 h2 => g1 q (by omega) (by omega)), (g2 7 (by decide)).trans hT, g3⟩, fun q hq => g1 q (by omega) (by omega)⟩
set_option maxRecDepth 20000 in
theorem k6_ask {S : Nat → Nat → Int32} {L : Nat → Nat → Int64} {R : Nat × Nat × Nat} {a : Nat → Nat → Nat} {h : HS} {t f : Int32} {x1 x2 x3 : Int32} (hR : okR R) (hwf : WFA a) (hbh : BH h) (hC : CI S R a h t f) : TT mX6_ask (0 + 6) 0 [some (.ref 0), some (.int x1), some (.int x2), some (.int x3)] [] (S, L, R) (CQ S (fun r => ∃ v, r = some (.int v) ∧ AskP 1000 FAR a x1 x2 x3 v) a h t f) := by
  obtain ⟨nw, sp, cd⟩ := R
  have hR0 : (nw = 19 ∧ sp = 28) ∨ (nw = 28 ∧ sp = 19) := hR
  have hnw : nw = 19 ∨ nw = 28 := by omega
  obtain ⟨hV, hH, hT, hF⟩ := id hC
  have hV : TV S nw a := hV
  refine T_mono (c_X6_ask hnw hV hwf) (fun r σ' q => ?_)
  obtain ⟨S', rfl, g1, g2, g3⟩ := q
  exact ⟨S', L, _, rfl, hR, g3, ⟨g1, SHC_cong hH (fun q h1 h2 => g2.1 q (Or.inl ⟨h1, h2⟩)), g2.2.1.trans hT, g2.2.2.trans hF⟩, fun q hq => g2.1 q (Or.inr hq)⟩
set_option maxRecDepth 20000 in
theorem k6_treaty {S : Nat → Nat → Int32} {L : Nat → Nat → Int64} {R : Nat × Nat × Nat} {a : Nat → Nat → Nat} {h : HS} {t f : Int32} {x1 : Int32} (hR : okR R) (hwf : WFA a) (hbh : BH h) (hC : CI S R a h t f) : TT mX6_treaty (0 + 6) 0 [some (.ref 0), some (.int x1)] [] (S, L, R) (CQ S (fun r => ∃ v, r = some (.int v) ∧ TreP 1000 FAR a x1 v) a h t f) := by
  obtain ⟨nw, sp, cd⟩ := R
  have hR0 : (nw = 19 ∧ sp = 28) ∨ (nw = 28 ∧ sp = 19) := hR
  have hnw : nw = 19 ∨ nw = 28 := by omega
  obtain ⟨hV, hH, hT, hF⟩ := id hC
  have hV : TV S nw a := hV
  refine T_mono (c_X6_treaty hnw hV hwf) (fun r σ' q => ?_)
  obtain ⟨S', rfl, g1, g2, g3⟩ := q
  exact ⟨S', L, _, rfl, hR, g3, ⟨g1, SHC_cong hH (fun q h1 h2 => g2.1 q (Or.inl ⟨h1, h2⟩)), g2.2.1.trans hT, g2.2.2.trans hF⟩, fun q hq => g2.1 q (Or.inr hq)⟩
set_option maxRecDepth 20000 in
theorem k6_game {S : Nat → Nat → Int32} {L : Nat → Nat → Int64} {R : Nat × Nat × Nat} {a : Nat → Nat → Nat} {h : HS} {t f : Int32} {x1 x2 x3 : Int32} (hR : okR R) (hwf : WFA a) (hbh : BH h) (hC : CI S R a h t f) : TT mX6_game (0 + 14) 0 [some (.ref 0), some (.int x1), some (.int x2), some (.int x3)] [] (S, L, R) (CQ S (fun r => r = some (.int (aGame a x1 x2 x3))) a h t f) := by
  obtain ⟨nw, sp, cd⟩ := R
  have hR0 : (nw = 19 ∧ sp = 28) ∨ (nw = 28 ∧ sp = 19) := hR
  have hnw : nw = 19 ∨ nw = 28 := by omega
  obtain ⟨hV, hH, hT, hF⟩ := id hC
  have hV : TV S nw a := hV
  refine T_mono (c_X6_game hnw hV hwf) (fun r σ' q => ?_)
  obtain ⟨rfl, rfl⟩ := q
  exact ⟨S, L, _, rfl, hR, rfl, hC, fun _ _ => rfl⟩
set_option maxRecDepth 20000 in
theorem k6_spilt {S : Nat → Nat → Int32} {L : Nat → Nat → Int64} {R : Nat × Nat × Nat} {a : Nat → Nat → Nat} {h : HS} {t f : Int32} {x1 : Int32} (hR : okR R) (hwf : WFA a) (hbh : BH h) (hC : CI S R a h t f) : TT mX6_spilt (0 + 3) 0 [some (.ref 0), some (.int x1)] [] (S, L, R) (CQ S (fun r => r = some (.int (aSpilt a x1))) a h t f) := by
  obtain ⟨nw, sp, cd⟩ := R
  have hR0 : (nw = 19 ∧ sp = 28) ∨ (nw = 28 ∧ sp = 19) := hR
  have hnw : nw = 19 ∨ nw = 28 := by omega
  obtain ⟨hV, hH, hT, hF⟩ := id hC
  have hV : TV S nw a := hV
  refine T_mono (c_X6_spilt hnw hV hwf) (fun r σ' q => ?_)
  obtain ⟨S', rfl, rfl, g1, g2⟩ := q
  exact ⟨S', L, _, rfl, hR, rfl, ⟨g1, SHC_cong hH (fun q h1 h2 => g2.1 q (Or.inl ⟨h1, h2⟩)), g2.2.1.trans hT, g2.2.2.trans hF⟩, fun q hq => g2.1 q (Or.inr hq)⟩
set_option maxRecDepth 20000 in
theorem k6_home {S : Nat → Nat → Int32} {L : Nat → Nat → Int64} {R : Nat × Nat × Nat} {a : Nat → Nat → Nat} {h : HS} {t f : Int32} {x1 : Int32} (hR : okR R) (hwf : WFA a) (hbh : BH h) (hC : CI S R a h t f) : TT mX6_home (0 + 4) 0 [some (.ref 0), some (.int x1)] [] (S, L, R) (CQ S (fun r => r = some (.long (aHome a x1))) a h t f) := by
  obtain ⟨nw, sp, cd⟩ := R
  have hR0 : (nw = 19 ∧ sp = 28) ∨ (nw = 28 ∧ sp = 19) := hR
  have hnw : nw = 19 ∨ nw = 28 := by omega
  obtain ⟨hV, hH, hT, hF⟩ := id hC
  have hV : TV S nw a := hV
  refine T_mono (c_X6_home hnw hV hwf) (fun r σ' q => ?_)
  obtain ⟨L', rfl, rfl⟩ := q
  exact ⟨S, L', _, rfl, hR, rfl, hC, fun _ _ => rfl⟩
set_option maxRecDepth 20000 in
theorem k6_reading {S : Nat → Nat → Int32} {L : Nat → Nat → Int64} {R : Nat × Nat × Nat} {a : Nat → Nat → Nat} {h : HS} {t f : Int32} {x1 x2 : Int32} (hR : okR R) (hwf : WFA a) (hbh : BH h) (hC : CI S R a h t f) : TT mX6_reading (0 + 1) 0 [some (.ref 0), some (.int x1), some (.int x2)] [] (S, L, R) (CQ S (fun r => r = some (.int (aReading a x1 x2))) (sReading a x1 x2) h t f) := by
  obtain ⟨nw, sp, cd⟩ := R
  have hR0 : (nw = 19 ∧ sp = 28) ∨ (nw = 28 ∧ sp = 19) := hR
  have hnw : nw = 19 ∨ nw = 28 := by omega
  obtain ⟨hV, hH, hT, hF⟩ := id hC
  have hV : TV S nw a := hV
  refine T_mono (c_X6_reading hnw hV hwf) (fun r σ' q => ?_)
  obtain ⟨S', rfl, rfl, g1, g2⟩ := q
  exact ⟨S', L, _, rfl, hR, rfl, ⟨g1, SHC_cong hH (fun q h1 h2 => g2.1 q (Or.inl ⟨h1, h2⟩)), g2.2.1.trans hT, g2.2.2.trans hF⟩, fun q hq => g2.1 q (Or.inr hq)⟩
set_option maxRecDepth 20000 in
theorem k6_back {S : Nat → Nat → Int32} {L : Nat → Nat → Int64} {R : Nat × Nat × Nat} {a : Nat → Nat → Nat} {h : HS} {t f : Int32} {x1 : Int32} (hR : okR R) (hwf : WFA a) (hbh : BH h) (hC : CI S R a h t f) : TT mX6_back (0 + 1) 0 [some (.ref 0), some (.int x1)] [] (S, L, R) (CQ S (fun r => r = some (.int (aBack a x1))) (sBack a x1) h t f) := by
  obtain ⟨nw, sp, cd⟩ := R
  have hR0 : (nw = 19 ∧ sp = 28) ∨ (nw = 28 ∧ sp = 19) := hR
  have hnw : nw = 19 ∨ nw = 28 := by omega
  obtain ⟨hV, hH, hT, hF⟩ := id hC
  have hV : TV S nw a := hV
  refine T_mono (c_X6_back hnw hV hwf) (fun r σ' q => ?_)
  obtain ⟨S', rfl, rfl, g1, g2⟩ := q
  exact ⟨S', L, _, rfl, hR, rfl, ⟨g1, SHC_cong hH (fun q h1 h2 => g2.1 q (Or.inl ⟨h1, h2⟩)), g2.2.1.trans hT, g2.2.2.trans hF⟩, fun q hq => g2.1 q (Or.inr hq)⟩
set_option maxRecDepth 20000 in
theorem k6_mouths {S : Nat → Nat → Int32} {L : Nat → Nat → Int64} {R : Nat × Nat × Nat} {a : Nat → Nat → Nat} {h : HS} {t f : Int32} {x1 : Int32} (hR : okR R) (hwf : WFA a) (hbh : BH h) (hC : CI S R a h t f) : TT mX6_mouths (0 + 3) 0 [some (.ref 0), some (.int x1), none, none] [] (S, L, R) (CQ S (fun r => r = some (.int (aMouths a x1))) a h t f) := by
  obtain ⟨nw, sp, cd⟩ := R
  have hR0 : (nw = 19 ∧ sp = 28) ∨ (nw = 28 ∧ sp = 19) := hR
  have hnw : nw = 19 ∨ nw = 28 := by omega
  obtain ⟨hV, hH, hT, hF⟩ := id hC
  have hV : TV S nw a := hV
  refine T_mono (c_X6_mouths hnw hV hwf) (fun r σ' q => ?_)
  obtain ⟨rfl, rfl⟩ := q
  exact ⟨S, L, _, rfl, hR, rfl, hC, fun _ _ => rfl⟩
set_option maxRecDepth 20000 in
theorem k6_kinds {S : Nat → Nat → Int32} {L : Nat → Nat → Int64} {R : Nat × Nat × Nat} {a : Nat → Nat → Nat} {h : HS} {t f : Int32} {x1 : Int32} (hR : okR R) (hwf : WFA a) (hbh : BH h) (hC : CI S R a h t f) : TT mX6_kinds (0 + 3) 0 [some (.ref 0), some (.int x1), none, none] [] (S, L, R) (CQ S (fun r => r = some (.int (aKinds a x1))) a h t f) := by
  obtain ⟨nw, sp, cd⟩ := R
  have hR0 : (nw = 19 ∧ sp = 28) ∨ (nw = 28 ∧ sp = 19) := hR
  have hnw : nw = 19 ∨ nw = 28 := by omega
  obtain ⟨hV, hH, hT, hF⟩ := id hC
  have hV : TV S nw a := hV
  refine T_mono (c_X6_kinds hnw hV hwf) (fun r σ' q => ?_)
  obtain ⟨rfl, rfl⟩ := q
  exact ⟨S, L, _, rfl, hR, rfl, hC, fun _ _ => rfl⟩
set_option maxRecDepth 20000 in
theorem k6_soups {S : Nat → Nat → Int32} {L : Nat → Nat → Int64} {R : Nat × Nat × Nat} {a : Nat → Nat → Nat} {h : HS} {t f : Int32} (hR : okR R) (hwf : WFA a) (hbh : BH h) (hC : CI S R a h t f) : TT mX6_soups (0 + 3) 0 [some (.ref 0), none, none] [] (S, L, R) (CQ S (fun r => r = some (.int (aSoups a))) a h t f) := by
  obtain ⟨nw, sp, cd⟩ := R
  have hR0 : (nw = 19 ∧ sp = 28) ∨ (nw = 28 ∧ sp = 19) := hR
  have hnw : nw = 19 ∨ nw = 28 := by omega
  obtain ⟨hV, hH, hT, hF⟩ := id hC
  have hV : TV S nw a := hV
  refine T_mono (c_X6_soups hnw hV hwf) (fun r σ' q => ?_)
  obtain ⟨rfl, rfl⟩ := q
  exact ⟨S, L, _, rfl, hR, rfl, hC, fun _ _ => rfl⟩
set_option maxRecDepth 20000 in
theorem k6_odds {S : Nat → Nat → Int32} {L : Nat → Nat → Int64} {R : Nat × Nat × Nat} {a : Nat → Nat → Nat} {h : HS} {t f : Int32} {x1 x2 x3 x4 : Int32} (hR : okR R) (hwf : WFA a) (hbh : BH h) (hC : CI S R a h t f) : TT mX6_odds (0 + 4) 0 [some (.ref 0), some (.int x1), some (.int x2), some (.int x3), some (.int x4), none, none, none, none, none] [] (S, L, R) (CQ S (fun r => r = some (.long (aOdds a x1 x2 x3 x4))) a h t f) := by
  obtain ⟨nw, sp, cd⟩ := R
  have hR0 : (nw = 19 ∧ sp = 28) ∨ (nw = 28 ∧ sp = 19) := hR
  have hnw : nw = 19 ∨ nw = 28 := by omega
  obtain ⟨hV, hH, hT, hF⟩ := id hC
  have hV : TV S nw a := hV
  refine T_mono (c_X6_odds hnw hV hwf) (fun r σ' q => ?_)
  obtain ⟨L', rfl, rfl⟩ := q
  exact ⟨S, L', _, rfl, hR, rfl, hC, fun _ _ => rfl⟩
set_option maxRecDepth 20000 in
theorem k6_sheet {S : Nat → Nat → Int32} {L : Nat → Nat → Int64} {R : Nat × Nat × Nat} {a : Nat → Nat → Nat} {h : HS} {t f : Int32} {x1 x2 x3 : Int32} (hR : okR R) (hwf : WFA a) (hbh : BH h) (hC : CI S R a h t f) : TT mX6_sheet (0 + 2) 0 [some (.ref 0), some (.int x1), some (.int x2), some (.int x3)] [] (S, L, R) (CQ S (fun r => r = some (.int (aSheet x1 x2 x3))) a (sSheet h x1 x2 x3) t (nI (fSheet x1 x2 x3))) := by
  obtain ⟨nw, sp, cd⟩ := R
  have hR0 : (nw = 19 ∧ sp = 28) ∨ (nw = 28 ∧ sp = 19) := hR
  have hnw : nw = 19 ∨ nw = 28 := by omega
  obtain ⟨hV, hH, hT, hF⟩ := id hC
  have hV : TV S nw a := hV
  refine T_mono (c_X6_sheet hH hbh) (fun r σ' q => ?_)
  obtain ⟨S', rfl, rfl, g1, g2, g3⟩ := q
  exact ⟨S', L, _, rfl, hR, rfl, ⟨hV.cong (fun q h1 h2 _ => g2.1 q (by omega) (by omega)), g1, (g2.2 7 (by decide)).trans hT, g3⟩, fun q hq => g2.1 q (by omega) (by omega)⟩
set_option maxRecDepth 20000 in
theorem k6_lose {S : Nat → Nat → Int32} {L : Nat → Nat → Int64} {R : Nat × Nat × Nat} {a : Nat → Nat → Nat} {h : HS} {t f : Int32} {x1 : Int32} (hR : okR R) (hwf : WFA a) (hbh : BH h) (hC : CI S R a h t f) : TT mX6_lose (0 + 2) 0 [some (.ref 0), some (.int x1), none] [] (S, L, R) (CQ S (fun r => r = some (.int (aLose h x1))) a (sLose h x1) t f) := by
  obtain ⟨nw, sp, cd⟩ := R
  have hR0 : (nw = 19 ∧ sp = 28) ∨ (nw = 28 ∧ sp = 19) := hR
  have hnw : nw = 19 ∨ nw = 28 := by omega
  obtain ⟨hV, hH, hT, hF⟩ := id hC
  have hV : TV S nw a := hV
  refine T_mono (c_X6_lose hH hbh) (fun r σ' q => ?_)
  obtain ⟨S', rfl, rfl, g1, g2⟩ := q
  exact ⟨S', L, _, rfl, hR, rfl, ⟨hV.cong (fun q h1 h2 _ => g2 q (by omega)), g1, by rw [g2 0 (by decide)]; exact hT, by rw [g2 0 (by decide)]; exact hF⟩, fun q hq => g2 q (by omega)⟩
set_option maxRecDepth 20000 in
theorem k6_put {S : Nat → Nat → Int32} {L : Nat → Nat → Int64} {R : Nat × Nat × Nat} {a : Nat → Nat → Nat} {h : HS} {t f : Int32} {x1 x2 x3 : Int32} (hR : okR R) (hwf : WFA a) (hbh : BH h) (hC : CI S R a h t f) : TT mX6_put (0 + 2) 0 [some (.ref 0), some (.int x1), some (.int x2), some (.int x3), none] [] (S, L, R) (CQ S (fun r => r = some (.int (aPut h x1 x2))) a (sPut h x1 x2 x3) t (nI (fPut h x1 x2))) := by
  obtain ⟨nw, sp, cd⟩ := R
  have hR0 : (nw = 19 ∧ sp = 28) ∨ (nw = 28 ∧ sp = 19) := hR
  have hnw : nw = 19 ∨ nw = 28 := by omega
  obtain ⟨hV, hH, hT, hF⟩ := id hC
  have hV : TV S nw a := hV
  refine T_mono (c_X6_put hH hbh) (fun r σ' q => ?_)
  obtain ⟨S', rfl, rfl, g1, g2, g3⟩ := q
  exact ⟨S', L, _, rfl, hR, rfl, ⟨hV.cong (fun q h1 h2 _ => g2.1 q (by omega) (by omega)), g1, (g2.2 7 (by decide)).trans hT, g3⟩, fun q hq => g2.1 q (by omega) (by omega)⟩
set_option maxRecDepth 20000 in
theorem k6_cell {S : Nat → Nat → Int32} {L : Nat → Nat → Int64} {R : Nat × Nat × Nat} {a : Nat → Nat → Nat} {h : HS} {t f : Int32} {x1 x2 x3 : Int32} (hR : okR R) (hwf : WFA a) (hbh : BH h) (hC : CI S R a h t f) : TT mX6_cell (0 + 2) 0 [some (.ref 0), some (.int x1), some (.int x2), some (.int x3)] [] (S, L, R) (CQ S (fun r => r = some (.long (aCell h x1 x2 x3))) a h t (nI (fCell h x1 x2 x3))) := by
  obtain ⟨nw, sp, cd⟩ := R
  have hR0 : (nw = 19 ∧ sp = 28) ∨ (nw = 28 ∧ sp = 19) := hR
  have hnw : nw = 19 ∨ nw = 28 := by omega
  obtain ⟨hV, hH, hT, hF⟩ := id hC
  have hV : TV S nw a := hV
  refine T_mono (c_X6_cell hH hbh) (fun r σ' q => ?_)
  obtain ⟨S', rfl, rfl, g1, g2, g3⟩ := q
  exact ⟨S', L, _, rfl, hR, rfl, ⟨hV.cong (fun q h1 h2 _ => g2.1 q (by omega) (by omega)), g1, (g2.2 7 (by decide)).trans hT, g3⟩, fun q hq => g2.1 q (by omega) (by omega)⟩
set_option maxRecDepth 20000 in
theorem k6_copy {S : Nat → Nat → Int32} {L : Nat → Nat → Int64} {R : Nat × Nat × Nat} {a : Nat → Nat → Nat} {h : HS} {t f : Int32} {x1 x2 x3 x4 x5 : Int32} (hR : okR R) (hwf : WFA a) (hbh : BH h) (hC : CI S R a h t f) : TT mX6_copy (0 + 2) 0 [some (.ref 0), some (.int x1), some (.int x2), some (.int x3), some (.int x4), some (.int x5), none, none] [] (S, L, R) (CQ S (fun r => r = some (.int (aCopy h x1 x2 x3 x4 x5))) a (sCopy h x1 x2 x3 x4 x5) t (nI (fCopy h x1 x2 x3 x4 x5))) := by
  obtain ⟨nw, sp, cd⟩ := R
  have hR0 : (nw = 19 ∧ sp = 28) ∨ (nw = 28 ∧ sp = 19) := hR
  have hnw : nw = 19 ∨ nw = 28 := by omega
  obtain ⟨hV, hH, hT, hF⟩ := id hC
  have hV : TV S nw a := hV
  refine T_mono (c_X6_copy hH hbh) (fun r σ' q => ?_)
  obtain ⟨S', rfl, rfl, g1, g2, g3⟩ := q
  exact ⟨S', L, _, rfl, hR, rfl, ⟨hV.cong (fun q h1 h2 _ => g2.1 q (by omega) (by omega)), g1, (g2.2 7 (by decide)).trans hT, g3⟩, fun q hq => g2.1 q (by omega) (by omega)⟩
set_option maxRecDepth 20000 in
theorem k6_tell {S : Nat → Nat → Int32} {L : Nat → Nat → Int64} {R : Nat × Nat × Nat} {a : Nat → Nat → Nat} {h : HS} {t f : Int32} {x1 : Int32} (hR : okR R) (hwf : WFA a) (hbh : BH h) (hC : CI S R a h t f) : TT mX6_tell (0 + 4) 0 [some (.ref 0), some (.int x1)] [] (S, L, R) (CQ S (fun r => r = some (.int (aTell a x1))) a h (tTell a x1 t) f) := by
  obtain ⟨nw, sp, cd⟩ := R
  have hR0 : (nw = 19 ∧ sp = 28) ∨ (nw = 28 ∧ sp = 19) := hR
  have hnw : nw = 19 ∨ nw = 28 := by omega
  obtain ⟨hV, hH, hT, hF⟩ := id hC
  have hV : TV S nw a := hV
  refine T_mono (c_X6_tell hnw hV hwf) (fun r σ' q => ?_)
  obtain ⟨S', rfl, rfl, g1, g2, g3⟩ := q
  exact ⟨S', L, _, rfl, hR, rfl, ⟨hV.cong (fun q h1 h2 _ => g1 q (by omega)), SHC_cong hH (fun q h1 h2 => g1 q (by omega)), by rw [g3, hT], (g2 8 (by decide)).trans hF⟩, fun q hq => g1 q (by omega)⟩
set_option maxRecDepth 20000 in
theorem k6_toast {S : Nat → Nat → Int32} {L : Nat → Nat → Int64} {R : Nat × Nat × Nat} {a : Nat → Nat → Nat} {h : HS} {t f : Int32} {x1 : Int32} (hR : okR R) (hwf : WFA a) (hbh : BH h) (hC : CI S R a h t f) : TT mX6_toast (0 + 1) 0 [some (.ref 0), some (.int x1)] [] (S, L, R) (CQ S (fun r => r = some (.int (aToast a x1))) a h (tToast a x1 t) f) := by
  obtain ⟨nw, sp, cd⟩ := R
  have hR0 : (nw = 19 ∧ sp = 28) ∨ (nw = 28 ∧ sp = 19) := hR
  have hnw : nw = 19 ∨ nw = 28 := by omega
  obtain ⟨hV, hH, hT, hF⟩ := id hC
  have hV : TV S nw a := hV
  refine T_mono (c_X6_toast hnw hV hwf) (fun r σ' q => ?_)
  obtain ⟨S', rfl, rfl, g1, g2, g3⟩ := q
  exact ⟨S', L, _, rfl, hR, rfl, ⟨hV.cong (fun q h1 h2 _ => g1 q (by omega)), SHC_cong hH (fun q h1 h2 => g1 q (by omega)), by rw [g3, hT], (g2 8 (by decide)).trans hF⟩, fun q hq => g1 q (by omega)⟩
set_option maxRecDepth 20000 in
theorem k6_as {S : Nat → Nat → Int32} {L : Nat → Nat → Int64} {R : Nat × Nat × Nat} {a : Nat → Nat → Nat} {h : HS} {t f : Int32} {x1 x2 : Int32} (hR : okR R) (hwf : WFA a) (hbh : BH h) (hC : CI S R a h t f) : TT mX6_as (0 + 1) 0 [some (.ref 0), some (.int x1), some (.int x2)] [] (S, L, R) (CQ S (fun r => r = some (.int (aAs a x1 x2))) a h t (nI (fAs a x1 x2))) := by
  obtain ⟨nw, sp, cd⟩ := R
  have hR0 : (nw = 19 ∧ sp = 28) ∨ (nw = 28 ∧ sp = 19) := hR
  have hnw : nw = 19 ∨ nw = 28 := by omega
  obtain ⟨hV, hH, hT, hF⟩ := id hC
  have hV : TV S nw a := hV
  refine T_mono (c_X6_as hnw hV hwf) (fun r σ' q => ?_)
  obtain ⟨S', rfl, rfl, g1, g2, g3⟩ := q
  exact ⟨S', L, _, rfl, hR, rfl, ⟨hV.cong (fun q h1 h2 _ => g1 q (by omega)), SHC_cong hH (fun q h1 h2 => g1 q (by omega)), (g2 7 (by decide)).trans hT, g3⟩, fun q hq => g1 q (by omega)⟩
set_option maxRecDepth 20000 in
theorem k6_trace {S : Nat → Nat → Int32} {L : Nat → Nat → Int64} {R : Nat × Nat × Nat} {a : Nat → Nat → Nat} {h : HS} {t f : Int32} (hR : okR R) (hwf : WFA a) (hbh : BH h) (hC : CI S R a h t f) : TT mX6_trace (0 + 0) 0 [some (.ref 0)] [] (S, L, R) (CQ S (fun r => r = some (.int (t))) a h t f) := by
  obtain ⟨nw, sp, cd⟩ := R
  have hR0 : (nw = 19 ∧ sp = 28) ∨ (nw = 28 ∧ sp = 19) := hR
  have hnw : nw = 19 ∨ nw = 28 := by omega
  obtain ⟨hV, hH, hT, hF⟩ := id hC
  have hV : TV S nw a := hV
  refine T_mono c_X6_trace (fun r σ' q => ?_)
  obtain ⟨rfl, rfl⟩ := q
  exact ⟨S, L, _, rfl, hR, by rw [hT], hC, fun _ _ => rfl⟩
set_option maxRecDepth 20000 in
theorem k6_fault {S : Nat → Nat → Int32} {L : Nat → Nat → Int64} {R : Nat × Nat × Nat} {a : Nat → Nat → Nat} {h : HS} {t f : Int32} (hR : okR R) (hwf : WFA a) (hbh : BH h) (hC : CI S R a h t f) : TT mX6_fault (0 + 0) 0 [some (.ref 0)] [] (S, L, R) (CQ S (fun r => r = some (.int (f))) a h t f) := by
  obtain ⟨nw, sp, cd⟩ := R
  have hR0 : (nw = 19 ∧ sp = 28) ∨ (nw = 28 ∧ sp = 19) := hR
  have hnw : nw = 19 ∨ nw = 28 := by omega
  obtain ⟨hV, hH, hT, hF⟩ := id hC
  have hV : TV S nw a := hV
  refine T_mono c_X6_fault (fun r σ' q => ?_)
  obtain ⟨rfl, rfl⟩ := q
  exact ⟨S, L, _, rfl, hR, by rw [hF], hC, fun _ _ => rfl⟩
set_option maxRecDepth 20000 in
theorem k6_many {S : Nat → Nat → Int32} {L : Nat → Nat → Int64} {R : Nat × Nat × Nat} {a : Nat → Nat → Nat} {h : HS} {t f : Int32} {x1 : Int32} (hR : okR R) (hwf : WFA a) (hbh : BH h) (hC : CI S R a h t f) : TT mX6_many (0 + 1) 0 [some (.ref 0), some (.int x1)] [] (S, L, R) (CQ S (fun r => r = some (.int (aMany a x1))) a h t f) := by
  obtain ⟨nw, sp, cd⟩ := R
  have hR0 : (nw = 19 ∧ sp = 28) ∨ (nw = 28 ∧ sp = 19) := hR
  have hnw : nw = 19 ∨ nw = 28 := by omega
  obtain ⟨hV, hH, hT, hF⟩ := id hC
  have hV : TV S nw a := hV
  refine T_mono (c_X6_many hnw hV hwf) (fun r σ' q => ?_)
  obtain ⟨rfl, rfl⟩ := q
  exact ⟨S, L, _, rfl, hR, rfl, hC, fun _ _ => rfl⟩
set_option maxRecDepth 20000 in
theorem k7_table {S : Nat → Nat → Int32} {L : Nat → Nat → Int64} {R : Nat × Nat × Nat} {a : Nat → Nat → Nat} {h : HS} {t f : Int32} {x1 x2 x3 x4 : Int32} (hwf : WFA a) (hbh : BH h) (hM : MI S a h t f) : TT mX7_table (0 + 4) 0 [some (.ref 37), some (.int x1), some (.int x2), some (.int x3), some (.int x4), none, none] [] (S, L, R) (RQ S R (fun r => r = some (.int (aTable h x1 x2 x3 x4))) (sTable a h x1 x2 x3 x4) h t (nI (fTable h x1 x2 x3 x4))) := by
  obtain ⟨hV, hH, hT, hF⟩ := id hM
  refine T_mono (c_X7_table hV hwf hH hbh) (fun r σ' q => ?_)
  obtain ⟨S', rfl, rfl, g1, g2, g3, g4⟩ := q
  exact ⟨S', L, rfl, rfl, ⟨g1, hH.cong (fun q h1 h2 => g2 q (Or.inr ⟨h1, h2⟩)), g3.trans hT, g4⟩, fun q hq => g2 q (Or.inl hq)⟩
set_option maxRecDepth 20000 in
theorem k7_ofGuest {S : Nat → Nat → Int32} {L : Nat → Nat → Int64} {R : Nat × Nat × Nat} {a : Nat → Nat → Nat} {h : HS} {t f : Int32} {x1 x2 : Int32} (hwf : WFA a) (hbh : BH h) (hM : MI S a h t f) : TT mX7_ofGuest (0 + 1) 0 [some (.ref 37), some (.int x1), some (.int x2)] [] (S, L, R) (RQ S R (fun r => r = some (.int (aGuest a x1 x2))) a h t f) := by
  obtain ⟨hV, hH, hT, hF⟩ := id hM
  refine T_mono (c_X7_ofGuest hV hwf) (fun r σ' q => ?_)
  obtain ⟨rfl, rfl⟩ := q
  exact ⟨S, L, rfl, rfl, hM, fun _ _ => rfl⟩
set_option maxRecDepth 20000 in
theorem k7_ofDish {S : Nat → Nat → Int32} {L : Nat → Nat → Int64} {R : Nat × Nat × Nat} {a : Nat → Nat → Nat} {h : HS} {t f : Int32} {x1 x2 : Int32} (hwf : WFA a) (hbh : BH h) (hM : MI S a h t f) : TT mX7_ofDish (0 + 1) 0 [some (.ref 37), some (.int x1), some (.int x2)] [] (S, L, R) (RQ S R (fun r => r = some (.int (aDish a x1 x2))) a h t f) := by
  obtain ⟨hV, hH, hT, hF⟩ := id hM
  refine T_mono (c_X7_ofDish hV hwf) (fun r σ' q => ?_)
  obtain ⟨rfl, rfl⟩ := q
  exact ⟨S, L, rfl, rfl, hM, fun _ _ => rfl⟩
set_option maxRecDepth 20000 in
theorem k7_whose {S : Nat → Nat → Int32} {L : Nat → Nat → Int64} {R : Nat × Nat × Nat} {a : Nat → Nat → Nat} {h : HS} {t f : Int32} {x1 : Int32} (hwf : WFA a) (hbh : BH h) (hM : MI S a h t f) : TT mX7_whose (0 + 1) 0 [some (.ref 37), some (.int x1)] [] (S, L, R) (RQ S R (fun r => r = some (.int (aWhose a x1))) a h t f) := by
  obtain ⟨hV, hH, hT, hF⟩ := id hM
  refine T_mono (c_X7_whose hV hwf) (fun r σ' q => ?_)
  obtain ⟨rfl, rfl⟩ := q
  exact ⟨S, L, rfl, rfl, hM, fun _ _ => rfl⟩
set_option maxRecDepth 20000 in
theorem k7_land {S : Nat → Nat → Int32} {L : Nat → Nat → Int64} {R : Nat × Nat × Nat} {a : Nat → Nat → Nat} {h : HS} {t f : Int32} {x1 : Int32} (hwf : WFA a) (hbh : BH h) (hM : MI S a h t f) : TT mX7_land (0 + 2) 0 [some (.ref 37), some (.int x1)] [] (S, L, R) (RQ S R (fun r => r = some (.int (aLand a x1))) a h t f) := by
  obtain ⟨hV, hH, hT, hF⟩ := id hM
  refine T_mono (c_X7_land hV hwf) (fun r σ' q => ?_)
  obtain ⟨rfl, rfl⟩ := q
  exact ⟨S, L, rfl, rfl, hM, fun _ _ => rfl⟩
set_option maxRecDepth 20000 in
theorem k7_chew {S : Nat → Nat → Int32} {L : Nat → Nat → Int64} {R : Nat × Nat × Nat} {a : Nat → Nat → Nat} {h : HS} {t f : Int32} {x1 x2 : Int32} (hwf : WFA a) (hbh : BH h) (hM : MI S a h t f) : TT mX7_chew (0 + 1) 0 [some (.ref 37), some (.int x1), some (.int x2), none] [] (S, L, R) (RQ S R (fun r => r = some (.int (aChew a x1 x2))) (sChew a x1 x2) h t f) := by
  obtain ⟨hV, hH, hT, hF⟩ := id hM
  refine T_mono (c_X7_chew hV hwf) (fun r σ' q => ?_)
  obtain ⟨S', rfl, rfl, g1, g2⟩ := q
  exact ⟨S', L, rfl, rfl, ⟨g1, hH.cong (fun q h1 h2 => g2.1 q (Or.inr ⟨h1, h2⟩)), g2.2.2.trans hT, g2.2.1.trans hF⟩, fun q hq => g2.1 q (Or.inl hq)⟩
set_option maxRecDepth 20000 in
theorem k7_cook {S : Nat → Nat → Int32} {L : Nat → Nat → Int64} {R : Nat × Nat × Nat} {a : Nat → Nat → Nat} {h : HS} {t f : Int32} {x1 : Int32} (hwf : WFA a) (hbh : BH h) (hM : MI S a h t f) : TT mX7_cook (0 + 1) 0 [some (.ref 37), some (.int x1), none] [] (S, L, R) (RQ S R (fun r => r = some (.int (aCook a x1))) (sCook a x1) h t f) := by
  obtain ⟨hV, hH, hT, hF⟩ := id hM
  refine T_mono (c_X7_cook hV hwf) (fun r σ' q => ?_)
  obtain ⟨S', rfl, rfl, g1, g2⟩ := q
  exact ⟨S', L, rfl, rfl, ⟨g1, hH.cong (fun q h1 h2 => g2.1 q (Or.inr ⟨h1, h2⟩)), g2.2.2.trans hT, g2.2.1.trans hF⟩, fun q hq => g2.1 q (Or.inl hq)⟩
set_option maxRecDepth 20000 in
theorem k7_rate {S : Nat → Nat → Int32} {L : Nat → Nat → Int64} {R : Nat × Nat × Nat} {a : Nat → Nat → Nat} {h : HS} {t f : Int32} {x1 x2 : Int32} (hwf : WFA a) (hbh : BH h) (hM : MI S a h t f) : TT mX7_rate (0 + 1) 0 [some (.ref 37), some (.int x1), some (.int x2), none] [] (S, L, R) (RQ S R (fun r => r = some (.int (aRate a x1 x2))) (sRate a x1 x2) h t f) := by
  obtain ⟨hV, hH, hT, hF⟩ := id hM
  refine T_mono (c_X7_rate hV hwf) (fun r σ' q => ?_)
  obtain ⟨S', rfl, rfl, g1, g2⟩ := q
  exact ⟨S', L, rfl, rfl, ⟨g1, hH.cong (fun q h1 h2 => g2.1 q (Or.inr ⟨h1, h2⟩)), g2.2.2.trans hT, g2.2.1.trans hF⟩, fun q hq => g2.1 q (Or.inl hq)⟩
set_option maxRecDepth 20000 in
theorem k7_carry {S : Nat → Nat → Int32} {L : Nat → Nat → Int64} {R : Nat × Nat × Nat} {a : Nat → Nat → Nat} {h : HS} {t f : Int32} {x1 x2 : Int32} (hwf : WFA a) (hbh : BH h) (hM : MI S a h t f) : TT mX7_carry (0 + 1) 0 [some (.ref 37), some (.int x1), some (.int x2), none] [] (S, L, R) (RQ S R (fun r => r = some (.int (aCarry a x1 x2))) (sCarry a x1 x2) h t f) := by
  obtain ⟨hV, hH, hT, hF⟩ := id hM
  refine T_mono (c_X7_carry hV hwf) (fun r σ' q => ?_)
  obtain ⟨S', rfl, rfl, g1, g2⟩ := q
  exact ⟨S', L, rfl, rfl, ⟨g1, hH.cong (fun q h1 h2 => g2.1 q (Or.inr ⟨h1, h2⟩)), g2.2.2.trans hT, g2.2.1.trans hF⟩, fun q hq => g2.1 q (Or.inl hq)⟩
set_option maxRecDepth 20000 in
theorem k7_pass {S : Nat → Nat → Int32} {L : Nat → Nat → Int64} {R : Nat × Nat × Nat} {a : Nat → Nat → Nat} {h : HS} {t f : Int32} {x1 : Int32} (hwf : WFA a) (hbh : BH h) (hM : MI S a h t f) : TT mX7_pass (0 + 2) 0 [some (.ref 37), some (.int x1), none, none] [] (S, L, R) (RQ S R (fun r => r = some (.int (aPass a x1))) (sPass a x1) h t f) := by
  obtain ⟨hV, hH, hT, hF⟩ := id hM
  refine T_mono (c_X7_pass hV hwf) (fun r σ' q => ?_)
  obtain ⟨S', rfl, rfl, g1, g2⟩ := q
  exact ⟨S', L, rfl, rfl, ⟨g1, hH.cong (fun q h1 h2 => g2.1 q (Or.inr ⟨h1, h2⟩)), g2.2.2.trans hT, g2.2.1.trans hF⟩, fun q hq => g2.1 q (Or.inl hq)⟩
set_option maxRecDepth 20000 in
theorem k7_dinner {S : Nat → Nat → Int32} {L : Nat → Nat → Int64} {R : Nat × Nat × Nat} {a : Nat → Nat → Nat} {h : HS} {t f : Int32} {x1 x2 x3 x4 x5 : Int32} (hwf : WFA a) (hbh : BH h) (hM : MI S a h t f) : TT mX7_dinner (0 + 3) 0 [some (.ref 37), some (.int x1), some (.int x2), some (.int x3), some (.int x4), some (.int x5), none, none, none, none, none, none] [] (S, L, R) (RQ S R (fun r => r = some (.int (aDinner a h x1 x2 x3 x4 x5))) a h t (nI (fDinner h x1 x2 x3 x4 x5))) := by
  obtain ⟨hV, hH, hT, hF⟩ := id hM
  refine T_mono (c_X7_dinner hV hwf hH hbh) (fun r σ' q => ?_)
  obtain ⟨S', rfl, rfl, g1, g2, g3⟩ := q
  exact ⟨S', L, rfl, rfl, ⟨hV.cong (fun q hq => g1 q (by omega)) (fun k hk => g2 k (by omega)), hH.cong (fun q h1 h2 => g1 q (by omega)), (g2 1 (by decide)).trans hT, g3⟩, fun q hq => g1 q (by omega)⟩
set_option maxRecDepth 20000 in
theorem k7_ask {S : Nat → Nat → Int32} {L : Nat → Nat → Int64} {R : Nat × Nat × Nat} {a : Nat → Nat → Nat} {h : HS} {t f : Int32} {x1 x2 x3 : Int32} (hwf : WFA a) (hbh : BH h) (hM : MI S a h t f) : TT mX7_ask (0 + 5) 0 [some (.ref 37), some (.int x1), some (.int x2), some (.int x3), none] [] (S, L, R) (RQ S R (fun r => ∃ v, r = some (.int v) ∧ AskP 100 NEV a x1 x2 x3 v) a h t f) := by
  obtain ⟨hV, hH, hT, hF⟩ := id hM
  refine T_mono (c_X7_ask hV hwf) (fun r σ' q => ?_)
  obtain ⟨S', rfl, g1, g2, g3⟩ := q
  exact ⟨S', L, rfl, g3, ⟨g1, hH.cong (fun q h1 h2 => g2.1 q (Or.inr ⟨h1, h2⟩)), g2.2.2.trans hT, g2.2.1.trans hF⟩, fun q hq => g2.1 q (Or.inl hq)⟩
set_option maxRecDepth 20000 in
theorem k7_treaty {S : Nat → Nat → Int32} {L : Nat → Nat → Int64} {R : Nat × Nat × Nat} {a : Nat → Nat → Nat} {h : HS} {t f : Int32} {x1 : Int32} (hwf : WFA a) (hbh : BH h) (hM : MI S a h t f) : TT mX7_treaty (0 + 5) 0 [some (.ref 37), some (.int x1), none] [] (S, L, R) (RQ S R (fun r => ∃ v, r = some (.int v) ∧ TreP 100 NEV a x1 v) a h t f) := by
  obtain ⟨hV, hH, hT, hF⟩ := id hM
  refine T_mono (c_X7_treaty hV hwf) (fun r σ' q => ?_)
  obtain ⟨S', rfl, g1, g2, g3⟩ := q
  exact ⟨S', L, rfl, g3, ⟨g1, hH.cong (fun q h1 h2 => g2.1 q (Or.inr ⟨h1, h2⟩)), g2.2.2.trans hT, g2.2.1.trans hF⟩, fun q hq => g2.1 q (Or.inl hq)⟩
set_option maxRecDepth 20000 in
theorem k7_game {S : Nat → Nat → Int32} {L : Nat → Nat → Int64} {R : Nat × Nat × Nat} {a : Nat → Nat → Nat} {h : HS} {t f : Int32} {x1 x2 x3 : Int32} (hwf : WFA a) (hbh : BH h) (hM : MI S a h t f) : TT mX7_game (0 + 4) 0 [some (.ref 37), some (.int x1), some (.int x2), some (.int x3)] [] (S, L, R) (RQ S R (fun r => r = some (.int (aGame a x1 x2 x3))) a h t f) := by
  obtain ⟨hV, hH, hT, hF⟩ := id hM
  refine T_mono (c_X7_game hV hwf) (fun r σ' q => ?_)
  obtain ⟨S', rfl, rfl, g1, g2⟩ := q
  exact ⟨S', L, rfl, rfl, ⟨g1, hH.cong (fun q h1 h2 => g2.1 q (Or.inr ⟨h1, h2⟩)), g2.2.2.trans hT, g2.2.1.trans hF⟩, fun q hq => g2.1 q (Or.inl hq)⟩
set_option maxRecDepth 20000 in
theorem k7_spilt {S : Nat → Nat → Int32} {L : Nat → Nat → Int64} {R : Nat × Nat × Nat} {a : Nat → Nat → Nat} {h : HS} {t f : Int32} {x1 : Int32} (hwf : WFA a) (hbh : BH h) (hM : MI S a h t f) : TT mX7_spilt (0 + 2) 0 [some (.ref 37), some (.int x1), none, none, none, none] [] (S, L, R) (RQ S R (fun r => r = some (.int (aSpilt a x1))) a h t f) := by
  obtain ⟨hV, hH, hT, hF⟩ := id hM
  refine T_mono (c_X7_spilt hV hwf) (fun r σ' q => ?_)
  obtain ⟨rfl, rfl⟩ := q
  exact ⟨S, L, rfl, rfl, hM, fun _ _ => rfl⟩
set_option maxRecDepth 20000 in
theorem k7_home {S : Nat → Nat → Int32} {L : Nat → Nat → Int64} {R : Nat × Nat × Nat} {a : Nat → Nat → Nat} {h : HS} {t f : Int32} {x1 : Int32} (hwf : WFA a) (hbh : BH h) (hM : MI S a h t f) : TT mX7_home (0 + 2) 0 [some (.ref 37), some (.int x1), none] [] (S, L, R) (RQ S R (fun r => r = some (.long (aHome a x1))) a h t f) := by
  obtain ⟨hV, hH, hT, hF⟩ := id hM
  refine T_mono (c_X7_home hV hwf) (fun r σ' q => ?_)
  obtain ⟨L', rfl, rfl⟩ := q
  exact ⟨S, L', rfl, rfl, hM, fun _ _ => rfl⟩
set_option maxRecDepth 20000 in
theorem k7_reading {S : Nat → Nat → Int32} {L : Nat → Nat → Int64} {R : Nat × Nat × Nat} {a : Nat → Nat → Nat} {h : HS} {t f : Int32} {x1 x2 : Int32} (hwf : WFA a) (hbh : BH h) (hM : MI S a h t f) : TT mX7_reading (0 + 1) 0 [some (.ref 37), some (.int x1), some (.int x2)] [] (S, L, R) (RQ S R (fun r => r = some (.int (aReading a x1 x2))) (sReading a x1 x2) h t f) := by
  obtain ⟨hV, hH, hT, hF⟩ := id hM
  refine T_mono (c_X7_reading hV hwf) (fun r σ' q => ?_)
  obtain ⟨S', rfl, rfl, g1, g2⟩ := q
  exact ⟨S', L, rfl, rfl, ⟨g1, hH.cong (fun q h1 h2 => g2.1 q (Or.inr ⟨h1, h2⟩)), g2.2.2.trans hT, g2.2.1.trans hF⟩, fun q hq => g2.1 q (Or.inl hq)⟩
set_option maxRecDepth 20000 in
theorem k7_back {S : Nat → Nat → Int32} {L : Nat → Nat → Int64} {R : Nat × Nat × Nat} {a : Nat → Nat → Nat} {h : HS} {t f : Int32} {x1 : Int32} (hwf : WFA a) (hbh : BH h) (hM : MI S a h t f) : TT mX7_back (0 + 1) 0 [some (.ref 37), some (.int x1)] [] (S, L, R) (RQ S R (fun r => r = some (.int (aBack a x1))) (sBack a x1) h t f) := by
  obtain ⟨hV, hH, hT, hF⟩ := id hM
  refine T_mono (c_X7_back hV hwf) (fun r σ' q => ?_)
  obtain ⟨S', rfl, rfl, g1, g2⟩ := q
  exact ⟨S', L, rfl, rfl, ⟨g1, hH.cong (fun q h1 h2 => g2.1 q (Or.inr ⟨h1, h2⟩)), g2.2.2.trans hT, g2.2.1.trans hF⟩, fun q hq => g2.1 q (Or.inl hq)⟩
set_option maxRecDepth 20000 in
theorem k7_mouths {S : Nat → Nat → Int32} {L : Nat → Nat → Int64} {R : Nat × Nat × Nat} {a : Nat → Nat → Nat} {h : HS} {t f : Int32} {x1 : Int32} (hwf : WFA a) (hbh : BH h) (hM : MI S a h t f) : TT mX7_mouths (0 + 2) 0 [some (.ref 37), some (.int x1), none, none, none] [] (S, L, R) (RQ S R (fun r => r = some (.int (aMouths a x1))) a h t f) := by
  obtain ⟨hV, hH, hT, hF⟩ := id hM
  refine T_mono (c_X7_mouths hV hwf) (fun r σ' q => ?_)
  obtain ⟨rfl, rfl⟩ := q
  exact ⟨S, L, rfl, rfl, hM, fun _ _ => rfl⟩
set_option maxRecDepth 20000 in
theorem k7_kinds {S : Nat → Nat → Int32} {L : Nat → Nat → Int64} {R : Nat × Nat × Nat} {a : Nat → Nat → Nat} {h : HS} {t f : Int32} {x1 : Int32} (hwf : WFA a) (hbh : BH h) (hM : MI S a h t f) : TT mX7_kinds (0 + 2) 0 [some (.ref 37), some (.int x1), none, none, none] [] (S, L, R) (RQ S R (fun r => r = some (.int (aKinds a x1))) a h t f) := by
  obtain ⟨hV, hH, hT, hF⟩ := id hM
  refine T_mono (c_X7_kinds hV hwf) (fun r σ' q => ?_)
  obtain ⟨rfl, rfl⟩ := q
  exact ⟨S, L, rfl, rfl, hM, fun _ _ => rfl⟩
set_option maxRecDepth 20000 in
theorem k7_soups {S : Nat → Nat → Int32} {L : Nat → Nat → Int64} {R : Nat × Nat × Nat} {a : Nat → Nat → Nat} {h : HS} {t f : Int32} (hwf : WFA a) (hbh : BH h) (hM : MI S a h t f) : TT mX7_soups (0 + 2) 0 [some (.ref 37), none, none, none] [] (S, L, R) (RQ S R (fun r => r = some (.int (aSoups a))) a h t f) := by
  obtain ⟨hV, hH, hT, hF⟩ := id hM
  refine T_mono (c_X7_soups hV hwf) (fun r σ' q => ?_)
  obtain ⟨rfl, rfl⟩ := q
  exact ⟨S, L, rfl, rfl, hM, fun _ _ => rfl⟩
set_option maxRecDepth 20000 in
theorem k7_odds {S : Nat → Nat → Int32} {L : Nat → Nat → Int64} {R : Nat × Nat × Nat} {a : Nat → Nat → Nat} {h : HS} {t f : Int32} {x1 x2 x3 x4 : Int32} (hwf : WFA a) (hbh : BH h) (hM : MI S a h t f) : TT mX7_odds (0 + 2) 0 [some (.ref 37), some (.int x1), some (.int x2), some (.int x3), some (.int x4), none, none, none] [] (S, L, R) (RQ S R (fun r => r = some (.long (aOdds a x1 x2 x3 x4))) a h t f) := by
  obtain ⟨hV, hH, hT, hF⟩ := id hM
  refine T_mono (c_X7_odds hV hwf) (fun r σ' q => ?_)
  obtain ⟨L', rfl, rfl⟩ := q
  exact ⟨S, L', rfl, rfl, hM, fun _ _ => rfl⟩
set_option maxRecDepth 20000 in
theorem k7_sheet {S : Nat → Nat → Int32} {L : Nat → Nat → Int64} {R : Nat × Nat × Nat} {a : Nat → Nat → Nat} {h : HS} {t f : Int32} {x1 x2 x3 : Int32} (hwf : WFA a) (hbh : BH h) (hM : MI S a h t f) : TT mX7_sheet (0 + 2) 0 [some (.ref 37), some (.int x1), some (.int x2), some (.int x3), none] [] (S, L, R) (RQ S R (fun r => r = some (.int (aSheet x1 x2 x3))) a (sSheet h x1 x2 x3) t (nI (fSheet x1 x2 x3))) := by
  obtain ⟨hV, hH, hT, hF⟩ := id hM
  refine T_mono (c_X7_sheet hH hbh) (fun r σ' q => ?_)
  obtain ⟨S', rfl, rfl, g1, g2, g3⟩ := q
  exact ⟨S', L, rfl, rfl, ⟨hV.cong (fun q hq => g2.1 q (by omega) (by omega)) (fun k hk => g2.2 k (by omega)), g1, (g2.2 1 (by decide)).trans hT, g3⟩, fun q hq => g2.1 q (by omega) (by omega)⟩
set_option maxRecDepth 20000 in
theorem k7_lose {S : Nat → Nat → Int32} {L : Nat → Nat → Int64} {R : Nat × Nat × Nat} {a : Nat → Nat → Nat} {h : HS} {t f : Int32} {x1 : Int32} (hwf : WFA a) (hbh : BH h) (hM : MI S a h t f) : TT mX7_lose (0 + 2) 0 [some (.ref 37), some (.int x1), none] [] (S, L, R) (RQ S R (fun r => r = some (.int (aLose h x1))) a (sLose h x1) t f) := by
  obtain ⟨hV, hH, hT, hF⟩ := id hM
  refine T_mono (c_X7_lose hH hbh) (fun r σ' q => ?_)
  obtain ⟨S', rfl, rfl, g1, g2⟩ := q
  exact ⟨S', L, rfl, rfl, ⟨hV.cong (fun q hq => g2 q (by omega)) (fun k hk => by rw [g2 37 (by decide)]), g1, by rw [g2 37 (by decide)]; exact hT, by rw [g2 37 (by decide)]; exact hF⟩, fun q hq => g2 q (by omega)⟩
set_option maxRecDepth 20000 in
theorem k7_put {S : Nat → Nat → Int32} {L : Nat → Nat → Int64} {R : Nat × Nat × Nat} {a : Nat → Nat → Nat} {h : HS} {t f : Int32} {x1 x2 x3 : Int32} (hwf : WFA a) (hbh : BH h) (hM : MI S a h t f) : TT mX7_put (0 + 2) 0 [some (.ref 37), some (.int x1), some (.int x2), some (.int x3)] [] (S, L, R) (RQ S R (fun r => r = some (.int (aPut h x1 x2))) a (sPut h x1 x2 x3) t (nI (fPut h x1 x2))) := by
  obtain ⟨hV, hH, hT, hF⟩ := id hM
  refine T_mono (c_X7_put hH hbh) (fun r σ' q => ?_)
  obtain ⟨S', rfl, rfl, g1, g2, g3⟩ := q
  exact ⟨S', L, rfl, rfl, ⟨hV.cong (fun q hq => g2.1 q (by omega) (by omega)) (fun k hk => g2.2 k (by omega)), g1, (g2.2 1 (by decide)).trans hT, g3⟩, fun q hq => g2.1 q (by omega) (by omega)⟩
set_option maxRecDepth 20000 in
theorem k7_cell {S : Nat → Nat → Int32} {L : Nat → Nat → Int64} {R : Nat × Nat × Nat} {a : Nat → Nat → Nat} {h : HS} {t f : Int32} {x1 x2 x3 : Int32} (hwf : WFA a) (hbh : BH h) (hM : MI S a h t f) : TT mX7_cell (0 + 2) 0 [some (.ref 37), some (.int x1), some (.int x2), some (.int x3)] [] (S, L, R) (RQ S R (fun r => r = some (.long (aCell h x1 x2 x3))) a h t (nI (fCell h x1 x2 x3))) := by
  obtain ⟨hV, hH, hT, hF⟩ := id hM
  refine T_mono (c_X7_cell hH hbh) (fun r σ' q => ?_)
  obtain ⟨S', rfl, rfl, g1, g2, g3⟩ := q
  exact ⟨S', L, rfl, rfl, ⟨hV.cong (fun q hq => g2.1 q (by omega) (by omega)) (fun k hk => g2.2 k (by omega)), g1, (g2.2 1 (by decide)).trans hT, g3⟩, fun q hq => g2.1 q (by omega) (by omega)⟩
set_option maxRecDepth 20000 in
theorem k7_copy {S : Nat → Nat → Int32} {L : Nat → Nat → Int64} {R : Nat × Nat × Nat} {a : Nat → Nat → Nat} {h : HS} {t f : Int32} {x1 x2 x3 x4 x5 : Int32} (hwf : WFA a) (hbh : BH h) (hM : MI S a h t f) : TT mX7_copy (0 + 2) 0 [some (.ref 37), some (.int x1), some (.int x2), some (.int x3), some (.int x4), some (.int x5), none, none, none, none] [] (S, L, R) (RQ S R (fun r => r = some (.int (aCopy h x1 x2 x3 x4 x5))) a (sCopy h x1 x2 x3 x4 x5) t (nI (fCopy h x1 x2 x3 x4 x5))) := by
  obtain ⟨hV, hH, hT, hF⟩ := id hM
  refine T_mono (c_X7_copy hH hbh) (fun r σ' q => ?_)
  obtain ⟨S', rfl, rfl, g1, g2, g3⟩ := q
  exact ⟨S', L, rfl, rfl, ⟨hV.cong (fun q hq => g2.1 q (by omega) (by omega)) (fun k hk => g2.2 k (by omega)), g1, (g2.2 1 (by decide)).trans hT, g3⟩, fun q hq => g2.1 q (by omega) (by omega)⟩
set_option maxRecDepth 20000 in
theorem k7_tell {S : Nat → Nat → Int32} {L : Nat → Nat → Int64} {R : Nat × Nat × Nat} {a : Nat → Nat → Nat} {h : HS} {t f : Int32} {x1 : Int32} (hwf : WFA a) (hbh : BH h) (hM : MI S a h t f) : TT mX7_tell (0 + 1) 0 [some (.ref 37), some (.int x1), none] [] (S, L, R) (RQ S R (fun r => r = some (.int (aTell a x1))) a h (tTell a x1 t) f) := by
  obtain ⟨hV, hH, hT, hF⟩ := id hM
  refine T_mono (c_X7_tell hV hwf) (fun r σ' q => ?_)
  obtain ⟨S', rfl, rfl, g1, g2, g3⟩ := q
  exact ⟨S', L, rfl, rfl, ⟨hV.cong (fun q hq => g1 q (by omega)) (fun k hk => g2 k (by omega)), hH.cong (fun q h1 h2 => g1 q (by omega)), by rw [g3, hT], (g2 0 (by decide)).trans hF⟩, fun q hq => g1 q (by omega)⟩
set_option maxRecDepth 20000 in
theorem k7_toast {S : Nat → Nat → Int32} {L : Nat → Nat → Int64} {R : Nat × Nat × Nat} {a : Nat → Nat → Nat} {h : HS} {t f : Int32} {x1 : Int32} (hwf : WFA a) (hbh : BH h) (hM : MI S a h t f) : TT mX7_toast (0 + 1) 0 [some (.ref 37), some (.int x1)] [] (S, L, R) (RQ S R (fun r => r = some (.int (aToast a x1))) a h (tToast a x1 t) f) := by
  obtain ⟨hV, hH, hT, hF⟩ := id hM
  refine T_mono (c_X7_toast hV hwf) (fun r σ' q => ?_)
  obtain ⟨S', rfl, rfl, g1, g2, g3⟩ := q
  exact ⟨S', L, rfl, rfl, ⟨hV.cong (fun q hq => g1 q (by omega)) (fun k hk => g2 k (by omega)), hH.cong (fun q h1 h2 => g1 q (by omega)), by rw [g3, hT], (g2 0 (by decide)).trans hF⟩, fun q hq => g1 q (by omega)⟩
set_option maxRecDepth 20000 in
theorem k7_as {S : Nat → Nat → Int32} {L : Nat → Nat → Int64} {R : Nat × Nat × Nat} {a : Nat → Nat → Nat} {h : HS} {t f : Int32} {x1 x2 : Int32} (hwf : WFA a) (hbh : BH h) (hM : MI S a h t f) : TT mX7_as (0 + 1) 0 [some (.ref 37), some (.int x1), some (.int x2)] [] (S, L, R) (RQ S R (fun r => r = some (.int (aAs a x1 x2))) a h t (nI (fAs a x1 x2))) := by
  obtain ⟨hV, hH, hT, hF⟩ := id hM
  refine T_mono (c_X7_as hV hwf) (fun r σ' q => ?_)
  obtain ⟨S', rfl, rfl, g1, g2, g3⟩ := q
  exact ⟨S', L, rfl, rfl, ⟨hV.cong (fun q hq => g1 q (by omega)) (fun k hk => g2 k (by omega)), hH.cong (fun q h1 h2 => g1 q (by omega)), (g2 1 (by decide)).trans hT, g3⟩, fun q hq => g1 q (by omega)⟩
set_option maxRecDepth 20000 in
theorem k7_trace {S : Nat → Nat → Int32} {L : Nat → Nat → Int64} {R : Nat × Nat × Nat} {a : Nat → Nat → Nat} {h : HS} {t f : Int32} (hwf : WFA a) (hbh : BH h) (hM : MI S a h t f) : TT mX7_trace (0 + 0) 0 [some (.ref 37)] [] (S, L, R) (RQ S R (fun r => r = some (.int (t))) a h t f) := by
  obtain ⟨hV, hH, hT, hF⟩ := id hM
  refine T_mono c_X7_trace (fun r σ' q => ?_)
  obtain ⟨rfl, rfl⟩ := q
  exact ⟨S, L, rfl, by rw [hT], hM, fun _ _ => rfl⟩
set_option maxRecDepth 20000 in
theorem k7_fault {S : Nat → Nat → Int32} {L : Nat → Nat → Int64} {R : Nat × Nat × Nat} {a : Nat → Nat → Nat} {h : HS} {t f : Int32} (hwf : WFA a) (hbh : BH h) (hM : MI S a h t f) : TT mX7_fault (0 + 0) 0 [some (.ref 37)] [] (S, L, R) (RQ S R (fun r => r = some (.int (f))) a h t f) := by
  obtain ⟨hV, hH, hT, hF⟩ := id hM
  refine T_mono c_X7_fault (fun r σ' q => ?_)
  obtain ⟨rfl, rfl⟩ := q
  exact ⟨S, L, rfl, by rw [hF], hM, fun _ _ => rfl⟩
set_option maxRecDepth 20000 in
theorem k7_many {S : Nat → Nat → Int32} {L : Nat → Nat → Int64} {R : Nat × Nat × Nat} {a : Nat → Nat → Nat} {h : HS} {t f : Int32} {x1 : Int32} (hwf : WFA a) (hbh : BH h) (hM : MI S a h t f) : TT mX7_many (0 + 1) 0 [some (.ref 37), some (.int x1)] [] (S, L, R) (RQ S R (fun r => r = some (.int (aMany a x1))) a h t f) := by
  obtain ⟨hV, hH, hT, hF⟩ := id hM
  refine T_mono (c_X7_many hV hwf) (fun r σ' q => ?_)
  obtain ⟨rfl, rfl⟩ := q
  exact ⟨S, L, rfl, rfl, hM, fun _ _ => rfl⟩
