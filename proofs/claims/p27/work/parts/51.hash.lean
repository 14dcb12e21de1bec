/-! ===== what the law's look at an object comes to: a number of its row alone ===== -/
theorem c_L_part (l : Launch) (E : wEnv) (σ : Mem) (a n : Int) (hn : 0 < n) (hn2 : n < 2147483648) : MetC l E yL_part cL_part 2 (some .int) 0 0 [iv a, iv n] σ (fun v σ' => σ = σ' ∧ ∃ z, 0 ≤ z ∧ z < n ∧ v = some (iv z)) := by
  refine MetC.of (own := RL) (by decide) rfl (by simp [Value.category]) (Nat.le_of_ble_eq_true rfl) [some (iv a), some (iv n)] rfl (by simp) (fun K X R => ?_)
  refine g_iload_n X dL_part_0 rfl ?_
  refine g_ldc X (n := 2147483647) dL_part_1 wK_RL_7 (by decide) ?_
  refine g_iandM X dL_part_3 (fun c h0 h1 => ?_)
  refine g_iload_n X dL_part_4 rfl ?_
  refine g_irem X dL_part_5 h0 h1 hn hn2 ?_
  exact R _ _ _ _ dL_part_6 ⟨rfl, c % n, Int.emod_nonneg _ (by omega), Int.emod_lt_of_pos _ hn, rfl⟩
theorem c_L_mixed (l : Launch) (E : wEnv) (σ : Mem) (h v : Int) : MetC l E yL_mixed cL_mixed 4 (some .long) 0 0 [jv h, jv v] σ (fun r σ' => r = some (jv (31 * h + v)) ∧ σ = σ') := by
  refine MetC.of2 (own := RL) (n := 0) (by decide) rfl (Nat.le_of_ble_eq_true rfl) [some (jv h), none, some (jv v), none] rfl (by simp) (fun K X R => ?_)
  refine g_ldc2 X (n := 31) dL_mixed_0 wK_RL_9 (by decide) ?_
  refine g_lload_n X dL_mixed_3 rfl ?_
  refine g_lmul X dL_mixed_4 ?_
  refine g_lload_n X dL_mixed_5 rfl ?_
  refine g_ladd X dL_mixed_6 ?_
  exact R _ _ _ _ dL_mixed_7 ⟨rfl, rfl⟩
/-- an int as a long -/
def wr (a : Int) : Int := (zI a).toInt
theorem wr_i2l (a : Int) : (zI a).toInt64 = zL (wr a) := by
  have h1 := Int32.le_toInt (zI a)
  have h2 := Int32.toInt_lt (zI a)
  have h := zI_i2l (a := (zI a).toInt) ⟨by omega, by omega⟩
  have e : zI (zI a).toInt = zI a := Int32.ofInt_toInt _
  rw [e] at h
  exact h
theorem g_i2lW {l : Launch} {E : wEnv} {K : Mem → Nat → List (Option Value) → List Value → Prop} {own : String} {cc : ByteArray} {nL f loc : Nat} {σ : Mem} {pc : Nat} {lv : List (Option Value)} {st : List Value} (X : Ctx l E K own cc nL f loc) {a : Int} (hd : decode cc pc = .ok (.i2l, 1)) (kk : K σ (pc + 1) lv (jv (wr a) :: st)) : K σ pc lv (iv a :: st) := by
  obtain ⟨p, e, R, s, m, args, below, meth, c0, cells, slots, Q, rfl, hx, hb, hml, hown, hts, hf, hlo, hc1, hs1, hCK⟩ := X
  intro H locs ls hP hS hv
  exact lv_i2l hx hb hd (wr_i2l a) (kk H locs ls hP hS hv)
def rS (r : Row) : St := (r, fun _ => r, 0, 0, fun _ => 0)
theorem countX_r {s : St} {w : Int} (h4 : w ≠ 4) (h5 : w ≠ 5) : countX s w = countX (rS s.1) w := by
  unfold countX
  simp only [h4, h5, if_false]
  rfl
def hCnt (r : Row) : Nat → Int → Int
  | 0, h => h
  | n + 1, h => hCnt r n (if (24 - (n : Int)) = 4 then h else if (24 - (n : Int)) = 5 then h else 31 * h + countX (rS r) (24 - (n : Int)))
def hGr (r : Row) (M : Int) : Nat → Int → Int
  | 0, h => h
  | n + 1, h => hGr r M n (31 * h + wr (groundX (rS r) ((M - 1 - n) / 4) ((M - 1 - n) % 4)))
def hPo (r : Row) (p : Int) : Nat → Int → Int
  | 0, h => h
  | n + 1, h => hPo r p n (31 * h + wr (pileOfX (rS r) p (12 - (n : Int))))
def hBl (r : Row) (p M : Int) : Nat → Int → Int
  | 0, h => h
  | n + 1, h => hBl r p M n (31 * h + wr (blowX (rS r) p ((M - 1 - n) / 2) ((M - 1 - n) % 2)))
def hOne (r : Row) (p h : Int) : Int := 31 * hBl r p (2 * pileOfX (rS r) p 12) (2 * pileOfX (rS r) p 12).toNat (hPo r p 13 h) + wr (runsX (rS r) p)
def hPi (r : Row) (q : Int) : Nat → Int → Int
  | 0, h => h
  | n + 1, h => hPi r q n (hOne r (q - 1 - n) h)
def hashR (r : Row) : Int := hPi r (r 19) (r 19).toNat (hGr r (4 * r 0) (4 * r 0).toNat (hCnt r 25 5))
/-! what an unchanged state keeps -/
theorem CRep.as {σ σ' : Mem} {s s' : St} {N N' : Int} (h : CRep σ s N) (h' : CRep σ' s' N') (e1 : s'.1 = s.1) (e2 : s'.2.1 = s.2.1) (e3 : s'.2.2.1 = s.2.2.1) : CRep σ' s' N := by
  obtain ⟨-, a, -, b, -⟩ := h
  obtain ⟨c1, -, c3, -, c5⟩ := h'
  exact ⟨c1, by rw [e1]; exact a, c3, by rw [e2, e3]; exact b, c5⟩
theorem CRep.back {σ σ' : Mem} {s : St} {N N' : Int} (h : CRep σ s N) (h' : CRep σ' s N') : CRep σ' s N := h.as h' rfl rfl rfl
theorem frM.trans {σ τ υ : Mem} (h : frM σ τ) (k : frM τ υ) : frM σ υ := fun x a b => (k x a b).trans (h x a b)
theorem SInv.runs {s : St} (h : SInv s) : ∀ q : Nat, (q : Int) < s.1 19 → ∀ j : Nat, (j : Int) < s.1 (24 + 91 * q + 10) → 0 ≤ setsR s.1 q j ∧ setsR s.1 q j ≤ 500 := fun q hq j hj => h.1 q hq j hj
theorem countX_0 (s : St) : countX s 0 = s.1 0 := rfl
theorem countX_1 (s : St) : countX s 1 = s.1 19 := rfl
theorem pileOfX_12 {s : St} {p : Int} (hp : 0 ≤ p ∧ p < s.1 19) : pileOfX s p 12 = s.1 (24 + 91 * p.toNat + 10) := by
  unfold pileOfX
  rw [if_pos ⟨hp, by decide⟩]
  rfl
