/-! ===== arrays, statics, calls over the memory ===== -/
theorem ent0 {E : wEnv} {c : Nat} {v : Nat → Int} (h : kd c = 0) : ent E c v = .inr (7, [rv E 25, rv E 1, rv E 3, rv E 5, rv E 7]) := by simp only [ent, h]
theorem ent1 {E : wEnv} {c : Nat} {v : Nat → Int} (h : kd c = 1) : ent E c v = .inr (2, [rv E 2, iv (v 1), iv (v 2)]) := by simp only [ent, h]
theorem ent2 {E : wEnv} {c : Nat} {v : Nat → Int} (h : kd c = 2) : ent E c v = .inl (E.2.2.1 3, 4, .inr (.inr (.inr (.inr (fun i => some (E.2.1 (25 + 36 * (i + 1)))))))) := by simp only [ent, h]
theorem ent3 {E : wEnv} {c : Nat} {v : Nat → Int} (h : kd c = 3) : ent E c v = .inr (0, [rv E 4, iv (v 1), iv (v 2), iv (v 3), iv (v 4), iv (v 5), iv (v 6)]) := by simp only [ent, h]
theorem ent4 {E : wEnv} {c : Nat} {v : Nat → Int} (h : kd c = 4) : ent E c v = .inl (E.2.2.1 2, ln c, .inl (fun j => zI (v j))) := by simp only [ent, h]
theorem ent5 {E : wEnv} {c : Nat} {v : Nat → Int} (h : kd c = 5) : ent E c v = .inr (5, [rv E 6, iv (v 1), iv (v 2), iv (v 3), iv (v 4), iv (v 5), iv (v 6)]) := by simp only [ent, h]
theorem ent6 {E : wEnv} {c : Nat} {v : Nat → Int} (h : kd c = 6) : ent E c v = .inr (3, [rv E 8, rv E 9, iv (v 2), rv E 10, rv E 11, iv (v 5), iv (v 6)]) := by simp only [ent, h]
theorem ent8 {E : wEnv} {c : Nat} {v : Nat → Int} (h : kd c = 8) : ent E c v = .inr (6, [rv E (c + 1), rv E (c + 4), rv E (c + 5), iv (v 3), jv (v 4), jv (v 5), jv (v 6), jv (v 7), jv (v 8), jv (v 9)]) := by simp only [ent, h]
theorem ent9 {E : wEnv} {c : Nat} {v : Nat → Int} (h : kd c = 9) : ent E c v = .inr (1, [rv E (c + 1), rv E (c + 2), iv (v 2)]) := by simp only [ent, h]
theorem ent10 {E : wEnv} {c : Nat} {v : Nat → Int} (h : kd c = 10) : ent E c v = .inl (E.2.2.1 4, 10, .inr (.inr (.inr (.inr (fun i => some (E.2.1 (c + 1 + 3 * i))))))) := by simp only [ent, h]
theorem ent11 {E : wEnv} {c : Nat} {v : Nat → Int} (h : kd c = 11) : ent E c v = .inr (4, [rv E (c + 1), rv E (c + 2), iv (v 2), iv (v 3), iv (v 4), iv (v 5), iv (v 6), iv (v 7), iv (v 8), iv (v 9), iv (v 10), iv (v 11), iv (v 12)]) := by simp only [ent, h]
theorem ent12 {E : wEnv} {c : Nat} {v : Nat → Int} (h : kd c = 12) : ent E c v = .inl (E.2.2.1 1, ln c, .inr (.inl (fun j => zL (v j)))) := by simp only [ent, h]
theorem ent13 {E : wEnv} {c : Nat} {v : Nat → Int} (h : kd c = 13) : ent E c v = .inl (E.2.2.1 0, ln c, .inl (fun j => zI (v j))) := by simp only [ent, h]
def isK (k c : Nat) : Prop := c < 205 ∧ kd c = k
theorem isK.ok {E : wEnv} {k c : Nat} (h : isK k c) (h1 : k ≠ 99) (h2 : k ≠ 12) : okc E c := ⟨h.1, by rw [h.2]; exact h1, fun q => absurd (h.2.symm.trans q) h2⟩
theorem isK.ok12 {E : wEnv} {c : Nat} (h : isK 12 c) (hf : E.2.2.2 9 = 1) : okc E c := ⟨h.1, by rw [h.2]; decide, fun _ => hf⟩
theorem upd_up (σ : Mem) (c k : Nat) (z : Int) : upd (fun j => zI (σ c j)) k (zI z) = fun j => zI (up σ c k z c j) := by
  funext j
  by_cases h : j = k <;> simp [upd, up, h]
theorem updL_up (σ : Mem) (c k : Nat) (z : Int) : vp_updL (fun j => zL (σ c j)) k (zL z) = fun j => zL (up σ c k z c j) := by
  funext j
  by_cases h : j = k <;> simp [vp_updL, up, h]
theorem nar_char {z : Int} (h0 : 0 ≤ z) (h : z < 65536) : narrow .char (.int (zI z)) = .int (zI z) := by
  obtain ⟨n, rfl⟩ := Int.eq_ofNat_of_zero_le h0
  have := (pk_charN (q := n) (by omega)).1
  rw [show nI n = zI n from zI_nat n] at this
  exact this
theorem nar_charV {z : Int} (h0 : 0 ≤ z) (h : z < 65536) : vp_nar .char (zI z) = zI z := by
  unfold vp_nar
  rw [nar_char h0 h]
theorem i2c_z {z : Int} (h0 : 0 ≤ z) (h : z < 65536) : ((zI z).toUInt32 % 65536).toInt32 = zI z := by
  obtain ⟨n, rfl⟩ := Int.eq_ofNat_of_zero_le h0
  have e : zI n = nI n := (zI_nat n).symm
  have h1 := pk_char (nI n)
  have h2 : (nI n).toBitVec.toNat = n := pk_tn (by omega)
  rw [h2, Nat.mod_eq_of_lt (by omega : n < 65536)] at h1
  show ((zI (n : Int)).toUInt32 % 65536).toInt32 = zI (n : Int)
  rw [e]
  exact h1
theorem cpy_cpy (σ : Mem) (a sp b dp n : Nat) : va_cpy (fun j => zI (σ a j)) (fun j => zI (σ b j)) sp dp n = fun j => zI (cpy σ a sp b dp n b j) := by
  funext j
  unfold va_cpy cpy
  by_cases h : dp ≤ j ∧ j < dp + n
  · rw [if_pos h, if_pos ⟨rfl, h⟩]
  · rw [if_neg h, if_neg (fun q => h q.2)]
section ROWS
variable {l : Launch} {E : wEnv} {K : Mem → Nat → List (Option Value) → List Value → Prop} {own : String} {cc : ByteArray} {nL f loc : Nat} {σ : Mem} {pc : Nat} {lv : List (Option Value)} {st : List Value}
theorem g_iald (X : Ctx l E K own cc nL f loc) {c n : Nat} {i : Int} (hK : isK 13 c) (hn : ln c = n) (h0 : 0 ≤ i) (h1 : i < n) (h2 : n < 2147483648) {z : Int} (hz : σ c i.toNat = z) (hd : decode cc pc = .ok (.iaload, 1)) (kk : K σ (pc + 1) lv (iv z :: st)) : K σ pc lv (iv i :: rv E c :: st) := by
  obtain ⟨p, e, R, s, m, args, below, meth, c0, cells, slots, Q, rfl, hx, hb, hml, hown, hts, hf, hlo, hc1, hs1, hCK⟩ := X
  intro H locs ls hP hS hv
  subst hn; subst hz
  refine va_iald hx hb hCK.2.1 hP (ixc c) 0 (by rw [LW_at E σ (hK.ok (by decide) (by decide)), ent13 hK.2]) rfl (zI_in h0 h1 h2) hd ?_
  rw [zI_cl h0 (by omega)]
  exact kk H locs ls hP hS hv
theorem g_cald (X : Ctx l E K own cc nL f loc) {c n : Nat} {i : Int} (hK : isK 4 c) (hn : ln c = n) (h0 : 0 ≤ i) (h1 : i < n) (h2 : n < 2147483648) {z : Int} (hz : σ c i.toNat = z) (hd : decode cc pc = .ok (.caload, 1)) (kk : K σ (pc + 1) lv (iv z :: st)) : K σ pc lv (iv i :: rv E c :: st) := by
  obtain ⟨p, e, R, s, m, args, below, meth, c0, cells, slots, Q, rfl, hx, hb, hml, hown, hts, hf, hlo, hc1, hs1, hCK⟩ := X
  intro H locs ls hP hS hv
  subst hn; subst hz
  refine va_cald hx hb hCK.2.1 hP (ixc c) 2 (by rw [LW_at E σ (hK.ok (by decide) (by decide)), ent4 hK.2]) rfl (zI_in h0 h1 h2) hd ?_
  rw [zI_cl h0 (by omega)]
  exact kk H locs ls hP hS hv
theorem g_lald (X : Ctx l E K own cc nL f loc) {c n : Nat} {i : Int} (hK : isK 12 c) (hfl : E.2.2.2 9 = 1) (hn : ln c = n) (h0 : 0 ≤ i) (h1 : i < n) (h2 : n < 2147483648) {z : Int} (hz : σ c i.toNat = z) (hd : decode cc pc = .ok (.laload, 1)) (kk : K σ (pc + 1) lv (jv z :: st)) : K σ pc lv (iv i :: rv E c :: st) := by
  obtain ⟨p, e, R, s, m, args, below, meth, c0, cells, slots, Q, rfl, hx, hb, hml, hown, hts, hf, hlo, hc1, hs1, hCK⟩ := X
  intro H locs ls hP hS hv
  subst hn; subst hz
  refine va_lald hx hb hCK.2.1 hP (ixc c) 1 (by rw [LW_at E σ (hK.ok12 hfl), ent12 hK.2]) rfl (zI_in h0 h1 h2) hd ?_
  rw [zI_cl h0 (by omega)]
  exact kk H locs ls hP hS hv
theorem g_iast (X : Ctx l E K own cc nL f loc) {c n : Nat} {i z : Int} (hK : isK 13 c) (hn : ln c = n) (h0 : 0 ≤ i) (h1 : i < n) (h2 : n < 2147483648) (hd : decode cc pc = .ok (.iastore, 1)) (kk : K (up σ c i.toNat z) (pc + 1) lv st) : K σ pc lv (iv z :: iv i :: rv E c :: st) := by
  obtain ⟨p, e, R, s, m, args, below, meth, c0, cells, slots, Q, rfl, hx, hb, hml, hown, hts, hf, hlo, hc1, hs1, hCK⟩ := X
  intro H locs ls hP hS hv
  subst hn
  refine va_iast hx hb hCK.2.1 hP (LD hCK.1 σ) hS (ixc c) 0 (by rw [LW_at E σ (hK.ok (by decide) (by decide)), ent13 hK.2]) rfl (zI_in h0 h1 h2) hd (fun H1 locs1 hP1 hD1 hS1 => kk H1 locs1 ls ?_ hS1 hv)
  rw [zI_cl h0 (by omega), upd_up, LW_set E (σ' := up σ c i.toNat z) (hK.ok (by decide) (by decide)) (by rw [ent13 hK.2]) (fun c' h => up_neC σ z h)] at hP1
  exact hP1
theorem g_last (X : Ctx l E K own cc nL f loc) {c n : Nat} {i z : Int} (hK : isK 12 c) (hfl : E.2.2.2 9 = 1) (hn : ln c = n) (h0 : 0 ≤ i) (h1 : i < n) (h2 : n < 2147483648) (hd : decode cc pc = .ok (.lastore, 1)) (kk : K (up σ c i.toNat z) (pc + 1) lv st) : K σ pc lv (jv z :: iv i :: rv E c :: st) := by
  obtain ⟨p, e, R, s, m, args, below, meth, c0, cells, slots, Q, rfl, hx, hb, hml, hown, hts, hf, hlo, hc1, hs1, hCK⟩ := X
  intro H locs ls hP hS hv
  subst hn
  refine va_last hx hb hCK.2.1 hP (LD hCK.1 σ) hS (ixc c) 1 (by rw [LW_at E σ (hK.ok12 hfl), ent12 hK.2]) rfl (zI_in h0 h1 h2) hd (fun H1 locs1 hP1 hD1 hS1 => kk H1 locs1 ls ?_ hS1 hv)
  rw [zI_cl h0 (by omega), updL_up, LW_set E (σ' := up σ c i.toNat z) (hK.ok12 hfl) (by rw [ent12 hK.2]) (fun c' h => up_neC σ z h)] at hP1
  exact hP1
theorem g_cast (X : Ctx l E K own cc nL f loc) {c n : Nat} {i z : Int} (hK : isK 4 c) (hn : ln c = n) (h0 : 0 ≤ i) (h1 : i < n) (h2 : n < 2147483648) (hz0 : 0 ≤ z) (hz : z < 65536) (hd : decode cc pc = .ok (.castore, 1)) (kk : K (up σ c i.toNat z) (pc + 1) lv st) : K σ pc lv (iv z :: iv i :: rv E c :: st) := by
  obtain ⟨p, e, R, s, m, args, below, meth, c0, cells, slots, Q, rfl, hx, hb, hml, hown, hts, hf, hlo, hc1, hs1, hCK⟩ := X
  intro H locs ls hP hS hv
  subst hn
  refine va_cast hx hb hCK.2.1 hP (LD hCK.1 σ) hS (ixc c) 2 (by rw [LW_at E σ (hK.ok (by decide) (by decide)), ent4 hK.2]) rfl (zI_in h0 h1 h2) hd (fun H1 locs1 hP1 hD1 hS1 => kk H1 locs1 ls ?_ hS1 hv)
  rw [zI_cl h0 (by omega), nar_charV hz0 hz, upd_up, LW_set E (σ' := up σ c i.toNat z) (hK.ok (by decide) (by decide)) (by rw [ent4 hK.2]) (fun c' h => up_neC σ z h)] at hP1
  exact hP1
theorem g_i2c (X : Ctx l E K own cc nL f loc) {z : Int} (h0 : 0 ≤ z) (h : z < 65536) (hd : decode cc pc = .ok (.i2c, 1)) (kk : K σ (pc + 1) lv (iv z :: st)) : K σ pc lv (iv z :: st) := by
  obtain ⟨p, e, R, s, m, args, below, meth, c0, cells, slots, Q, rfl, hx, hb, hml, hown, hts, hf, hlo, hc1, hs1, hCK⟩ := X
  intro H locs ls hP hS hv
  exact lv_i2c hx hb hd (i2c_z h0 h) (kk H locs ls hP hS hv)
theorem g_alen13 (X : Ctx l E K own cc nL f loc) {c n : Nat} (hK : isK 13 c) (hn : ln c = n) (hd : decode cc pc = .ok (.arraylength, 1)) (kk : K σ (pc + 1) lv (iv n :: st)) : K σ pc lv (rv E c :: st) := by
  obtain ⟨p, e, R, s, m, args, below, meth, c0, cells, slots, Q, rfl, hx, hb, hml, hown, hts, hf, hlo, hc1, hs1, hCK⟩ := X
  intro H locs ls hP hS hv
  subst hn
  exact va_alen hx hb hCK.2.1 hP (ixc c) 0 (by rw [LW_at E σ (hK.ok (by decide) (by decide)), ent13 hK.2]) rfl (zI_nat _) hd (kk H locs ls hP hS hv)
theorem g_alen4 (X : Ctx l E K own cc nL f loc) {c n : Nat} (hK : isK 4 c) (hn : ln c = n) (hd : decode cc pc = .ok (.arraylength, 1)) (kk : K σ (pc + 1) lv (iv n :: st)) : K σ pc lv (rv E c :: st) := by
  obtain ⟨p, e, R, s, m, args, below, meth, c0, cells, slots, Q, rfl, hx, hb, hml, hown, hts, hf, hlo, hc1, hs1, hCK⟩ := X
  intro H locs ls hP hS hv
  subst hn
  exact va_alen hx hb hCK.2.1 hP (ixc c) 2 (by rw [LW_at E σ (hK.ok (by decide) (by decide)), ent4 hK.2]) rfl (zI_nat _) hd (kk H locs ls hP hS hv)
theorem g_alen12 (X : Ctx l E K own cc nL f loc) {c n : Nat} (hK : isK 12 c) (hfl : E.2.2.2 9 = 1) (hn : ln c = n) (hd : decode cc pc = .ok (.arraylength, 1)) (kk : K σ (pc + 1) lv (iv n :: st)) : K σ pc lv (rv E c :: st) := by
  obtain ⟨p, e, R, s, m, args, below, meth, c0, cells, slots, Q, rfl, hx, hb, hml, hown, hts, hf, hlo, hc1, hs1, hCK⟩ := X
  intro H locs ls hP hS hv
  subst hn
  exact va_alen hx hb hCK.2.1 hP (ixc c) 1 (by rw [LW_at E σ (hK.ok12 hfl), ent12 hK.2]) rfl (zI_nat _) hd (kk H locs ls hP hS hv)
theorem g_alen10 (X : Ctx l E K own cc nL f loc) {c : Nat} (hK : isK 10 c) (hd : decode cc pc = .ok (.arraylength, 1)) (kk : K σ (pc + 1) lv (iv 10 :: st)) : K σ pc lv (rv E c :: st) := by
  obtain ⟨p, e, R, s, m, args, below, meth, c0, cells, slots, Q, rfl, hx, hb, hml, hown, hts, hf, hlo, hc1, hs1, hCK⟩ := X
  intro H locs ls hP hS hv
  exact va_alen hx hb hCK.2.1 hP (ixc c) 4 (by rw [LW_at E σ (hK.ok (by decide) (by decide)), ent10 hK.2]) rfl (zI_nat 10) hd (kk H locs ls hP hS hv)
theorem g_aald10 (X : Ctx l E K own cc nL f loc) {c : Nat} {i : Int} (hK : isK 10 c) (h0 : 0 ≤ i) (h1 : i < 10) (hd : decode cc pc = .ok (.aaload, 1)) (kk : K σ (pc + 1) lv (rv E (c + 1 + 3 * i.toNat) :: st)) : K σ pc lv (iv i :: rv E c :: st) := by
  obtain ⟨p, e, R, s, m, args, below, meth, c0, cells, slots, Q, rfl, hx, hb, hml, hown, hts, hf, hlo, hc1, hs1, hCK⟩ := X
  intro H locs ls hP hS hv
  refine va_aldq hx hb hCK.2.1 hP (ixc c) 4 (by rw [LW_at E σ (hK.ok (by decide) (by decide)), ent10 hK.2]) rfl (zI_in h0 h1 (by decide)) hd ?_
  rw [zI_cl h0 (by omega)]
  exact kk H locs ls hP hS hv
theorem g_alen2 (X : Ctx l E K own cc nL f loc) {c : Nat} (hK : isK 2 c) (hd : decode cc pc = .ok (.arraylength, 1)) (kk : K σ (pc + 1) lv (iv 4 :: st)) : K σ pc lv (rv E c :: st) := by
  obtain ⟨p, e, R, s, m, args, below, meth, c0, cells, slots, Q, rfl, hx, hb, hml, hown, hts, hf, hlo, hc1, hs1, hCK⟩ := X
  intro H locs ls hP hS hv
  exact va_alen hx hb hCK.2.1 hP (ixc c) 3 (by rw [LW_at E σ (hK.ok (by decide) (by decide)), ent2 hK.2]) rfl (zI_nat 4) hd (kk H locs ls hP hS hv)
theorem g_aald2 (X : Ctx l E K own cc nL f loc) {c : Nat} {i : Int} (hK : isK 2 c) (h0 : 0 ≤ i) (h1 : i < 4) (hd : decode cc pc = .ok (.aaload, 1)) (kk : K σ (pc + 1) lv (rv E (25 + 36 * (i.toNat + 1)) :: st)) : K σ pc lv (iv i :: rv E c :: st) := by
  obtain ⟨p, e, R, s, m, args, below, meth, c0, cells, slots, Q, rfl, hx, hb, hml, hown, hts, hf, hlo, hc1, hs1, hCK⟩ := X
  intro H locs ls hP hS hv
  refine va_aldq hx hb hCK.2.1 hP (ixc c) 3 (by rw [LW_at E σ (hK.ok (by decide) (by decide)), ent2 hK.2]) rfl (zI_in h0 h1 (by decide)) hd ?_
  rw [zI_cl h0 (by omega)]
  exact kk H locs ls hP hS hv
abbrev sv (E : wEnv) (k : Nat) : Value := Value.ref (E.2.2.2 k)
theorem g_gets0 (X : Ctx l E K own cc nL f loc) {index : Nat} (hw : Cond.fieldLink own index "PileSets" "LEAST_SETTINGS" "[I" ∈ wsL_law) (hd : decode cc pc = .ok (.getstatic index, 3)) (kk : K σ (pc + 3) lv (sv E 0 :: st)) : K σ pc lv st := by
  obtain ⟨p, e, R, s, m, args, below, meth, c0, cells, slots, Q, rfl, hx, hb, hml, hown, hts, hf, hlo, hc1, hs1, hCK⟩ := X
  intro H locs ls hP hS hv
  exact va_gets hx hb hCK.2.2.2.1.1 hS hown (hts _ hw) (fun _ h => h) hd (kk H locs ls hP hS hv)
theorem g_getsN0 (X : Ctx l E K own cc nL f loc) {index : Nat} {host : String} (hw : Cond.fieldLinkNest own index "PileSets" "LEAST_SETTINGS" "[I" host ∈ nestWs) (hd : decode cc pc = .ok (.getstatic index, 3)) (kk : K σ (pc + 3) lv (sv E 0 :: st)) : K σ pc lv st := by
  obtain ⟨p, e, R, s, m, args, below, meth, c0, cells, slots, Q, rfl, hx, hb, hml, hown, hts, hf, hlo, hc1, hs1, hCK⟩ := X
  intro H locs ls hP hS hv
  exact va_getsN hx hb hCK.2.2.2.1.1 hS hown (va_Nw.use rfl (hCK.2.2.1 _ hw)) (fun _ h => h) hd (kk H locs ls hP hS hv)
theorem g_tlen0 (X : Ctx l E K own cc nL f loc) (hd : decode cc pc = .ok (.arraylength, 1)) (kk : K σ (pc + 1) lv (iv 6 :: st)) : K σ pc lv (sv E 0 :: st) := by
  obtain ⟨p, e, R, s, m, args, below, meth, c0, cells, slots, Q, rfl, hx, hb, hml, hown, hts, hf, hlo, hc1, hs1, hCK⟩ := X
  intro H locs ls hP hS hv
  exact va_tlen hx hb hCK.2.2.2.1.2 hS (zI_nat 6) hd (kk H locs ls hP hS hv)
theorem g_tld0 (X : Ctx l E K own cc nL f loc) {i : Int} (h0 : 0 ≤ i) (h1 : i < 6) (hd : decode cc pc = .ok (.iaload, 1)) (kk : K σ (pc + 1) lv (iv (leastS.getD i.toNat 0) :: st)) : K σ pc lv (iv i :: sv E 0 :: st) := by
  obtain ⟨p, e, R, s, m, args, below, meth, c0, cells, slots, Q, rfl, hx, hb, hml, hown, hts, hf, hlo, hc1, hs1, hCK⟩ := X
  intro H locs ls hP hS hv
  exact va_ti hx hb hCK.2.2.2.1.2 hS (zI_in h0 h1 (by decide)) (v := iv (leastS.getD i.toNat 0)) (by rw [zI_cl h0 (by omega)]) hd (kk H locs ls hP hS hv)
theorem g_gets1 (X : Ctx l E K own cc nL f loc) {index : Nat} (hw : Cond.fieldLink own index "PileSets" "MOST_SETTINGS" "[I" ∈ wsL_law) (hd : decode cc pc = .ok (.getstatic index, 3)) (kk : K σ (pc + 3) lv (sv E 1 :: st)) : K σ pc lv st := by
  obtain ⟨p, e, R, s, m, args, below, meth, c0, cells, slots, Q, rfl, hx, hb, hml, hown, hts, hf, hlo, hc1, hs1, hCK⟩ := X
  intro H locs ls hP hS hv
  exact va_gets hx hb hCK.2.2.2.2.1.1 hS hown (hts _ hw) (fun _ h => h) hd (kk H locs ls hP hS hv)
theorem g_getsN1 (X : Ctx l E K own cc nL f loc) {index : Nat} {host : String} (hw : Cond.fieldLinkNest own index "PileSets" "MOST_SETTINGS" "[I" host ∈ nestWs) (hd : decode cc pc = .ok (.getstatic index, 3)) (kk : K σ (pc + 3) lv (sv E 1 :: st)) : K σ pc lv st := by
  obtain ⟨p, e, R, s, m, args, below, meth, c0, cells, slots, Q, rfl, hx, hb, hml, hown, hts, hf, hlo, hc1, hs1, hCK⟩ := X
  intro H locs ls hP hS hv
  exact va_getsN hx hb hCK.2.2.2.2.1.1 hS hown (va_Nw.use rfl (hCK.2.2.1 _ hw)) (fun _ h => h) hd (kk H locs ls hP hS hv)
theorem g_tlen1 (X : Ctx l E K own cc nL f loc) (hd : decode cc pc = .ok (.arraylength, 1)) (kk : K σ (pc + 1) lv (iv 6 :: st)) : K σ pc lv (sv E 1 :: st) := by
  obtain ⟨p, e, R, s, m, args, below, meth, c0, cells, slots, Q, rfl, hx, hb, hml, hown, hts, hf, hlo, hc1, hs1, hCK⟩ := X
  intro H locs ls hP hS hv
  exact va_tlen hx hb hCK.2.2.2.2.1.2 hS (zI_nat 6) hd (kk H locs ls hP hS hv)
theorem g_tld1 (X : Ctx l E K own cc nL f loc) {i : Int} (h0 : 0 ≤ i) (h1 : i < 6) (hd : decode cc pc = .ok (.iaload, 1)) (kk : K σ (pc + 1) lv (iv (mostS.getD i.toNat 0) :: st)) : K σ pc lv (iv i :: sv E 1 :: st) := by
  obtain ⟨p, e, R, s, m, args, below, meth, c0, cells, slots, Q, rfl, hx, hb, hml, hown, hts, hf, hlo, hc1, hs1, hCK⟩ := X
  intro H locs ls hP hS hv
  exact va_ti hx hb hCK.2.2.2.2.1.2 hS (zI_in h0 h1 (by decide)) (v := iv (mostS.getD i.toNat 0)) (by rw [zI_cl h0 (by omega)]) hd (kk H locs ls hP hS hv)
theorem g_gets2 (X : Ctx l E K own cc nL f loc) {index : Nat} (hw : Cond.fieldLink own index "PileSets" "FIRST_SETTINGS" "[I" ∈ wsL_law) (hd : decode cc pc = .ok (.getstatic index, 3)) (kk : K σ (pc + 3) lv (sv E 2 :: st)) : K σ pc lv st := by
  obtain ⟨p, e, R, s, m, args, below, meth, c0, cells, slots, Q, rfl, hx, hb, hml, hown, hts, hf, hlo, hc1, hs1, hCK⟩ := X
  intro H locs ls hP hS hv
  exact va_gets hx hb hCK.2.2.2.2.2.1 hS hown (hts _ hw) (fun _ h => h) hd (kk H locs ls hP hS hv)
theorem g_getsN2 (X : Ctx l E K own cc nL f loc) {index : Nat} {host : String} (hw : Cond.fieldLinkNest own index "PileSets" "FIRST_SETTINGS" "[I" host ∈ nestWs) (hd : decode cc pc = .ok (.getstatic index, 3)) (kk : K σ (pc + 3) lv (sv E 2 :: st)) : K σ pc lv st := by
  obtain ⟨p, e, R, s, m, args, below, meth, c0, cells, slots, Q, rfl, hx, hb, hml, hown, hts, hf, hlo, hc1, hs1, hCK⟩ := X
  intro H locs ls hP hS hv
  exact va_getsN hx hb hCK.2.2.2.2.2.1 hS hown (va_Nw.use rfl (hCK.2.2.1 _ hw)) (fun _ h => h) hd (kk H locs ls hP hS hv)
theorem g_tlen2 (X : Ctx l E K own cc nL f loc) (hd : decode cc pc = .ok (.arraylength, 1)) (kk : K σ (pc + 1) lv (iv 6 :: st)) : K σ pc lv (sv E 2 :: st) := by
  obtain ⟨p, e, R, s, m, args, below, meth, c0, cells, slots, Q, rfl, hx, hb, hml, hown, hts, hf, hlo, hc1, hs1, hCK⟩ := X
  intro H locs ls hP hS hv
  exact va_tlen hx hb hCK.2.2.2.2.2.2 hS (zI_nat 6) hd (kk H locs ls hP hS hv)
theorem g_tld2 (X : Ctx l E K own cc nL f loc) {i : Int} (h0 : 0 ≤ i) (h1 : i < 6) (hd : decode cc pc = .ok (.iaload, 1)) (kk : K σ (pc + 1) lv (iv (firstS.getD i.toNat 0) :: st)) : K σ pc lv (iv i :: sv E 2 :: st) := by
  obtain ⟨p, e, R, s, m, args, below, meth, c0, cells, slots, Q, rfl, hx, hb, hml, hown, hts, hf, hlo, hc1, hs1, hCK⟩ := X
  intro H locs ls hP hS hv
  exact va_ti hx hb hCK.2.2.2.2.2.2 hS (zI_in h0 h1 (by decide)) (v := iv (firstS.getD i.toNat 0)) (by rw [zI_cl h0 (by omega)]) hd (kk H locs ls hP hS hv)
theorem g_min (X : Ctx l E K own cc nL f loc) {index : Nat} {a b : Int} (hw : Cond.methodLink own index Lib.Math.min.name ∈ wsL_law) (ha : I32 a) (hb0 : I32 b) (hF : 1 ≤ f) (hL : (st.map fun v => v.category).sum + 13 ≤ loc) (hd : decode cc pc = .ok (.invokestatic index, 3)) (kk : K σ (pc + 3) lv (iv (min a b) :: st)) : K σ pc lv (iv b :: iv a :: st) := by
  obtain ⟨p, e, R, s, m, args, below, meth, c0, cells, slots, Q, rfl, hx, hb, hml, hown, hts, hf, hlo, hc1, hs1, hCK⟩ := X
  intro H locs ls hP hS hv
  refine va_mmin hx hb (by rw [hml]; exact hv.1.symm) hown (hts _ hw) (hts _ law_min1) (hts _ law_math) (hts _ law_min2) (by rw [hf]; exact hF) (by rw [hlo]; exact hL) hc1 hs1 hd ?_
  have e : (if zI b < zI a then zI b else zI a) = zI (min a b) := by
    simp only [zI_lt hb0 ha]
    split <;> congr 1 <;> omega
  rw [e]
  exact kk H locs ls hP hS hv
theorem g_max (X : Ctx l E K own cc nL f loc) {index : Nat} {a b : Int} (hw : Cond.methodLink own index Lib.Math.max.name ∈ wsL_law) (ha : I32 a) (hb0 : I32 b) (hF : 1 ≤ f) (hL : (st.map fun v => v.category).sum + 13 ≤ loc) (hd : decode cc pc = .ok (.invokestatic index, 3)) (kk : K σ (pc + 3) lv (iv (max a b) :: st)) : K σ pc lv (iv b :: iv a :: st) := by
  obtain ⟨p, e, R, s, m, args, below, meth, c0, cells, slots, Q, rfl, hx, hb, hml, hown, hts, hf, hlo, hc1, hs1, hCK⟩ := X
  intro H locs ls hP hS hv
  refine va_mmax hx hb (by rw [hml]; exact hv.1.symm) hown (hts _ hw) (hts _ law_max1) (hts _ law_math) (hts _ law_max2) (by rw [hf]; exact hF) (by rw [hlo]; exact hL) hc1 hs1 hd ?_
  have e : (if zI a < zI b then zI b else zI a) = zI (max a b) := by
    simp only [zI_lt ha hb0]
    split <;> congr 1 <;> omega
  rw [e]
  exact kk H locs ls hP hS hv
theorem g_abs (X : Ctx l E K own cc nL f loc) {index : Nat} {a : Int} (hw : Cond.methodLink own index Lib.Math.abs.name ∈ wsL_law) (ha : I32 a) (hF : 1 ≤ f) (hL : (st.map fun v => v.category).sum + 13 ≤ loc) (hd : decode cc pc = .ok (.invokestatic index, 3)) (kk : K σ (pc + 3) lv (iv (if 0 ≤ a then a else -a) :: st)) : K σ pc lv (iv a :: st) := by
  obtain ⟨p, e, R, s, m, args, below, meth, c0, cells, slots, Q, rfl, hx, hb, hml, hown, hts, hf, hlo, hc1, hs1, hCK⟩ := X
  intro H locs ls hP hS hv
  refine va_mabs hx hb (by rw [hml]; exact hv.1.symm) hown (hts _ hw) (hts _ law_abs1) (hts _ law_math) (hts _ law_abs2) (by rw [hf]; exact hF) (by rw [hlo]; exact hL) hc1 hs1 hd ?_
  have e : (if 0 ≤ zI a then zI a else 0 - zI a) = zI (if 0 ≤ a then a else -a) := by
    have h0 : 0 ≤ zI a ↔ 0 ≤ a := by rw [← zI_0]; exact zI_le ⟨by decide, by decide⟩ ha
    have e2 : (0 : Int32) - zI a = zI (0 - a) := by rw [← zI_0, zI_sub]
    simp only [h0, e2]
    split <;> congr 1 <;> omega
  rw [e]
  exact kk H locs ls hP hS hv
theorem g_copy (X : Ctx l E K own cc nL f loc) {index c d nc nd : Nat} {sp dp n : Int} (hw : Cond.methodLink own index arraycopyName ∈ wsL_law) (hK : isK 13 c) (hK2 : isK 13 d) (hnc : ln c = nc) (hnd : ln d = nd) (h1 : 0 ≤ sp) (h2 : 0 ≤ dp) (h3 : 0 ≤ n) (h4 : sp + n ≤ nc) (h5 : dp + n ≤ nd) (h6 : nc < 1000000) (h7 : nd < 1000000) (hF : 1 ≤ f) (hL : (st.map fun v => v.category).sum + (nativeFrameWords "java/lang/System" "arraycopy" 5 + 11) ≤ loc) (hd : decode cc pc = .ok (.invokestatic index, 3)) (kk : K (cpy σ c sp.toNat d dp.toNat n.toNat) (pc + 3) lv st) : K σ pc lv (iv n :: iv dp :: rv E d :: iv sp :: rv E c :: st) := by
  obtain ⟨p, e, R, s, m, args, below, meth, c0, cells, slots, Q, rfl, hx, hb, hml, hown, hts, hf, hlo, hc1, hs1, hCK⟩ := X
  intro H locs ls hP hS hv
  subst hnc; subst hnd
  have n0 : ∀ z : Int, 0 ≤ z → z < 2147483648 → ¬ zI z < 0 := fun z hz hz2 => by
    rw [← zI_0, zI_lt ⟨by omega, hz2⟩ ⟨by decide, by decide⟩]; omega
  refine va_copyi hx hb (by rw [hml]; exact hv.1.symm) hown (hts _ hw) (hts _ law_ac1) (hts _ law_ac2) (hts _ law_sys) hCK.2.1 hP (LD hCK.1 σ) hS (ixc c) (ixc d) 0 0 (by rw [LW_at E σ (hK.ok (by decide) (by decide)), ent13 hK.2]) (by rw [LW_at E σ (hK2.ok (by decide) (by decide)), ent13 hK2.2]) rfl rfl rfl (n0 sp h1 (by omega)) (n0 dp h2 (by omega)) (n0 n h3 (by omega)) (by rw [zI_cl h1 (by omega), zI_cl h3 (by omega)]; omega) (by rw [zI_cl h2 (by omega), zI_cl h3 (by omega)]; omega) (fun _ _ => rfl) (by rw [hf]; exact hF) (by rw [hlo]; exact hL) hd (fun H1 locs1 hP1 hD1 hS1 => kk H1 locs1 ls ?_ hS1 hv)
  rw [zI_cl h1 (by omega), zI_cl h2 (by omega), zI_cl h3 (by omega), cpy_cpy, LW_set E (σ' := cpy σ c sp.toNat d dp.toNat n.toNat) (hK2.ok (by decide) (by decide)) (by rw [ent13 hK2.2]) (fun c' h => funext fun j => by unfold cpy; rw [if_neg (fun q => h q.1)])] at hP1
  exact hP1
end ROWS
section CALLS
theorem cP_blind {E : wEnv} {as : List Value} {σ : Mem} : FrameBlind (va_Pc as (cP E σ)) := fun a U g mk q => ⟨q.1, q.2.1, q.2.2.vm (U := U.calling g mk a) rfl⟩
theorem call_W {p : Program} {l : Launch} {e : Env} {R : Room} {s : State} {m : MethodId} {args : Array Value} {below : List Frame} {meth : Method} {c : Code} {H : Heap} {locs : List Loc} {cells slots : Nat} {Q : State → Prop} {pc : Nat} {ls : Array Slot} {rest st0 : List Value} {a : Array Value} {E : wEnv} {Post : Option Value → Mem → Prop}
    (hr : va_Run p l e R s m args below meth c H locs cells slots 0 0 (F0 m pc ls st0) rest (cQ E Post a) (LA E)) (hS : va_S (LA E) s.heap H locs)
    (kk : ∀ (v : Option Value) (σ' : Mem) (H1 : Heap) (locs1 : List Loc), Post v σ' → va_P E.1 vwCl (LW E σ') H1 → va_S (LA E) s.heap H1 locs1 → W p l e R s m args below meth c H1 locs1 cells slots Q (F0 m (pc + 3) ls (v.toList ++ rest))) : W p l e R s m args below meth c H locs cells slots Q (F0 m pc ls st0) := by
  intro T hT X
  obtain ⟨v, st₀, t, T', L, h0, X', hL, e1, e2, ⟨⟨v', σ', hv, hp, hP⟩, hz, hk⟩, st⟩ := hr T hT X
  cases hv
  rw [h0] at hz hk
  obtain ⟨t2, a1, b1⟩ := kk v σ' T'.heap (locs ++ L) hp (by rw [e1]; exact hP)
    ⟨Nat.le_trans hS.1 (by rw [e1]; exact hz), fun q h1 h2 => by rw [e1, hk q (Nat.lt_of_lt_of_le h1 hS.1) h2]; exact hS.2.1 q h1 h2, fun q hq => by
      rcases List.mem_append.mp hq with h | h
      · exact hS.2.2 q h
      · exact hL q h⟩ T' rfl X'
  exact ⟨t2, st t2 a1, b1⟩
variable {l : Launch} {E : wEnv} {K : Mem → Nat → List (Option Value) → List Value → Prop} {own : String} {cc : ByteArray} {nL f loc : Nat} {σ : Mem} {pc : Nat} {lv : List (Option Value)} {st stk : List Value} {y : MethodName} {bytes : ByteArray} {maxL index n f' loc' : Nat} {ret : Option FieldType} {as : List Value} {Post : Option Value → Mem → Prop}
theorem codeIn (hw5 : Cond.code y bytes maxL ret ∈ wsL_law) : ∀ w ∈ (Cond.code y bytes maxL ret :: wsL_law), w ∈ wsL_law := fun w hw => by
  rcases List.mem_cons.mp hw with rfl | h
  · exact hw5
  · exact h

theorem g_callV (X : Ctx l E K own cc nL f loc) {b ci N : Nat} {C : String} {T : u_T} {fs : List Value} (hM : MetC l E y bytes maxL ret f' loc' (rv E b :: as) σ Post) (hbl : okc E b) (hbe : ent E b (σ b) = .inr (ci, fs)) (hcl : vwCl[ci]? = some (C, T, N)) (hy : y.cls = C) (hw1 : Cond.methodLink own index y ∈ wsL_law) (hw2 : Cond.instanceMethod y ∈ wsL_law) (hw3 : Cond.selects C y y ∈ wsL_law) (hw4 : Cond.initialized C ∈ wsL_law) (hw5 : Cond.code y bytes maxL ret ∈ wsL_law) (hd0 : y.cls ≠ "java/lang/invoke/MethodHandle" ∧ y.cls ≠ "java/lang/invoke/VarHandle" ∧ (parseMethodDescriptor y.desc).map (fun d => d.parameters.length) = some n) (hR : f' + 1 ≤ f ∧ 8 + (maxL + 11) + loc' ≤ loc) (hn : as.length = n) (hroom : (st.map fun v => v.category).sum ≤ 8) (hd : decode cc pc = .ok (.invokevirtual index, 3)) (hstk : stk = as.reverse ++ rv E b :: st) (kk : ∀ (v : Option Value) (σ' : Mem), Post v σ' → K σ' (pc + 3) lv (v.toList ++ st)) : K σ pc lv stk := by
  obtain ⟨p, e, R, s, m, args, below, meth, c0, cells, slots, Q, rfl, hx, hb, hml, hown, hts, hf, hlo, hc1, hs1, hCK⟩ := X
  intro H locs ls hP hS hv
  subst hstk
  have hG : GoodIn wsL_law (wsV own index C y (.code y bytes maxL ret :: wsL_law)) := law_goodIn (fun w hw => by
    rcases List.mem_append.mp (by unfold wsV at hw; exact hw) with h | h
    · simp only [List.mem_cons, List.mem_singleton, List.not_mem_nil, or_false] at h
      rcases h with rfl | rfl | rfl | rfl
      · exact hw1
      · exact hw2
      · exact hw3
      · exact hw4
    · exact codeIn hw5 w h)
  exact call_W (va_runV (As := as) (rest := st) ⟨hx, hb, hml, hown, hts⟩ hM (cwV n hts hG rfl rfl rfl ⟨hy, hd0⟩ ⟨by rw [hf]; exact hR.1, by rw [hlo]; exact hR.2⟩) ⟨cP_blind, va_recv hCK.2.1 hP hcl (q0 := ixc b) (by rw [LW_at E σ hbl, hbe]), fun U hU hW => ⟨rfl, by rw [hU]; exact hP, by rw [hU]; exact hCK.to hW hS⟩⟩ rfl hn hv.1 rfl (lv_room hroom) hd ⟨hc1, hs1⟩) hS (fun v σ' H1 locs1 hp hP1 hS1 => kk v σ' hp H1 locs1 ls hP1 hS1 hv)
theorem g_callVN (X : Ctx l E K own cc nL f loc) {b ci N : Nat} {C host : String} {T : u_T} {fs : List Value} (hM : MetC l E y bytes maxL ret f' loc' (rv E b :: as) σ Post) (hbl : okc E b) (hbe : ent E b (σ b) = .inr (ci, fs)) (hcl : vwCl[ci]? = some (C, T, N)) (hy : y.cls = C) (hw1 : Cond.methodLinkNest own index y host ∈ nestWs) (hw2 : Cond.instanceMethod y ∈ wsL_law) (hw3 : Cond.selects C y y ∈ wsL_law) (hw4 : Cond.initialized C ∈ wsL_law) (hw5 : Cond.code y bytes maxL ret ∈ wsL_law) (hd0 : y.cls ≠ "java/lang/invoke/MethodHandle" ∧ y.cls ≠ "java/lang/invoke/VarHandle" ∧ (parseMethodDescriptor y.desc).map (fun d => d.parameters.length) = some n) (hR : f' + 1 ≤ f ∧ 8 + (maxL + 11) + loc' ≤ loc) (hn : as.length = n) (hroom : (st.map fun v => v.category).sum ≤ 8) (hd : decode cc pc = .ok (.invokevirtual index, 3)) (hstk : stk = as.reverse ++ rv E b :: st) (kk : ∀ (v : Option Value) (σ' : Mem), Post v σ' → K σ' (pc + 3) lv (v.toList ++ st)) : K σ pc lv stk := by
  obtain ⟨p, e, R, s, m, args, below, meth, c0, cells, slots, Q, rfl, hx, hb, hml, hown, hts, hf, hlo, hc1, hs1, hCK⟩ := X
  intro H locs ls hP hS hv
  subst hstk
  subst hy
  exact call_W (va_runVN (As := as) (rest := st) (C := y.cls) ⟨hx, hb, hml, hown, hts⟩ hM ⟨va_cnB n hts (law_goodIn (codeIn hw5)) rfl rfl rfl (hCK.2.2.1 _ hw1) (hts _ hw4) hd0 ⟨by rw [hf]; exact hR.1, by rw [hlo]; exact hR.2⟩, hts _ hw2, hts _ hw3⟩ ⟨cP_blind, va_recv hCK.2.1 hP hcl (q0 := ixc b) (by rw [LW_at E σ hbl, hbe]), fun U hU hW => ⟨rfl, by rw [hU]; exact hP, by rw [hU]; exact hCK.to hW hS⟩⟩ rfl hn hv.1 rfl (lv_room hroom) hd ⟨hc1, hs1⟩) hS (fun v σ' H1 locs1 hp hP1 hS1 => kk v σ' hp H1 locs1 ls hP1 hS1 hv)
theorem g_callS (X : Ctx l E K own cc nL f loc) (hM : MetC l E y bytes maxL ret f' loc' as σ Post) (hw1 : Cond.methodLink own index y ∈ wsL_law) (hw2 : Cond.static y ∈ wsL_law) (hw4 : Cond.initialized y.cls ∈ wsL_law) (hw5 : Cond.code y bytes maxL ret ∈ wsL_law) (hd0 : y.cls ≠ "java/lang/invoke/MethodHandle" ∧ y.cls ≠ "java/lang/invoke/VarHandle" ∧ (parseMethodDescriptor y.desc).map (fun d => d.parameters.length) = some n) (hR : f' + 1 ≤ f ∧ 8 + (maxL + 11) + loc' ≤ loc) (hn : as.length = n) (hroom : (st.map fun v => v.category).sum ≤ 8) (hd : decode cc pc = .ok (.invokestatic index, 3)) (hstk : stk = as.reverse ++ st) (kk : ∀ (v : Option Value) (σ' : Mem), Post v σ' → K σ' (pc + 3) lv (v.toList ++ st)) : K σ pc lv stk := by
  obtain ⟨p, e, R, s, m, args, below, meth, c0, cells, slots, Q, rfl, hx, hb, hml, hown, hts, hf, hlo, hc1, hs1, hCK⟩ := X
  intro H locs ls hP hS hv
  subst hstk
  have hG : GoodIn wsL_law (va_wsS own index y (.code y bytes maxL ret :: wsL_law)) := law_goodIn (fun w hw => by
    rcases List.mem_append.mp (by unfold va_wsS at hw; exact hw) with h | h
    · simp only [List.mem_cons, List.mem_singleton, List.not_mem_nil, or_false] at h
      rcases h with rfl | rfl | rfl
      · exact hw1
      · exact hw2
      · exact hw4
    · exact codeIn hw5 w h)
  exact call_W (va_runS (As := as) (rest := st) ⟨hx, hb, hml, hown, hts⟩ hM (va_cwS n hts hG rfl rfl rfl hd0 ⟨by rw [hf]; exact hR.1, by rw [hlo]; exact hR.2⟩) ⟨cP_blind, fun U hU hW => ⟨rfl, by rw [hU]; exact hP, by rw [hU]; exact hCK.to hW hS⟩⟩ rfl hn hv.1 rfl (lv_room hroom) hd ⟨hc1, hs1⟩) hS (fun v σ' H1 locs1 hp hP1 hS1 => kk v σ' hp H1 locs1 ls hP1 hS1 hv)
theorem g_callSN (X : Ctx l E K own cc nL f loc) {host : String} (hM : MetC l E y bytes maxL ret f' loc' as σ Post) (hw1 : Cond.methodLinkNest own index y host ∈ nestWs) (hw2 : Cond.static y ∈ wsL_law) (hw4 : Cond.initialized y.cls ∈ wsL_law) (hw5 : Cond.code y bytes maxL ret ∈ wsL_law) (hd0 : y.cls ≠ "java/lang/invoke/MethodHandle" ∧ y.cls ≠ "java/lang/invoke/VarHandle" ∧ (parseMethodDescriptor y.desc).map (fun d => d.parameters.length) = some n) (hR : f' + 1 ≤ f ∧ 8 + (maxL + 11) + loc' ≤ loc) (hn : as.length = n) (hroom : (st.map fun v => v.category).sum ≤ 8) (hd : decode cc pc = .ok (.invokestatic index, 3)) (hstk : stk = as.reverse ++ st) (kk : ∀ (v : Option Value) (σ' : Mem), Post v σ' → K σ' (pc + 3) lv (v.toList ++ st)) : K σ pc lv stk := by
  obtain ⟨p, e, R, s, m, args, below, meth, c0, cells, slots, Q, rfl, hx, hb, hml, hown, hts, hf, hlo, hc1, hs1, hCK⟩ := X
  intro H locs ls hP hS hv
  subst hstk
  exact call_W (va_runSN (As := as) (rest := st) ⟨hx, hb, hml, hown, hts⟩ hM ⟨va_cnB n hts (law_goodIn (codeIn hw5)) rfl rfl rfl (hCK.2.2.1 _ hw1) (hts _ hw4) hd0 ⟨by rw [hf]; exact hR.1, by rw [hlo]; exact hR.2⟩, hts _ hw2, trivial⟩ ⟨cP_blind, fun U hU hW => ⟨rfl, by rw [hU]; exact hP, by rw [hU]; exact hCK.to hW hS⟩⟩ rfl hn hv.1 rfl (lv_room hroom) hd ⟨hc1, hs1⟩) hS (fun v σ' H1 locs1 hp hP1 hS1 => kk v σ' hp H1 locs1 ls hP1 hS1 hv)
end CALLS
