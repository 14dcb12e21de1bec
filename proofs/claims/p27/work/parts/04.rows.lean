/-! ===== rows over the memory ===== -/
theorem MetC.of {l : Launch} {E : wEnv} {y : MethodName} {cc : ByteArray} {nL : Nat} {ret : Option FieldType} {f loc : Nat} {as : List Value} {σ : Mem} {Post : Option Value → Mem → Prop} {own : String} (hy : plainName y.cls = true) (ho : y.cls = own) (hc : ∀ v ∈ as, v.category = 1) (hlen : as.length ≤ nL) (lv0 : List (Option Value)) (hlv : as.map some ++ List.replicate (nL - as.length) none = lv0) (hret : ret = none ∨ ret = some .int ∨ ret = some .boolean ∨ ret = some .char ∨ ret = some .long ∨ ∃ n, ret = some (.object n)) (body : ∀ K, Ctx l E K own cc nL f loc → RetC K cc ret Post → K σ 0 lv0 []) : MetC l E y cc nL ret f loc as σ Post := by
  refine Met.ofW (cc := cc) (maxL := nL) (ret := ret) hy rfl ?_
  intro p e s m args below meth c s₁ B hml hv
  obtain ⟨rfl, hP, hCK⟩ := hv
  have hts : ∀ w ∈ wsL_law, w.before as.toArray s = true := fun w hw => atoms_spec (ws := .code y cc nL ret :: wsL_law) B.pre w (List.mem_cons_of_mem _ hw)
  have hown : s.vm.findClass own = some m.cls := ho ▸ findClass_of_methodNamed B.named
  have hx := B.exec
  have hb := B.bytes
  have hr := B.returns
  have hlocks := B.notSynchronized
  have hsl : lg_sl as = as.map Slot.val := by
    clear hlv hlen body hP hCK hts hown B
    induction as with
    | nil => rfl
    | cons a t ih =>
      have h1 := hc a List.mem_cons_self
      have h2 := ih (fun v hv => hc v (List.mem_cons_of_mem _ hv))
      unfold lg_sl at h2 ⊢
      rw [List.flatMap_cons, h2, h1]
      rfl
  have hent := lv_entry as (n := nL) (by rw [hsl]; simpa using hlen)
  have hL : lvH ((lg_sl as ++ List.replicate (nL - (lg_sl as).length) Slot.unset).toArray) nL lv0 := by
    refine ⟨hent.1, hent.2.1, fun i v hi => ?_⟩
    subst hlv
    by_cases h : i < as.length
    · rw [List.getElem?_append_left (by simpa using h), List.getElem?_map] at hi
      have h3 : as[i]? = some v := by
        cases h4 : as[i]? with
        | none => rw [h4] at hi; cases hi
        | some w => rw [h4] at hi; simpa using hi
      have h5 := lv_args_get as 0 hc i v h3
      rw [Nat.zero_add] at h5
      exact hent.2.2 _ h5
    · rw [List.getElem?_append_right (by simpa using h), List.getElem?_replicate] at hi
      split at hi <;> simp at hi
  rw [lg_entry_eq]
  refine body _ ⟨p, e, _, s, m, as.toArray, below, meth, c, 0, 0, _, rfl, hx, hb, hml, hown, hts, rfl, rfl, Nat.zero_le _, Nat.zero_le _, hCK⟩ ?_ s.heap [] _ hP va_S.rf hL
  rcases hret with h | h | h | h | h | ⟨n, h⟩ <;> subst h
  · intro σ' pc lv hd hp H locs ls hP' hS hl
    exact W.vret hx hb hr (fun t ht hW => ⟨⟨_, σ', rfl, hp, by rw [ht]; exact hP'⟩, hS.F ht⟩) hS.2.2 hd hlocks
  · intro σ' pc lv z hd hp H locs ls hP' hS hl
    exact W.iret hx hb hr (fun t ht hW => ⟨⟨_, σ', rfl, hp, by rw [ht]; exact hP'⟩, hS.F ht⟩) hS.2.2 hd hlocks
  · intro σ' pc lv z hz hd hp H locs ls hP' hS hl
    refine W.zret hx hb hr (ty := .boolean) (by rcases hz with rfl | rfl <;> decide) (fun t ht hW => ⟨⟨_, σ', rfl, hp, by rw [ht]; exact hP'⟩, hS.F ht⟩) hS.2.2 hd hlocks
  · intro σ' pc lv z hz hd hp H locs ls hP' hS hl
    exact W.zret hx hb hr (ty := .char) hz (fun t ht hW => ⟨⟨_, σ', rfl, hp, by rw [ht]; exact hP'⟩, hS.F ht⟩) hS.2.2 hd hlocks
  · intro σ' pc lv z hd hp H locs ls hP' hS hl
    exact W.lret hx hb hr (fun t ht hW => ⟨⟨_, σ', rfl, hp, by rw [ht]; exact hP'⟩, hS.F ht⟩) hS.2.2 hd hlocks
  · intro σ' pc lv v hz hd hp H locs ls hP' hS hl
    exact W.aret hx hb hr (Or.inl ⟨n, rfl⟩) hz (fun t ht hW => ⟨⟨_, σ', rfl, hp, by rw [ht]; exact hP'⟩, hS.F ht⟩) hS.2.2 hd hlocks
def noLong (lv : List (Option Value)) : Nat → Bool
  | 0 => true
  | k + 1 => match lv[k]? with
    | some (some v) => v.category != 2
    | _ => true
def toL (lv : List (Option Value)) : List (Nat × Value) := (List.range lv.length).flatMap (fun i => match lv[i]? with | some (some v) => [(i, v)] | _ => [])
theorem mem_toL {lv : List (Option Value)} {i : Nat} {v : Value} : (i, v) ∈ toL lv ↔ lv[i]? = some (some v) := by
  unfold toL
  rw [List.mem_flatMap]
  constructor
  · rintro ⟨j, -, h⟩
    split at h
    · rename_i w hw
      simp at h
      obtain ⟨rfl, rfl⟩ := h
      exact hw
    · simp at h
  · intro h
    refine ⟨i, List.mem_range.mpr (List.getElem?_eq_some_iff.mp h).1, ?_⟩
    rw [h]
    simp
theorem lvH.has {ls : Array Slot} {nL : Nat} {lv : List (Option Value)} (h : lvH ls nL lv) : lv_has ls nL (toL lv) := ⟨h.1, h.2.1, fun q hq => h.2.2 q.1 q.2 (mem_toL.mp hq)⟩
theorem lvH.st {ls : Array Slot} {nL : Nat} {lv : List (Option Value)} {i : Nat} {v : Value} (hn : noLong lv i = true) (h : lv_has ls nL ((i, v) :: (toL lv).filter (fun q => !(q.1 == i) && !(q.1 + 1 == i && q.2.category == 2)))) : lvH ls nL (lv.set i (some v)) := by
  refine ⟨h.1, h.2.1, fun j w hj => ?_⟩
  by_cases hji : j = i
  · subst hji
    have hlt : j < lv.length := by
      have := (List.getElem?_eq_some_iff.mp hj).1
      simpa using this
    rw [List.getElem?_set_self hlt] at hj
    have : v = w := by simpa using hj
    subst this
    exact h.2.2 (j, v) List.mem_cons_self
  · rw [List.getElem?_set_ne (Ne.symm hji)] at hj
    refine h.2.2 (j, w) (List.mem_cons_of_mem _ (List.mem_filter.mpr ⟨mem_toL.mpr hj, ?_⟩))
    have h1 : (j == i) = false := by simpa using hji
    show (!(j == i) && !(j + 1 == i && w.category == 2)) = true
    rw [h1]
    by_cases h2 : j + 1 = i
    · subst h2
      have hn2 : (match lv[j]? with | some (some v) => v.category != 2 | _ => true) = true := hn
      rw [hj] at hn2
      have h3 : (w.category == 2) = false := by
        have h4 : (w.category != 2) = true := hn2
        simpa using h4
      rw [h3]
      simp
    · have h3 : (j + 1 == i) = false := by simpa using h2
      rw [h3]
      simp
theorem lvH.st2 {ls : Array Slot} {nL : Nat} {lv : List (Option Value)} {i : Nat} {v : Value} (hn : noLong lv i = true) (h : lv_has ls nL ((i, v) :: (toL lv).filter (fun q => !(q.1 == i) && (!(q.1 == i + 1) && !(q.1 + 1 == i && q.2.category == 2))))) : lvH ls nL ((lv.set i (some v)).set (i + 1) none) := by
  refine ⟨h.1, h.2.1, fun j w hj => ?_⟩
  by_cases hj1 : j = i + 1
  · subst hj1
    rw [List.getElem?_set] at hj
    split at hj
    · split at hj <;> simp at hj
    · rename_i hne
      exact absurd rfl hne
  rw [List.getElem?_set_ne (Ne.symm hj1)] at hj
  by_cases hji : j = i
  · subst hji
    have hlt : j < lv.length := by
      have := (List.getElem?_eq_some_iff.mp hj).1
      simpa using this
    rw [List.getElem?_set_self hlt] at hj
    have : v = w := by simpa using hj
    subst this
    exact h.2.2 (j, v) List.mem_cons_self
  · rw [List.getElem?_set_ne (Ne.symm hji)] at hj
    refine h.2.2 (j, w) (List.mem_cons_of_mem _ (List.mem_filter.mpr ⟨mem_toL.mpr hj, ?_⟩))
    have h1 : (j == i) = false := by simpa using hji
    have h1' : (j == i + 1) = false := by simpa using hj1
    show (!(j == i) && (!(j == i + 1) && !(j + 1 == i && w.category == 2))) = true
    rw [h1, h1']
    by_cases h2 : j + 1 = i
    · subst h2
      have hn2 : (match lv[j]? with | some (some v) => v.category != 2 | _ => true) = true := hn
      rw [hj] at hn2
      have h3 : (w.category == 2) = false := by
        have h4 : (w.category != 2) = true := hn2
        simpa using h4
      rw [h3]
      simp
    · have h3 : (j + 1 == i) = false := by simpa using h2
      rw [h3]
      simp
theorem law_good : ∀ w ∈ wsL_law, (w.onTables && w.keeps) = true ∨ ∃ ty, w = .arrayClass ty := by
  have h : wsL_law.all goodWord = true := by decide +kernel
  exact fun w hw => good_of_word (List.all_eq_true.mp h w hw)
theorem law_goodIn {ws : List Cond} (h : ∀ w ∈ ws, w ∈ wsL_law) : GoodIn wsL_law ws := fun w hw => ⟨h w hw, law_good w (h w hw)⟩
section ROWS
variable {l : Launch} {E : wEnv} {K : Mem → Nat → List (Option Value) → List Value → Prop} {own : String} {cc : ByteArray} {nL f loc : Nat} {σ : Mem} {pc : Nat} {lv : List (Option Value)} {st : List Value}
theorem g_iload_n (X : Ctx l E K own cc nL f loc) {k : Fin 4} {x : Int32} (hd : decode cc pc = .ok (.iload_n k, 1)) (hl : lv[(k : Nat)]? = some (some (.int x))) (kk : K σ (pc + 1) lv (.int x :: st)) : K σ pc lv st := by
  obtain ⟨p, e, R, s, m, args, below, meth, c0, cells, slots, Q, rfl, hx, hb, hml, hown, hts, hf, hlo, hc1, hs1, hCK⟩ := X
  intro H locs ls hP hS hv
  exact lv_iload_n hx hb hd rfl (hv.2.2 _ _ hl) (kk H locs ls hP hS hv)
theorem g_iload (X : Ctx l E K own cc nL f loc) {i : Nat} {x : Int32} (hd : decode cc pc = .ok (.iload i, 2)) (hl : lv[i]? = some (some (.int x))) (kk : K σ (pc + 2) lv (.int x :: st)) : K σ pc lv st := by
  obtain ⟨p, e, R, s, m, args, below, meth, c0, cells, slots, Q, rfl, hx, hb, hml, hown, hts, hf, hlo, hc1, hs1, hCK⟩ := X
  intro H locs ls hP hS hv
  exact lv_iload hx hb hd (hv.2.2 _ _ hl) (kk H locs ls hP hS hv)
theorem g_aload_n (X : Ctx l E K own cc nL f loc) {k : Fin 4} {x : Nat} (hd : decode cc pc = .ok (.aload_n k, 1)) (hl : lv[(k : Nat)]? = some (some (.ref x))) (kk : K σ (pc + 1) lv (.ref x :: st)) : K σ pc lv st := by
  obtain ⟨p, e, R, s, m, args, below, meth, c0, cells, slots, Q, rfl, hx, hb, hml, hown, hts, hf, hlo, hc1, hs1, hCK⟩ := X
  intro H locs ls hP hS hv
  exact lv_aload_n hx hb hd rfl (hv.2.2 _ _ hl) (kk H locs ls hP hS hv)
theorem g_aload (X : Ctx l E K own cc nL f loc) {i : Nat} {x : Nat} (hd : decode cc pc = .ok (.aload i, 2)) (hl : lv[i]? = some (some (.ref x))) (kk : K σ (pc + 2) lv (.ref x :: st)) : K σ pc lv st := by
  obtain ⟨p, e, R, s, m, args, below, meth, c0, cells, slots, Q, rfl, hx, hb, hml, hown, hts, hf, hlo, hc1, hs1, hCK⟩ := X
  intro H locs ls hP hS hv
  exact lv_aload hx hb hd (hv.2.2 _ _ hl) (kk H locs ls hP hS hv)
theorem g_aload_nN (X : Ctx l E K own cc nL f loc) {k : Fin 4} (hd : decode cc pc = .ok (.aload_n k, 1)) (hl : lv[(k : Nat)]? = some (some .null)) (kk : K σ (pc + 1) lv (.null :: st)) : K σ pc lv st := by
  obtain ⟨p, e, R, s, m, args, below, meth, c0, cells, slots, Q, rfl, hx, hb, hml, hown, hts, hf, hlo, hc1, hs1, hCK⟩ := X
  intro H locs ls hP hS hv
  exact lv_aload_nN hx hb hd rfl (hv.2.2 _ _ hl) (kk H locs ls hP hS hv)
theorem g_aloadN (X : Ctx l E K own cc nL f loc) {i : Nat} (hd : decode cc pc = .ok (.aload i, 2)) (hl : lv[i]? = some (some .null)) (kk : K σ (pc + 2) lv (.null :: st)) : K σ pc lv st := by
  obtain ⟨p, e, R, s, m, args, below, meth, c0, cells, slots, Q, rfl, hx, hb, hml, hown, hts, hf, hlo, hc1, hs1, hCK⟩ := X
  intro H locs ls hP hS hv
  exact lv_aloadN hx hb hd (hv.2.2 _ _ hl) (kk H locs ls hP hS hv)
theorem g_lload_n (X : Ctx l E K own cc nL f loc) {k : Fin 4} {x : Int64} (hd : decode cc pc = .ok (.lload_n k, 1)) (hl : lv[(k : Nat)]? = some (some (.long x))) (kk : K σ (pc + 1) lv (.long x :: st)) : K σ pc lv st := by
  obtain ⟨p, e, R, s, m, args, below, meth, c0, cells, slots, Q, rfl, hx, hb, hml, hown, hts, hf, hlo, hc1, hs1, hCK⟩ := X
  intro H locs ls hP hS hv
  exact lv_lload_n hx hb hd rfl (hv.2.2 _ _ hl) (kk H locs ls hP hS hv)
theorem g_istore_n (X : Ctx l E K own cc nL f loc) {k : Fin 4} {x : Int32} (hd : decode cc pc = .ok (.istore_n k, 1)) (hn : (k : Nat) < nL) (hc : noLong lv (k : Nat) = true) {lw : List (Option Value)} (hset : lv.set (k : Nat) (some (.int x)) = lw) (kk : K σ (pc + 1) lw st) : K σ pc lv (.int x :: st) := by
  obtain ⟨p, e, R, s, m, args, below, meth, c0, cells, slots, Q, rfl, hx, hb, hml, hown, hts, hf, hlo, hc1, hs1, hCK⟩ := X
  intro H locs ls hP hS hv
  exact lv_istore_n hx hb hd rfl hv.has hn rfl (fun ls' h' => kk H locs ls' hP hS (hset ▸ lvH.st hc h'))
theorem g_istore (X : Ctx l E K own cc nL f loc) {i : Nat} {x : Int32} (hd : decode cc pc = .ok (.istore i, 2)) (hn : i < nL) (hc : noLong lv i = true) {lw : List (Option Value)} (hset : lv.set i (some (.int x)) = lw) (kk : K σ (pc + 2) lw st) : K σ pc lv (.int x :: st) := by
  obtain ⟨p, e, R, s, m, args, below, meth, c0, cells, slots, Q, rfl, hx, hb, hml, hown, hts, hf, hlo, hc1, hs1, hCK⟩ := X
  intro H locs ls hP hS hv
  exact lv_istore hx hb hd hv.has hn rfl (fun ls' h' => kk H locs ls' hP hS (hset ▸ lvH.st hc h'))
theorem g_astore_n (X : Ctx l E K own cc nL f loc) {k : Fin 4} {x : Nat} (hd : decode cc pc = .ok (.astore_n k, 1)) (hn : (k : Nat) < nL) (hc : noLong lv (k : Nat) = true) {lw : List (Option Value)} (hset : lv.set (k : Nat) (some (.ref x)) = lw) (kk : K σ (pc + 1) lw st) : K σ pc lv (.ref x :: st) := by
  obtain ⟨p, e, R, s, m, args, below, meth, c0, cells, slots, Q, rfl, hx, hb, hml, hown, hts, hf, hlo, hc1, hs1, hCK⟩ := X
  intro H locs ls hP hS hv
  exact lv_astore_n hx hb hd rfl hv.has hn rfl (fun ls' h' => kk H locs ls' hP hS (hset ▸ lvH.st hc h'))
theorem g_astore (X : Ctx l E K own cc nL f loc) {i : Nat} {x : Nat} (hd : decode cc pc = .ok (.astore i, 2)) (hn : i < nL) (hc : noLong lv i = true) {lw : List (Option Value)} (hset : lv.set i (some (.ref x)) = lw) (kk : K σ (pc + 2) lw st) : K σ pc lv (.ref x :: st) := by
  obtain ⟨p, e, R, s, m, args, below, meth, c0, cells, slots, Q, rfl, hx, hb, hml, hown, hts, hf, hlo, hc1, hs1, hCK⟩ := X
  intro H locs ls hP hS hv
  exact lv_astore hx hb hd hv.has hn rfl (fun ls' h' => kk H locs ls' hP hS (hset ▸ lvH.st hc h'))
theorem g_astore_nN (X : Ctx l E K own cc nL f loc) {k : Fin 4} (hd : decode cc pc = .ok (.astore_n k, 1)) (hn : (k : Nat) < nL) (hc : noLong lv (k : Nat) = true) {lw : List (Option Value)} (hset : lv.set (k : Nat) (some .null) = lw) (kk : K σ (pc + 1) lw st) : K σ pc lv (.null :: st) := by
  obtain ⟨p, e, R, s, m, args, below, meth, c0, cells, slots, Q, rfl, hx, hb, hml, hown, hts, hf, hlo, hc1, hs1, hCK⟩ := X
  intro H locs ls hP hS hv
  exact lv_astore_nN hx hb hd rfl hv.has hn rfl (fun ls' h' => kk H locs ls' hP hS (hset ▸ lvH.st hc h'))
theorem g_astoreN (X : Ctx l E K own cc nL f loc) {i : Nat} (hd : decode cc pc = .ok (.astore i, 2)) (hn : i < nL) (hc : noLong lv i = true) {lw : List (Option Value)} (hset : lv.set i (some .null) = lw) (kk : K σ (pc + 2) lw st) : K σ pc lv (.null :: st) := by
  obtain ⟨p, e, R, s, m, args, below, meth, c0, cells, slots, Q, rfl, hx, hb, hml, hown, hts, hf, hlo, hc1, hs1, hCK⟩ := X
  intro H locs ls hP hS hv
  exact lv_astoreN hx hb hd hv.has hn rfl (fun ls' h' => kk H locs ls' hP hS (hset ▸ lvH.st hc h'))
theorem g_lstore_n (X : Ctx l E K own cc nL f loc) {k : Fin 4} {x : Int64} (hd : decode cc pc = .ok (.lstore_n k, 1)) (hn : (k : Nat) + 1 < nL) (hc : noLong lv (k : Nat) = true) {lw : List (Option Value)} (hset : (lv.set (k : Nat) (some (.long x))).set ((k : Nat) + 1) none = lw) (kk : K σ (pc + 1) lw st) : K σ pc lv (.long x :: st) := by
  obtain ⟨p, e, R, s, m, args, below, meth, c0, cells, slots, Q, rfl, hx, hb, hml, hown, hts, hf, hlo, hc1, hs1, hCK⟩ := X
  intro H locs ls hP hS hv
  exact lv_lstore_n hx hb hd rfl hv.has hn rfl (fun ls' h' => kk H locs ls' hP hS (hset ▸ lvH.st2 hc h'))
theorem g_iinc (X : Ctx l E K own cc nL f loc) {i : Nat} {n a : Int} (hd : decode cc pc = .ok (.iinc i n, 3)) (hl : lv[i]? = some (some (iv a))) (hn : i < nL) (hc : noLong lv i = true) {lw : List (Option Value)} (hset : lv.set i (some (iv (a + n))) = lw) (kk : K σ (pc + 3) lw st) : K σ pc lv st := by
  obtain ⟨p, e, R, s, m, args, below, meth, c0, cells, slots, Q, rfl, hx, hb, hml, hown, hts, hf, hlo, hc1, hs1, hCK⟩ := X
  intro H locs ls hP hS hv
  obtain ⟨k, hk⟩ := List.getElem?_of_mem (mem_toL.mpr hl)
  exact lv_iinc hx hb hd hv.has hk (zI_add a n) hn rfl (fun ls' h' => kk H locs ls' hP hS (hset ▸ lvH.st hc h'))
theorem g_iconst (X : Ctx l E K own cc nL f loc) {n : Int} (hd : decode cc pc = .ok (.iconst n, 1)) (kk : K σ (pc + 1) lv (iv n :: st)) : K σ pc lv st := by
  obtain ⟨p, e, R, s, m, args, below, meth, c0, cells, slots, Q, rfl, hx, hb, hml, hown, hts, hf, hlo, hc1, hs1, hCK⟩ := X
  intro H locs ls hP hS hv
  exact lv_iconst hx hb hd rfl (kk H locs ls hP hS hv)
theorem g_bipush (X : Ctx l E K own cc nL f loc) {n : Int} (hd : decode cc pc = .ok (.bipush n, 2)) (hn : (Int8.ofInt n).toInt32 = zI n) (kk : K σ (pc + 2) lv (iv n :: st)) : K σ pc lv st := by
  obtain ⟨p, e, R, s, m, args, below, meth, c0, cells, slots, Q, rfl, hx, hb, hml, hown, hts, hf, hlo, hc1, hs1, hCK⟩ := X
  intro H locs ls hP hS hv
  exact lv_bipush hx hb hd hn (kk H locs ls hP hS hv)
theorem g_sipush (X : Ctx l E K own cc nL f loc) {n : Int} (hd : decode cc pc = .ok (.sipush n, 3)) (hn : (Int16.ofInt n).toInt32 = zI n) (kk : K σ (pc + 3) lv (iv n :: st)) : K σ pc lv st := by
  obtain ⟨p, e, R, s, m, args, below, meth, c0, cells, slots, Q, rfl, hx, hb, hml, hown, hts, hf, hlo, hc1, hs1, hCK⟩ := X
  intro H locs ls hP hS hv
  exact lv_sipush hx hb hd hn (kk H locs ls hP hS hv)
theorem g_ldc (X : Ctx l E K own cc nL f loc) {i : Nat} {n : Int} {w : Int32} (hd : decode cc pc = .ok (.ldc i, 2)) (hw : Cond.constant own i w ∈ wsL_law) (hn : w = zI n) (kk : K σ (pc + 2) lv (iv n :: st)) : K σ pc lv st := by
  obtain ⟨p, e, R, s, m, args, below, meth, c0, cells, slots, Q, rfl, hx, hb, hml, hown, hts, hf, hlo, hc1, hs1, hCK⟩ := X
  intro H locs ls hP hS hv
  subst hn
  exact lv_ldc hx hb hown (hts _ hw) hd (kk H locs ls hP hS hv)
theorem g_ldc2 (X : Ctx l E K own cc nL f loc) {i : Nat} {n : Int} {w : Int64} (hd : decode cc pc = .ok (.ldc2_w i, 3)) (hw : Cond.constantLong own i w ∈ wsL_law) (hn : w = zL n) (kk : K σ (pc + 3) lv (jv n :: st)) : K σ pc lv st := by
  obtain ⟨p, e, R, s, m, args, below, meth, c0, cells, slots, Q, rfl, hx, hb, hml, hown, hts, hf, hlo, hc1, hs1, hCK⟩ := X
  intro H locs ls hP hS hv
  subst hn
  exact lv_ldc2 hx hb hown (hts _ hw) hd (kk H locs ls hP hS hv)
theorem g_lconst (X : Ctx l E K own cc nL f loc) {n : Fin 2} {z : Int} (hz : ((n : Nat) : Int) = z) (hd : decode cc pc = .ok (.lconst n, 1)) (kk : K σ (pc + 1) lv (jv z :: st)) : K σ pc lv st := by
  obtain ⟨p, e, R, s, m, args, below, meth, c0, cells, slots, Q, rfl, hx, hb, hml, hown, hts, hf, hlo, hc1, hs1, hCK⟩ := X
  intro H locs ls hP hS hv
  subst hz
  exact lv_lconst hx hb hd (zL_nat _) (kk H locs ls hP hS hv)
theorem g_aconst (X : Ctx l E K own cc nL f loc) (hd : decode cc pc = .ok (.aconst_null, 1)) (kk : K σ (pc + 1) lv (.null :: st)) : K σ pc lv st := by
  obtain ⟨p, e, R, s, m, args, below, meth, c0, cells, slots, Q, rfl, hx, hb, hml, hown, hts, hf, hlo, hc1, hs1, hCK⟩ := X
  intro H locs ls hP hS hv
  exact lv_null hx hb hd (kk H locs ls hP hS hv)
theorem g_dup (X : Ctx l E K own cc nL f loc) {v : Value} (hd : decode cc pc = .ok (.dup, 1)) (hc : v.category = 1) (kk : K σ (pc + 1) lv (v :: v :: st)) : K σ pc lv (v :: st) := by
  obtain ⟨p, e, R, s, m, args, below, meth, c0, cells, slots, Q, rfl, hx, hb, hml, hown, hts, hf, hlo, hc1, hs1, hCK⟩ := X
  intro H locs ls hP hS hv
  exact lv_dup hx hb hd hc (kk H locs ls hP hS hv)
theorem g_dup2 (X : Ctx l E K own cc nL f loc) {v w : Value} (hd : decode cc pc = .ok (.dup2, 1)) (hc : v.category = 1) (hc2 : w.category = 1) (kk : K σ (pc + 1) lv (v :: w :: v :: w :: st)) : K σ pc lv (v :: w :: st) := by
  obtain ⟨p, e, R, s, m, args, below, meth, c0, cells, slots, Q, rfl, hx, hb, hml, hown, hts, hf, hlo, hc1, hs1, hCK⟩ := X
  intro H locs ls hP hS hv
  exact lv_dup2_11 hx hb hd hc hc2 (kk H locs ls hP hS hv)
theorem g_pop (X : Ctx l E K own cc nL f loc) {v : Value} (hd : decode cc pc = .ok (.pop, 1)) (hc : v.category = 1) (kk : K σ (pc + 1) lv st) : K σ pc lv (v :: st) := by
  obtain ⟨p, e, R, s, m, args, below, meth, c0, cells, slots, Q, rfl, hx, hb, hml, hown, hts, hf, hlo, hc1, hs1, hCK⟩ := X
  intro H locs ls hP hS hv
  exact lv_pop hx hb hd hc (kk H locs ls hP hS hv)
theorem g_iadd (X : Ctx l E K own cc nL f loc) {a b : Int} (hd : decode cc pc = .ok (.iadd, 1)) (kk : K σ (pc + 1) lv (iv (a + b) :: st)) : K σ pc lv (iv b :: iv a :: st) := by
  obtain ⟨p, e, R, s, m, args, below, meth, c0, cells, slots, Q, rfl, hx, hb, hml, hown, hts, hf, hlo, hc1, hs1, hCK⟩ := X
  intro H locs ls hP hS hv
  exact lv_iadd hx hb hd (by rw [zI_add]; exact kk H locs ls hP hS hv)
theorem g_isub (X : Ctx l E K own cc nL f loc) {a b : Int} (hd : decode cc pc = .ok (.isub, 1)) (kk : K σ (pc + 1) lv (iv (a - b) :: st)) : K σ pc lv (iv b :: iv a :: st) := by
  obtain ⟨p, e, R, s, m, args, below, meth, c0, cells, slots, Q, rfl, hx, hb, hml, hown, hts, hf, hlo, hc1, hs1, hCK⟩ := X
  intro H locs ls hP hS hv
  exact lv_isub hx hb hd (by rw [zI_sub]; exact kk H locs ls hP hS hv)
theorem g_imul (X : Ctx l E K own cc nL f loc) {a b : Int} (hd : decode cc pc = .ok (.imul, 1)) (kk : K σ (pc + 1) lv (iv (a * b) :: st)) : K σ pc lv (iv b :: iv a :: st) := by
  obtain ⟨p, e, R, s, m, args, below, meth, c0, cells, slots, Q, rfl, hx, hb, hml, hown, hts, hf, hlo, hc1, hs1, hCK⟩ := X
  intro H locs ls hP hS hv
  exact lv_imul hx hb hd (by rw [zI_mul]; exact kk H locs ls hP hS hv)
theorem g_ineg (X : Ctx l E K own cc nL f loc) {a : Int} (hd : decode cc pc = .ok (.ineg, 1)) (kk : K σ (pc + 1) lv (iv (-a) :: st)) : K σ pc lv (iv a :: st) := by
  obtain ⟨p, e, R, s, m, args, below, meth, c0, cells, slots, Q, rfl, hx, hb, hml, hown, hts, hf, hlo, hc1, hs1, hCK⟩ := X
  intro H locs ls hP hS hv
  exact lv_ineg hx hb hd (by rw [zI_neg]; exact kk H locs ls hP hS hv)
theorem g_idiv (X : Ctx l E K own cc nL f loc) {a b : Int} (hd : decode cc pc = .ok (.idiv, 1)) (h1 : 0 ≤ a) (h2 : a < 2147483648) (h3 : 0 < b) (h4 : b < 2147483648) (kk : K σ (pc + 1) lv (iv (a / b) :: st)) : K σ pc lv (iv b :: iv a :: st) := by
  obtain ⟨p, e, R, s, m, args, below, meth, c0, cells, slots, Q, rfl, hx, hb, hml, hown, hts, hf, hlo, hc1, hs1, hCK⟩ := X
  intro H locs ls hP hS hv
  refine lv_idiv hx hb hd (fun q => ?_) (by rw [zI_div h1 h2 h3 h4]; exact kk H locs ls hP hS hv)
  rw [← zI_0, zI_eq ⟨by omega, h4⟩ ⟨by omega, by omega⟩] at q
  omega
theorem g_irem (X : Ctx l E K own cc nL f loc) {a b : Int} (hd : decode cc pc = .ok (.irem, 1)) (h1 : 0 ≤ a) (h2 : a < 2147483648) (h3 : 0 < b) (h4 : b < 2147483648) (kk : K σ (pc + 1) lv (iv (a % b) :: st)) : K σ pc lv (iv b :: iv a :: st) := by
  obtain ⟨p, e, R, s, m, args, below, meth, c0, cells, slots, Q, rfl, hx, hb, hml, hown, hts, hf, hlo, hc1, hs1, hCK⟩ := X
  intro H locs ls hP hS hv
  refine lv_irem hx hb hd (fun q => ?_) (by rw [zI_rem h1 h2 h3 h4]; exact kk H locs ls hP hS hv)
  rw [← zI_0, zI_eq ⟨by omega, h4⟩ ⟨by omega, by omega⟩] at q
  omega
theorem g_ladd (X : Ctx l E K own cc nL f loc) {a b : Int} (hd : decode cc pc = .ok (.ladd, 1)) (kk : K σ (pc + 1) lv (jv (a + b) :: st)) : K σ pc lv (jv b :: jv a :: st) := by
  obtain ⟨p, e, R, s, m, args, below, meth, c0, cells, slots, Q, rfl, hx, hb, hml, hown, hts, hf, hlo, hc1, hs1, hCK⟩ := X
  intro H locs ls hP hS hv
  exact lv_ladd hx hb hd (by rw [zL_add]; exact kk H locs ls hP hS hv)
theorem g_lmul (X : Ctx l E K own cc nL f loc) {a b : Int} (hd : decode cc pc = .ok (.lmul, 1)) (kk : K σ (pc + 1) lv (jv (a * b) :: st)) : K σ pc lv (jv b :: jv a :: st) := by
  obtain ⟨p, e, R, s, m, args, below, meth, c0, cells, slots, Q, rfl, hx, hb, hml, hown, hts, hf, hlo, hc1, hs1, hCK⟩ := X
  intro H locs ls hP hS hv
  exact lv_lmul hx hb hd (by rw [zL_mul]; exact kk H locs ls hP hS hv)
theorem g_ldiv (X : Ctx l E K own cc nL f loc) {a b : Int} (hd : decode cc pc = .ok (.ldiv, 1)) (h1 : 0 ≤ a) (h2 : a < 9223372036854775808) (h3 : 0 < b) (h4 : b < 9223372036854775808) (kk : K σ (pc + 1) lv (jv (a / b) :: st)) : K σ pc lv (jv b :: jv a :: st) := by
  obtain ⟨p, e, R, s, m, args, below, meth, c0, cells, slots, Q, rfl, hx, hb, hml, hown, hts, hf, hlo, hc1, hs1, hCK⟩ := X
  intro H locs ls hP hS hv
  refine lv_ldiv hx hb hd (fun q => ?_) (by rw [zL_div h1 h2 h3 h4]; exact kk H locs ls hP hS hv)
  have q2 := congrArg Int64.toInt q
  rw [zL_toInt ⟨by omega, h4⟩] at q2
  have q3 : (0 : Int64).toInt = 0 := by decide
  omega
theorem g_i2l (X : Ctx l E K own cc nL f loc) {a : Int} (hd : decode cc pc = .ok (.i2l, 1)) (h : I32 a) (kk : K σ (pc + 1) lv (jv a :: st)) : K σ pc lv (iv a :: st) := by
  obtain ⟨p, e, R, s, m, args, below, meth, c0, cells, slots, Q, rfl, hx, hb, hml, hown, hts, hf, hlo, hc1, hs1, hCK⟩ := X
  intro H locs ls hP hS hv
  exact lv_i2l hx hb hd (zI_i2l h) (kk H locs ls hP hS hv)
theorem g_l2i (X : Ctx l E K own cc nL f loc) {a : Int} (hd : decode cc pc = .ok (.l2i, 1)) (kk : K σ (pc + 1) lv (iv a :: st)) : K σ pc lv (jv a :: st) := by
  obtain ⟨p, e, R, s, m, args, below, meth, c0, cells, slots, Q, rfl, hx, hb, hml, hown, hts, hf, hlo, hc1, hs1, hCK⟩ := X
  intro H locs ls hP hS hv
  exact lv_l2i hx hb hd (zL_l2i a) (kk H locs ls hP hS hv)
theorem g_if_eq (X : Ctx l E K own cc nL f loc) {a : Int} {off : Int} {tgt : Nat} (hd : decode cc pc = .ok (.ifCond .eq off, 3)) (ht : (pc : Int) + off = (tgt : Int)) (ha : I32 a) (kt : a = 0 → K σ tgt lv st) (kf : ¬ a = 0 → K σ (pc + 3) lv st) : K σ pc lv (iv a :: st) := by
  obtain ⟨p, e, R, s, m, args, below, meth, c0, cells, slots, Q, rfl, hx, hb, hml, hown, hts, hf, hlo, hc1, hs1, hCK⟩ := X
  intro H locs ls hP hS hv
  have h0 : I32 0 := ⟨by decide, by decide⟩
  refine lv_if_eq hx hb hd ht (fun h => kt ?_ H locs ls hP hS hv) (fun h => kf ?_ H locs ls hP hS hv)
  · rw [← zI_0] at h
    first | exact (zI_eq ha h0).mp h | exact (zI_eq h0 ha).mp h | exact fun q => h ((zI_eq ha h0).mpr q)
  · rw [← zI_0] at h
    first | exact (zI_eq ha h0).mp h | exact fun q => h ((zI_eq ha h0).mpr q) | exact Int.not_lt.mp (fun q => h ((zI_eq ha h0).mpr q)) | exact Int.not_lt.mp (fun q => h ((zI_eq h0 ha).mpr q)) | exact Int.not_le.mp (fun q => h ((zI_eq h0 ha).mpr q)) | exact Int.not_le.mp (fun q => h ((zI_eq ha h0).mpr q)) | exact Classical.byContradiction (fun q => h (fun z => q ((zI_eq ha h0).mp z)))
theorem g_icmp_eq (X : Ctx l E K own cc nL f loc) {a b : Int} {off : Int} {tgt : Nat} (hd : decode cc pc = .ok (.if_icmp .eq off, 3)) (ht : (pc : Int) + off = (tgt : Int)) (ha : I32 a) (h0 : I32 b) (kt : a = b → K σ tgt lv st) (kf : ¬ a = b → K σ (pc + 3) lv st) : K σ pc lv (iv b :: iv a :: st) := by
  obtain ⟨p, e, R, s, m, args, below, meth, c0, cells, slots, Q, rfl, hx, hb, hml, hown, hts, hf, hlo, hc1, hs1, hCK⟩ := X
  intro H locs ls hP hS hv
  refine lv_icmp_eq hx hb hd ht (fun h => kt ?_ H locs ls hP hS hv) (fun h => kf ?_ H locs ls hP hS hv)
  · first | exact (zI_eq ha h0).mp h | exact (zI_eq h0 ha).mp h | exact fun q => h ((zI_eq ha h0).mpr q)
  · first | exact (zI_eq ha h0).mp h | exact fun q => h ((zI_eq ha h0).mpr q) | exact Int.not_lt.mp (fun q => h ((zI_eq ha h0).mpr q)) | exact Int.not_lt.mp (fun q => h ((zI_eq h0 ha).mpr q)) | exact Int.not_le.mp (fun q => h ((zI_eq h0 ha).mpr q)) | exact Int.not_le.mp (fun q => h ((zI_eq ha h0).mpr q)) | exact Classical.byContradiction (fun q => h (fun z => q ((zI_eq ha h0).mp z)))
theorem g_if_ne (X : Ctx l E K own cc nL f loc) {a : Int} {off : Int} {tgt : Nat} (hd : decode cc pc = .ok (.ifCond .ne off, 3)) (ht : (pc : Int) + off = (tgt : Int)) (ha : I32 a) (kt : ¬ a = 0 → K σ tgt lv st) (kf : a = 0 → K σ (pc + 3) lv st) : K σ pc lv (iv a :: st) := by
  obtain ⟨p, e, R, s, m, args, below, meth, c0, cells, slots, Q, rfl, hx, hb, hml, hown, hts, hf, hlo, hc1, hs1, hCK⟩ := X
  intro H locs ls hP hS hv
  have h0 : I32 0 := ⟨by decide, by decide⟩
  refine lv_if_ne hx hb hd ht (fun h => kt ?_ H locs ls hP hS hv) (fun h => kf ?_ H locs ls hP hS hv)
  · rw [← zI_0] at h
    first | exact (zI_eq ha h0).mp h | exact (zI_eq h0 ha).mp h | exact fun q => h ((zI_eq ha h0).mpr q)
  · rw [← zI_0] at h
    first | exact (zI_eq ha h0).mp h | exact fun q => h ((zI_eq ha h0).mpr q) | exact Int.not_lt.mp (fun q => h ((zI_eq ha h0).mpr q)) | exact Int.not_lt.mp (fun q => h ((zI_eq h0 ha).mpr q)) | exact Int.not_le.mp (fun q => h ((zI_eq h0 ha).mpr q)) | exact Int.not_le.mp (fun q => h ((zI_eq ha h0).mpr q)) | exact Classical.byContradiction (fun q => h (fun z => q ((zI_eq ha h0).mp z)))
theorem g_icmp_ne (X : Ctx l E K own cc nL f loc) {a b : Int} {off : Int} {tgt : Nat} (hd : decode cc pc = .ok (.if_icmp .ne off, 3)) (ht : (pc : Int) + off = (tgt : Int)) (ha : I32 a) (h0 : I32 b) (kt : ¬ a = b → K σ tgt lv st) (kf : a = b → K σ (pc + 3) lv st) : K σ pc lv (iv b :: iv a :: st) := by
  obtain ⟨p, e, R, s, m, args, below, meth, c0, cells, slots, Q, rfl, hx, hb, hml, hown, hts, hf, hlo, hc1, hs1, hCK⟩ := X
  intro H locs ls hP hS hv
  refine lv_icmp_ne hx hb hd ht (fun h => kt ?_ H locs ls hP hS hv) (fun h => kf ?_ H locs ls hP hS hv)
  · first | exact (zI_eq ha h0).mp h | exact (zI_eq h0 ha).mp h | exact fun q => h ((zI_eq ha h0).mpr q)
  · first | exact (zI_eq ha h0).mp h | exact fun q => h ((zI_eq ha h0).mpr q) | exact Int.not_lt.mp (fun q => h ((zI_eq ha h0).mpr q)) | exact Int.not_lt.mp (fun q => h ((zI_eq h0 ha).mpr q)) | exact Int.not_le.mp (fun q => h ((zI_eq h0 ha).mpr q)) | exact Int.not_le.mp (fun q => h ((zI_eq ha h0).mpr q)) | exact Classical.byContradiction (fun q => h (fun z => q ((zI_eq ha h0).mp z)))
theorem g_if_lt (X : Ctx l E K own cc nL f loc) {a : Int} {off : Int} {tgt : Nat} (hd : decode cc pc = .ok (.ifCond .lt off, 3)) (ht : (pc : Int) + off = (tgt : Int)) (ha : I32 a) (kt : a < 0 → K σ tgt lv st) (kf : 0 ≤ a → K σ (pc + 3) lv st) : K σ pc lv (iv a :: st) := by
  obtain ⟨p, e, R, s, m, args, below, meth, c0, cells, slots, Q, rfl, hx, hb, hml, hown, hts, hf, hlo, hc1, hs1, hCK⟩ := X
  intro H locs ls hP hS hv
  have h0 : I32 0 := ⟨by decide, by decide⟩
  refine lv_if_lt hx hb hd ht (fun h => kt ?_ H locs ls hP hS hv) (fun h => kf ?_ H locs ls hP hS hv)
  · rw [← zI_0] at h
    first | exact (zI_lt ha h0).mp h | exact (zI_lt h0 ha).mp h | exact fun q => h ((zI_lt ha h0).mpr q)
  · rw [← zI_0] at h
    first | exact (zI_lt ha h0).mp h | exact fun q => h ((zI_lt ha h0).mpr q) | exact Int.not_lt.mp (fun q => h ((zI_lt ha h0).mpr q)) | exact Int.not_lt.mp (fun q => h ((zI_lt h0 ha).mpr q)) | exact Int.not_le.mp (fun q => h ((zI_lt h0 ha).mpr q)) | exact Int.not_le.mp (fun q => h ((zI_lt ha h0).mpr q)) | exact Classical.byContradiction (fun q => h (fun z => q ((zI_lt ha h0).mp z)))
theorem g_icmp_lt (X : Ctx l E K own cc nL f loc) {a b : Int} {off : Int} {tgt : Nat} (hd : decode cc pc = .ok (.if_icmp .lt off, 3)) (ht : (pc : Int) + off = (tgt : Int)) (ha : I32 a) (h0 : I32 b) (kt : a < b → K σ tgt lv st) (kf : b ≤ a → K σ (pc + 3) lv st) : K σ pc lv (iv b :: iv a :: st) := by
  obtain ⟨p, e, R, s, m, args, below, meth, c0, cells, slots, Q, rfl, hx, hb, hml, hown, hts, hf, hlo, hc1, hs1, hCK⟩ := X
  intro H locs ls hP hS hv
  refine lv_icmp_lt hx hb hd ht (fun h => kt ?_ H locs ls hP hS hv) (fun h => kf ?_ H locs ls hP hS hv)
  · first | exact (zI_lt ha h0).mp h | exact (zI_lt h0 ha).mp h | exact fun q => h ((zI_lt ha h0).mpr q)
  · first | exact (zI_lt ha h0).mp h | exact fun q => h ((zI_lt ha h0).mpr q) | exact Int.not_lt.mp (fun q => h ((zI_lt ha h0).mpr q)) | exact Int.not_lt.mp (fun q => h ((zI_lt h0 ha).mpr q)) | exact Int.not_le.mp (fun q => h ((zI_lt h0 ha).mpr q)) | exact Int.not_le.mp (fun q => h ((zI_lt ha h0).mpr q)) | exact Classical.byContradiction (fun q => h (fun z => q ((zI_lt ha h0).mp z)))
theorem g_if_ge (X : Ctx l E K own cc nL f loc) {a : Int} {off : Int} {tgt : Nat} (hd : decode cc pc = .ok (.ifCond .ge off, 3)) (ht : (pc : Int) + off = (tgt : Int)) (ha : I32 a) (kt : 0 ≤ a → K σ tgt lv st) (kf : a < 0 → K σ (pc + 3) lv st) : K σ pc lv (iv a :: st) := by
  obtain ⟨p, e, R, s, m, args, below, meth, c0, cells, slots, Q, rfl, hx, hb, hml, hown, hts, hf, hlo, hc1, hs1, hCK⟩ := X
  intro H locs ls hP hS hv
  have h0 : I32 0 := ⟨by decide, by decide⟩
  refine lv_if_ge hx hb hd ht (fun h => kt ?_ H locs ls hP hS hv) (fun h => kf ?_ H locs ls hP hS hv)
  · rw [← zI_0] at h
    first | exact (zI_le ha h0).mp h | exact (zI_le h0 ha).mp h | exact fun q => h ((zI_le ha h0).mpr q)
  · rw [← zI_0] at h
    first | exact (zI_le ha h0).mp h | exact fun q => h ((zI_le ha h0).mpr q) | exact Int.not_lt.mp (fun q => h ((zI_le ha h0).mpr q)) | exact Int.not_lt.mp (fun q => h ((zI_le h0 ha).mpr q)) | exact Int.not_le.mp (fun q => h ((zI_le h0 ha).mpr q)) | exact Int.not_le.mp (fun q => h ((zI_le ha h0).mpr q)) | exact Classical.byContradiction (fun q => h (fun z => q ((zI_le ha h0).mp z)))
theorem g_icmp_ge (X : Ctx l E K own cc nL f loc) {a b : Int} {off : Int} {tgt : Nat} (hd : decode cc pc = .ok (.if_icmp .ge off, 3)) (ht : (pc : Int) + off = (tgt : Int)) (ha : I32 a) (h0 : I32 b) (kt : b ≤ a → K σ tgt lv st) (kf : a < b → K σ (pc + 3) lv st) : K σ pc lv (iv b :: iv a :: st) := by
  obtain ⟨p, e, R, s, m, args, below, meth, c0, cells, slots, Q, rfl, hx, hb, hml, hown, hts, hf, hlo, hc1, hs1, hCK⟩ := X
  intro H locs ls hP hS hv
  refine lv_icmp_ge hx hb hd ht (fun h => kt ?_ H locs ls hP hS hv) (fun h => kf ?_ H locs ls hP hS hv)
  · first | exact (zI_le ha h0).mp h | exact (zI_le h0 ha).mp h | exact fun q => h ((zI_le ha h0).mpr q)
  · first | exact (zI_le ha h0).mp h | exact fun q => h ((zI_le ha h0).mpr q) | exact Int.not_lt.mp (fun q => h ((zI_le ha h0).mpr q)) | exact Int.not_lt.mp (fun q => h ((zI_le h0 ha).mpr q)) | exact Int.not_le.mp (fun q => h ((zI_le h0 ha).mpr q)) | exact Int.not_le.mp (fun q => h ((zI_le ha h0).mpr q)) | exact Classical.byContradiction (fun q => h (fun z => q ((zI_le ha h0).mp z)))
theorem g_if_gt (X : Ctx l E K own cc nL f loc) {a : Int} {off : Int} {tgt : Nat} (hd : decode cc pc = .ok (.ifCond .gt off, 3)) (ht : (pc : Int) + off = (tgt : Int)) (ha : I32 a) (kt : 0 < a → K σ tgt lv st) (kf : a ≤ 0 → K σ (pc + 3) lv st) : K σ pc lv (iv a :: st) := by
  obtain ⟨p, e, R, s, m, args, below, meth, c0, cells, slots, Q, rfl, hx, hb, hml, hown, hts, hf, hlo, hc1, hs1, hCK⟩ := X
  intro H locs ls hP hS hv
  have h0 : I32 0 := ⟨by decide, by decide⟩
  refine lv_if_gt hx hb hd ht (fun h => kt ?_ H locs ls hP hS hv) (fun h => kf ?_ H locs ls hP hS hv)
  · rw [← zI_0] at h
    first | exact (zI_lt ha h0).mp h | exact (zI_lt h0 ha).mp h | exact fun q => h ((zI_lt ha h0).mpr q)
  · rw [← zI_0] at h
    first | exact (zI_lt ha h0).mp h | exact fun q => h ((zI_lt ha h0).mpr q) | exact Int.not_lt.mp (fun q => h ((zI_lt ha h0).mpr q)) | exact Int.not_lt.mp (fun q => h ((zI_lt h0 ha).mpr q)) | exact Int.not_le.mp (fun q => h ((zI_lt h0 ha).mpr q)) | exact Int.not_le.mp (fun q => h ((zI_lt ha h0).mpr q)) | exact Classical.byContradiction (fun q => h (fun z => q ((zI_lt ha h0).mp z)))
theorem g_icmp_gt (X : Ctx l E K own cc nL f loc) {a b : Int} {off : Int} {tgt : Nat} (hd : decode cc pc = .ok (.if_icmp .gt off, 3)) (ht : (pc : Int) + off = (tgt : Int)) (ha : I32 a) (h0 : I32 b) (kt : b < a → K σ tgt lv st) (kf : a ≤ b → K σ (pc + 3) lv st) : K σ pc lv (iv b :: iv a :: st) := by
  obtain ⟨p, e, R, s, m, args, below, meth, c0, cells, slots, Q, rfl, hx, hb, hml, hown, hts, hf, hlo, hc1, hs1, hCK⟩ := X
  intro H locs ls hP hS hv
  refine lv_icmp_gt hx hb hd ht (fun h => kt ?_ H locs ls hP hS hv) (fun h => kf ?_ H locs ls hP hS hv)
  · first | exact (zI_lt ha h0).mp h | exact (zI_lt h0 ha).mp h | exact fun q => h ((zI_lt ha h0).mpr q)
  · first | exact (zI_lt ha h0).mp h | exact fun q => h ((zI_lt ha h0).mpr q) | exact Int.not_lt.mp (fun q => h ((zI_lt ha h0).mpr q)) | exact Int.not_lt.mp (fun q => h ((zI_lt h0 ha).mpr q)) | exact Int.not_le.mp (fun q => h ((zI_lt h0 ha).mpr q)) | exact Int.not_le.mp (fun q => h ((zI_lt ha h0).mpr q)) | exact Classical.byContradiction (fun q => h (fun z => q ((zI_lt ha h0).mp z)))
theorem g_if_le (X : Ctx l E K own cc nL f loc) {a : Int} {off : Int} {tgt : Nat} (hd : decode cc pc = .ok (.ifCond .le off, 3)) (ht : (pc : Int) + off = (tgt : Int)) (ha : I32 a) (kt : a ≤ 0 → K σ tgt lv st) (kf : 0 < a → K σ (pc + 3) lv st) : K σ pc lv (iv a :: st) := by
  obtain ⟨p, e, R, s, m, args, below, meth, c0, cells, slots, Q, rfl, hx, hb, hml, hown, hts, hf, hlo, hc1, hs1, hCK⟩ := X
  intro H locs ls hP hS hv
  have h0 : I32 0 := ⟨by decide, by decide⟩
  refine lv_if_le hx hb hd ht (fun h => kt ?_ H locs ls hP hS hv) (fun h => kf ?_ H locs ls hP hS hv)
  · rw [← zI_0] at h
    first | exact (zI_le ha h0).mp h | exact (zI_le h0 ha).mp h | exact fun q => h ((zI_le ha h0).mpr q)
  · rw [← zI_0] at h
    first | exact (zI_le ha h0).mp h | exact fun q => h ((zI_le ha h0).mpr q) | exact Int.not_lt.mp (fun q => h ((zI_le ha h0).mpr q)) | exact Int.not_lt.mp (fun q => h ((zI_le h0 ha).mpr q)) | exact Int.not_le.mp (fun q => h ((zI_le h0 ha).mpr q)) | exact Int.not_le.mp (fun q => h ((zI_le ha h0).mpr q)) | exact Classical.byContradiction (fun q => h (fun z => q ((zI_le ha h0).mp z)))
theorem g_icmp_le (X : Ctx l E K own cc nL f loc) {a b : Int} {off : Int} {tgt : Nat} (hd : decode cc pc = .ok (.if_icmp .le off, 3)) (ht : (pc : Int) + off = (tgt : Int)) (ha : I32 a) (h0 : I32 b) (kt : a ≤ b → K σ tgt lv st) (kf : b < a → K σ (pc + 3) lv st) : K σ pc lv (iv b :: iv a :: st) := by
  obtain ⟨p, e, R, s, m, args, below, meth, c0, cells, slots, Q, rfl, hx, hb, hml, hown, hts, hf, hlo, hc1, hs1, hCK⟩ := X
  intro H locs ls hP hS hv
  refine lv_icmp_le hx hb hd ht (fun h => kt ?_ H locs ls hP hS hv) (fun h => kf ?_ H locs ls hP hS hv)
  · first | exact (zI_le ha h0).mp h | exact (zI_le h0 ha).mp h | exact fun q => h ((zI_le ha h0).mpr q)
  · first | exact (zI_le ha h0).mp h | exact fun q => h ((zI_le ha h0).mpr q) | exact Int.not_lt.mp (fun q => h ((zI_le ha h0).mpr q)) | exact Int.not_lt.mp (fun q => h ((zI_le h0 ha).mpr q)) | exact Int.not_le.mp (fun q => h ((zI_le h0 ha).mpr q)) | exact Int.not_le.mp (fun q => h ((zI_le ha h0).mpr q)) | exact Classical.byContradiction (fun q => h (fun z => q ((zI_le ha h0).mp z)))
theorem g_goto (X : Ctx l E K own cc nL f loc) {off : Int} {tgt : Nat} (hd : decode cc pc = .ok (.goto off, 3)) (ht : (pc : Int) + off = (tgt : Int)) (kk : K σ tgt lv st) : K σ pc lv st := by
  obtain ⟨p, e, R, s, m, args, below, meth, c0, cells, slots, Q, rfl, hx, hb, hml, hown, hts, hf, hlo, hc1, hs1, hCK⟩ := X
  intro H locs ls hP hS hv
  exact lv_goto hx hb hd ht (kk H locs ls hP hS hv)
theorem g_ifnull (X : Ctx l E K own cc nL f loc) {x : Nat} {off : Int} (hd : decode cc pc = .ok (.ifnull off, 3)) (kk : K σ (pc + 3) lv st) : K σ pc lv (.ref x :: st) := by
  obtain ⟨p, e, R, s, m, args, below, meth, c0, cells, slots, Q, rfl, hx, hb, hml, hown, hts, hf, hlo, hc1, hs1, hCK⟩ := X
  intro H locs ls hP hS hv
  exact lv_ifnull hx hb hd (kk H locs ls hP hS hv)
theorem g_ifnullN (X : Ctx l E K own cc nL f loc) {off : Int} {tgt : Nat} (hd : decode cc pc = .ok (.ifnull off, 3)) (ht : (pc : Int) + off = (tgt : Int)) (kk : K σ tgt lv st) : K σ pc lv (.null :: st) := by
  obtain ⟨p, e, R, s, m, args, below, meth, c0, cells, slots, Q, rfl, hx, hb, hml, hown, hts, hf, hlo, hc1, hs1, hCK⟩ := X
  intro H locs ls hP hS hv
  exact lv_ifnullN hx hb hd ht (kk H locs ls hP hS hv)
theorem g_ifnonnull (X : Ctx l E K own cc nL f loc) {x : Nat} {off : Int} {tgt : Nat} (hd : decode cc pc = .ok (.ifnonnull off, 3)) (ht : (pc : Int) + off = (tgt : Int)) (kk : K σ tgt lv st) : K σ pc lv (.ref x :: st) := by
  obtain ⟨p, e, R, s, m, args, below, meth, c0, cells, slots, Q, rfl, hx, hb, hml, hown, hts, hf, hlo, hc1, hs1, hCK⟩ := X
  intro H locs ls hP hS hv
  exact lv_ifnonnull hx hb hd ht (kk H locs ls hP hS hv)
theorem g_ifnonnullN (X : Ctx l E K own cc nL f loc) {off : Int} (hd : decode cc pc = .ok (.ifnonnull off, 3)) (kk : K σ (pc + 3) lv st) : K σ pc lv (.null :: st) := by
  obtain ⟨p, e, R, s, m, args, below, meth, c0, cells, slots, Q, rfl, hx, hb, hml, hown, hts, hf, hlo, hc1, hs1, hCK⟩ := X
  intro H locs ls hP hS hv
  exact lv_ifnonnullN hx hb hd (kk H locs ls hP hS hv)
theorem g_acmp_eq (X : Ctx l E K own cc nL f loc) {x y : Nat} {off : Int} {tgt : Nat} (hd : decode cc pc = .ok (.if_acmp .eq off, 3)) (ht : (pc : Int) + off = (tgt : Int)) (hxx : okc E x) (hyy : okc E y) (kt : x = y → K σ tgt lv st) (kf : ¬ x = y → K σ (pc + 3) lv st) : K σ pc lv (rv E y :: rv E x :: st) := by
  obtain ⟨p, e, R, s, m, args, below, meth, c0, cells, slots, Q, rfl, hx, hb, hml, hown, hts, hf, hlo, hc1, hs1, hCK⟩ := X
  intro H locs ls hP hS hv
  refine lv_acmp_eq (rx := some (E.2.1 x)) (ry := some (E.2.1 y)) hx hb hd ht (fun h => kt ?_ H locs ls hP hS hv) (fun h => kf ?_ H locs ls hP hS hv)
  · exact hCK.1 x y hxx hyy (Option.some.inj h)
  · intro q; subst q; exact h rfl
theorem g_tblIn (X : Ctx l E K own cc nL f loc) {dflt lo hi : Int} {offs : Array Int} {len : Nat} {a off : Int} {tgt : Nat} (hd : decode cc pc = .ok (.tableswitch dflt lo hi offs, len)) (ha : I32 a) (h1 : lo ≤ a) (h2 : a ≤ hi) (ho : offs[(a - lo).toNat]? = some off) (ht : (pc : Int) + off = (tgt : Int)) (kk : K σ tgt lv st) : K σ pc lv (iv a :: st) := by
  obtain ⟨p, e, R, s, m, args, below, meth, c0, cells, slots, Q, rfl, hx, hb, hml, hown, hts, hf, hlo, hc1, hs1, hCK⟩ := X
  intro H locs ls hP hS hv
  exact lv_tableIn hx hb hd (by rw [zI_toInt ha]; omega) (by rw [zI_toInt ha]; omega) (by rw [zI_toInt ha]; exact ho) ht (kk H locs ls hP hS hv)
theorem g_tblOut (X : Ctx l E K own cc nL f loc) {dflt lo hi : Int} {offs : Array Int} {len : Nat} {a : Int} {tgt : Nat} (hd : decode cc pc = .ok (.tableswitch dflt lo hi offs, len)) (ha : I32 a) (h : a < lo ∨ hi < a) (ht : (pc : Int) + dflt = (tgt : Int)) (kk : K σ tgt lv st) : K σ pc lv (iv a :: st) := by
  obtain ⟨p, e, R, s, m, args, below, meth, c0, cells, slots, Q, rfl, hx, hb, hml, hown, hts, hf, hlo, hc1, hs1, hCK⟩ := X
  intro H locs ls hP hS hv
  exact lv_tableOut hx hb hd (by rw [zI_toInt ha]; exact h) ht (kk H locs ls hP hS hv)
theorem g_getf (X : Ctx l E K own cc nL f loc) {index ci k N : Nat} {C ref : String} {T : u_T} {fs : List Value} {c : Nat} {v : Value} (hc : okc E c) (he : ent E c (σ c) = .inr (ci, fs)) (hcl : vwCl[ci]? = some (C, T, N)) (hin : ∀ w ∈ u_ws C T N, w ∈ wsL_law) (hk : k < N) (hw : Cond.fieldLink own index ref (T k).2.1 (T k).2.2.1 ∈ wsL_law) (hC : (T k).1 = ref) (hfv : fs[k]? = some v) (hd : decode cc pc = .ok (.getfield index, 3)) (kk : K σ (pc + 3) lv (v :: st)) : K σ pc lv (rv E c :: st) := by
  obtain ⟨p, e, R, s, m, args, below, meth, c0, cells, slots, Q, rfl, hx, hb, hml, hown, hts, hf, hlo, hc1, hs1, hCK⟩ := X
  intro H locs ls hP hS hv
  subst hC
  exact va_get hx hb hts hin hown hCK.2.1 hP (ixc c) (by rw [LW_at E σ hc, he]) hcl k hk (hts _ hw) (fun _ h => h) hfv hd (kk H locs ls hP hS hv)
theorem g_getfN (X : Ctx l E K own cc nL f loc) {index ci k N : Nat} {C ref : String} {T : u_T} {fs : List Value} {c : Nat} {v : Value} {host : String} (hc : okc E c) (he : ent E c (σ c) = .inr (ci, fs)) (hcl : vwCl[ci]? = some (C, T, N)) (hin : ∀ w ∈ u_ws C T N, w ∈ wsL_law) (hk : k < N) (hw : Cond.fieldLinkNest own index ref (T k).2.1 (T k).2.2.1 host ∈ nestWs) (hC : (T k).1 = ref) (hfv : fs[k]? = some v) (hd : decode cc pc = .ok (.getfield index, 3)) (kk : K σ (pc + 3) lv (v :: st)) : K σ pc lv (rv E c :: st) := by
  obtain ⟨p, e, R, s, m, args, below, meth, c0, cells, slots, Q, rfl, hx, hb, hml, hown, hts, hf, hlo, hc1, hs1, hCK⟩ := X
  intro H locs ls hP hS hv
  subst hC
  exact va_getN hx hb hts hin hown hCK.2.1 hP (ixc c) (by rw [LW_at E σ hc, he]) hcl k hk (va_Nw.use rfl (hCK.2.2.1 _ hw)) (fun _ h => h) hfv hd (kk H locs ls hP hS hv)
theorem g_putf (X : Ctx l E K own cc nL f loc) {index ci k N : Nat} {C ref : String} {T : u_T} {fs : List Value} {c : Nat} {v : Value} {ty : FieldType} (σ' : Mem) (ty0 : Nat → FieldType) (hty : ∀ k, k < N → parseFieldDescriptor (T k).2.2.1 = some (ty0 k)) (hnm : ∀ a, a < N → ∀ b, b < N → a ≠ b → (T a).2.1 ≠ (T b).2.1) (hc : okc E c) (he : ent E c (σ c) = .inr (ci, fs)) (hcl : vwCl[ci]? = some (C, T, N)) (hin : ∀ w ∈ u_ws C T N, w ∈ wsL_law) (hk : k < N) (hw : Cond.fieldLink own index ref (T k).2.1 (T k).2.2.1 ∈ wsL_law) (hC : (T k).1 = ref) (hfin : (T k).2.2.2 = false) (hdes : parseFieldDescriptor (T k).2.2.1 = some ty) (hnar : narrow ty v = v) (hfit : fits ty v = true) (hl : k < fs.length) (he' : (.inr (ci, fs.set k v) : va_E) = ent E c (σ' c)) (ho : ∀ c', c' ≠ c → σ' c' = σ c') (hd : decode cc pc = .ok (.putfield index, 3)) (kk : K σ' (pc + 3) lv st) : K σ pc lv (v :: rv E c :: st) := by
  obtain ⟨p, e, R, s, m, args, below, meth, c0, cells, slots, Q, rfl, hx, hb, hml, hown, hts, hf, hlo, hc1, hs1, hCK⟩ := X
  intro H locs ls hP hS hv
  subst hC
  refine va_put hx hb hts hin ty0 hty hnm hown hCK.2.1 hP (LD hCK.1 σ) hS (ixc c) (by rw [LW_at E σ hc, he]) hcl k hk (hts _ hw) (fun _ h => h) hfin hdes hnar hfit hl hd (fun H1 locs1 hP1 hD1 hS1 => kk H1 locs1 ls ?_ hS1 hv)
  rw [LW_set E hc he' ho] at hP1
  exact hP1
theorem g_putfN (X : Ctx l E K own cc nL f loc) {index ci k N : Nat} {C ref : String} {T : u_T} {fs : List Value} {c : Nat} {host : String} {v : Value} {ty : FieldType} (σ' : Mem) (ty0 : Nat → FieldType) (hty : ∀ k, k < N → parseFieldDescriptor (T k).2.2.1 = some (ty0 k)) (hnm : ∀ a, a < N → ∀ b, b < N → a ≠ b → (T a).2.1 ≠ (T b).2.1) (hc : okc E c) (he : ent E c (σ c) = .inr (ci, fs)) (hcl : vwCl[ci]? = some (C, T, N)) (hin : ∀ w ∈ u_ws C T N, w ∈ wsL_law) (hk : k < N) (hw : Cond.fieldLinkNest own index ref (T k).2.1 (T k).2.2.1 host ∈ nestWs) (hC : (T k).1 = ref) (hfin : (T k).2.2.2 = false) (hdes : parseFieldDescriptor (T k).2.2.1 = some ty) (hnar : narrow ty v = v) (hfit : fits ty v = true) (hl : k < fs.length) (he' : (.inr (ci, fs.set k v) : va_E) = ent E c (σ' c)) (ho : ∀ c', c' ≠ c → σ' c' = σ c') (hd : decode cc pc = .ok (.putfield index, 3)) (kk : K σ' (pc + 3) lv st) : K σ pc lv (v :: rv E c :: st) := by
  obtain ⟨p, e, R, s, m, args, below, meth, c0, cells, slots, Q, rfl, hx, hb, hml, hown, hts, hf, hlo, hc1, hs1, hCK⟩ := X
  intro H locs ls hP hS hv
  subst hC
  refine va_putN hx hb hts hin ty0 hty hnm hown hCK.2.1 hP (LD hCK.1 σ) hS (ixc c) (by rw [LW_at E σ hc, he]) hcl k hk (va_Nw.use rfl (hCK.2.2.1 _ hw)) (fun _ h => h) hfin hdes hnar hfit hl hd (fun H1 locs1 hP1 hD1 hS1 => kk H1 locs1 ls ?_ hS1 hv)
  rw [LW_set E hc he' ho] at hP1
  exact hP1
theorem g_kill (X : Ctx l E K own cc nL f loc) (i : Nat) {lw : List (Option Value)} (hset : lv.set i none = lw) (kk : K σ pc lw st) : K σ pc lv st := by
  obtain ⟨p, e, R, s, m, args, below, meth, c0, cells, slots, Q, rfl, hx, hb, hml, hown, hts, hf, hlo, hc1, hs1, hCK⟩ := X
  intro H locs ls hP hS hv
  refine kk H locs ls hP hS ⟨hv.1, hv.2.1, fun j v hj => hv.2.2 j v ?_⟩
  rw [← hset] at hj
  by_cases h : j = i
  · subst h
    rw [List.getElem?_set] at hj
    split at hj
    · split at hj <;> simp at hj
    · rename_i hne
      exact absurd rfl hne
  · rw [List.getElem?_set_ne (Ne.symm h)] at hj
    exact hj
end ROWS
