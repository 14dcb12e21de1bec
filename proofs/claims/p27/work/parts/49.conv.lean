/-! ===== the cells that the constructors made, as the memory ===== -/
theorem stW_at (ia : Nat → ClassId) (ad : Nat → Nat) {k : Nat} (hk : k < 36) : (stW ia ad)[k]? = some (ad k, entS ia ad k) := by simp [stW, hk]
theorem app_l {F G : va_W} {k : Nat} {q : Nat × va_E} (h : F[k]? = some q) : (F ++ G)[k]? = some q := by
  rw [List.getElem?_append_left (List.getElem?_eq_some_iff.mp h).1]
  exact h
theorem app_r {F G : va_W} {n k : Nat} {q : Nat × va_E} (hn : F.length = n) (h : G[k]? = some q) : (F ++ G)[n + k]? = some q := by
  subst hn
  rw [List.getElem?_append_right (by omega), Nat.add_sub_cancel_left]
  exact h

def W7 (ia : Nat → ClassId) (A a b0 b1 b2 b3 : Nat → Nat) : va_W := [(A 0, .inr (7, [.ref (a 0), .ref (A 1), .ref (A 3), .ref (A 5), .ref (A 7)]))] ++ stW ia a ++ ([(A 1, .inr (2, [.ref (A 2), iv 0, iv 0])), (A 2, eQ ia 3 4 [some (b0 0), some (b1 0), some (b2 0), some (b3 0)])] ++ stW ia b0 ++ stW ia b1 ++ stW ia b2 ++ stW ia b3) ++ [(A 3, .inr (0, [.ref (A 4), iv 0, iv 0, iv 0, iv 0, iv 0, iv 0])), (A 4, eC ia 80 zr), (A 5, .inr (5, [.ref (A 6), iv 0, iv 0, iv 0, iv 0, iv 0, iv 0])), (A 6, eI ia 4 zr), (A 7, .inr (3, [.ref (A 8), .ref (A 9), iv 0, .ref (A 10), .ref (A 11), iv 0, iv 0])), (A 8, eI ia 10 zr), (A 9, eI ia 10 zr), (A 10, eI ia 5 zr), (A 11, eI ia 5 zr)]
def adE (A a b0 b1 b2 b3 : Nat → Nat) (c : Nat) : Nat := if c < 25 then A c else if c < 61 then a (c - 25) else if c < 97 then b0 (c - 61) else if c < 133 then b1 (c - 97) else if c < 169 then b2 (c - 133) else b3 (c - 169)
def ixE (c : Nat) : Nat := if c = 0 then 0 else if c < 3 then c + 36 else if c < 25 then c + 180 else if c < 61 then c - 24 else c - 22
theorem adE_a (A a b0 b1 b2 b3 : Nat → Nat) {k : Nat} (hk : k < 36) : adE A a b0 b1 b2 b3 (25 + k) = a k := by
  unfold adE
  rw [if_neg (by omega), if_pos (by omega), Nat.add_sub_cancel_left]
theorem W_a (ia : Nat → ClassId) (A a b0 b1 b2 b3 : Nat → Nat) {k : Nat} (hk : k < 36) : (W7 ia A a b0 b1 b2 b3)[1 + k]? = some (a k, entS ia a k) := app_l (app_l (app_r (n := 1) rfl (stW_at ia a (by omega))))
theorem ixE_a {k : Nat} (hk : k < 36) : ixE (25 + k) = 1 + k := by
  unfold ixE
  rw [if_neg (by omega), if_neg (by omega), if_neg (by omega), if_pos (by omega)]
  omega
theorem adE_b0 (A a b0 b1 b2 b3 : Nat → Nat) {k : Nat} (hk : k < 36) : adE A a b0 b1 b2 b3 (61 + k) = b0 k := by
  unfold adE
  rw [if_neg (by omega), if_neg (by omega), if_pos (by omega), Nat.add_sub_cancel_left]
theorem W_b0 (ia : Nat → ClassId) (A a b0 b1 b2 b3 : Nat → Nat) {k : Nat} (hk : k < 36) : (W7 ia A a b0 b1 b2 b3)[37 + (2 + k)]? = some (b0 k, entS ia b0 k) := app_l (app_r (n := 37) (by simp [stW]) (app_l (app_l (app_l (app_r (n := 2) rfl (stW_at ia b0 (by omega)))))))
theorem ixE_b0 {k : Nat} (hk : k < 36) : ixE (61 + k) = 37 + (2 + k) := by
  unfold ixE
  rw [if_neg (by omega), if_neg (by omega), if_neg (by omega), if_neg (by omega)]
  omega
theorem adE_b1 (A a b0 b1 b2 b3 : Nat → Nat) {k : Nat} (hk : k < 36) : adE A a b0 b1 b2 b3 (97 + k) = b1 k := by
  unfold adE
  rw [if_neg (by omega), if_neg (by omega), if_neg (by omega), if_pos (by omega), Nat.add_sub_cancel_left]
theorem W_b1 (ia : Nat → ClassId) (A a b0 b1 b2 b3 : Nat → Nat) {k : Nat} (hk : k < 36) : (W7 ia A a b0 b1 b2 b3)[37 + (38 + k)]? = some (b1 k, entS ia b1 k) := app_l (app_r (n := 37) (by simp [stW]) (app_l (app_l (app_r (n := 38) (by simp [stW]) (stW_at ia b1 (by omega))))))
theorem ixE_b1 {k : Nat} (hk : k < 36) : ixE (97 + k) = 37 + (38 + k) := by
  unfold ixE
  rw [if_neg (by omega), if_neg (by omega), if_neg (by omega), if_neg (by omega)]
  omega
theorem adE_b2 (A a b0 b1 b2 b3 : Nat → Nat) {k : Nat} (hk : k < 36) : adE A a b0 b1 b2 b3 (133 + k) = b2 k := by
  unfold adE
  rw [if_neg (by omega), if_neg (by omega), if_neg (by omega), if_neg (by omega), if_pos (by omega), Nat.add_sub_cancel_left]
theorem W_b2 (ia : Nat → ClassId) (A a b0 b1 b2 b3 : Nat → Nat) {k : Nat} (hk : k < 36) : (W7 ia A a b0 b1 b2 b3)[37 + (74 + k)]? = some (b2 k, entS ia b2 k) := app_l (app_r (n := 37) (by simp [stW]) (app_l (app_r (n := 74) (by simp [stW]) (stW_at ia b2 (by omega)))))
theorem ixE_b2 {k : Nat} (hk : k < 36) : ixE (133 + k) = 37 + (74 + k) := by
  unfold ixE
  rw [if_neg (by omega), if_neg (by omega), if_neg (by omega), if_neg (by omega)]
  omega
theorem adE_b3 (A a b0 b1 b2 b3 : Nat → Nat) {k : Nat} (hk : k < 36) : adE A a b0 b1 b2 b3 (169 + k) = b3 k := by
  unfold adE
  rw [if_neg (by omega), if_neg (by omega), if_neg (by omega), if_neg (by omega), if_neg (by omega), Nat.add_sub_cancel_left]
theorem W_b3 (ia : Nat → ClassId) (A a b0 b1 b2 b3 : Nat → Nat) {k : Nat} (hk : k < 36) : (W7 ia A a b0 b1 b2 b3)[37 + (110 + k)]? = some (b3 k, entS ia b3 k) := app_l (app_r (n := 37) (by simp [stW]) (app_r (n := 110) (by simp [stW]) (stW_at ia b3 (by omega))))
theorem ixE_b3 {k : Nat} (hk : k < 36) : ixE (169 + k) = 37 + (110 + k) := by
  unfold ixE
  rw [if_neg (by omega), if_neg (by omega), if_neg (by omega), if_neg (by omega)]
  omega
theorem W_ix (ia : Nat → ClassId) (A a b0 b1 b2 b3 : Nat → Nat) : ∀ c, c < 205 → (c < 12 ∨ 25 ≤ c) → ∃ e, (W7 ia A a b0 b1 b2 b3)[ixE c]? = some (adE A a b0 b1 b2 b3 c, e) := by
  intro c hc hc2
  by_cases h : c < 25
  · rcases (show c = 0 ∨ c = 1 ∨ c = 2 ∨ c = 3 ∨ c = 4 ∨ c = 5 ∨ c = 6 ∨ c = 7 ∨ c = 8 ∨ c = 9 ∨ c = 10 ∨ c = 11 by omega) with rfl | rfl | rfl | rfl | rfl | rfl | rfl | rfl | rfl | rfl | rfl | rfl <;> exact ⟨_, rfl⟩
  by_cases h0 : c < 61
  · obtain ⟨k, rfl⟩ : ∃ k, c = 25 + k := ⟨c - 25, by omega⟩
    rw [ixE_a (by omega), adE_a A a b0 b1 b2 b3 (by omega)]
    exact ⟨_, W_a ia A a b0 b1 b2 b3 (by omega)⟩
  by_cases h1 : c < 97
  · obtain ⟨k, rfl⟩ : ∃ k, c = 61 + k := ⟨c - 61, by omega⟩
    rw [ixE_b0 (by omega), adE_b0 A a b0 b1 b2 b3 (by omega)]
    exact ⟨_, W_b0 ia A a b0 b1 b2 b3 (by omega)⟩
  by_cases h2 : c < 133
  · obtain ⟨k, rfl⟩ : ∃ k, c = 97 + k := ⟨c - 97, by omega⟩
    rw [ixE_b1 (by omega), adE_b1 A a b0 b1 b2 b3 (by omega)]
    exact ⟨_, W_b1 ia A a b0 b1 b2 b3 (by omega)⟩
  by_cases h3 : c < 169
  · obtain ⟨k, rfl⟩ : ∃ k, c = 133 + k := ⟨c - 133, by omega⟩
    rw [ixE_b2 (by omega), adE_b2 A a b0 b1 b2 b3 (by omega)]
    exact ⟨_, W_b2 ia A a b0 b1 b2 b3 (by omega)⟩
  obtain ⟨k, rfl⟩ : ∃ k, c = 169 + k := ⟨c - 169, by omega⟩
  rw [ixE_b3 (by omega), adE_b3 A a b0 b1 b2 b3 (by omega)]
  exact ⟨_, W_b3 ia A a b0 b1 b2 b3 (by omega)⟩
theorem ixE_inj {i j : Nat} (hi : i < 205) (hj : j < 205) (h : ixE i = ixE j) : i = j := by
  unfold ixE at h
  split at h <;> split at h <;> (try split at h) <;> (try split at h) <;> (try split at h) <;> (try split at h) <;> (try split at h) <;> (try split at h) <;> omega
theorem ad_inj {P : Nat → Prop} {ia : Nat → ClassId} {A a b0 b1 b2 b3 : Nat → Nat} (hD : va_D P (W7 ia A a b0 b1 b2 b3)) : ∀ i j, i < 205 → j < 205 → (i < 12 ∨ 25 ≤ i) → (j < 12 ∨ 25 ≤ j) → adE A a b0 b1 b2 b3 i = adE A a b0 b1 b2 b3 j → i = j := by
  intro i j hi hj hi2 hj2 he
  obtain ⟨e1, h1⟩ := W_ix ia A a b0 b1 b2 b3 i hi hi2
  obtain ⟨e2, h2⟩ := W_ix ia A a b0 b1 b2 b3 j hj hj2
  exact ixE_inj hi hj (hD.1 _ _ _ _ h1 h2 he)
theorem ad_in {P : Nat → Prop} {ia : Nat → ClassId} {A a b0 b1 b2 b3 : Nat → Nat} (hD : va_D P (W7 ia A a b0 b1 b2 b3)) {c : Nat} (hc : c < 205) (hc2 : c < 12 ∨ 25 ≤ c) : P (adE A a b0 b1 b2 b3 c) := by
  obtain ⟨e1, h1⟩ := W_ix ia A a b0 b1 b2 b3 c hc hc2
  exact hD.2 _ _ h1
/-- the memory at the start -/
def sS (k : Nat) : Nat → Int := match k with
  | 1 => fun j => if j = 2 then 1 else 0
  | 2 => upv zr 0 10000
  | 3 => upv zr 0 50
  | 4 => fun j => firstS.getD j 0
  | _ => zr
def σ0 : Mem := fun c => if c < 25 then zr else sS ((c - 25) % 36)
theorem arrV_congr {cA : ClassId} {n : Nat} {F G : Nat → Value} (h : ∀ j, j < n → F j = G j) : arrV cA n F = arrV cA n G := by
  unfold arrV
  have e : (fun j : Fin n => F j.val) = fun j : Fin n => G j.val := funext fun j => h j.val j.isLt
  rw [e]
theorem va_arrQ {D : va_G} {cl : List vw_C} {a n : Nat} {cA : ClassId} {f g : Nat → Option Nat} {H : Heap} (h : va_at D cl (a, .inl (cA, n, .inr (.inr (.inr (.inr f))))) H) (e : ∀ i, i < n → f i = g i) : va_at D cl (a, .inl (cA, n, .inr (.inr (.inr (.inr g))))) H := by
  have h1 : H[a]? = some (vp_cell cA (n, .inr (.inr (.inr (.inr f))))) := h
  show H[a]? = some (vp_cell cA (n, .inr (.inr (.inr (.inr g)))))
  rw [h1, vp_cell_q, vp_cell_q]
  exact congrArg some (arrV_congr fun j hj => by rw [e j hj])
theorem blk_at {E : wEnv} {H : Heap} {σ : Mem} {ad : Nat → Nat} {B : Nat} (hK : isK 8 B) (had : ∀ k, k < 36 → E.2.1 (B + k) = ad k) (hσ : ∀ k, k < 36 → σ (B + k) = sS k) (hP : ∀ k, k < 36 → va_at E.1 vwCl (ad k, entS E.2.2.1 ad k) H) : ∀ k, k < 36 → va_at E.1 vwCl (E.2.1 (B + k), ent E (B + k) (σ (B + k))) H := by
  intro k hk
  have h := hP k hk
  have hr : ∀ j m, j < 36 → B + j = m → rv E m = .ref (ad j) := fun j m hj hm => by
    subst hm
    exact congrArg Value.ref (had j hj)
  rw [had k hk, hσ k hk]
  by_cases h6 : k < 6
  · rcases (show k = 0 ∨ k = 1 ∨ k = 2 ∨ k = 3 ∨ k = 4 ∨ k = 5 by omega) with rfl | rfl | rfl | rfl | rfl | rfl
    · rw [ent8 (show kd (B + 0) = 8 from hK.2), hr 1 _ (by omega) (by omega), hr 4 _ (by omega) (by omega), hr 5 _ (by omega) (by omega)]
      exact h
    · rw [ent9 (st1 hK).2, hr 2 _ (by omega) (by omega), hr 3 _ (by omega) (by omega)]
      exact h
    · rw [ent13 (show kd (B + 2) = 13 from (gr1 (st1 hK)).2), show ln (B + 2) = 6 from gr1l (st1 hK)]
      exact h
    · rw [ent13 (show kd (B + 3) = 13 from (gr2 (st1 hK)).2), show ln (B + 3) = 6 from gr2l (st1 hK)]
      exact h
    · rw [ent13 (st4 hK).2, st4l hK]
      exact h
    · rw [ent10 (st5 hK).2]
      refine va_arrQ h (fun i hi => ?_)
      have e : E.2.1 (B + 5 + 1 + 3 * i) = ad (6 + 3 * i) := by
        rw [show B + 5 + 1 + 3 * i = B + (6 + 3 * i) by omega]
        exact had _ (by omega)
      rw [e]
      rcases (show i = 0 ∨ i = 1 ∨ i = 2 ∨ i = 3 ∨ i = 4 ∨ i = 5 ∨ i = 6 ∨ i = 7 ∨ i = 8 ∨ i = 9 by omega) with rfl | rfl | rfl | rfl | rfl | rfl | rfl | rfl | rfl | rfl <;> rfl
  · obtain ⟨c, rfl⟩ : ∃ c, k = c + 6 := ⟨k - 6, by omega⟩
    have hs : sS (c + 6) = zr := rfl
    have he : entS E.2.2.1 ad (c + 6) = if c % 3 = 0 then .inr (4, [.ref (ad (c + 7)), .ref (ad (c + 8)), iv 0, iv 0, iv 0, iv 0, iv 0, iv 0, iv 0, iv 0, iv 0, iv 0, iv 0]) else eI E.2.2.1 40 zr := rfl
    rw [he] at h
    rw [hs]
    have hp := stP hK (c / 3) (by omega)
    by_cases h0 : c % 3 = 0
    · rw [if_pos h0] at h
      have hk11 : kd (B + (c + 6)) = 11 := by
        have := hp.2
        rwa [show B + 5 + 1 + 3 * (c / 3) = B + (c + 6) by omega] at this
      rw [ent11 hk11, hr (c + 7) _ (by omega) (by omega), hr (c + 8) _ (by omega) (by omega)]
      exact h
    · rw [if_neg h0] at h
      by_cases h1 : c % 3 = 1
      · have e : B + 5 + 1 + 3 * (c / 3) + 1 = B + (c + 6) := by omega
        have k1 := (pl1 hp).2
        have k2 := pl1l hp
        rw [e] at k1 k2
        rw [ent13 k1, k2]
        exact h
      · have e : B + 5 + 1 + 3 * (c / 3) + 2 = B + (c + 6) := by omega
        have k1 := (pl2 hp).2
        have k2 := pl2l hp
        rw [e] at k1 k2
        rw [ent13 k1, k2]
        exact h
theorem σ0_blk {B k : Nat} (hB : B = 25 ∨ B = 61 ∨ B = 97 ∨ B = 133 ∨ B = 169) (hk : k < 36) : σ0 (B + k) = sS k := by
  unfold σ0
  rw [if_neg (by omega)]
  congr 1
  omega
set_option maxHeartbeats 2000000 in
theorem start_P {D : va_G} {ia : Nat → ClassId} {A a b0 b1 b2 b3 sa : Nat → Nat} {H : Heap} (hsa : sa 9 = 0) (hP : va_P D vwCl (W7 ia A a b0 b1 b2 b3) H) : va_P D vwCl (LW (D, adE A a b0 b1 b2 b3, ia, sa) σ0) H := by
  intro c0 q hc0
  obtain ⟨c, ⟨hc, hc99, hc12⟩, -, rfl⟩ := LW_in hc0
  have hc2 : c < 12 ∨ 25 ≤ c := by
    rcases kd_far c hc hc99 with h | rfl | h
    · exact Or.inl h
    · have h9 : sa 9 = 1 := hc12 (by decide)
      omega
    · exact Or.inr h
  show va_at D vwCl (adE A a b0 b1 b2 b3 c, ent (D, adE A a b0 b1 b2 b3, ia, sa) c (σ0 c)) H
  by_cases h : c < 25
  · rcases (show c = 0 ∨ c = 1 ∨ c = 2 ∨ c = 3 ∨ c = 4 ∨ c = 5 ∨ c = 6 ∨ c = 7 ∨ c = 8 ∨ c = 9 ∨ c = 10 ∨ c = 11 by omega) with rfl | rfl | rfl | rfl | rfl | rfl | rfl | rfl | rfl | rfl | rfl | rfl
    · exact hP 0 (A 0, ent (D, adE A a b0 b1 b2 b3, ia, sa) 0 (σ0 0)) rfl
    · exact hP 37 (A 1, ent (D, adE A a b0 b1 b2 b3, ia, sa) 1 (σ0 1)) rfl
    · refine va_arrQ (hP 38 (A 2, eQ ia 3 4 [some (b0 0), some (b1 0), some (b2 0), some (b3 0)]) rfl) (fun i hi => ?_)
      rcases (show i = 0 ∨ i = 1 ∨ i = 2 ∨ i = 3 by omega) with rfl | rfl | rfl | rfl <;> rfl
    · exact hP 183 (A 3, ent (D, adE A a b0 b1 b2 b3, ia, sa) 3 (σ0 3)) rfl
    · exact hP 184 (A 4, ent (D, adE A a b0 b1 b2 b3, ia, sa) 4 (σ0 4)) rfl
    · exact hP 185 (A 5, ent (D, adE A a b0 b1 b2 b3, ia, sa) 5 (σ0 5)) rfl
    · exact hP 186 (A 6, ent (D, adE A a b0 b1 b2 b3, ia, sa) 6 (σ0 6)) rfl
    · exact hP 187 (A 7, ent (D, adE A a b0 b1 b2 b3, ia, sa) 7 (σ0 7)) rfl
    · exact hP 188 (A 8, ent (D, adE A a b0 b1 b2 b3, ia, sa) 8 (σ0 8)) rfl
    · exact hP 189 (A 9, ent (D, adE A a b0 b1 b2 b3, ia, sa) 9 (σ0 9)) rfl
    · exact hP 190 (A 10, ent (D, adE A a b0 b1 b2 b3, ia, sa) 10 (σ0 10)) rfl
    · exact hP 191 (A 11, ent (D, adE A a b0 b1 b2 b3, ia, sa) 11 (σ0 11)) rfl
  by_cases h0 : c < 61
  · obtain ⟨k, rfl⟩ : ∃ k, c = 25 + k := ⟨c - 25, by omega⟩
    exact blk_at (E := (D, adE A a b0 b1 b2 b3, ia, sa)) (B := 25) now_k (fun k hk => adE_a A a b0 b1 b2 b3 hk) (fun k hk => σ0_blk (by omega) hk) (fun k hk => hP _ _ (W_a ia A a b0 b1 b2 b3 hk)) k (by omega)
  by_cases h1 : c < 97
  · obtain ⟨k, rfl⟩ : ∃ k, c = 61 + k := ⟨c - 61, by omega⟩
    exact blk_at (E := (D, adE A a b0 b1 b2 b3, ia, sa)) (B := 61) (room_k 0 (by omega)) (fun k hk => adE_b0 A a b0 b1 b2 b3 hk) (fun k hk => σ0_blk (by omega) hk) (fun k hk => hP _ _ (W_b0 ia A a b0 b1 b2 b3 hk)) k (by omega)
  by_cases h2 : c < 133
  · obtain ⟨k, rfl⟩ : ∃ k, c = 97 + k := ⟨c - 97, by omega⟩
    exact blk_at (E := (D, adE A a b0 b1 b2 b3, ia, sa)) (B := 97) (room_k 1 (by omega)) (fun k hk => adE_b1 A a b0 b1 b2 b3 hk) (fun k hk => σ0_blk (by omega) hk) (fun k hk => hP _ _ (W_b1 ia A a b0 b1 b2 b3 hk)) k (by omega)
  by_cases h3 : c < 169
  · obtain ⟨k, rfl⟩ : ∃ k, c = 133 + k := ⟨c - 133, by omega⟩
    exact blk_at (E := (D, adE A a b0 b1 b2 b3, ia, sa)) (B := 133) (room_k 2 (by omega)) (fun k hk => adE_b2 A a b0 b1 b2 b3 hk) (fun k hk => σ0_blk (by omega) hk) (fun k hk => hP _ _ (W_b2 ia A a b0 b1 b2 b3 hk)) k (by omega)
  obtain ⟨k, rfl⟩ : ∃ k, c = 169 + k := ⟨c - 169, by omega⟩
  exact blk_at (E := (D, adE A a b0 b1 b2 b3, ia, sa)) (B := 169) (room_k 3 (by omega)) (fun k hk => adE_b3 A a b0 b1 b2 b3 hk) (fun k hk => σ0_blk (by omega) hk) (fun k hk => hP _ _ (W_b3 ia A a b0 b1 b2 b3 hk)) k (by omega)
/-! the start is the state of a new object -/
def L0 : List (Nat × Int) := [(18, 4), (17, 3000), (16, 200), (15, 3), (14, 70), (13, 2000), (7, 50), (1, 10000), (0, 1)]
def r0 : Row := rowL L0
def s0 : St := (r0, fun _ => r0, 0, 0, fun _ => 0)
theorem r0_inv : RInv r0 0 := by
  have hz : ∀ i : Nat, ¬ ((i : Int) < r0 19) := fun i h => by
    have e : r0 19 = 0 := by decide
    omega
  refine ⟨by decide, by decide, fun j hj => ?_, by decide, by decide, by decide, fun i hi => absurd hi (hz i)⟩
  have e : r0 0 = 1 := by decide
  have hj0 : j = 0 := by omega
  subst hj0
  decide
theorem s0_S : SRep σ0 25 r0 := by
  have hz : ∀ i : Nat, ¬ ((i : Int) < r0 19) := fun i h => by
    have e : r0 19 = 0 := by decide
    omega
  exact ⟨by decide, by decide, by decide, by decide, by decide, ⟨by decide, by decide, by decide, by decide, by decide, by decide⟩, fun i hi => absurd hi (hz i)⟩
theorem s0_C : CRep σ0 s0 0 := ⟨s0_S, r0_inv, ⟨by decide, by decide, by decide, fun i hi => absurd hi (Nat.not_lt_zero i)⟩, fun i hi => absurd hi (Nat.not_lt_zero i), ⟨by decide, by decide, fun j hj => absurd hj (Nat.not_lt_zero j)⟩⟩
theorem s0_K : SInv s0 := by
  have hz : ∀ i : Nat, ¬ ((i : Int) < r0 19) := fun i h => by
    have e : r0 19 = 0 := by decide
    omega
  exact ⟨fun i hi => absurd hi (hz i), fun i hi => absurd hi (Nat.not_lt_zero i)⟩
