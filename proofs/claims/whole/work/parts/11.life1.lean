/-- f a + f (a + 1) + .. (k of them) -/
def zsum (f : Nat → Nat) : Nat → Nat → Nat
  | _, 0 => 0
  | a, k + 1 => f a + zsum f (a + 1) k
theorem zsum_le {f : Nat → Nat} {M : Nat} : ∀ (k a : Nat), (∀ i, a ≤ i → i < a + k → f i ≤ M) → zsum f a k ≤ k * M
  | 0, _, _ => by simp [zsum]
  | k + 1, a, h => by
    have h1 := h a (Nat.le_refl a) (by omega)
    have h2 := zsum_le k (a + 1) (fun i h3 h4 => h i (by omega) (by omega))
    show f a + zsum f (a + 1) k ≤ (k + 1) * M
    rw [Nat.succ_mul]
    omega
theorem zsum_congr {f g : Nat → Nat} : ∀ (k a : Nat), (∀ i, a ≤ i → i < a + k → f i = g i) → zsum f a k = zsum g a k
  | 0, _, _ => rfl
  | k + 1, a, h => by
    show f a + zsum f (a + 1) k = g a + zsum g (a + 1) k
    rw [h a (Nat.le_refl a) (by omega), zsum_congr k (a + 1) (fun i h3 h4 => h i (by omega) (by omega))]
theorem zsum_last (f : Nat → Nat) : ∀ (k a : Nat), zsum f a (k + 1) = zsum f a k + f (a + k)
  | 0, a => by simp [zsum]
  | k + 1, a => by
    show f a + zsum f (a + 1) (k + 1) = f a + zsum f (a + 1) k + f (a + (k + 1))
    rw [zsum_last f k (a + 1), show a + 1 + k = a + (k + 1) by omega]
    omega
/-- the cells of a life that begins at L -/
def zLife (mr : zFr) (L : Nat) : Prop := L + 11 ≤ 238 ∧ (zKD L = 2 ∧ zKD (L + 1) = 21 ∧ zKD (L + 5) = 21 ∧ zKD (L + 9) = 16 ∧ zKD (L + 10) = 16) ∧ (zLN (L + 1) = 3 ∧ zLN (L + 5) = 3 ∧ zLN (L + 9) = 100 ∧ zLN (L + 10) = 100) ∧ (∀ p, p < 3 → zKD (L + 2 + p) = 16 ∧ zKD (L + 6 + p) = 16 ∧ zLN (L + 2 + p) = 70 ∧ zLN (L + 6 + p) = 100) ∧
  (mr L 0 = some (L + 1) ∧ mr L 1 = some (L + 5) ∧ mr L 2 = some (L + 9) ∧ mr L 3 = some (L + 10)) ∧ ∀ p, p < 3 → mr (L + 1) p = some (L + 2 + p) ∧ mr (L + 5) p = some (L + 6 + p)
section ZLIFE
variable {mr : zFr} {L : Nat}
theorem zLife.lt (h : zLife mr L) : L + 11 ≤ 238 := h.1
theorem zLife.l0 (h : zLife mr L) : L < 238 := by have := h.1; omega
theorem zLife.l1 (h : zLife mr L) : L + 1 < 238 := by have := h.1; omega
theorem zLife.l5 (h : zLife mr L) : L + 5 < 238 := by have := h.1; omega
theorem zLife.l9 (h : zLife mr L) : L + 9 < 238 := by have := h.1; omega
theorem zLife.l10 (h : zLife mr L) : L + 10 < 238 := by have := h.1; omega
theorem zLife.ls (h : zLife mr L) {p : Nat} (hp : p < 3) : L + 2 + p < 238 := by have := h.1; omega
theorem zLife.ly (h : zLife mr L) {p : Nat} (hp : p < 3) : L + 6 + p < 238 := by have := h.1; omega
theorem zLife.k0 (h : zLife mr L) : zKD L = 2 := h.2.1.1
theorem zLife.k1 (h : zLife mr L) : zKD (L + 1) = 19 ∨ zKD (L + 1) = 20 ∨ zKD (L + 1) = 21 := Or.inr (Or.inr h.2.1.2.1)
theorem zLife.k5 (h : zLife mr L) : zKD (L + 5) = 19 ∨ zKD (L + 5) = 20 ∨ zKD (L + 5) = 21 := Or.inr (Or.inr h.2.1.2.2.1)
theorem zLife.k9 (h : zLife mr L) : zKD (L + 9) = 16 := h.2.1.2.2.2.1
theorem zLife.k10 (h : zLife mr L) : zKD (L + 10) = 16 := h.2.1.2.2.2.2
theorem zLife.ks (h : zLife mr L) {p : Nat} (hp : p < 3) : zKD (L + 2 + p) = 16 := (h.2.2.2.1 p hp).1
theorem zLife.ky (h : zLife mr L) {p : Nat} (hp : p < 3) : zKD (L + 6 + p) = 16 := (h.2.2.2.1 p hp).2.1
theorem zLife.n1 (h : zLife mr L) {p : Nat} (hp : p < 3) : p < zLN (L + 1) := by rw [h.2.2.1.1]; exact hp
theorem zLife.n5 (h : zLife mr L) {p : Nat} (hp : p < 3) : p < zLN (L + 5) := by rw [h.2.2.1.2.1]; exact hp
theorem zLife.n9 (h : zLife mr L) {y : Nat} (hy : y < 100) : y < zLN (L + 9) := by rw [h.2.2.1.2.2.1]; exact hy
theorem zLife.n10 (h : zLife mr L) {y : Nat} (hy : y < 100) : y < zLN (L + 10) := by rw [h.2.2.1.2.2.2]; exact hy
theorem zLife.ns (h : zLife mr L) {p : Nat} (hp : p < 3) : zLN (L + 2 + p) = 70 := (h.2.2.2.1 p hp).2.2.1
theorem zLife.ny (h : zLife mr L) {p : Nat} (hp : p < 3) : zLN (L + 6 + p) = 100 := (h.2.2.2.1 p hp).2.2.2
theorem zLife.na (h : zLife mr L) {p a : Nat} (hp : p < 3) (ha : a < 70) : a < zLN (L + 2 + p) := by rw [h.ns hp]; exact ha
theorem zLife.nb (h : zLife mr L) {p a : Nat} (hp : p < 3) (ha : a < 100) : a < zLN (L + 6 + p) := by rw [h.ny hp]; exact ha
theorem zLife.r0 (h : zLife mr L) : mr L 0 = some (L + 1) := h.2.2.2.2.1.1
theorem zLife.r1 (h : zLife mr L) : mr L 1 = some (L + 5) := h.2.2.2.2.1.2.1
theorem zLife.r2 (h : zLife mr L) : mr L 2 = some (L + 9) := h.2.2.2.2.1.2.2.1
theorem zLife.r3 (h : zLife mr L) : mr L 3 = some (L + 10) := h.2.2.2.2.1.2.2.2
theorem zLife.sh (h : zLife mr L) {p : Nat} (hp : p < 3) : mr (L + 1) p = some (L + 2 + p) := (h.2.2.2.2.2 p hp).1
theorem zLife.yg (h : zLife mr L) {p : Nat} (hp : p < 3) : mr (L + 5) p = some (L + 6 + p) := (h.2.2.2.2.2 p hp).2
end ZLIFE
/-- row r holds f at the ages 10 .. 69 -/
def zRow (mi : zFi) (r : Nat) (f : Nat → Nat) : Prop := ∀ a, 10 ≤ a → a ≤ 69 → mi r a = nI (f a)
/-- only row r is another -/
def zOnly (r : Nat) (mi mi' : zFi) : Prop := ∀ q, q ≠ r → mi' q = mi q
set_option maxHeartbeats 4000000 in
set_option maxRecDepth 100000 in
theorem l_X2_total (G : zG) (d : Nat) (Q : zQ) {L p a b : Nat} {f : Nat → Nat} {mi : zFi} {ml : zFl} {mr : zFr} (hL : zLife mr L) (hp : p < 3) (hb : b < 70) (hf : ∀ j, a ≤ j → j ≤ b → mi (L + 2 + p) j = nI (f j)) : ∀ (k age s : Nat), a ≤ age → age + k = b + 1 → Q (some (.int (nI (s + zsum f age k)))) mi ml mr → zE G (zRm d 238 238) (zQm G 238 238 Q) yX2_total.cls yX2_total.name cX2_total 6 (some .int) 238 6 [.ref L, .int (nI p), .int (nI a), .int (nI b), .int (nI s), .int (nI age)] [] 238 mi ml mr := by
  intro k
  induction k with
  | zero =>
    intro age s h1 h2 hQ
    refine e_iload 8 dX2_total_6 rfl rfl ?_
    refine e_iload_n 9 dX2_total_8 rfl rfl ?_
    refine e_icmp_gtN 32 12 dX2_total_9 (by decide) rfl (by omega) (by omega) (fun h9 => ?_) (fun h9 => ?_)
    · refine e_iload 34 dX2_total_32 rfl rfl ?_
      refine e_ireturn .int dX2_total_34 rfl rfl ?_
      have e : s = s + zsum f age 0 := rfl
      rw [e]
      exact hQ
    · exact absurd h9 (by omega)
  | succ k ih =>
    intro age s h1 h2 hQ
    refine e_iload 8 dX2_total_6 rfl rfl ?_
    refine e_iload_n 9 dX2_total_8 rfl rfl ?_
    refine e_icmp_gtN 32 12 dX2_total_9 (by decide) rfl (by omega) (by omega) (fun h9 => ?_) (fun h9 => ?_)
    · exact absurd h9 (by omega)
    · refine e_iload 14 dX2_total_12 rfl rfl ?_
      refine e_aload_n 15 dX2_total_14 rfl rfl ?_
      refine e_getr 18 dX2_total_15 lf_X2_11 rfl rfl hL.k0 hL.l0 hL.r0 ?_
      refine e_iload_n 19 dX2_total_18 rfl rfl ?_
      refine e_aald 20 dX2_total_19 rfl hL.k1 hL.l1 rfl (hL.n1 hp) (hL.sh hp) ?_
      refine e_iload 22 dX2_total_20 rfl rfl ?_
      refine e_iald 23 dX2_total_22 rfl (hL.ks hp) (hL.ls hp) rfl (hL.na hp (by omega)) (hf age (by omega) (by omega)) ?_
      first | refine e_iaddN 24 dX2_total_23 rfl ?_ | refine e_iadd 24 dX2_total_23 rfl ?_
      refine e_istore 26 dX2_total_24 rfl (by decide) (zst1_4 rfl) ?_
      refine e_iinc 29 dX2_total_26 rfl (by decide) rfl (z_inc hii_1) (zst1_5 rfl) ?_
      refine e_goto 6 dX2_total_29 (by decide) ?_
      exact ih (age + 1) (s + f age) (by omega) (by omega) (by rw [Nat.add_assoc]; exact hQ)
set_option maxHeartbeats 4000000 in
set_option maxRecDepth 100000 in
theorem k_X2_total (G : zG) {L p a b : Nat} {f : Nat → Nat} {mi : zFi} {ml : zFl} {mr : zFr} (hL : zLife mr L) (hp : p < 3) (hab : a ≤ b + 1) (hb : b < 70) (hf : ∀ j, a ≤ j → j ≤ b → mi (L + 2 + p) j = nI (f j)) : zMet G 0 yX2_total cX2_total 6 (some .int) [.ref L, .int (nI p), .int (nI a), .int (nI b)] 238 mi ml mr 238 (zPq (some (.int (nI (zsum f a (b + 1 - a))))) mi ml mr) := by
  refine z_intro ([.ref L, .int (nI p), .int (nI a), .int (nI b), zx, zx]) (by decide) rfl (Nat.le_of_ble_eq_true rfl) ?_
  refine e_iconst 1 hic_0 dX2_total_0 rfl ?_
  refine e_istore 3 dX2_total_1 rfl (by decide) (zst1_4 rfl) ?_
  refine e_iload_n 4 dX2_total_3 rfl rfl ?_
  refine e_istore 6 dX2_total_4 rfl (by decide) (zst1_5 rfl) ?_
  exact l_X2_total G _ _ hL hp hb hf (b + 1 - a) a 0 (Nat.le_refl a) (by omega) ⟨by rw [Nat.zero_add], rfl, rfl, rfl⟩

