section ZRY
variable {mr : zFr} {D E : Nat}
theorem zRf.ys (h : zRf mr D E) : mr 224 2 = some 225 := h.2.2.2.2.1
theorem zRf.ysp (h : zRf mr D E) : mr 224 3 = some 226 := h.2.2.2.2.2.1
theorem zRf.yk (h : zRf mr D E) : mr 224 4 = some 227 := h.2.2.2.2.2.2.1
theorem zRf.yi (h : zRf mr D E) : mr 224 5 = some 228 := h.2.2.2.2.2.2.2.1
theorem zRf.yt (h : zRf mr D E) : mr 224 6 = some 229 := h.2.2.2.2.2.2.2.2.1
theorem zRf.yl (h : zRf mr D E) : mr 224 13 = some 230 := h.2.2.2.2.2.2.2.2.2.1
theorem zRf.yn (h : zRf mr D E) : mr 224 14 = some 231 := h.2.2.2.2.2.2.2.2.2.2.1
theorem zRf.yw (h : zRf mr D E) : mr 224 15 = some 232 := h.2.2.2.2.2.2.2.2.2.2.2.1
theorem zRf.yle (h : zRf mr D E) : mr 224 22 = some 233 := h.2.2.2.2.2.2.2.2.2.2.2.2.1
theorem zRf.ywr (h : zRf mr D E) : mr 224 24 = some 234 := h.2.2.2.2.2.2.2.2.2.2.2.2.2.1
theorem zRf.yhe (h : zRf mr D E) : mr 224 26 = some 235 := h.2.2.2.2.2.2.2.2.2.2.2.2.2.2.1
theorem zRf.yyo (h : zRf mr D E) : mr 224 27 = some 236 := h.2.2.2.2.2.2.2.2.2.2.2.2.2.2.2.1
theorem zRf.ypa (h : zRf mr D E) : mr 224 28 = some 237 := h.2.2.2.2.2.2.2.2.2.2.2.2.2.2.2.2
end ZRY
/-- places in the row of all years -/
def zAt (w p a : Nat) : Nat := 50 + 180 * w + 60 * p + a - 10
def zYo (w p y : Nat) : Nat := 950 + 300 * w + 100 * p + y
def zPa (w y : Nat) : Nat := 2450 + 100 * w + y
def zYsh (F : Nat → Int32) (N w : Nat) (sh : Nat → Nat → Nat) : Prop := ∀ p, p < N → ∀ a, 10 ≤ a → a ≤ 69 → F (zAt w p a) = nI (sh p a)
def zYno (F : Nat → Int32) (N w Y : Nat) (yg : Nat → Nat → Nat) (pm : Nat → Nat) : Prop := (∀ p, p < N → ∀ y, y ≤ Y → F (zYo w p y) = nI (yg p y)) ∧ ∀ y, y ≤ Y → F (zPa w y) = nI (pm y)
def zYsg (F : Nat → Int32) (S : zLd) : Prop := F 2 = nI (S 0 0) ∧ ∀ i, i < S 0 0 → F (3 + 4 * i) = nI (S 1 i) ∧ F (3 + 4 * i + 1) = nI (S 2 i) ∧ F (3 + 4 * i + 2) = nI (S 3 i) ∧ F (3 + 4 * i + 3) = nI (S 4 i)
/-- the row holds a moment -/
def zYs (F : Nat → Int32) (Λ : zLd) (m : zMo) : Prop := F 0 = nI m.1 ∧ F 1 = m.2.1 ∧ zYsg F m.2.2.1 ∧ ∀ w, w < Λ 0 1 → zYsh F (Λ 0 0) w (m.2.2.2 w).1 ∧ zYno F (Λ 0 0) w m.1 (m.2.2.2 w).2.1 (m.2.2.2 w).2.2
/-- the land, the lateness -/
def zYd (mi : zFi) (Λ : zLd) : Prop := (mi 224 16 = nI (Λ 0 0) ∧ mi 224 17 = nI (Λ 0 1)) ∧ (∀ k, k < 4 → mi 230 k = nI (Λ 0 (2 + k))) ∧ (∀ j, j < 9 → mi 231 j = nI (Λ 1 j)) ∧ ∀ w, w < Λ 0 1 → ∀ i, i < 4 → mi 232 (4 * w + i) = nI (Λ (2 + i) w)
def zYt (mi : zFi) (t : zTx) : Prop := mi 224 7 = nI t.1 ∧ ∀ k, k < t.1 → mi 229 k = nI (t.2 k)
def zYi (mi : zFi) (Λ : zLd) (im : Nat → Nat × zMo) : Prop := ∀ i, i < 2 → mi 228 i = nI (im i).1 ∧ ((im i).1 = 1 → zYs (fun k => mi 227 (2950 * i + k)) Λ (im i).2)
def zYl (mi : zFi) (l : zLt) : Prop := mi 224 23 = nI l.1 ∧ (l.1 = 1 → mi 233 0 = nI l.2.1 ∧ mi 233 1 = nI l.2.2.1 ∧ mi 233 2 = nI l.2.2.2.1 ∧ mi 233 3 = nI l.2.2.2.2)
def zYw (mi : zFi) (r : zWr) : Prop := mi 224 25 = nI r.1 ∧ ∀ k, k < r.1 → mi 234 (3 * k) = nI (r.2.1 k) ∧ mi 234 (3 * k + 1) = nI (r.2.2.1 k) ∧ mi 234 (3 * k + 2) = nI (r.2.2.2 k)
/-- the reference's cells -/
def zY (mi : zFi) (ml : zFl) (Λ : zLd) (late : Nat) (tr : Int64) (t : zTx) (m : zMo) (im : Nat → Nat × zMo) (l : zLt) (r : zWr) : Prop :=
  zYd mi Λ ∧ mi 230 4 = nI late ∧ ml 224 1 = tr ∧ zYt mi t ∧ zYs (mi 225) Λ m ∧ zYi mi Λ im ∧ zYl mi l ∧ zYw mi r
set_option maxHeartbeats 4000000 in
set_option maxRecDepth 100000 in
theorem k_X8_in (G : zG) {v a b : Int32} {mi : zFi} {ml : zFl} {mr : zFr} : zMet G 0 yX8_in cX8_in 3 (some .boolean) [.int v, .int a, .int b] 238 mi ml mr 238 (zPq (some (.int (zB (a ≤ v ∧ v ≤ b) inferInstance))) mi ml mr) := by
  refine z_intro ([.int v, .int a, .int b]) (by decide) rfl (Nat.le_of_ble_eq_true rfl) ?_
  refine e_iload_n 1 dX8_in_0 rfl rfl ?_
  refine e_iload_n 2 dX8_in_1 rfl rfl ?_
  refine e_icmp_lt 14 5 dX8_in_2 (by decide) rfl (fun h2 => ?_) (fun h2 => ?_)
  · refine e_iconst 15 hic_0 dX8_in_14 rfl ?_
    refine e_ireturn .boolean dX8_in_15 rfl rfl ?_
    exact ⟨congrArg (fun z => some (Value.int z)) (by unfold zB; first | exact (if_neg (fun z => absurd z.1 (Int32.not_le.mpr h2))).symm | exact (if_neg (fun z => absurd z.2 (Int32.not_le.mpr h7))).symm | exact (if_pos ⟨Int32.not_lt.mp h2, Int32.not_lt.mp h7⟩).symm), rfl, rfl, rfl⟩
  · refine e_iload_n 6 dX8_in_5 rfl rfl ?_
    refine e_iload_n 7 dX8_in_6 rfl rfl ?_
    refine e_icmp_gt 14 10 dX8_in_7 (by decide) rfl (fun h7 => ?_) (fun h7 => ?_)
    · refine e_iconst 15 hic_0 dX8_in_14 rfl ?_
      refine e_ireturn .boolean dX8_in_15 rfl rfl ?_
      exact ⟨congrArg (fun z => some (Value.int z)) (by unfold zB; first | exact (if_neg (fun z => absurd z.1 (Int32.not_le.mpr h2))).symm | exact (if_neg (fun z => absurd z.2 (Int32.not_le.mpr h7))).symm | exact (if_pos ⟨Int32.not_lt.mp h2, Int32.not_lt.mp h7⟩).symm), rfl, rfl, rfl⟩
    · refine e_iconst 11 hic_1 dX8_in_10 rfl ?_
      refine e_goto 15 dX8_in_11 (by decide) ?_
      refine e_ireturn .boolean dX8_in_15 rfl rfl ?_
      exact ⟨congrArg (fun z => some (Value.int z)) (by unfold zB; first | exact (if_neg (fun z => absurd z.1 (Int32.not_le.mpr h2))).symm | exact (if_neg (fun z => absurd z.2 (Int32.not_le.mpr h7))).symm | exact (if_pos ⟨Int32.not_lt.mp h2, Int32.not_lt.mp h7⟩).symm), rfl, rfl, rfl⟩

theorem k_X8_inN (G : zG) {v : Int32} {a b : Nat} {mi : zFi} {ml : zFl} {mr : zFr} (ha : a < 2 ^ 31) (hb : b < 2 ^ 31) : zMet G 0 yX8_in cX8_in 3 (some .boolean) [.int v, .int (nI a), .int (nI b)] 238 mi ml mr 238 (zPq (some (.int (zB (vR v a b) (vR_dec v a b)))) mi ml mr) := by
  rw [← zB_eq (d := inferInstance) (vR_le (v := v) ha hb)]
  exact k_X8_in G
set_option maxHeartbeats 4000000 in
set_option maxRecDepth 100000 in
theorem k_X8_isAge (G : zG) {v : Int32} {mi : zFi} {ml : zFl} {mr : zFr} : zMet G 1 yX8_isAge cX8_isAge 1 (some .boolean) [.int v] 238 mi ml mr 238 (zPq (some (.int (zB (vR v 10 69) (vR_dec v 10 69)))) mi ml mr) := by
  refine z_intro ([.int v]) (by decide) rfl (Nat.le_of_ble_eq_true rfl) ?_
  refine e_iload_n 1 dX8_isAge_0 rfl rfl ?_
  refine e_bipush 3 hbi_10 dX8_isAge_1 rfl ?_
  refine e_bipush 5 hbi_69 dX8_isAge_3 rfl ?_
  refine c_Sqi 8 dX8_isAge_5 (k_X8_inN G (by decide) (by decide)) lm_X8_60 zt_yX8_in rfl rfl rfl (Nat.le_of_ble_eq_true rfl) (Nat.le_of_ble_eq_true rfl) (Nat.le_of_ble_eq_true rfl) (by exact Nat.le_refl _) (by exact Nat.le_refl _) ?_
  refine e_ireturn .boolean dX8_isAge_8 rfl zB_nar ?_
  exact ⟨rfl, rfl, rfl, rfl⟩

set_option maxHeartbeats 4000000 in
set_option maxRecDepth 100000 in
theorem k_X8_isPlace (G : zG) {D E : Nat} {Λ : zLd} {mi : zFi} {ml : zFl} {mr : zFr} (hr : zRf mr D E) (hd : zYd mi Λ) (hW : zLandW Λ) {v : Int32} : zMet G 1 yX8_isPlace cX8_isPlace 2 (some .boolean) [.ref 224, .int v] 238 mi ml mr 238 (zPq (some (.int (zB (vN v (Λ 0 0)) (vN_dec v (Λ 0 0))))) mi ml mr) := by
  refine z_intro ([.ref 224, .int v]) (by decide) rfl (Nat.le_of_ble_eq_true rfl) ?_
  refine e_iload_n 1 dX8_isPlace_0 rfl rfl ?_
  refine e_iconst 2 hic_0 dX8_isPlace_1 rfl ?_
  refine e_aload_n 3 dX8_isPlace_2 rfl rfl ?_
  refine e_geti 6 dX8_isPlace_3 lf_X8_138 rfl rfl rfl (by decide) hd.1.1 ?_
  refine e_iconst 7 hic_1 dX8_isPlace_6 rfl ?_
  refine e_isub 8 dX8_isPlace_7 rfl ?_
  refine c_Sqi 11 dX8_isPlace_8 (k_X8_in G) lm_X8_60 zt_yX8_in rfl rfl rfl (Nat.le_of_ble_eq_true rfl) (Nat.le_of_ble_eq_true rfl) (Nat.le_of_ble_eq_true rfl) (by exact Nat.le_refl _) (by exact Nat.le_refl _) ?_
  refine e_ireturn .boolean dX8_isPlace_11 rfl zB_nar ?_
  exact ⟨by rw [zB_eq (vN_le (v := v) (n := Λ 0 0) (by have := hW.1; omega))], rfl, rfl, rfl⟩

set_option maxHeartbeats 4000000 in
set_option maxRecDepth 100000 in
theorem k_X8_isWord (G : zG) {D E : Nat} {Λ : zLd} {mi : zFi} {ml : zFl} {mr : zFr} (hr : zRf mr D E) (hd : zYd mi Λ) (hW : zLandW Λ) {v : Int32} : zMet G 1 yX8_isWord cX8_isWord 2 (some .boolean) [.ref 224, .int v] 238 mi ml mr 238 (zPq (some (.int (zB (vN v (Λ 0 1)) (vN_dec v (Λ 0 1))))) mi ml mr) := by
  refine z_intro ([.ref 224, .int v]) (by decide) rfl (Nat.le_of_ble_eq_true rfl) ?_
  refine e_iload_n 1 dX8_isWord_0 rfl rfl ?_
  refine e_iconst 2 hic_0 dX8_isWord_1 rfl ?_
  refine e_aload_n 3 dX8_isWord_2 rfl rfl ?_
  refine e_geti 6 dX8_isWord_3 lf_X8_141 rfl rfl rfl (by decide) hd.1.2 ?_
  refine e_iconst 7 hic_1 dX8_isWord_6 rfl ?_
  refine e_isub 8 dX8_isWord_7 rfl ?_
  refine c_Sqi 11 dX8_isWord_8 (k_X8_in G) lm_X8_60 zt_yX8_in rfl rfl rfl (Nat.le_of_ble_eq_true rfl) (Nat.le_of_ble_eq_true rfl) (Nat.le_of_ble_eq_true rfl) (by exact Nat.le_refl _) (by exact Nat.le_refl _) ?_
  refine e_ireturn .boolean dX8_isWord_11 rfl zB_nar ?_
  exact ⟨by rw [zB_eq (vN_le (v := v) (n := Λ 0 1) (by have := hW.1; omega))], rfl, rfl, rfl⟩

set_option maxHeartbeats 4000000 in
set_option maxRecDepth 100000 in
theorem k_X8_isCoined (G : zG) {D E : Nat} {Λ : zLd} {mi : zFi} {ml : zFl} {mr : zFr} (hr : zRf mr D E) (hd : zYd mi Λ) (hW : zLandW Λ) {w y : Nat} (hw : w < Λ 0 1) (hy0 : mi 225 0 = nI y) (hy : y ≤ 99) : zMet G 0 yX8_isCoined cX8_isCoined 2 (some .boolean) [.ref 224, .int (nI w)] 238 mi ml mr 238 (zPq (some (.int (zB (Λ 3 w ≤ y) inferInstance))) mi ml mr) := by
  have hW5 := hW.1.2.1
  refine z_intro ([.ref 224, .int (nI w)]) (by decide) rfl (Nat.le_of_ble_eq_true rfl) ?_
  refine e_aload_n 1 dX8_isCoined_0 rfl rfl ?_
  refine e_getr 4 dX8_isCoined_1 lf_X8_32 rfl rfl rfl (by decide) hr.yw ?_
  refine e_iconst 5 hic_4 dX8_isCoined_4 rfl ?_
  refine e_iload_n 6 dX8_isCoined_5 rfl rfl ?_
  first | refine e_imulN 7 dX8_isCoined_6 rfl ?_ | refine e_imul 7 dX8_isCoined_6 rfl ?_
  refine e_iconst 8 hic_1 dX8_isCoined_7 rfl ?_
  first | refine e_iaddN 9 dX8_isCoined_8 rfl ?_ | refine e_iadd 9 dX8_isCoined_8 rfl ?_
  refine e_iald (v := nI (Λ 3 w)) 10 dX8_isCoined_9 rfl rfl (by decide) rfl (by show _ < 40; omega) (hd.2.2.2 w hw 1 (by decide)) ?_
  refine e_aload_n 11 dX8_isCoined_10 rfl rfl ?_
  refine e_getr 14 dX8_isCoined_11 lf_X8_7 rfl rfl rfl (by decide) hr.ys ?_
  refine e_iconst 15 hic_0 dX8_isCoined_14 rfl ?_
  refine e_iald 16 dX8_isCoined_15 rfl rfl (by decide) rfl (by show 0 < 2950; decide) hy0 ?_
  refine e_icmp_gtN 23 19 dX8_isCoined_16 (by decide) rfl (by have := hW.2.2 w hw; omega) (by omega) (fun h16 => ?_) (fun h16 => ?_)
  · refine e_iconst 24 hic_0 dX8_isCoined_23 rfl ?_
    refine e_ireturn .boolean dX8_isCoined_24 rfl rfl ?_
    exact ⟨by unfold zB; first | rw [if_pos (by omega)] | rw [if_neg (by omega)], rfl, rfl, rfl⟩
  · refine e_iconst 20 hic_1 dX8_isCoined_19 rfl ?_
    refine e_goto 24 dX8_isCoined_20 (by decide) ?_
    refine e_ireturn .boolean dX8_isCoined_24 rfl rfl ?_
    exact ⟨by unfold zB; first | rw [if_pos (by omega)] | rw [if_neg (by omega)], rfl, rfl, rfl⟩

set_option maxHeartbeats 4000000 in
set_option maxRecDepth 100000 in
theorem k_X8_at (G : zG) {w p a : Nat} {mi : zFi} {ml : zFl} {mr : zFr} : zMet G 0 yX8_at cX8_at 3 (some .int) [.int (nI w), .int (nI p), .int (nI a)] 238 mi ml mr 238 (zPq (some (.int (nI (zAt w p a)))) mi ml mr) := by
  refine z_intro ([.int (nI w), .int (nI p), .int (nI a)]) (by decide) rfl (Nat.le_of_ble_eq_true rfl) ?_
  refine e_bipush 2 hbi_50 dX8_at_0 rfl ?_
  refine e_sipush 5 hsi_180 dX8_at_2 rfl ?_
  refine e_iload_n 6 dX8_at_5 rfl rfl ?_
  first | refine e_imulN 7 dX8_at_6 rfl ?_ | refine e_imul 7 dX8_at_6 rfl ?_
  first | refine e_iaddN 8 dX8_at_7 rfl ?_ | refine e_iadd 8 dX8_at_7 rfl ?_
  refine e_bipush 10 hbi_60 dX8_at_8 rfl ?_
  refine e_iload_n 11 dX8_at_10 rfl rfl ?_
  first | refine e_imulN 12 dX8_at_11 rfl ?_ | refine e_imul 12 dX8_at_11 rfl ?_
  first | refine e_iaddN 13 dX8_at_12 rfl ?_ | refine e_iadd 13 dX8_at_12 rfl ?_
  refine e_iload_n 14 dX8_at_13 rfl rfl ?_
  first | refine e_iaddN 15 dX8_at_14 rfl ?_ | refine e_iadd 15 dX8_at_14 rfl ?_
  refine e_bipush 17 hbi_10 dX8_at_15 rfl ?_
  first | refine e_isubN 18 dX8_at_17 rfl (by omega) ?_ | refine e_isub 18 dX8_at_17 rfl ?_
  refine e_ireturn .int dX8_at_18 rfl rfl ?_
  exact ⟨rfl, rfl, rfl, rfl⟩

set_option maxHeartbeats 4000000 in
set_option maxRecDepth 100000 in
theorem l_X8_of (G : zG) (d : Nat) (Q : zQ) {D E : Nat} {mi : zFi} {ml : zFl} {mr : zFr} (hr : zRf mr D E) {w p who : Nat} {f : Nat → Nat} (hf : ∀ a, 10 ≤ a → a ≤ 69 → mi 225 (zAt w p a) = nI (f a)) (hle : zLe f) (hw : w < 5) (hp : p < 3) {a1 a2 : Nat} (h1 : 10 ≤ a1) (h2 : a2 ≤ 69) (h12 : a1 ≤ a2) : ∀ (k a s : Nat), a1 ≤ a → a + k = a2 + 1 → Q (some (.int (nI ((s + zsum f a k) / (a2 - a1 + 1))))) mi ml mr → s + zsum f a k ≤ 60000 → zE G (zRm (d + 1) 238 238) (zQm G 238 238 Q) yX8_of.cls yX8_of.name cX8_of 8 (some .int) 238 53 [.ref 224, .int (nI w), .int (nI p), .int (nI who), .int (nI a1), .int (nI a2), .int (nI s), .int (nI a)] [] 238 mi ml mr := by
  intro k
  induction k with
  | zero =>
    intro a s ha h hQ hs9
    refine e_iload 55 dX8_of_53 rfl rfl ?_
    refine e_iload 57 dX8_of_55 rfl rfl ?_
    refine e_icmp_gtN 83 60 dX8_of_57 (by decide) rfl (by omega) (by omega) (fun h57 => ?_) (fun h57 => ?_)
    · refine e_iload 85 dX8_of_83 rfl rfl ?_
      refine e_iload 87 dX8_of_85 rfl rfl ?_
      refine e_iload 89 dX8_of_87 rfl rfl ?_
      first | refine e_isubN 90 dX8_of_89 rfl (by omega) ?_ | refine e_isub 90 dX8_of_89 rfl ?_
      refine e_iconst 91 hic_1 dX8_of_90 rfl ?_
      first | refine e_iaddN 92 dX8_of_91 rfl ?_ | refine e_iadd 92 dX8_of_91 rfl ?_
      refine e_idivN 93 dX8_of_92 rfl (by have : zsum f a 0 = 0 := rfl; omega) (by omega) (by omega) ?_
      refine e_ireturn .int dX8_of_93 rfl rfl ?_
      exact hQ
    · exact absurd h57 (by omega)
  | succ k ih =>
    intro a s ha h hQ hs9
    have e0 : s + zsum f a (k + 1) = s + f a + zsum f (a + 1) k := by show s + (f a + _) = _; rw [Nat.add_assoc]
    rw [e0] at hQ hs9
    refine e_iload 55 dX8_of_53 rfl rfl ?_
    refine e_iload 57 dX8_of_55 rfl rfl ?_
    refine e_icmp_gtN 83 60 dX8_of_57 (by decide) rfl (by omega) (by omega) (fun h57 => ?_) (fun h57 => ?_)
    · exact absurd h57 (by omega)
    · refine e_iload 62 dX8_of_60 rfl rfl ?_
      refine e_aload_n 63 dX8_of_62 rfl rfl ?_
      refine e_getr 66 dX8_of_63 lf_X8_7 rfl rfl rfl (by decide) hr.ys ?_
      refine e_iload_n 67 dX8_of_66 rfl rfl ?_
      refine e_iload_n 68 dX8_of_67 rfl rfl ?_
      refine e_iload 70 dX8_of_68 rfl rfl ?_
      refine c_Sqi 73 dX8_of_70 (k_X8_at G) lm_X8_162 zt_yX8_at rfl rfl rfl (Nat.le_of_ble_eq_true rfl) (Nat.le_of_ble_eq_true rfl) (Nat.le_of_ble_eq_true rfl) (by exact Nat.le_refl _) (by exact Nat.le_refl _) ?_
      refine e_iald 74 dX8_of_73 rfl rfl (by decide) rfl (by show zAt w p a < 2950; unfold zAt; omega) (hf a (by omega) (by omega)) ?_
      first | refine e_iaddN 75 dX8_of_74 rfl ?_ | refine e_iadd 75 dX8_of_74 rfl ?_
      refine e_istore 77 dX8_of_75 rfl (by decide) (zst1_6 rfl) ?_
      refine e_iinc 80 dX8_of_77 rfl (by decide) rfl (z_inc hii_1) (zst1_7 rfl) ?_
      refine e_goto 53 dX8_of_80 (by decide) ?_
      exact ih (a + 1) _ (by omega) (by omega) hQ hs9
set_option maxHeartbeats 4000000 in
set_option maxRecDepth 100000 in
theorem k_X8_of (G : zG) {D E : Nat} {mi : zFi} {ml : zFl} {mr : zFr} (hr : zRf mr D E) {w p who : Nat} {f : Nat → Nat} (hf : ∀ a, 10 ≤ a → a ≤ 69 → mi 225 (zAt w p a) = nI (f a)) (hle : zLe f) (hw : w < 5) (hp : p < 3) (hwho : who ≤ 2) : zMet G 1 yX8_of cX8_of 8 (some .int) [.ref 224, .int (nI w), .int (nI p), .int (nI who)] 238 mi ml mr 238 (zPq (some (.int (nI (zMeas who f)))) mi ml mr) := by
  refine z_intro ([.ref 224, .int (nI w), .int (nI p), .int (nI who), zx, zx, zx, zx]) (by decide) rfl (Nat.le_of_ble_eq_true rfl) ?_
  refine e_iload_n 1 dX8_of_0 rfl rfl ?_
  refine e_if_neN 9 4 dX8_of_1 (by decide) rfl (by omega) (fun h1 => ?_) (fun h1 => ?_)
  · refine e_iload_n 10 dX8_of_9 rfl rfl ?_
    refine e_iconst 11 hic_1 dX8_of_10 rfl ?_
    refine e_icmp_neN 19 14 dX8_of_11 (by decide) rfl (by omega) (by omega) (fun h11 => ?_) (fun h11 => ?_)
    · refine e_bipush 21 hbi_10 dX8_of_19 rfl ?_
      refine e_istore 23 dX8_of_21 rfl (by decide) (zst1_4 rfl) ?_
      refine e_iload_n 24 dX8_of_23 rfl rfl ?_
      refine e_if_neN 32 27 dX8_of_24 (by decide) rfl (by omega) (fun h24 => ?_) (fun h24 => ?_)
      · refine e_iload_n 33 dX8_of_32 rfl rfl ?_
        refine e_iconst 34 hic_1 dX8_of_33 rfl ?_
        refine e_icmp_neN 42 37 dX8_of_34 (by decide) rfl (by omega) (by omega) (fun h34 => ?_) (fun h34 => ?_)
        · refine e_bipush 44 hbi_69 dX8_of_42 rfl ?_
          refine e_istore 46 dX8_of_44 rfl (by decide) (zst1_5 rfl) ?_
          refine e_iconst 47 hic_0 dX8_of_46 rfl ?_
          refine e_istore 49 dX8_of_47 rfl (by decide) (zst1_6 rfl) ?_
          refine e_iload 51 dX8_of_49 rfl rfl ?_
          refine e_istore 53 dX8_of_51 rfl (by decide) (zst1_7 rfl) ?_
          have q3 : who = 0 ∨ who = 1 ∨ who = 2 := by omega
          have hb0 := zsum_le (f := f) (M := 1000) 7 13 (fun i g1 g2 => hle i (by omega) (by omega))
          have hb1 := zsum_le (f := f) (M := 1000) 16 35 (fun i g1 g2 => hle i (by omega) (by omega))
          have hb2 := zsum_le (f := f) (M := 1000) 60 10 (fun i g1 g2 => hle i (by omega) (by omega))
          first
            | exact l_X8_of G _ _ hr hf hle hw hp (a1 := 13) (a2 := 19) (by decide) (by decide) (by decide) 7 13 0 (Nat.le_refl _) rfl ⟨by rw [Nat.zero_add]; unfold zMeas; rw [if_pos (by omega)]; rfl, rfl, rfl, rfl⟩ (by omega)
            | exact l_X8_of G _ _ hr hf hle hw hp (a1 := 35) (a2 := 50) (by decide) (by decide) (by decide) 16 35 0 (Nat.le_refl _) rfl ⟨by rw [Nat.zero_add]; unfold zMeas; rw [if_neg (by omega), if_pos (by omega)]; rfl, rfl, rfl, rfl⟩ (by omega)
            | exact l_X8_of G _ _ hr hf hle hw hp (a1 := 10) (a2 := 69) (by decide) (by decide) (by decide) 60 10 0 (Nat.le_refl _) rfl ⟨by rw [Nat.zero_add]; unfold zMeas; rw [if_neg (by omega), if_neg (by omega)]; rfl, rfl, rfl, rfl⟩ (by omega)
            | exact absurd (show who = who from rfl) (by omega)
        · refine e_bipush 39 hbi_50 dX8_of_37 rfl ?_
          refine e_goto 44 dX8_of_39 (by decide) ?_
          refine e_istore 46 dX8_of_44 rfl (by decide) (zst1_5 rfl) ?_
          refine e_iconst 47 hic_0 dX8_of_46 rfl ?_
          refine e_istore 49 dX8_of_47 rfl (by decide) (zst1_6 rfl) ?_
          refine e_iload 51 dX8_of_49 rfl rfl ?_
          refine e_istore 53 dX8_of_51 rfl (by decide) (zst1_7 rfl) ?_
          have q3 : who = 0 ∨ who = 1 ∨ who = 2 := by omega
          have hb0 := zsum_le (f := f) (M := 1000) 7 13 (fun i g1 g2 => hle i (by omega) (by omega))
          have hb1 := zsum_le (f := f) (M := 1000) 16 35 (fun i g1 g2 => hle i (by omega) (by omega))
          have hb2 := zsum_le (f := f) (M := 1000) 60 10 (fun i g1 g2 => hle i (by omega) (by omega))
          first
            | exact l_X8_of G _ _ hr hf hle hw hp (a1 := 13) (a2 := 19) (by decide) (by decide) (by decide) 7 13 0 (Nat.le_refl _) rfl ⟨by rw [Nat.zero_add]; unfold zMeas; rw [if_pos (by omega)]; rfl, rfl, rfl, rfl⟩ (by omega)
            | exact l_X8_of G _ _ hr hf hle hw hp (a1 := 35) (a2 := 50) (by decide) (by decide) (by decide) 16 35 0 (Nat.le_refl _) rfl ⟨by rw [Nat.zero_add]; unfold zMeas; rw [if_neg (by omega), if_pos (by omega)]; rfl, rfl, rfl, rfl⟩ (by omega)
            | exact l_X8_of G _ _ hr hf hle hw hp (a1 := 10) (a2 := 69) (by decide) (by decide) (by decide) 60 10 0 (Nat.le_refl _) rfl ⟨by rw [Nat.zero_add]; unfold zMeas; rw [if_neg (by omega), if_neg (by omega)]; rfl, rfl, rfl, rfl⟩ (by omega)
            | exact absurd (show who = who from rfl) (by omega)
      · refine e_bipush 29 hbi_19 dX8_of_27 rfl ?_
        refine e_goto 44 dX8_of_29 (by decide) ?_
        refine e_istore 46 dX8_of_44 rfl (by decide) (zst1_5 rfl) ?_
        refine e_iconst 47 hic_0 dX8_of_46 rfl ?_
        refine e_istore 49 dX8_of_47 rfl (by decide) (zst1_6 rfl) ?_
        refine e_iload 51 dX8_of_49 rfl rfl ?_
        refine e_istore 53 dX8_of_51 rfl (by decide) (zst1_7 rfl) ?_
        have q3 : who = 0 ∨ who = 1 ∨ who = 2 := by omega
        have hb0 := zsum_le (f := f) (M := 1000) 7 13 (fun i g1 g2 => hle i (by omega) (by omega))
        have hb1 := zsum_le (f := f) (M := 1000) 16 35 (fun i g1 g2 => hle i (by omega) (by omega))
        have hb2 := zsum_le (f := f) (M := 1000) 60 10 (fun i g1 g2 => hle i (by omega) (by omega))
        first
          | exact l_X8_of G _ _ hr hf hle hw hp (a1 := 13) (a2 := 19) (by decide) (by decide) (by decide) 7 13 0 (Nat.le_refl _) rfl ⟨by rw [Nat.zero_add]; unfold zMeas; rw [if_pos (by omega)]; rfl, rfl, rfl, rfl⟩ (by omega)
          | exact l_X8_of G _ _ hr hf hle hw hp (a1 := 35) (a2 := 50) (by decide) (by decide) (by decide) 16 35 0 (Nat.le_refl _) rfl ⟨by rw [Nat.zero_add]; unfold zMeas; rw [if_neg (by omega), if_pos (by omega)]; rfl, rfl, rfl, rfl⟩ (by omega)
          | exact l_X8_of G _ _ hr hf hle hw hp (a1 := 10) (a2 := 69) (by decide) (by decide) (by decide) 60 10 0 (Nat.le_refl _) rfl ⟨by rw [Nat.zero_add]; unfold zMeas; rw [if_neg (by omega), if_neg (by omega)]; rfl, rfl, rfl, rfl⟩ (by omega)
          | exact absurd (show who = who from rfl) (by omega)
    · refine e_bipush 16 hbi_35 dX8_of_14 rfl ?_
      refine e_goto 21 dX8_of_16 (by decide) ?_
      refine e_istore 23 dX8_of_21 rfl (by decide) (zst1_4 rfl) ?_
      refine e_iload_n 24 dX8_of_23 rfl rfl ?_
      refine e_if_neN 32 27 dX8_of_24 (by decide) rfl (by omega) (fun h24 => ?_) (fun h24 => ?_)
      · refine e_iload_n 33 dX8_of_32 rfl rfl ?_
        refine e_iconst 34 hic_1 dX8_of_33 rfl ?_
        refine e_icmp_neN 42 37 dX8_of_34 (by decide) rfl (by omega) (by omega) (fun h34 => ?_) (fun h34 => ?_)
        · refine e_bipush 44 hbi_69 dX8_of_42 rfl ?_
          refine e_istore 46 dX8_of_44 rfl (by decide) (zst1_5 rfl) ?_
          refine e_iconst 47 hic_0 dX8_of_46 rfl ?_
          refine e_istore 49 dX8_of_47 rfl (by decide) (zst1_6 rfl) ?_
          refine e_iload 51 dX8_of_49 rfl rfl ?_
          refine e_istore 53 dX8_of_51 rfl (by decide) (zst1_7 rfl) ?_
          have q3 : who = 0 ∨ who = 1 ∨ who = 2 := by omega
          have hb0 := zsum_le (f := f) (M := 1000) 7 13 (fun i g1 g2 => hle i (by omega) (by omega))
          have hb1 := zsum_le (f := f) (M := 1000) 16 35 (fun i g1 g2 => hle i (by omega) (by omega))
          have hb2 := zsum_le (f := f) (M := 1000) 60 10 (fun i g1 g2 => hle i (by omega) (by omega))
          first
            | exact l_X8_of G _ _ hr hf hle hw hp (a1 := 13) (a2 := 19) (by decide) (by decide) (by decide) 7 13 0 (Nat.le_refl _) rfl ⟨by rw [Nat.zero_add]; unfold zMeas; rw [if_pos (by omega)]; rfl, rfl, rfl, rfl⟩ (by omega)
            | exact l_X8_of G _ _ hr hf hle hw hp (a1 := 35) (a2 := 50) (by decide) (by decide) (by decide) 16 35 0 (Nat.le_refl _) rfl ⟨by rw [Nat.zero_add]; unfold zMeas; rw [if_neg (by omega), if_pos (by omega)]; rfl, rfl, rfl, rfl⟩ (by omega)
            | exact l_X8_of G _ _ hr hf hle hw hp (a1 := 10) (a2 := 69) (by decide) (by decide) (by decide) 60 10 0 (Nat.le_refl _) rfl ⟨by rw [Nat.zero_add]; unfold zMeas; rw [if_neg (by omega), if_neg (by omega)]; rfl, rfl, rfl, rfl⟩ (by omega)
            | exact absurd (show who = who from rfl) (by omega)
        · refine e_bipush 39 hbi_50 dX8_of_37 rfl ?_
          refine e_goto 44 dX8_of_39 (by decide) ?_
          refine e_istore 46 dX8_of_44 rfl (by decide) (zst1_5 rfl) ?_
          refine e_iconst 47 hic_0 dX8_of_46 rfl ?_
          refine e_istore 49 dX8_of_47 rfl (by decide) (zst1_6 rfl) ?_
          refine e_iload 51 dX8_of_49 rfl rfl ?_
          refine e_istore 53 dX8_of_51 rfl (by decide) (zst1_7 rfl) ?_
          have q3 : who = 0 ∨ who = 1 ∨ who = 2 := by omega
          have hb0 := zsum_le (f := f) (M := 1000) 7 13 (fun i g1 g2 => hle i (by omega) (by omega))
          have hb1 := zsum_le (f := f) (M := 1000) 16 35 (fun i g1 g2 => hle i (by omega) (by omega))
          have hb2 := zsum_le (f := f) (M := 1000) 60 10 (fun i g1 g2 => hle i (by omega) (by omega))
          first
            | exact l_X8_of G _ _ hr hf hle hw hp (a1 := 13) (a2 := 19) (by decide) (by decide) (by decide) 7 13 0 (Nat.le_refl _) rfl ⟨by rw [Nat.zero_add]; unfold zMeas; rw [if_pos (by omega)]; rfl, rfl, rfl, rfl⟩ (by omega)
            | exact l_X8_of G _ _ hr hf hle hw hp (a1 := 35) (a2 := 50) (by decide) (by decide) (by decide) 16 35 0 (Nat.le_refl _) rfl ⟨by rw [Nat.zero_add]; unfold zMeas; rw [if_neg (by omega), if_pos (by omega)]; rfl, rfl, rfl, rfl⟩ (by omega)
            | exact l_X8_of G _ _ hr hf hle hw hp (a1 := 10) (a2 := 69) (by decide) (by decide) (by decide) 60 10 0 (Nat.le_refl _) rfl ⟨by rw [Nat.zero_add]; unfold zMeas; rw [if_neg (by omega), if_neg (by omega)]; rfl, rfl, rfl, rfl⟩ (by omega)
            | exact absurd (show who = who from rfl) (by omega)
      · refine e_bipush 29 hbi_19 dX8_of_27 rfl ?_
        refine e_goto 44 dX8_of_29 (by decide) ?_
        refine e_istore 46 dX8_of_44 rfl (by decide) (zst1_5 rfl) ?_
        refine e_iconst 47 hic_0 dX8_of_46 rfl ?_
        refine e_istore 49 dX8_of_47 rfl (by decide) (zst1_6 rfl) ?_
        refine e_iload 51 dX8_of_49 rfl rfl ?_
        refine e_istore 53 dX8_of_51 rfl (by decide) (zst1_7 rfl) ?_
        have q3 : who = 0 ∨ who = 1 ∨ who = 2 := by omega
        have hb0 := zsum_le (f := f) (M := 1000) 7 13 (fun i g1 g2 => hle i (by omega) (by omega))
        have hb1 := zsum_le (f := f) (M := 1000) 16 35 (fun i g1 g2 => hle i (by omega) (by omega))
        have hb2 := zsum_le (f := f) (M := 1000) 60 10 (fun i g1 g2 => hle i (by omega) (by omega))
        first
          | exact l_X8_of G _ _ hr hf hle hw hp (a1 := 13) (a2 := 19) (by decide) (by decide) (by decide) 7 13 0 (Nat.le_refl _) rfl ⟨by rw [Nat.zero_add]; unfold zMeas; rw [if_pos (by omega)]; rfl, rfl, rfl, rfl⟩ (by omega)
          | exact l_X8_of G _ _ hr hf hle hw hp (a1 := 35) (a2 := 50) (by decide) (by decide) (by decide) 16 35 0 (Nat.le_refl _) rfl ⟨by rw [Nat.zero_add]; unfold zMeas; rw [if_neg (by omega), if_pos (by omega)]; rfl, rfl, rfl, rfl⟩ (by omega)
          | exact l_X8_of G _ _ hr hf hle hw hp (a1 := 10) (a2 := 69) (by decide) (by decide) (by decide) 60 10 0 (Nat.le_refl _) rfl ⟨by rw [Nat.zero_add]; unfold zMeas; rw [if_neg (by omega), if_neg (by omega)]; rfl, rfl, rfl, rfl⟩ (by omega)
          | exact absurd (show who = who from rfl) (by omega)
  · refine e_bipush 6 hbi_13 dX8_of_4 rfl ?_
    refine e_goto 21 dX8_of_6 (by decide) ?_
    refine e_istore 23 dX8_of_21 rfl (by decide) (zst1_4 rfl) ?_
    refine e_iload_n 24 dX8_of_23 rfl rfl ?_
    refine e_if_neN 32 27 dX8_of_24 (by decide) rfl (by omega) (fun h24 => ?_) (fun h24 => ?_)
    · refine e_iload_n 33 dX8_of_32 rfl rfl ?_
      refine e_iconst 34 hic_1 dX8_of_33 rfl ?_
      refine e_icmp_neN 42 37 dX8_of_34 (by decide) rfl (by omega) (by omega) (fun h34 => ?_) (fun h34 => ?_)
      · refine e_bipush 44 hbi_69 dX8_of_42 rfl ?_
        refine e_istore 46 dX8_of_44 rfl (by decide) (zst1_5 rfl) ?_
        refine e_iconst 47 hic_0 dX8_of_46 rfl ?_
        refine e_istore 49 dX8_of_47 rfl (by decide) (zst1_6 rfl) ?_
        refine e_iload 51 dX8_of_49 rfl rfl ?_
        refine e_istore 53 dX8_of_51 rfl (by decide) (zst1_7 rfl) ?_
        have q3 : who = 0 ∨ who = 1 ∨ who = 2 := by omega
        have hb0 := zsum_le (f := f) (M := 1000) 7 13 (fun i g1 g2 => hle i (by omega) (by omega))
        have hb1 := zsum_le (f := f) (M := 1000) 16 35 (fun i g1 g2 => hle i (by omega) (by omega))
        have hb2 := zsum_le (f := f) (M := 1000) 60 10 (fun i g1 g2 => hle i (by omega) (by omega))
        first
          | exact l_X8_of G _ _ hr hf hle hw hp (a1 := 13) (a2 := 19) (by decide) (by decide) (by decide) 7 13 0 (Nat.le_refl _) rfl ⟨by rw [Nat.zero_add]; unfold zMeas; rw [if_pos (by omega)]; rfl, rfl, rfl, rfl⟩ (by omega)
          | exact l_X8_of G _ _ hr hf hle hw hp (a1 := 35) (a2 := 50) (by decide) (by decide) (by decide) 16 35 0 (Nat.le_refl _) rfl ⟨by rw [Nat.zero_add]; unfold zMeas; rw [if_neg (by omega), if_pos (by omega)]; rfl, rfl, rfl, rfl⟩ (by omega)
          | exact l_X8_of G _ _ hr hf hle hw hp (a1 := 10) (a2 := 69) (by decide) (by decide) (by decide) 60 10 0 (Nat.le_refl _) rfl ⟨by rw [Nat.zero_add]; unfold zMeas; rw [if_neg (by omega), if_neg (by omega)]; rfl, rfl, rfl, rfl⟩ (by omega)
          | exact absurd (show who = who from rfl) (by omega)
      · refine e_bipush 39 hbi_50 dX8_of_37 rfl ?_
        refine e_goto 44 dX8_of_39 (by decide) ?_
        refine e_istore 46 dX8_of_44 rfl (by decide) (zst1_5 rfl) ?_
        refine e_iconst 47 hic_0 dX8_of_46 rfl ?_
        refine e_istore 49 dX8_of_47 rfl (by decide) (zst1_6 rfl) ?_
        refine e_iload 51 dX8_of_49 rfl rfl ?_
        refine e_istore 53 dX8_of_51 rfl (by decide) (zst1_7 rfl) ?_
        have q3 : who = 0 ∨ who = 1 ∨ who = 2 := by omega
        have hb0 := zsum_le (f := f) (M := 1000) 7 13 (fun i g1 g2 => hle i (by omega) (by omega))
        have hb1 := zsum_le (f := f) (M := 1000) 16 35 (fun i g1 g2 => hle i (by omega) (by omega))
        have hb2 := zsum_le (f := f) (M := 1000) 60 10 (fun i g1 g2 => hle i (by omega) (by omega))
        first
          | exact l_X8_of G _ _ hr hf hle hw hp (a1 := 13) (a2 := 19) (by decide) (by decide) (by decide) 7 13 0 (Nat.le_refl _) rfl ⟨by rw [Nat.zero_add]; unfold zMeas; rw [if_pos (by omega)]; rfl, rfl, rfl, rfl⟩ (by omega)
          | exact l_X8_of G _ _ hr hf hle hw hp (a1 := 35) (a2 := 50) (by decide) (by decide) (by decide) 16 35 0 (Nat.le_refl _) rfl ⟨by rw [Nat.zero_add]; unfold zMeas; rw [if_neg (by omega), if_pos (by omega)]; rfl, rfl, rfl, rfl⟩ (by omega)
          | exact l_X8_of G _ _ hr hf hle hw hp (a1 := 10) (a2 := 69) (by decide) (by decide) (by decide) 60 10 0 (Nat.le_refl _) rfl ⟨by rw [Nat.zero_add]; unfold zMeas; rw [if_neg (by omega), if_neg (by omega)]; rfl, rfl, rfl, rfl⟩ (by omega)
          | exact absurd (show who = who from rfl) (by omega)
    · refine e_bipush 29 hbi_19 dX8_of_27 rfl ?_
      refine e_goto 44 dX8_of_29 (by decide) ?_
      refine e_istore 46 dX8_of_44 rfl (by decide) (zst1_5 rfl) ?_
      refine e_iconst 47 hic_0 dX8_of_46 rfl ?_
      refine e_istore 49 dX8_of_47 rfl (by decide) (zst1_6 rfl) ?_
      refine e_iload 51 dX8_of_49 rfl rfl ?_
      refine e_istore 53 dX8_of_51 rfl (by decide) (zst1_7 rfl) ?_
      have q3 : who = 0 ∨ who = 1 ∨ who = 2 := by omega
      have hb0 := zsum_le (f := f) (M := 1000) 7 13 (fun i g1 g2 => hle i (by omega) (by omega))
      have hb1 := zsum_le (f := f) (M := 1000) 16 35 (fun i g1 g2 => hle i (by omega) (by omega))
      have hb2 := zsum_le (f := f) (M := 1000) 60 10 (fun i g1 g2 => hle i (by omega) (by omega))
      first
        | exact l_X8_of G _ _ hr hf hle hw hp (a1 := 13) (a2 := 19) (by decide) (by decide) (by decide) 7 13 0 (Nat.le_refl _) rfl ⟨by rw [Nat.zero_add]; unfold zMeas; rw [if_pos (by omega)]; rfl, rfl, rfl, rfl⟩ (by omega)
        | exact l_X8_of G _ _ hr hf hle hw hp (a1 := 35) (a2 := 50) (by decide) (by decide) (by decide) 16 35 0 (Nat.le_refl _) rfl ⟨by rw [Nat.zero_add]; unfold zMeas; rw [if_neg (by omega), if_pos (by omega)]; rfl, rfl, rfl, rfl⟩ (by omega)
        | exact l_X8_of G _ _ hr hf hle hw hp (a1 := 10) (a2 := 69) (by decide) (by decide) (by decide) 60 10 0 (Nat.le_refl _) rfl ⟨by rw [Nat.zero_add]; unfold zMeas; rw [if_neg (by omega), if_neg (by omega)]; rfl, rfl, rfl, rfl⟩ (by omega)
        | exact absurd (show who = who from rfl) (by omega)

