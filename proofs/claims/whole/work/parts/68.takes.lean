def zKb (j : Nat) : Prop := 8 ≤ j ∧ j ≤ 12
theorem zKb_y {j : Nat} (h : 8 ≤ j ∧ j ≤ 12) : zKb j := h
theorem zKb_n {j : Nat} (h : j < 8 ∨ 12 < j) : ¬ zKb j := by unfold zKb; omega
theorem zGq.ab {u s : zFi} (h : zGq zKa u s) : zGq zKb u s := h.w (fun j hj => by unfold zKa at hj; unfold zKb; omega)
/-- the reader is well, with the token from b on; or the fault is told -/
def zSq (u : zFi) (t : zTx) : Except Nat Nat → Prop
  | .ok b => u 224 12 = -1 ∧ zYk u t b ∧ b ≤ t.1
  | .error p => u 224 12 = nI p ∧ p ≤ t.1
theorem yTok_lt {t : zTx} {b : Nat} : yTok t b < 5 := by
  unfold yTok
  split
  · decide
  · split
    · decide
    · split
      · decide
      · split <;> decide
theorem yTok_2 {t : zTx} {b : Nat} : yTok t b = 2 ↔ zTkK t b = 3 := by
  unfold yTok
  by_cases h0 : zTkK t b = 0
  · rw [if_pos h0]; omega
  · rw [if_neg h0]
    by_cases h3 : zTkK t b = 3
    · rw [if_pos h3]; omega
    · rw [if_neg h3]
      by_cases h2 : zTkK t b = 2
      · rw [if_pos h2]; omega
      · rw [if_neg h2]
        split <;> omega
theorem yTok_3 {t : zTx} {b : Nat} : yTok t b = 3 ↔ zTkK t b = 2 := by
  unfold yTok
  by_cases h0 : zTkK t b = 0
  · rw [if_pos h0]; omega
  · rw [if_neg h0]
    by_cases h3 : zTkK t b = 3
    · rw [if_pos h3]; omega
    · rw [if_neg h3]
      by_cases h2 : zTkK t b = 2
      · rw [if_pos h2]; omega
      · rw [if_neg h2]
        split <;> omega
theorem yTok_0 {t : zTx} {b : Nat} : yTok t b = 0 ↔ zTkK t b = 0 := by
  unfold yTok
  by_cases h0 : zTkK t b = 0
  · rw [if_pos h0]; omega
  · rw [if_neg h0]
    split
    · omega
    · split
      · omega
      · split <;> omega
theorem yTok_1 {t : zTx} {b : Nat} : yTok t b = 1 ↔ (zTkK t b = 4 ∧ ¬ zWo (zLwt t b) = -9) := by
  unfold yTok
  by_cases h0 : zTkK t b = 0
  · rw [if_pos h0, h0]; exact ⟨fun h => absurd h (by decide), fun h => absurd h.1 (by decide)⟩
  · rw [if_neg h0]
    by_cases h3 : zTkK t b = 3
    · rw [if_pos h3, h3]; exact ⟨fun h => absurd h (by decide), fun h => absurd h.1 (by decide)⟩
    · rw [if_neg h3]
      by_cases h2 : zTkK t b = 2
      · rw [if_pos h2, h2]; exact ⟨fun h => absurd h (by decide), fun h => absurd h.1 (by decide)⟩
      · rw [if_neg h2]
        by_cases h4 : zTkK t b = 4 ∧ ¬ zWo (zLwt t b) = -9
        · rw [if_pos h4]; exact ⟨fun _ => h4, fun _ => rfl⟩
        · rw [if_neg h4]; exact ⟨fun h => absurd h (by decide), fun h => absurd h h4⟩
def zNc9 (t : zTx) (lo hi b : Nat) : Prop := zTkK t b = 3 ∧ lo ≤ zTkN t b ∧ zTkN t b < hi
def zNc9_dec (t : zTx) (lo hi b : Nat) : Decidable (zNc9 t lo hi b) := by unfold zNc9; exact inferInstance
/-- a number is taken: where the reader is then; which number it is -/
def zNx (t : zTx) (lo hi : Nat) : Except Nat Nat → Except Nat Nat
  | .ok b => @ite _ (zNc9 t lo hi b) (zNc9_dec t lo hi b) (.ok (zTkE t b)) (.error (zTkA t b))
  | .error p => .error p
def zNv (t : zTx) (lo hi : Nat) : Except Nat Nat → Nat
  | .ok b => @ite _ (zNc9 t lo hi b) (zNc9_dec t lo hi b) (zTkN t b) 0
  | .error _ => 0
/-- the end of an item is taken -/
def zEx (t : zTx) : Except Nat Nat → Except Nat Nat
  | .ok b => if zTkK t b = 2 then .ok (zTkE t b) else .error (zTkA t b)
  | .error p => .error p
set_option maxHeartbeats 4000000 in
set_option maxRecDepth 100000 in
theorem k_X8_isWell_y (G : zG) {D E : Nat} {mi : zFi} {ml : zFl} {mr : zFr} (hr : zRf mr D E) (h : mi 224 12 = -1) : zMet G 0 yX8_isWell cX8_isWell 1 (some .boolean) [.ref 224] 238 mi ml mr 238 (zPq (some (.int (nI 1))) mi ml mr) := by
  refine z_intro ([.ref 224]) (by decide) rfl (Nat.le_of_ble_eq_true rfl) ?_
  refine e_aload_n 1 dX8_isWell_0 rfl rfl ?_
  refine e_geti 4 dX8_isWell_1 lf_X8_99 rfl rfl rfl (by decide) h ?_
  refine e_if_ge 11 7 dX8_isWell_4 (by decide) rfl (fun h4 => ?_) (fun h4 => ?_)
  · exact absurd h4 (by decide)
  · refine e_iconst 8 hic_1 dX8_isWell_7 rfl ?_
    refine e_goto 12 dX8_isWell_8 (by decide) ?_
    refine e_ireturn .boolean dX8_isWell_12 rfl rfl ?_
    exact ⟨rfl, rfl, rfl, rfl⟩

set_option maxHeartbeats 4000000 in
set_option maxRecDepth 100000 in
theorem k_X8_isWell_n (G : zG) {D E p : Nat} {mi : zFi} {ml : zFl} {mr : zFr} (hr : zRf mr D E) (h : mi 224 12 = nI p) (hp : p ≤ 1000) : zMet G 0 yX8_isWell cX8_isWell 1 (some .boolean) [.ref 224] 238 mi ml mr 238 (zPq (some (.int (nI 0))) mi ml mr) := by
  refine z_intro ([.ref 224]) (by decide) rfl (Nat.le_of_ble_eq_true rfl) ?_
  refine e_aload_n 1 dX8_isWell_0 rfl rfl ?_
  refine e_geti 4 dX8_isWell_1 lf_X8_99 rfl rfl rfl (by decide) h ?_
  refine e_if_ge 11 7 dX8_isWell_4 (by decide) rfl (fun h4 => ?_) (fun h4 => ?_)
  · refine e_iconst 12 hic_0 dX8_isWell_11 rfl ?_
    refine e_ireturn .boolean dX8_isWell_12 rfl rfl ?_
    exact ⟨rfl, rfl, rfl, rfl⟩
  · exact absurd ((nI_leI (a := 0) (by decide) (by omega)).mpr (Nat.zero_le _)) h4

set_option maxHeartbeats 4000000 in
set_option maxRecDepth 100000 in
theorem k_X8_takes_n (G : zG) {D E : Nat} {t : zTx} {mi : zFi} {ml : zFl} {mr : zFr} (hr : zRf mr D E) (htw : zTxW t) {p : Nat} (h : zSq mi t (.error p)) {f : Int32} : zMet G 4 yX8_takes cX8_takes 3 (some .int) [.ref 224, .int f] 238 mi ml mr 238 (zPi fun x u b' c => x = nI 0 ∧ zSq u t (.error p) ∧ zGq zKb u mi ∧ b' = ml ∧ c = mr) := by
  refine z_intro ([.ref 224, .int f, zx]) (by decide) rfl (Nat.le_of_ble_eq_true rfl) ?_
  refine e_aload_n 1 dX8_takes_0 rfl rfl ?_
  refine c_Vqi 4 (ci := 8) dX8_takes_1 (k_X8_isWell_n G hr h.1 (by have := htw.1; have := h.2; omega)) lm_X8_102 zi_yX8_isWell zs_yX8_isWell rfl rfl (by decide) rfl rfl rfl (Nat.le_of_ble_eq_true rfl) (Nat.le_of_ble_eq_true rfl) (Nat.le_of_ble_eq_true rfl) (by exact Nat.le_refl _) (by exact Nat.le_refl _) ?_
  refine e_if_ne 9 7 dX8_takes_4 (by decide) rfl (fun h4 => ?_) (fun h4 => ?_)
  · exact absurd rfl h4
  · refine e_iconst 8 hic_0 dX8_takes_7 rfl ?_
    refine e_ireturn .int dX8_takes_8 rfl rfl ?_
    exact ⟨_, rfl, rfl, h, zGq.r mi, rfl, rfl⟩

set_option maxHeartbeats 4000000 in
set_option maxRecDepth 100000 in
theorem k_X8_takes_0 (G : zG) {D E : Nat} {t : zTx} {mi : zFi} {ml : zFl} {mr : zFr} (hr : zRf mr D E) (htw : zTxW t) {b : Nat} (h : zSq mi t (.ok b)) (ht : zYt mi t) : zMet G 4 yX8_takes cX8_takes 3 (some .int) [.ref 224, .int (nI 0)] 238 mi ml mr 238 (zPi fun x u b' c => x = nI 0 ∧ zSq u t (.error (zTkA t b)) ∧ zGq zKb u mi ∧ b' = ml ∧ c = mr) := by
  refine z_intro ([.ref 224, .int (nI 0), zx]) (by decide) rfl (Nat.le_of_ble_eq_true rfl) ?_
  refine e_aload_n 1 dX8_takes_0 rfl rfl ?_
  refine c_Vqi 4 (ci := 8) dX8_takes_1 (k_X8_isWell_y G hr h.1) lm_X8_102 zi_yX8_isWell zs_yX8_isWell rfl rfl (by decide) rfl rfl rfl (Nat.le_of_ble_eq_true rfl) (Nat.le_of_ble_eq_true rfl) (Nat.le_of_ble_eq_true rfl) (by exact Nat.le_refl _) (by exact Nat.le_refl _) ?_
  refine e_if_ne 9 7 dX8_takes_4 (by decide) rfl (fun h4 => ?_) (fun h4 => ?_)
  · refine e_iload_n 10 dX8_takes_9 rfl rfl ?_
    refine e_if_ne 23 13 dX8_takes_10 (by decide) rfl (fun h10 => ?_) (fun h10 => ?_)
    · exact absurd rfl h10
    · refine e_aload_n 14 dX8_takes_13 rfl rfl ?_
      refine e_aload_n 15 dX8_takes_14 rfl rfl ?_
      refine e_geti 18 dX8_takes_15 lf_X8_86 rfl rfl rfl (by decide) h.2.1.2.1 ?_
      refine e_puti 21 dX8_takes_18 lf_X8_99 rfl rfl rfl rfl rfl (by decide) ?_
      refine e_iconst 22 hic_0 dX8_takes_21 rfl ?_
      refine e_ireturn .int dX8_takes_22 rfl rfl ?_
      exact ⟨_, rfl, rfl, ⟨zp_s _ _ _ _, (zTk_b h.2.2).2.1⟩, (zGq.r mi).p (zKb_y (by decide)), rfl, rfl⟩
  · exact absurd h4 (by decide)

set_option maxHeartbeats 4000000 in
set_option maxRecDepth 100000 in
theorem k_X8_takes_1 (G : zG) {D E : Nat} {t : zTx} {mi : zFi} {ml : zFl} {mr : zFr} (hr : zRf mr D E) (htw : zTxW t) {b : Nat} (h : zSq mi t (.ok b)) (ht : zYt mi t) : zMet G 4 yX8_takes cX8_takes 3 (some .int) [.ref 224, .int (nI 1)] 238 mi ml mr 238 (zPi fun x u b' c => x = mi 224 11 ∧ zSq u t (.ok (zTkE t b)) ∧ zGq zKb u mi ∧ b' = ml ∧ c = mr) := by
  refine z_intro ([.ref 224, .int (nI 1), zx]) (by decide) rfl (Nat.le_of_ble_eq_true rfl) ?_
  refine e_aload_n 1 dX8_takes_0 rfl rfl ?_
  refine c_Vqi 4 (ci := 8) dX8_takes_1 (k_X8_isWell_y G hr h.1) lm_X8_102 zi_yX8_isWell zs_yX8_isWell rfl rfl (by decide) rfl rfl rfl (Nat.le_of_ble_eq_true rfl) (Nat.le_of_ble_eq_true rfl) (Nat.le_of_ble_eq_true rfl) (by exact Nat.le_refl _) (by exact Nat.le_refl _) ?_
  refine e_if_ne 9 7 dX8_takes_4 (by decide) rfl (fun h4 => ?_) (fun h4 => ?_)
  · refine e_iload_n 10 dX8_takes_9 rfl rfl ?_
    refine e_if_ne 23 13 dX8_takes_10 (by decide) rfl (fun h10 => ?_) (fun h10 => ?_)
    · refine e_aload_n 24 dX8_takes_23 rfl rfl ?_
      refine e_geti 27 dX8_takes_24 lf_X8_96 rfl rfl rfl (by decide) rfl ?_
      refine e_istore_n 28 dX8_takes_27 rfl (by decide) (zst1_2 rfl) ?_
      refine e_aload_n 29 dX8_takes_28 rfl rfl ?_
      refine c_Vv 32 (ci := 8) dX8_takes_29 (k_X8_advances G hr htw ht h.2.1.1 (zTk_b h.2.2).2.2.2.1) lm_X8_106 zi_yX8_advances zs_yX8_advances rfl rfl (by decide) rfl rfl rfl (Nat.le_of_ble_eq_true rfl) (Nat.le_of_ble_eq_true rfl) (Nat.le_of_ble_eq_true rfl) (by exact Nat.le_refl _) (by exact Nat.le_refl _) ?_
      rintro u1 _ _ ⟨y1, f1, rfl, rfl⟩
      refine e_iload_n 33 dX8_takes_32 rfl rfl ?_
      refine e_ireturn .int dX8_takes_33 rfl rfl ?_
      exact ⟨_, rfl, rfl, ⟨(f1.2 12 (zKa_n (by decide))).trans h.1, y1, (zTk_b h.2.2).2.2.2.1⟩, f1.ab, rfl, rfl⟩
    · exact absurd h10 (by decide)
  · exact absurd h4 (by decide)

set_option maxHeartbeats 4000000 in
set_option maxRecDepth 100000 in
theorem k_X8_number_n (G : zG) {D E : Nat} {t : zTx} {mi : zFi} {ml : zFl} {mr : zFr} (hr : zRf mr D E) (htw : zTxW t) {p : Nat} (h : zSq mi t (.error p)) {lo hi : Int32} : zMet G 5 yX8_number cX8_number 3 (some .int) [.ref 224, .int lo, .int hi] 238 mi ml mr 238 (zPi fun x u b' c => x = nI 0 ∧ zSq u t (.error p) ∧ zGq zKb u mi ∧ b' = ml ∧ c = mr) := by
  refine z_intro ([.ref 224, .int lo, .int hi]) (by decide) rfl (Nat.le_of_ble_eq_true rfl) ?_
  refine e_aload_n 1 dX8_number_0 rfl rfl ?_
  refine e_aload_n 2 dX8_number_1 rfl rfl ?_
  refine e_geti 5 dX8_number_2 lf_X8_89 rfl rfl rfl (by decide) rfl ?_
  refine e_iconst 6 hic_2 dX8_number_5 rfl ?_
  refine e_icmp_ne 25 9 dX8_number_6 (by decide) rfl (fun h6 => ?_) (fun h6 => ?_)
  · refine e_iconst 26 hic_0 dX8_number_25 rfl ?_
    refine c_Vi 29 (ci := 8) dX8_number_26 (k_X8_takes_n G hr htw h) lm_X8_109 zi_yX8_takes zs_yX8_takes rfl rfl (by decide) rfl rfl rfl (Nat.le_of_ble_eq_true rfl) (Nat.le_of_ble_eq_true rfl) (Nat.le_of_ble_eq_true rfl) (by exact Nat.le_refl _) (by exact Nat.le_refl _) ?_
    rintro x1 u1 _ _ ⟨rfl, s1, g1, rfl, rfl⟩
    refine e_ireturn .int dX8_number_29 rfl rfl ?_
    exact ⟨_, rfl, rfl, s1, g1, rfl, rfl⟩
  · refine e_aload_n 10 dX8_number_9 rfl rfl ?_
    refine e_geti 13 dX8_number_10 lf_X8_96 rfl rfl rfl (by decide) rfl ?_
    refine e_iload_n 14 dX8_number_13 rfl rfl ?_
    refine e_iload_n 15 dX8_number_14 rfl rfl ?_
    refine c_Sqi 18 dX8_number_15 (k_X8_in G) lm_X8_60 zt_yX8_in rfl rfl rfl (Nat.le_of_ble_eq_true rfl) (Nat.le_of_ble_eq_true rfl) (Nat.le_of_ble_eq_true rfl) (by exact Nat.le_refl _) (by exact Nat.le_refl _) ?_
    refine e_if_eq 25 21 dX8_number_18 (by decide) rfl (fun h18 => ?_) (fun h18 => ?_)
    · refine e_iconst 26 hic_0 dX8_number_25 rfl ?_
      refine c_Vi 29 (ci := 8) dX8_number_26 (k_X8_takes_n G hr htw h) lm_X8_109 zi_yX8_takes zs_yX8_takes rfl rfl (by decide) rfl rfl rfl (Nat.le_of_ble_eq_true rfl) (Nat.le_of_ble_eq_true rfl) (Nat.le_of_ble_eq_true rfl) (by exact Nat.le_refl _) (by exact Nat.le_refl _) ?_
      rintro x1 u1 _ _ ⟨rfl, s1, g1, rfl, rfl⟩
      refine e_ireturn .int dX8_number_29 rfl rfl ?_
      exact ⟨_, rfl, rfl, s1, g1, rfl, rfl⟩
    · refine e_iconst 22 hic_1 dX8_number_21 rfl ?_
      refine e_goto 26 dX8_number_22 (by decide) ?_
      refine c_Vi 29 (ci := 8) dX8_number_26 (k_X8_takes_n G hr htw h) lm_X8_109 zi_yX8_takes zs_yX8_takes rfl rfl (by decide) rfl rfl rfl (Nat.le_of_ble_eq_true rfl) (Nat.le_of_ble_eq_true rfl) (Nat.le_of_ble_eq_true rfl) (by exact Nat.le_refl _) (by exact Nat.le_refl _) ?_
      rintro x1 u1 _ _ ⟨rfl, s1, g1, rfl, rfl⟩
      refine e_ireturn .int dX8_number_29 rfl rfl ?_
      exact ⟨_, rfl, rfl, s1, g1, rfl, rfl⟩

set_option maxHeartbeats 4000000 in
set_option maxRecDepth 100000 in
theorem k_X8_number_y (G : zG) {D E : Nat} {t : zTx} {mi : zFi} {ml : zFl} {mr : zFr} (hr : zRf mr D E) (htw : zTxW t) {b : Nat} (h : zSq mi t (.ok b)) (ht : zYt mi t) {lo hi : Int32} {l9 P9 : Nat} (hP : ∀ n, n ≤ 99 → ((lo ≤ nI n ∧ nI n ≤ hi) ↔ l9 ≤ n ∧ n < P9)) : zMet G 5 yX8_number cX8_number 3 (some .int) [.ref 224, .int lo, .int hi] 238 mi ml mr 238 (zPi fun x u b' c => x = nI (zNv t l9 P9 (.ok b)) ∧ zSq u t (zNx t l9 P9 (.ok b)) ∧ zGq zKb u mi ∧ b' = ml ∧ c = mr) := by
  refine z_intro ([.ref 224, .int lo, .int hi]) (by decide) rfl (Nat.le_of_ble_eq_true rfl) ?_
  refine e_aload_n 1 dX8_number_0 rfl rfl ?_
  refine e_aload_n 2 dX8_number_1 rfl rfl ?_
  refine e_geti 5 dX8_number_2 lf_X8_89 rfl rfl rfl (by decide) h.2.1.2.2.1 ?_
  refine e_iconst 6 hic_2 dX8_number_5 rfl ?_
  refine e_icmp_neN 25 9 dX8_number_6 (by decide) rfl (by have := yTok_lt (t := t) (b := b); omega) (by omega) (fun h6 => ?_) (fun h6 => ?_)
  · have hc : ¬ zNc9 t l9 P9 b := fun z => h6 (yTok_2.mpr z.1)
    refine e_iconst 26 hic_0 dX8_number_25 rfl ?_
    first
      | (refine c_Vi 29 (ci := 8) dX8_number_26 (k_X8_takes_1 G hr htw h ht) lm_X8_109 zi_yX8_takes zs_yX8_takes rfl rfl (by decide) rfl rfl rfl (Nat.le_of_ble_eq_true rfl) (Nat.le_of_ble_eq_true rfl) (Nat.le_of_ble_eq_true rfl) (by exact Nat.le_refl _) (by exact Nat.le_refl _) ?_
         rintro x1 u1 _ _ ⟨hx1, s1, g1, rfl, rfl⟩
         refine e_ireturn .int dX8_number_29 rfl rfl ?_
         first
           | exact ⟨_, rfl, hx1.trans ((h.2.1.2.2.2.1 hK).trans (congrArg nI (iteP hc).symm)), by rw [show zNx t l9 P9 (.ok b) = .ok (zTkE t b) from iteP hc]; exact s1, g1, rfl, rfl⟩
           | exact ⟨_, rfl, hx1.trans (congrArg nI (iteN hc).symm), by rw [show zNx t l9 P9 (.ok b) = .error (zTkA t b) from iteN hc]; exact s1, g1, rfl, rfl⟩)
      | (refine c_Vi 29 (ci := 8) dX8_number_26 (k_X8_takes_0 G hr htw h ht) lm_X8_109 zi_yX8_takes zs_yX8_takes rfl rfl (by decide) rfl rfl rfl (Nat.le_of_ble_eq_true rfl) (Nat.le_of_ble_eq_true rfl) (Nat.le_of_ble_eq_true rfl) (by exact Nat.le_refl _) (by exact Nat.le_refl _) ?_
         rintro x1 u1 _ _ ⟨hx1, s1, g1, rfl, rfl⟩
         refine e_ireturn .int dX8_number_29 rfl rfl ?_
         first
           | exact ⟨_, rfl, hx1.trans ((h.2.1.2.2.2.1 hK).trans (congrArg nI (iteP hc).symm)), by rw [show zNx t l9 P9 (.ok b) = .ok (zTkE t b) from iteP hc]; exact s1, g1, rfl, rfl⟩
           | exact ⟨_, rfl, hx1.trans (congrArg nI (iteN hc).symm), by rw [show zNx t l9 P9 (.ok b) = .error (zTkA t b) from iteN hc]; exact s1, g1, rfl, rfl⟩)
  · have hK := yTok_2.mp h6
    have hn := zTkN_ok hK
    refine e_aload_n 10 dX8_number_9 rfl rfl ?_
    refine e_geti 13 dX8_number_10 lf_X8_96 rfl rfl rfl (by decide) (h.2.1.2.2.2.1 hK) ?_
    refine e_iload_n 14 dX8_number_13 rfl rfl ?_
    refine e_iload_n 15 dX8_number_14 rfl rfl ?_
    refine c_Sqi 18 dX8_number_15 (k_X8_in G) lm_X8_60 zt_yX8_in rfl rfl rfl (Nat.le_of_ble_eq_true rfl) (Nat.le_of_ble_eq_true rfl) (Nat.le_of_ble_eq_true rfl) (by exact Nat.le_refl _) (by exact Nat.le_refl _) ?_
    refine e_if_eq 25 21 dX8_number_18 (by decide) rfl (fun h18 => ?_) (fun h18 => ?_)
    · have hc : ¬ zNc9 t l9 P9 b := fun z => zB_0 h18 ((hP _ hn.2).mpr z.2)
      refine e_iconst 26 hic_0 dX8_number_25 rfl ?_
      first
        | (refine c_Vi 29 (ci := 8) dX8_number_26 (k_X8_takes_1 G hr htw h ht) lm_X8_109 zi_yX8_takes zs_yX8_takes rfl rfl (by decide) rfl rfl rfl (Nat.le_of_ble_eq_true rfl) (Nat.le_of_ble_eq_true rfl) (Nat.le_of_ble_eq_true rfl) (by exact Nat.le_refl _) (by exact Nat.le_refl _) ?_
           rintro x1 u1 _ _ ⟨hx1, s1, g1, rfl, rfl⟩
           refine e_ireturn .int dX8_number_29 rfl rfl ?_
           first
             | exact ⟨_, rfl, hx1.trans ((h.2.1.2.2.2.1 hK).trans (congrArg nI (iteP hc).symm)), by rw [show zNx t l9 P9 (.ok b) = .ok (zTkE t b) from iteP hc]; exact s1, g1, rfl, rfl⟩
             | exact ⟨_, rfl, hx1.trans (congrArg nI (iteN hc).symm), by rw [show zNx t l9 P9 (.ok b) = .error (zTkA t b) from iteN hc]; exact s1, g1, rfl, rfl⟩)
        | (refine c_Vi 29 (ci := 8) dX8_number_26 (k_X8_takes_0 G hr htw h ht) lm_X8_109 zi_yX8_takes zs_yX8_takes rfl rfl (by decide) rfl rfl rfl (Nat.le_of_ble_eq_true rfl) (Nat.le_of_ble_eq_true rfl) (Nat.le_of_ble_eq_true rfl) (by exact Nat.le_refl _) (by exact Nat.le_refl _) ?_
           rintro x1 u1 _ _ ⟨hx1, s1, g1, rfl, rfl⟩
           refine e_ireturn .int dX8_number_29 rfl rfl ?_
           first
             | exact ⟨_, rfl, hx1.trans ((h.2.1.2.2.2.1 hK).trans (congrArg nI (iteP hc).symm)), by rw [show zNx t l9 P9 (.ok b) = .ok (zTkE t b) from iteP hc]; exact s1, g1, rfl, rfl⟩
             | exact ⟨_, rfl, hx1.trans (congrArg nI (iteN hc).symm), by rw [show zNx t l9 P9 (.ok b) = .error (zTkA t b) from iteN hc]; exact s1, g1, rfl, rfl⟩)
    · have hc : zNc9 t l9 P9 b := ⟨hK, (hP _ hn.2).mp (zB_1 h18)⟩
      refine e_iconst 22 hic_1 dX8_number_21 rfl ?_
      refine e_goto 26 dX8_number_22 (by decide) ?_
      first
        | (refine c_Vi 29 (ci := 8) dX8_number_26 (k_X8_takes_1 G hr htw h ht) lm_X8_109 zi_yX8_takes zs_yX8_takes rfl rfl (by decide) rfl rfl rfl (Nat.le_of_ble_eq_true rfl) (Nat.le_of_ble_eq_true rfl) (Nat.le_of_ble_eq_true rfl) (by exact Nat.le_refl _) (by exact Nat.le_refl _) ?_
           rintro x1 u1 _ _ ⟨hx1, s1, g1, rfl, rfl⟩
           refine e_ireturn .int dX8_number_29 rfl rfl ?_
           first
             | exact ⟨_, rfl, hx1.trans ((h.2.1.2.2.2.1 hK).trans (congrArg nI (iteP hc).symm)), by rw [show zNx t l9 P9 (.ok b) = .ok (zTkE t b) from iteP hc]; exact s1, g1, rfl, rfl⟩
             | exact ⟨_, rfl, hx1.trans (congrArg nI (iteN hc).symm), by rw [show zNx t l9 P9 (.ok b) = .error (zTkA t b) from iteN hc]; exact s1, g1, rfl, rfl⟩)
        | (refine c_Vi 29 (ci := 8) dX8_number_26 (k_X8_takes_0 G hr htw h ht) lm_X8_109 zi_yX8_takes zs_yX8_takes rfl rfl (by decide) rfl rfl rfl (Nat.le_of_ble_eq_true rfl) (Nat.le_of_ble_eq_true rfl) (Nat.le_of_ble_eq_true rfl) (by exact Nat.le_refl _) (by exact Nat.le_refl _) ?_
           rintro x1 u1 _ _ ⟨hx1, s1, g1, rfl, rfl⟩
           refine e_ireturn .int dX8_number_29 rfl rfl ?_
           first
             | exact ⟨_, rfl, hx1.trans ((h.2.1.2.2.2.1 hK).trans (congrArg nI (iteP hc).symm)), by rw [show zNx t l9 P9 (.ok b) = .ok (zTkE t b) from iteP hc]; exact s1, g1, rfl, rfl⟩
             | exact ⟨_, rfl, hx1.trans (congrArg nI (iteN hc).symm), by rw [show zNx t l9 P9 (.ok b) = .error (zTkA t b) from iteN hc]; exact s1, g1, rfl, rfl⟩)

set_option maxHeartbeats 4000000 in
set_option maxRecDepth 100000 in
theorem k_X8_number (G : zG) {D E : Nat} {t : zTx} {mi : zFi} {ml : zFl} {mr : zFr} (hr : zRf mr D E) (htw : zTxW t) {r : Except Nat Nat} (h : zSq mi t r) (ht : zYt mi t) {lo hi : Int32} {l9 P9 : Nat} (hP : ∀ n, n ≤ 99 → ((lo ≤ nI n ∧ nI n ≤ hi) ↔ l9 ≤ n ∧ n < P9)) : zMet G 5 yX8_number cX8_number 3 (some .int) [.ref 224, .int lo, .int hi] 238 mi ml mr 238 (zPi fun x u b' c => x = nI (zNv t l9 P9 r) ∧ zSq u t (zNx t l9 P9 r) ∧ zGq zKb u mi ∧ b' = ml ∧ c = mr) := by
  cases r with
  | error p => exact k_X8_number_n G hr htw h
  | ok b => exact k_X8_number_y G hr htw h ht hP

/-- the cells of a draft, what is told -/
def zYdr (u : zFi) (s : zRd) : Prop := (u 224 18 = nI (s.1 0 0) ∧ u 224 19 = nI (s.1 0 1)) ∧ (∀ k, k < 4 → u 230 (5 + k) = nI (s.1 0 (2 + k))) ∧ (∀ j, j < 9 → u 231 (9 + j) = nI (s.1 1 j)) ∧ (∀ w, w < s.1 0 1 → ∀ i, i < 4 → u 232 (20 + 4 * w + i) = nI (s.1 (2 + i) w)) ∧ u 224 20 = nI s.2.1 ∧ u 224 21 = nI s.2.2
/-- what the reading of a text leaves -/
def zFrR (u mi : zFi) : Prop := (∀ q, q ≠ 224 → q ≠ 230 → q ≠ 231 → q ≠ 232 → u q = mi q) ∧ (∀ k, (k < 8 ∨ (12 < k ∧ k < 18) ∨ 21 < k) → u 224 k = mi 224 k) ∧ (∀ k, k < 5 → u 230 k = mi 230 k) ∧ (∀ k, k < 9 → u 231 k = mi 231 k) ∧ ∀ k, k < 20 → u 232 k = mi 232 k
theorem zFrR.r (mi : zFi) : zFrR mi mi := ⟨fun _ _ _ _ _ => rfl, fun _ _ => rfl, fun _ _ => rfl, fun _ _ => rfl, fun _ _ => rfl⟩
theorem zFrR.t {a b c : zFi} (h1 : zFrR a b) (h2 : zFrR b c) : zFrR a c := ⟨fun q x y z w => (h1.1 q x y z w).trans (h2.1 q x y z w), fun k x => (h1.2.1 k x).trans (h2.2.1 k x), fun k x => (h1.2.2.1 k x).trans (h2.2.2.1 k x), fun k x => (h1.2.2.2.1 k x).trans (h2.2.2.2.1 k x), fun k x => (h1.2.2.2.2 k x).trans (h2.2.2.2.2 k x)⟩
theorem zGq.fr {u s : zFi} (h : zGq zKb u s) : zFrR u s := ⟨fun q x _ _ _ => h.1 q x, fun k x => h.2 k (zKb_n (by omega)), fun k _ => congrFun (h.1 230 (by decide)) k, fun k _ => congrFun (h.1 231 (by decide)) k, fun k _ => congrFun (h.1 232 (by decide)) k⟩
theorem zFrR.p224 {u : zFi} {k : Nat} {v : Int32} (hk : 18 ≤ k ∧ k ≤ 21) : zFrR (zp u 224 k v) u := ⟨fun q x _ _ _ => zp_r _ _ _ x, fun j x => zp_k _ _ (by omega), fun j _ => congrFun (zp_r _ _ _ (by decide)) j, fun j _ => congrFun (zp_r _ _ _ (by decide)) j, fun j _ => congrFun (zp_r _ _ _ (by decide)) j⟩
theorem zFrR.p230 {u : zFi} {k : Nat} {v : Int32} (hk : 5 ≤ k) : zFrR (zp u 230 k v) u := ⟨fun q _ x _ _ => zp_r _ _ _ x, fun j _ => congrFun (zp_r _ _ _ (by decide)) j, fun j x => zp_k _ _ (by omega), fun j _ => congrFun (zp_r _ _ _ (by decide)) j, fun j _ => congrFun (zp_r _ _ _ (by decide)) j⟩
theorem zFrR.p231 {u : zFi} {k : Nat} {v : Int32} (hk : 9 ≤ k) : zFrR (zp u 231 k v) u := ⟨fun q _ _ x _ => zp_r _ _ _ x, fun j _ => congrFun (zp_r _ _ _ (by decide)) j, fun j _ => congrFun (zp_r _ _ _ (by decide)) j, fun j x => zp_k _ _ (by omega), fun j _ => congrFun (zp_r _ _ _ (by decide)) j⟩
theorem zFrR.p232 {u : zFi} {k : Nat} {v : Int32} (hk : 20 ≤ k) : zFrR (zp u 232 k v) u := ⟨fun q _ _ _ x => zp_r _ _ _ x, fun j _ => congrFun (zp_r _ _ _ (by decide)) j, fun j _ => congrFun (zp_r _ _ _ (by decide)) j, fun j _ => congrFun (zp_r _ _ _ (by decide)) j, fun j x => zp_k _ _ (by omega)⟩
theorem zFrR.y {u s : zFi} {t : zTx} (h : zFrR u s) (ht : zYt s t) : zYt u t := ⟨by rw [h.2.1 7 (by decide)]; exact ht.1, fun k hk => by rw [h.1 229 (by decide) (by decide) (by decide) (by decide)]; exact ht.2 k hk⟩
theorem zFrR.Y {mi u : zFi} {ml : zFl} {Λ : zLd} {late : Nat} {tr : Int64} {t : zTx} {m : zMo} {im : Nat → Nat × zMo} {l : zLt} {r : zWr} (hW5 : Λ 0 1 ≤ 5) (e : zFrR u mi) (h : zY mi ml Λ late tr t m im l r) : zY u ml Λ late tr t m im l r := by
  obtain ⟨⟨⟨a1, a2⟩, a3, a4, a5⟩, h2, h3, h4, h5, h6, ⟨c1, c2⟩, ⟨d1, d2⟩⟩ := h
  have g : ∀ q, q ≠ 224 → q ≠ 230 → q ≠ 231 → q ≠ 232 → u q = mi q := e.1
  refine ⟨⟨⟨(e.2.1 16 (by decide)).trans a1, (e.2.1 17 (by decide)).trans a2⟩, fun k hk => (e.2.2.1 k (by omega)).trans (a3 k hk), fun j hj => (e.2.2.2.1 j hj).trans (a4 j hj), fun w hw i hi => (e.2.2.2.2 _ (by omega)).trans (a5 w hw i hi)⟩, (e.2.2.1 4 (by decide)).trans h2, h3, e.y h4, ?_, ?_, ⟨(e.2.1 23 (by decide)).trans c1, ?_⟩, ⟨(e.2.1 25 (by decide)).trans d1, ?_⟩⟩
  · rw [g 225 (by decide) (by decide) (by decide) (by decide)]; exact h5
  · unfold zYi; rw [g 227 (by decide) (by decide) (by decide) (by decide), g 228 (by decide) (by decide) (by decide) (by decide)]; exact h6
  · rw [g 233 (by decide) (by decide) (by decide) (by decide)]; exact c2
  · rw [g 234 (by decide) (by decide) (by decide) (by decide)]; exact d2
section ZYDR
variable {u v : zFi} {s : zRd}
theorem zYdr.g (h : zYdr v s) (e : zGq zKb u v) : zYdr u s := ⟨⟨(e.2 18 (zKb_n (by decide))).trans h.1.1, (e.2 19 (zKb_n (by decide))).trans h.1.2⟩, fun k hk => by rw [e.1 230 (by decide)]; exact h.2.1 k hk, fun k hk => by rw [e.1 231 (by decide)]; exact h.2.2.1 k hk, fun w hw i hi => by rw [e.1 232 (by decide)]; exact h.2.2.2.1 w hw i hi, (e.2 20 (zKb_n (by decide))).trans h.2.2.2.2.1, (e.2 21 (zKb_n (by decide))).trans h.2.2.2.2.2⟩
theorem zYdr.f {k x : Nat} (h : zYdr u s) (hk : k < 4) : zYdr (zp u 230 (5 + k) (nI x)) (zSetF s.1 (2 + k) x, s.2) := by
  have e0 : ∀ j, j ≠ 2 + k → zSetF s.1 (2 + k) x 0 j = s.1 0 j := fun j hj => by unfold zSetF; rw [zp_k _ _ hj]
  have e1 : ∀ i j, i ≠ 0 → zSetF s.1 (2 + k) x i j = s.1 i j := fun i j hi => by unfold zSetF; rw [zp_r _ _ _ hi]
  refine ⟨⟨?_, ?_⟩, fun j hj => ?_, fun j hj => ?_, fun w hw i hi => ?_, ?_, ?_⟩
  · rw [zp_r _ _ _ (by decide)]; exact h.1.1.trans (congrArg nI (e0 0 (by omega)).symm)
  · rw [zp_r _ _ _ (by decide)]; exact h.1.2.trans (congrArg nI (e0 1 (by omega)).symm)
  · show _ = nI (zSetF s.1 (2 + k) x 0 (2 + j))
    by_cases q : j = k
    · rw [q, zp_s]; unfold zSetF; rw [zp_s]
    · rw [zp_k _ _ (by omega), e0 _ (by omega)]; exact h.2.1 j hj
  · rw [zp_r _ _ _ (by decide)]; exact (h.2.2.1 j hj).trans (congrArg nI (e1 1 j (by decide)).symm)
  · have hw9 : w < s.1 0 1 := by
      have : w < zSetF s.1 (2 + k) x 0 1 := hw
      rw [e0 1 (by omega)] at this
      exact this
    rw [zp_r _ _ _ (by decide)]; exact (h.2.2.2.1 w hw9 i hi).trans (congrArg nI (e1 (2 + i) w (by omega)).symm)
  · rw [zp_r _ _ _ (by decide)]; exact h.2.2.2.2.1
  · rw [zp_r _ _ _ (by decide)]; exact h.2.2.2.2.2
theorem zYdr.p18 (h : zYdr u s) {x : Nat} : zYdr (zp u 224 18 (nI x)) (zSetF s.1 0 x, s.2) := by
  have e0 : ∀ j, j ≠ 0 → zSetF s.1 0 x 0 j = s.1 0 j := fun j hj => by unfold zSetF; rw [zp_k _ _ hj]
  have e1 : ∀ i j, i ≠ 0 → zSetF s.1 0 x i j = s.1 i j := fun i j hi => by unfold zSetF; rw [zp_r _ _ _ hi]
  refine ⟨⟨?_, ?_⟩, fun j hj => ?_, fun j hj => ?_, fun w hw i hi => ?_, ?_, ?_⟩
  · show _ = nI (zSetF s.1 0 x 0 0)
    unfold zSetF
    rw [zp_s, zp_s]
  · rw [zp_k _ _ (by decide)]; exact h.1.2.trans (congrArg nI (e0 1 (by omega)).symm)
  · rw [zp_r _ _ _ (by decide)]; exact (h.2.1 j hj).trans (congrArg nI (e0 _ (by omega)).symm)
  · rw [zp_r _ _ _ (by decide)]; exact (h.2.2.1 j hj).trans (congrArg nI (e1 1 j (by decide)).symm)
  · have hw9 : w < s.1 0 1 := by
      have : w < zSetF s.1 0 x 0 1 := hw
      rw [e0 1 (by omega)] at this
      exact this
    rw [zp_r _ _ _ (by decide)]; exact (h.2.2.2.1 w hw9 i hi).trans (congrArg nI (e1 (2 + i) w (by omega)).symm)
  · rw [zp_k _ _ (by decide)]; exact h.2.2.2.2.1
  · rw [zp_k _ _ (by decide)]; exact h.2.2.2.2.2
theorem zYdr.t20 (h : zYdr u s) : zYdr (zp u 224 20 (nI 1)) (s.1, 1, s.2.2) := ⟨⟨(zp_k _ _ (by decide)).trans h.1.1, (zp_k _ _ (by decide)).trans h.1.2⟩, fun j hj => (congrFun (zp_r _ _ _ (by decide)) _).trans (h.2.1 j hj), fun j hj => (congrFun (zp_r _ _ _ (by decide)) _).trans (h.2.2.1 j hj), fun w hw i hi => (congrFun (zp_r _ _ _ (by decide)) _).trans (h.2.2.2.1 w hw i hi), zp_s _ _ _ _, (zp_k _ _ (by decide)).trans h.2.2.2.2.2⟩
theorem zYdr.t21 (h : zYdr u s) : zYdr (zp u 224 21 (nI 1)) (s.1, s.2.1, 1) := ⟨⟨(zp_k _ _ (by decide)).trans h.1.1, (zp_k _ _ (by decide)).trans h.1.2⟩, fun j hj => (congrFun (zp_r _ _ _ (by decide)) _).trans (h.2.1 j hj), fun j hj => (congrFun (zp_r _ _ _ (by decide)) _).trans (h.2.2.1 j hj), fun w hw i hi => (congrFun (zp_r _ _ _ (by decide)) _).trans (h.2.2.2.1 w hw i hi), (zp_k _ _ (by decide)).trans h.2.2.2.2.1, zp_s _ _ _ _⟩
theorem zYdr.far {k : Nat} {x : Int32} (h : zYdr u s) (hk : 20 + 4 * s.1 0 1 ≤ k) : zYdr (zp u 232 k x) s := ⟨⟨(congrFun (zp_r _ _ _ (by decide)) _).trans h.1.1, (congrFun (zp_r _ _ _ (by decide)) _).trans h.1.2⟩, fun j hj => (congrFun (zp_r _ _ _ (by decide)) _).trans (h.2.1 j hj), fun j hj => (congrFun (zp_r _ _ _ (by decide)) _).trans (h.2.2.1 j hj), fun w hw i hi => (zp_k _ _ (by omega)).trans (h.2.2.2.1 w hw i hi), (congrFun (zp_r _ _ _ (by decide)) _).trans h.2.2.2.2.1, (congrFun (zp_r _ _ _ (by decide)) _).trans h.2.2.2.2.2⟩
theorem zYdr.n {x y g : Nat} (h : zYdr u s) (hx : x < 3) (hy : y < 3) : zYdr (zp (zp u 231 (9 + 3 * x + y) (nI g)) 231 (9 + 3 * y + x) (nI g)) (zSetN s.1 x y g, s.2) := by
  have e1 : ∀ i j, i ≠ 1 → zSetN s.1 x y g i j = s.1 i j := fun i j hi => by unfold zSetN; rw [zp_r _ _ _ hi, zp_r _ _ _ hi]
  have e2 : ∀ q, q ≠ 231 → zp (zp u 231 (9 + 3 * x + y) (nI g)) 231 (9 + 3 * y + x) (nI g) q = u q := fun q hq => by rw [zp_r _ _ _ hq, zp_r _ _ _ hq]
  refine ⟨⟨?_, ?_⟩, fun j hj => ?_, fun j hj => ?_, fun w hw i hi => ?_, ?_, ?_⟩
  · rw [e2 224 (by decide)]; exact h.1.1.trans (congrArg nI (e1 0 0 (by decide)).symm)
  · rw [e2 224 (by decide)]; exact h.1.2.trans (congrArg nI (e1 0 1 (by decide)).symm)
  · rw [e2 230 (by decide)]; exact (h.2.1 j hj).trans (congrArg nI (e1 0 _ (by decide)).symm)
  · show _ = nI (zSetN s.1 x y g 1 j)
    unfold zSetN
    by_cases e : j = y * 3 + x
    · subst e
      rw [zp_s, show 9 + (y * 3 + x) = 9 + 3 * y + x by omega, zp_s]
    · rw [zp_k _ _ e, zp_k _ _ (by omega)]
      by_cases e9 : j = x * 3 + y
      · subst e9; rw [zp_s, show 9 + (x * 3 + y) = 9 + 3 * x + y by omega, zp_s]
      · rw [zp_k _ _ e9, zp_k _ _ (by omega)]; exact h.2.2.1 j hj
  · have hw9 : w < s.1 0 1 := by
      have : w < zSetN s.1 x y g 0 1 := hw
      rw [e1 0 1 (by decide)] at this
      exact this
    rw [e2 232 (by decide)]; exact (h.2.2.2.1 w hw9 i hi).trans (congrArg nI (e1 (2 + i) w (by omega)).symm)
  · rw [e2 224 (by decide)]; exact h.2.2.2.2.1
  · rw [e2 224 (by decide)]; exact h.2.2.2.2.2
theorem zYdr.w {x y g pl : Nat} (h : zYdr u s) (h0 : u 232 (20 + 4 * s.1 0 1) = nI x) (h1 : u 232 (20 + 4 * s.1 0 1 + 1) = nI y) (h2 : u 232 (20 + 4 * s.1 0 1 + 2) = nI g) (h3 : u 232 (20 + 4 * s.1 0 1 + 3) = nI pl) : zYdr (zp u 224 19 (nI (s.1 0 1 + 1))) (zAddW s.1 x y g pl, s.2) := by
  have e0 : zAddW s.1 x y g pl 0 1 = s.1 0 1 + 1 := zp_s _ _ _ _
  have e1 : ∀ j, j ≠ 1 → zAddW s.1 x y g pl 0 j = s.1 0 j := fun j hj => by
    unfold zAddW
    rw [zp_k _ _ hj, zp_r _ _ _ (by decide), zp_r _ _ _ (by decide), zp_r _ _ _ (by decide), zp_r _ _ _ (by decide)]
  have e2 : ∀ j, zAddW s.1 x y g pl 1 j = s.1 1 j := fun j => by
    unfold zAddW
    rw [zp_r _ _ _ (by decide), zp_r _ _ _ (by decide), zp_r _ _ _ (by decide), zp_r _ _ _ (by decide), zp_r _ _ _ (by decide)]
  refine ⟨⟨?_, ?_⟩, fun j hj => ?_, fun j hj => ?_, fun w hw i hi => ?_, ?_, ?_⟩
  · rw [zp_k _ _ (by decide)]; exact h.1.1.trans (congrArg nI (e1 0 (by decide)).symm)
  · show _ = nI (zAddW s.1 x y g pl 0 1)
    rw [zp_s, e0]
  · rw [zp_r _ _ _ (by decide)]; exact (h.2.1 j hj).trans (congrArg nI (e1 _ (by omega)).symm)
  · rw [zp_r _ _ _ (by decide)]; exact (h.2.2.1 j hj).trans (congrArg nI (e2 j).symm)
  · have hw9 : w < s.1 0 1 + 1 := by
      have : w < zAddW s.1 x y g pl 0 1 := hw
      rw [e0] at this
      exact this
    rw [zp_r _ _ _ (by decide)]
    show _ = nI (zAddW s.1 x y g pl (2 + i) w)
    unfold zAddW
    have i4 : i = 0 ∨ i = 1 ∨ i = 2 ∨ i = 3 := by omega
    by_cases e : w = s.1 0 1
    · subst e
      rcases i4 with q | q | q | q <;> subst q
      · rw [zp_r _ _ _ (by decide), zp_r _ _ _ (by decide), zp_r _ _ _ (by decide), zp_r _ _ _ (by decide), zp_s]; exact h0
      · rw [zp_r _ _ _ (by decide), zp_r _ _ _ (by decide), zp_r _ _ _ (by decide), zp_s]; exact h1
      · rw [zp_r _ _ _ (by decide), zp_r _ _ _ (by decide), zp_s]; exact h2
      · rw [zp_r _ _ _ (by decide), zp_s]; exact h3
    · have h9 := h.2.2.2.1 w (by omega) i hi
      have g9 : ∀ (r k q : Nat) (v : Nat) (F : zLd), (q ≠ r ∨ w ≠ k) → zp F r k v q w = F q w := fun r k q v F z => by
        rcases z with z | z
        · rw [zp_r _ _ _ z]
        · rw [zp_k _ _ z]
      rw [g9 _ _ _ _ _ (Or.inl (by omega)), g9 _ _ _ _ _ (Or.inr e), g9 _ _ _ _ _ (Or.inr e), g9 _ _ _ _ _ (Or.inr e), g9 _ _ _ _ _ (Or.inr e)]
      exact h9
  · rw [zp_k _ _ (by decide)]; exact h.2.2.2.2.1
  · rw [zp_k _ _ (by decide)]; exact h.2.2.2.2.2
end ZYDR
theorem zDf_1 {u : zFi} {k9 : Nat} (hz : ∀ j, j < k9 → u 231 (9 + j) = nI 0) : ∀ j, j < k9 + 1 → zp u 231 (9 + k9) (nI 0) 231 (9 + j) = nI 0 := fun j hj => by
  by_cases e : j = k9
  · rw [e, zp_s]
  · rw [zp_k _ _ (by omega)]; exact hz j (by omega)
set_option maxHeartbeats 4000000 in
set_option maxRecDepth 100000 in
theorem l_X8_drafts (G : zG) (d : Nat) (Q : zQ) {D E : Nat} {mi : zFi} {ml : zFl} {mr : zFr} (hr : zRf mr D E) : ∀ (k k9 : Nat) (u : zFi), (∀ q, q ≠ 231 → u q = mi q) → (∀ j, j < k9 → u 231 (9 + j) = nI 0) → (∀ j, j < 9 → u 231 j = mi 231 j) → k9 + k = 9 → (∀ u2, (∀ q, q ≠ 231 → u2 q = mi q) → (∀ j, j < 9 → u2 231 (9 + j) = nI 0) → (∀ j, j < 9 → u2 231 j = mi 231 j) → zE G (zRm d 238 238) (zQm G 238 238 Q) yX8_drafts.cls yX8_drafts.name cX8_drafts 2 none 238 57 [.ref 224, .int (nI 9)] [] 238 u2 ml mr) → zE G (zRm d 238 238) (zQm G 238 238 Q) yX8_drafts.cls yX8_drafts.name cX8_drafts 2 none 238 35 [.ref 224, .int (nI k9)] [] 238 u ml mr := by
  intro k
  induction k with
  | zero =>
    intro k9 u hf hz hb h hQ
    refine e_iload_n 36 dX8_drafts_35 rfl rfl ?_
    refine e_bipush 38 hbi_9 dX8_drafts_36 rfl ?_
    refine e_icmp_geN 57 41 dX8_drafts_38 (by decide) rfl (by omega) (by omega) (fun h38 => ?_) (fun h38 => ?_)
    · have e : k9 = 9 := by omega
      subst e
      exact hQ u hf hz hb
    · exact absurd h38 (by omega)
  | succ k ih =>
    intro k9 u hf hz hb h hQ
    refine e_iload_n 36 dX8_drafts_35 rfl rfl ?_
    refine e_bipush 38 hbi_9 dX8_drafts_36 rfl ?_
    refine e_icmp_geN 57 41 dX8_drafts_38 (by decide) rfl (by omega) (by omega) (fun h38 => ?_) (fun h38 => ?_)
    · exact absurd h38 (by omega)
    · refine e_aload_n 42 dX8_drafts_41 rfl rfl ?_
      refine e_getr 45 dX8_drafts_42 lf_X8_29 rfl rfl rfl (by decide) hr.yn ?_
      refine e_bipush 47 hbi_9 dX8_drafts_45 rfl ?_
      refine e_iload_n 48 dX8_drafts_47 rfl rfl ?_
      first | refine e_iaddN 49 dX8_drafts_48 rfl ?_ | refine e_iadd 49 dX8_drafts_48 rfl ?_
      refine e_iconst 50 hic_0 dX8_drafts_49 rfl ?_
      refine e_iast 51 dX8_drafts_50 rfl rfl (by decide) rfl (by show 9 + k9 < 18; omega) ?_
      refine e_iinc 54 dX8_drafts_51 rfl (by decide) rfl (z_inc hii_1) (zst1_1 rfl) ?_
      refine e_goto 35 dX8_drafts_54 (by decide) ?_
      refine ih (k9 + 1) _ (fun q hq => (zp_r _ _ _ hq).trans (hf q hq)) (fun j hj => zDf_1 hz j hj) (fun j hj => (zp_k _ _ (by omega)).trans (hb j hj)) (by omega) hQ
theorem zDf_2 {mi u2 : zFi} (a1 : ∀ q, q ≠ 231 → u2 q = (zp (zp (zp (zp mi 230 5 (nI 6)) 230 6 (nI 3)) 230 7 (nI 5)) 230 8 (nI 20)) q) (a2 : ∀ j, j < 9 → u2 231 (9 + j) = nI 0) (a3 : ∀ j, j < 9 → u2 231 j = (zp (zp (zp (zp mi 230 5 (nI 6)) 230 6 (nI 3)) 230 7 (nI 5)) 230 8 (nI 20)) 231 j) : zYdr (zp (zp (zp (zp u2 224 18 (nI 0)) 224 19 (nI 0)) 224 20 (nI 0)) 224 21 (nI 0)) zRd0 ∧ zFrR (zp (zp (zp (zp u2 224 18 (nI 0)) 224 19 (nI 0)) 224 20 (nI 0)) 224 21 (nI 0)) mi ∧ ∀ k, 8 ≤ k → k ≤ 12 → (zp (zp (zp (zp u2 224 18 (nI 0)) 224 19 (nI 0)) 224 20 (nI 0)) 224 21 (nI 0)) 224 k = mi 224 k := by
  have e4 : ∀ q, q ≠ 224 → (zp (zp (zp (zp u2 224 18 (nI 0)) 224 19 (nI 0)) 224 20 (nI 0)) 224 21 (nI 0)) q = u2 q := fun q hq => by rw [zp_r _ _ _ hq, zp_r _ _ _ hq, zp_r _ _ _ hq, zp_r _ _ _ hq]
  have e5 : ∀ q, q ≠ 230 → (zp (zp (zp (zp mi 230 5 (nI 6)) 230 6 (nI 3)) 230 7 (nI 5)) 230 8 (nI 20)) q = mi q := fun q hq => by rw [zp_r _ _ _ hq, zp_r _ _ _ hq, zp_r _ _ _ hq, zp_r _ _ _ hq]
  refine ⟨⟨⟨?_, ?_⟩, fun k hk => ?_, fun j hj => ?_, fun w hw => absurd hw (Nat.not_lt_zero _), ?_, zp_s _ _ _ _⟩, ⟨fun q k1 k2 k3 k4 => ?_, fun k hk => ?_, fun k hk => ?_, fun k hk => ?_, fun k hk => ?_⟩, fun k g1 g2 => ?_⟩
  · rw [zp_k _ _ (by decide), zp_k _ _ (by decide), zp_k _ _ (by decide), zp_s]; rfl
  · rw [zp_k _ _ (by decide), zp_k _ _ (by decide), zp_s]; rfl
  · rw [e4 230 (by decide), a1 230 (by decide)]
    have h4 : k = 0 ∨ k = 1 ∨ k = 2 ∨ k = 3 := by omega
    rcases h4 with q | q | q | q <;> subst q
    · rw [zp_k _ _ (by decide), zp_k _ _ (by decide), zp_k _ _ (by decide), zp_s]; rfl
    · rw [zp_k _ _ (by decide), zp_k _ _ (by decide), zp_s]; rfl
    · rw [zp_k _ _ (by decide), zp_s]; rfl
    · rw [zp_s]; rfl
  · rw [e4 231 (by decide)]; exact a2 j hj
  · rw [zp_k _ _ (by decide), zp_s]; rfl
  · rw [e4 q k1, a1 q k3, e5 q k2]
  · rw [zp_k _ _ (by omega), zp_k _ _ (by omega), zp_k _ _ (by omega), zp_k _ _ (by omega), a1 224 (by decide), e5 224 (by decide)]
  · rw [e4 230 (by decide), a1 230 (by decide), zp_k _ _ (by omega), zp_k _ _ (by omega), zp_k _ _ (by omega), zp_k _ _ (by omega)]
  · rw [e4 231 (by decide), a3 k hk, e5 231 (by decide)]
  · rw [e4 232 (by decide), a1 232 (by decide), e5 232 (by decide)]
  · rw [zp_k _ _ (by omega), zp_k _ _ (by omega), zp_k _ _ (by omega), zp_k _ _ (by omega), a1 224 (by decide), e5 224 (by decide)]
set_option maxHeartbeats 4000000 in
set_option maxRecDepth 100000 in
theorem k_X8_drafts (G : zG) {D E : Nat} {mi : zFi} {ml : zFl} {mr : zFr} (hr : zRf mr D E) : zMet G 0 yX8_drafts cX8_drafts 2 none [.ref 224] 238 mi ml mr 238 (zPv fun u b c => (zYdr u zRd0 ∧ zFrR u mi ∧ ∀ k, 8 ≤ k → k ≤ 12 → u 224 k = mi 224 k) ∧ b = ml ∧ c = mr) := by
  refine z_intro ([.ref 224, zx]) (by decide) rfl (Nat.le_of_ble_eq_true rfl) ?_
  refine e_aload_n 1 dX8_drafts_0 rfl rfl ?_
  refine e_getr 4 dX8_drafts_1 lf_X8_26 rfl rfl rfl (by decide) hr.yl ?_
  refine e_iconst 5 hic_5 dX8_drafts_4 rfl ?_
  refine e_bipush 7 hbi_6 dX8_drafts_5 rfl ?_
  refine e_iast 8 dX8_drafts_7 rfl rfl (by decide) rfl (by show 5 < 10; decide) ?_
  refine e_aload_n 9 dX8_drafts_8 rfl rfl ?_
  refine e_getr 12 dX8_drafts_9 lf_X8_26 rfl rfl rfl (by decide) hr.yl ?_
  refine e_bipush 14 hbi_6 dX8_drafts_12 rfl ?_
  refine e_iconst 15 hic_3 dX8_drafts_14 rfl ?_
  refine e_iast 16 dX8_drafts_15 rfl rfl (by decide) rfl (by show 6 < 10; decide) ?_
  refine e_aload_n 17 dX8_drafts_16 rfl rfl ?_
  refine e_getr 20 dX8_drafts_17 lf_X8_26 rfl rfl rfl (by decide) hr.yl ?_
  refine e_bipush 22 hbi_7 dX8_drafts_20 rfl ?_
  refine e_iconst 23 hic_5 dX8_drafts_22 rfl ?_
  refine e_iast 24 dX8_drafts_23 rfl rfl (by decide) rfl (by show 7 < 10; decide) ?_
  refine e_aload_n 25 dX8_drafts_24 rfl rfl ?_
  refine e_getr 28 dX8_drafts_25 lf_X8_26 rfl rfl rfl (by decide) hr.yl ?_
  refine e_bipush 30 hbi_8 dX8_drafts_28 rfl ?_
  refine e_bipush 32 hbi_20 dX8_drafts_30 rfl ?_
  refine e_iast 33 dX8_drafts_32 rfl rfl (by decide) rfl (by show 8 < 10; decide) ?_
  refine e_iconst 34 hic_0 dX8_drafts_33 rfl ?_
  refine e_istore_n 35 dX8_drafts_34 rfl (by decide) (zst1_1 rfl) ?_
  refine l_X8_drafts G 0 _ hr 9 0 _ (fun _ _ => rfl) (fun j hj => absurd hj (Nat.not_lt_zero _)) (fun _ _ => rfl) rfl (fun u2 a1 a2 a3 => ?_)
  refine e_aload_n 58 dX8_drafts_57 rfl rfl ?_
  refine e_iconst 59 hic_0 dX8_drafts_58 rfl ?_
  refine e_puti 62 dX8_drafts_59 lf_X8_113 rfl rfl rfl rfl rfl (by decide) ?_
  refine e_aload_n 63 dX8_drafts_62 rfl rfl ?_
  refine e_iconst 64 hic_0 dX8_drafts_63 rfl ?_
  refine e_puti 67 dX8_drafts_64 lf_X8_116 rfl rfl rfl rfl rfl (by decide) ?_
  refine e_aload_n 68 dX8_drafts_67 rfl rfl ?_
  refine e_iconst 69 hic_0 dX8_drafts_68 rfl ?_
  refine e_puti 72 dX8_drafts_69 lf_X8_119 rfl rfl rfl rfl rfl (by decide) ?_
  refine e_aload_n 73 dX8_drafts_72 rfl rfl ?_
  refine e_iconst 74 hic_0 dX8_drafts_73 rfl ?_
  refine e_puti 77 dX8_drafts_74 lf_X8_123 rfl rfl rfl rfl rfl (by decide) ?_
  refine e_vreturn dX8_drafts_77 rfl ?_
  exact ⟨rfl, zDf_2 a1 a2 a3, rfl, rfl⟩

def zMayP (s : zRd) (k : Nat) : Prop := (k = 0 ∧ s.1 0 0 < 3) ∨ k = 1 ∨ (k = 2 ∧ s.2.1 = 0) ∨ (k = 3 ∧ s.2.2 = 0) ∨ (k = 4 ∧ s.1 0 1 < 5)
set_option maxHeartbeats 4000000 in
set_option maxRecDepth 100000 in
theorem k_X8_mayBegin (G : zG) {D E : Nat} {mi : zFi} {ml : zFl} {mr : zFr} (hr : zRf mr D E) {s : zRd} (h : zYdr mi s) (hw : zRdW s) {k : Nat} (hk : k < 6) : zMet G 0 yX8_mayBegin cX8_mayBegin 2 (some .boolean) [.ref 224, .int (nI k)] 238 mi ml mr 238 (zPi fun x u b c => ((x = nI 1 ∧ zMayP s k) ∨ (x = nI 0 ∧ ¬ zMayP s k)) ∧ u = mi ∧ b = ml ∧ c = mr) := by
  have w1 := hw.1.1
  have w2 := hw.2
  refine z_intro ([.ref 224, .int (nI k)]) (by decide) rfl (Nat.le_of_ble_eq_true rfl) ?_
  refine e_iload_n 1 dX8_mayBegin_0 rfl rfl ?_
  refine e_if_neN 20 4 dX8_mayBegin_1 (by decide) rfl (by omega) (fun h1 => ?_) (fun h1 => ?_)
  · refine e_iload_n 21 dX8_mayBegin_20 rfl rfl ?_
    refine e_iconst 22 hic_2 dX8_mayBegin_21 rfl ?_
    refine e_icmp_neN 40 25 dX8_mayBegin_22 (by decide) rfl (by omega) (by omega) (fun h22 => ?_) (fun h22 => ?_)
    · refine e_iload_n 41 dX8_mayBegin_40 rfl rfl ?_
      refine e_iconst 42 hic_3 dX8_mayBegin_41 rfl ?_
      refine e_icmp_neN 60 45 dX8_mayBegin_42 (by decide) rfl (by omega) (by omega) (fun h42 => ?_) (fun h42 => ?_)
      · refine e_iload_n 61 dX8_mayBegin_60 rfl rfl ?_
        refine e_iconst 62 hic_4 dX8_mayBegin_61 rfl ?_
        refine e_icmp_neN 81 65 dX8_mayBegin_62 (by decide) rfl (by omega) (by omega) (fun h62 => ?_) (fun h62 => ?_)
        · refine e_iload_n 82 dX8_mayBegin_81 rfl rfl ?_
          refine e_iconst 83 hic_1 dX8_mayBegin_82 rfl ?_
          refine e_icmp_neN 90 86 dX8_mayBegin_83 (by decide) rfl (by omega) (by omega) (fun h83 => ?_) (fun h83 => ?_)
          · refine e_iconst 91 hic_0 dX8_mayBegin_90 rfl ?_
            refine e_ireturn .boolean dX8_mayBegin_91 rfl rfl ?_
            first | exact ⟨_, rfl, Or.inl ⟨rfl, by unfold zMayP; omega⟩, rfl, rfl, rfl⟩ | exact ⟨_, rfl, Or.inr ⟨rfl, by unfold zMayP; omega⟩, rfl, rfl, rfl⟩
          · refine e_iconst 87 hic_1 dX8_mayBegin_86 rfl ?_
            refine e_goto 91 dX8_mayBegin_87 (by decide) ?_
            refine e_ireturn .boolean dX8_mayBegin_91 rfl rfl ?_
            first | exact ⟨_, rfl, Or.inl ⟨rfl, by unfold zMayP; omega⟩, rfl, rfl, rfl⟩ | exact ⟨_, rfl, Or.inr ⟨rfl, by unfold zMayP; omega⟩, rfl, rfl, rfl⟩
        · refine e_aload_n 66 dX8_mayBegin_65 rfl rfl ?_
          refine e_geti 69 dX8_mayBegin_66 lf_X8_116 rfl rfl rfl (by decide) h.1.2 ?_
          refine e_iconst 70 hic_5 dX8_mayBegin_69 rfl ?_
          refine e_icmp_geN 77 73 dX8_mayBegin_70 (by decide) rfl (by omega) (by omega) (fun h70 => ?_) (fun h70 => ?_)
          · refine e_iconst 78 hic_0 dX8_mayBegin_77 rfl ?_
            refine e_goto 91 dX8_mayBegin_78 (by decide) ?_
            refine e_ireturn .boolean dX8_mayBegin_91 rfl rfl ?_
            first | exact ⟨_, rfl, Or.inl ⟨rfl, by unfold zMayP; omega⟩, rfl, rfl, rfl⟩ | exact ⟨_, rfl, Or.inr ⟨rfl, by unfold zMayP; omega⟩, rfl, rfl, rfl⟩
          · refine e_iconst 74 hic_1 dX8_mayBegin_73 rfl ?_
            refine e_goto 91 dX8_mayBegin_74 (by decide) ?_
            refine e_ireturn .boolean dX8_mayBegin_91 rfl rfl ?_
            first | exact ⟨_, rfl, Or.inl ⟨rfl, by unfold zMayP; omega⟩, rfl, rfl, rfl⟩ | exact ⟨_, rfl, Or.inr ⟨rfl, by unfold zMayP; omega⟩, rfl, rfl, rfl⟩
      · refine e_aload_n 46 dX8_mayBegin_45 rfl rfl ?_
        refine e_geti 49 dX8_mayBegin_46 lf_X8_123 rfl rfl rfl (by decide) h.2.2.2.2.2 ?_
        refine e_if_neN 56 52 dX8_mayBegin_49 (by decide) rfl (by omega) (fun h49 => ?_) (fun h49 => ?_)
        · refine e_iconst 57 hic_0 dX8_mayBegin_56 rfl ?_
          refine e_goto 91 dX8_mayBegin_57 (by decide) ?_
          refine e_ireturn .boolean dX8_mayBegin_91 rfl rfl ?_
          first | exact ⟨_, rfl, Or.inl ⟨rfl, by unfold zMayP; omega⟩, rfl, rfl, rfl⟩ | exact ⟨_, rfl, Or.inr ⟨rfl, by unfold zMayP; omega⟩, rfl, rfl, rfl⟩
        · refine e_iconst 53 hic_1 dX8_mayBegin_52 rfl ?_
          refine e_goto 91 dX8_mayBegin_53 (by decide) ?_
          refine e_ireturn .boolean dX8_mayBegin_91 rfl rfl ?_
          first | exact ⟨_, rfl, Or.inl ⟨rfl, by unfold zMayP; omega⟩, rfl, rfl, rfl⟩ | exact ⟨_, rfl, Or.inr ⟨rfl, by unfold zMayP; omega⟩, rfl, rfl, rfl⟩
    · refine e_aload_n 26 dX8_mayBegin_25 rfl rfl ?_
      refine e_geti 29 dX8_mayBegin_26 lf_X8_119 rfl rfl rfl (by decide) h.2.2.2.2.1 ?_
      refine e_if_neN 36 32 dX8_mayBegin_29 (by decide) rfl (by omega) (fun h29 => ?_) (fun h29 => ?_)
      · refine e_iconst 37 hic_0 dX8_mayBegin_36 rfl ?_
        refine e_goto 91 dX8_mayBegin_37 (by decide) ?_
        refine e_ireturn .boolean dX8_mayBegin_91 rfl rfl ?_
        first | exact ⟨_, rfl, Or.inl ⟨rfl, by unfold zMayP; omega⟩, rfl, rfl, rfl⟩ | exact ⟨_, rfl, Or.inr ⟨rfl, by unfold zMayP; omega⟩, rfl, rfl, rfl⟩
      · refine e_iconst 33 hic_1 dX8_mayBegin_32 rfl ?_
        refine e_goto 91 dX8_mayBegin_33 (by decide) ?_
        refine e_ireturn .boolean dX8_mayBegin_91 rfl rfl ?_
        first | exact ⟨_, rfl, Or.inl ⟨rfl, by unfold zMayP; omega⟩, rfl, rfl, rfl⟩ | exact ⟨_, rfl, Or.inr ⟨rfl, by unfold zMayP; omega⟩, rfl, rfl, rfl⟩
  · refine e_aload_n 5 dX8_mayBegin_4 rfl rfl ?_
    refine e_geti 8 dX8_mayBegin_5 lf_X8_113 rfl rfl rfl (by decide) h.1.1 ?_
    refine e_iconst 9 hic_3 dX8_mayBegin_8 rfl ?_
    refine e_icmp_geN 16 12 dX8_mayBegin_9 (by decide) rfl (by omega) (by omega) (fun h9 => ?_) (fun h9 => ?_)
    · refine e_iconst 17 hic_0 dX8_mayBegin_16 rfl ?_
      refine e_goto 91 dX8_mayBegin_17 (by decide) ?_
      refine e_ireturn .boolean dX8_mayBegin_91 rfl rfl ?_
      first | exact ⟨_, rfl, Or.inl ⟨rfl, by unfold zMayP; omega⟩, rfl, rfl, rfl⟩ | exact ⟨_, rfl, Or.inr ⟨rfl, by unfold zMayP; omega⟩, rfl, rfl, rfl⟩
    · refine e_iconst 13 hic_1 dX8_mayBegin_12 rfl ?_
      refine e_goto 91 dX8_mayBegin_13 (by decide) ?_
      refine e_ireturn .boolean dX8_mayBegin_91 rfl rfl ?_
      first | exact ⟨_, rfl, Or.inl ⟨rfl, by unfold zMayP; omega⟩, rfl, rfl, rfl⟩ | exact ⟨_, rfl, Or.inr ⟨rfl, by unfold zMayP; omega⟩, rfl, rfl, rfl⟩

