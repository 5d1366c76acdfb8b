/-- a land of nothing -/
def zL0 : zLd := fun i k => if i = 0 then [0, 0, 6, 3, 5, 20].getD k 0 else 0
theorem zL0_W : zLandW zL0 := ⟨by decide, fun j _ => Nat.zero_le _, fun w hw => absurd hw (Nat.not_lt_zero _)⟩
/-- a number of the land told -/
def zSetF (Λ : zLd) (k v : Nat) : zLd := zp Λ 0 k v
def zSetN (Λ : zLd) (x y v : Nat) : zLd := zp (zp Λ 1 (x * 3 + y) v) 1 (y * 3 + x) v
def zAddW (Λ : zLd) (x y h pl : Nat) : zLd := zp (zp (zp (zp (zp Λ 2 (Λ 0 1) x) 3 (Λ 0 1) y) 4 (Λ 0 1) h) 5 (Λ 0 1) pl) 0 1 (Λ 0 1 + 1)
theorem zSetF_R {mi : zFi} {D : Nat} {Λ : zLd} {k v : Nat} (h : zLandR mi D Λ) (hk : k ≠ 1) : zLandR (zp mi D k (nI v)) D (zSetF Λ k v) := by
  have e1 : ∀ i j, i ≠ 0 → zSetF Λ k v i j = Λ i j := fun i j hi => by unfold zSetF; rw [zp_r _ _ _ hi]
  refine ⟨fun j hj => ?_, fun j hj => ?_, fun w hw => ?_⟩
  · unfold zSetF
    by_cases e : j = k
    · subst e; rw [zp_s, zp_s]
    · rw [zp_k _ _ e, zp_k _ _ e]; exact h.1 j hj
  · rw [zp_r _ _ _ (by omega), e1 _ _ (by decide)]; exact h.2.1 j hj
  · have hw9 : w < Λ 0 1 := by unfold zSetF at hw; rw [zp_k _ _ (Ne.symm hk)] at hw; exact hw
    rw [zp_r _ _ _ (by omega), zp_r _ _ _ (by omega), zp_r _ _ _ (by omega), zp_r _ _ _ (by omega), e1 _ _ (by decide), e1 _ _ (by decide), e1 _ _ (by decide), e1 _ _ (by decide)]
    exact h.2.2 w hw9
theorem zSetN_R {mi : zFi} {D : Nat} {Λ : zLd} {x y v : Nat} (h : zLandR mi D Λ) : zLandR (zp (zp mi (D + 1) (x * 3 + y) (nI v)) (D + 1) (y * 3 + x) (nI v)) D (zSetN Λ x y v) := by
  have e1 : ∀ i j, i ≠ 1 → zSetN Λ x y v i j = Λ i j := fun i j hi => by unfold zSetN; rw [zp_r _ _ _ hi, zp_r _ _ _ hi]
  have e2 : ∀ q, q ≠ D + 1 → zp (zp mi (D + 1) (x * 3 + y) (nI v)) (D + 1) (y * 3 + x) (nI v) q = mi q := fun q hq => by rw [zp_r _ _ _ hq, zp_r _ _ _ hq]
  refine ⟨fun j hj => ?_, fun j hj => ?_, fun w hw => ?_⟩
  · rw [e2 _ (by omega), e1 _ _ (by decide)]; exact h.1 j hj
  · unfold zSetN
    by_cases e : j = y * 3 + x
    · subst e; rw [zp_s, zp_s]
    · rw [zp_k _ _ e, zp_k _ _ e]
      by_cases e9 : j = x * 3 + y
      · subst e9; rw [zp_s, zp_s]
      · rw [zp_k _ _ e9, zp_k _ _ e9]; exact h.2.1 j hj
  · rw [e1 _ _ (by decide)] at hw
    rw [e2 _ (by omega), e2 _ (by omega), e2 _ (by omega), e2 _ (by omega), e1 _ _ (by decide), e1 _ _ (by decide), e1 _ _ (by decide), e1 _ _ (by decide)]
    exact h.2.2 w hw
theorem zAddW_R {mi : zFi} {D : Nat} {Λ : zLd} {x y g pl : Nat} (h : zLandR mi D Λ) : zLandR (zp (zp (zp (zp (zp mi (D + 2) (Λ 0 1) (nI x)) (D + 3) (Λ 0 1) (nI y)) (D + 4) (Λ 0 1) (nI g)) (D + 5) (Λ 0 1) (nI pl)) D 1 (nI (Λ 0 1 + 1))) D (zAddW Λ x y g pl) := by
  refine ⟨fun j hj => ?_, fun j hj => ?_, fun w hw => ?_⟩
  · unfold zAddW
    by_cases e : j = 1
    · subst e; rw [zp_s, zp_s]
    · rw [zp_k _ _ e, zp_k _ _ e, zp_r _ _ _ (by omega), zp_r _ _ _ (by omega), zp_r _ _ _ (by omega), zp_r _ _ _ (by omega), zp_r _ _ _ (by decide), zp_r _ _ _ (by decide), zp_r _ _ _ (by decide), zp_r _ _ _ (by decide)]; exact h.1 j hj
  · unfold zAddW
    rw [zp_r _ _ _ (by omega), zp_r _ _ _ (by omega), zp_r _ _ _ (by omega), zp_r _ _ _ (by omega), zp_r _ _ _ (by omega), zp_r _ _ _ (by decide), zp_r _ _ _ (by decide), zp_r _ _ _ (by decide), zp_r _ _ _ (by decide), zp_r _ _ _ (by decide)]; exact h.2.1 j hj
  · have e0 : zAddW Λ x y g pl 0 1 = Λ 0 1 + 1 := zp_s _ _ _ _
    rw [e0] at hw
    unfold zAddW
    by_cases e : w = Λ 0 1
    · subst e
      refine ⟨?_, ?_, ?_, ?_⟩
      · rw [zp_r _ _ _ (by omega), zp_r _ _ _ (by omega), zp_r _ _ _ (by omega), zp_r _ _ _ (by omega), zp_s, zp_r _ _ _ (by decide), zp_r _ _ _ (by decide), zp_r _ _ _ (by decide), zp_r _ _ _ (by decide), zp_s]
      · rw [zp_r _ _ _ (by omega), zp_r _ _ _ (by omega), zp_r _ _ _ (by omega), zp_s, zp_r _ _ _ (by decide), zp_r _ _ _ (by decide), zp_r _ _ _ (by decide), zp_s]
      · rw [zp_r _ _ _ (by omega), zp_r _ _ _ (by omega), zp_s, zp_r _ _ _ (by decide), zp_r _ _ _ (by decide), zp_s]
      · rw [zp_r _ _ _ (by omega), zp_s, zp_r _ _ _ (by decide), zp_s]
    · have h9 := h.2.2 w (by omega)
      have g : ∀ (r k q : Nat) (v : Nat) (F : zLd), (q ≠ r ∨ w ≠ k) → zp F r k v q w = F q w := fun r k q v F z => by
        rcases z with z | z
        · rw [zp_r _ _ _ z]
        · rw [zp_k _ _ z]
      have gi : ∀ (r k q : Nat) (v : Int32) (F : zFi), (q ≠ r ∨ w ≠ k) → zp F r k v q w = F q w := fun r k q v F z => by
        rcases z with z | z
        · rw [zp_r _ _ _ z]
        · rw [zp_k _ _ z]
      refine ⟨?_, ?_, ?_, ?_⟩ <;> rw [gi _ _ _ _ _ (Or.inl (by omega)), gi _ _ _ _ _ (Or.inr e), gi _ _ _ _ _ (Or.inr e), gi _ _ _ _ _ (Or.inr e), gi _ _ _ _ _ (Or.inr e), g _ _ _ _ _ (Or.inl (by decide)), g _ _ _ _ _ (Or.inr e), g _ _ _ _ _ (Or.inr e), g _ _ _ _ _ (Or.inr e), g _ _ _ _ _ (Or.inr e)]
      · exact h9.1
      · exact h9.2.1
      · exact h9.2.2.1
      · exact h9.2.2.2
theorem zSetF_W {Λ : zLd} {k v : Nat} (h : zLandW Λ) (hk : (k = 0 ∧ v = Λ 0 0 + 1 ∧ Λ 0 0 < 3) ∨ ((k = 2 ∨ k = 3 ∨ k = 4) ∧ v ≤ 9) ∨ (k = 5 ∧ 1 ≤ v ∧ v ≤ 99)) : zLandW (zSetF Λ k v) := by
  obtain ⟨⟨a0, a1, a2, a3, a4, a5, a6⟩, b, c⟩ := h
  have e0 : ∀ j, zSetF Λ k v 0 j = if j = k then v else Λ 0 j := fun j => by
    unfold zSetF
    rw [zp_row]
    rfl
  have e1 : ∀ i j, i ≠ 0 → zSetF Λ k v i j = Λ i j := fun i j hi => by unfold zSetF; rw [zp_r _ _ _ hi]
  refine ⟨?_, fun j hj => by rw [e1 _ _ (by decide)]; exact b j hj, fun w hw => ?_⟩
  · rw [e0, e0, e0, e0, e0, e0]
    rcases hk with ⟨q, hv⟩ | ⟨q | q | q, hv⟩ | ⟨q, hv⟩ <;> subst q <;> simp <;> omega
  · rw [e0] at hw
    have hw9 : w < Λ 0 1 := by
      rcases hk with ⟨q, hv⟩ | ⟨q | q | q, hv⟩ | ⟨q, hv⟩ <;> subst q <;> simpa using hw
    have c9 := c w hw9
    rw [e1 2 _ (by decide), e1 3 _ (by decide), e1 4 _ (by decide), e1 5 _ (by decide), e0]
    refine ⟨c9.1, c9.2.1, ?_, c9.2.2.2⟩
    split
    · rcases hk with ⟨q, hv⟩ | ⟨q | q | q, hv⟩ | ⟨q, hv⟩ <;> omega
    · exact c9.2.2.1
theorem zSetN_W {Λ : zLd} {x y v : Nat} (h : zLandW Λ) (hv : v ≤ 9) : zLandW (zSetN Λ x y v) := by
  have e1 : ∀ i j, i ≠ 1 → zSetN Λ x y v i j = Λ i j := fun i j hi => by unfold zSetN; rw [zp_r _ _ _ hi, zp_r _ _ _ hi]
  refine ⟨?_, fun j hj => ?_, fun w hw => ?_⟩
  · rw [e1 _ _ (by decide), e1 _ _ (by decide), e1 _ _ (by decide), e1 _ _ (by decide), e1 _ _ (by decide), e1 _ _ (by decide)]; exact h.1
  · unfold zSetN
    by_cases e : j = y * 3 + x
    · subst e; rw [zp_s]; exact hv
    · rw [zp_k _ _ e]
      by_cases e9 : j = x * 3 + y
      · subst e9; rw [zp_s]; exact hv
      · rw [zp_k _ _ e9]; exact h.2.1 j hj
  · rw [e1 _ _ (by decide)] at hw
    rw [e1 _ _ (by decide), e1 _ _ (by decide), e1 _ _ (by decide), e1 _ _ (by decide), e1 _ _ (by decide)]
    exact h.2.2 w hw
theorem zAddW_W {Λ : zLd} {x y g pl : Nat} (h : zLandW Λ) (h5 : Λ 0 1 < 5) (hx : x ≤ 3) (hy : y ≤ 90) (hg : g < Λ 0 0) (hp : pl ≤ 1) : zLandW (zAddW Λ x y g pl) := by
  have e0 : zAddW Λ x y g pl 0 1 = Λ 0 1 + 1 := zp_s _ _ _ _
  have e1 : ∀ j, j ≠ 1 → zAddW Λ x y g pl 0 j = Λ 0 j := fun j hj => by
    unfold zAddW
    rw [zp_k _ _ hj, zp_r _ _ _ (by decide), zp_r _ _ _ (by decide), zp_r _ _ _ (by decide), zp_r _ _ _ (by decide)]
  have e2 : ∀ j, zAddW Λ x y g pl 1 j = Λ 1 j := fun j => by
    unfold zAddW
    rw [zp_r _ _ _ (by decide), zp_r _ _ _ (by decide), zp_r _ _ _ (by decide), zp_r _ _ _ (by decide), zp_r _ _ _ (by decide)]
  refine ⟨?_, fun j hj => by rw [e2]; exact h.2.1 j hj, fun w hw => ?_⟩
  · rw [e0, e1 _ (by decide), e1 _ (by decide), e1 _ (by decide), e1 _ (by decide), e1 _ (by decide)]
    have := h.1
    omega
  · rw [e0] at hw
    rw [e1 0 (by decide)]
    unfold zAddW
    by_cases e : w = Λ 0 1
    · subst e
      refine ⟨?_, ?_, ?_, ?_⟩
      · rw [zp_r _ _ _ (by decide), zp_r _ _ _ (by decide), zp_r _ _ _ (by decide), zp_r _ _ _ (by decide), zp_s]; exact hx
      · rw [zp_r _ _ _ (by decide), zp_r _ _ _ (by decide), zp_r _ _ _ (by decide), zp_s]; exact hy
      · rw [zp_r _ _ _ (by decide), zp_r _ _ _ (by decide), zp_s]; exact hg
      · rw [zp_r _ _ _ (by decide), zp_s]; exact hp
    · have h9 := h.2.2 w (by omega)
      have g : ∀ (r k q : Nat) (v : Nat) (F : zLd), (q ≠ r ∨ w ≠ k) → zp F r k v q w = F q w := fun r k q v F z => by
        rcases z with z | z
        · rw [zp_r _ _ _ z]
        · rw [zp_k _ _ z]
      rw [g _ _ _ _ _ (Or.inl (by decide)), g _ _ _ _ _ (Or.inr e), g _ _ _ _ _ (Or.inr e), g _ _ _ _ _ (Or.inr e), g _ _ _ _ _ (Or.inr e),
        g _ _ _ _ _ (Or.inl (by decide)), g _ _ _ _ _ (Or.inr e), g _ _ _ _ _ (Or.inr e), g _ _ _ _ _ (Or.inr e), g _ _ _ _ _ (Or.inr e),
        g _ _ _ _ _ (Or.inl (by decide)), g _ _ _ _ _ (Or.inr e), g _ _ _ _ _ (Or.inr e), g _ _ _ _ _ (Or.inr e), g _ _ _ _ _ (Or.inr e),
        g _ _ _ _ _ (Or.inl (by decide)), g _ _ _ _ _ (Or.inr e), g _ _ _ _ _ (Or.inr e), g _ _ _ _ _ (Or.inr e), g _ _ _ _ _ (Or.inr e)]
      exact h9
set_option maxHeartbeats 4000000 in
set_option maxRecDepth 100000 in
theorem k_X0_reset (G : zG) {E : Nat} {mi : zFi} {ml : zFl} {mr : zFr} (hD : zLandL mr E) : zMet G 1 yX0_reset cX0_reset 1 none [.ref E] 238 mi ml mr 238 (zPv fun u b c => zLandR u E zL0 ∧ (∀ q, q < E ∨ E + 6 ≤ q → u q = mi q) ∧ b = ml ∧ c = mr) := by
  refine z_intro ([.ref E]) (by decide) rfl (Nat.le_of_ble_eq_true rfl) ?_
  refine e_aload_n 1 dX0_reset_0 rfl rfl ?_
  refine e_iconst 2 hic_0 dX0_reset_1 rfl ?_
  refine e_puti 5 dX0_reset_2 lf_X0_31 rfl rfl rfl rfl hD.k0 hD.l0 ?_
  refine e_aload_n 6 dX0_reset_5 rfl rfl ?_
  refine e_iconst 7 hic_0 dX0_reset_6 rfl ?_
  refine e_puti 10 dX0_reset_7 lf_X0_35 rfl rfl rfl rfl hD.k0 hD.l0 ?_
  refine e_aload_n 11 dX0_reset_10 rfl rfl ?_
  refine e_bipush 13 hbi_6 dX0_reset_11 rfl ?_
  refine e_puti 16 dX0_reset_13 lf_X0_38 rfl rfl rfl rfl hD.k0 hD.l0 ?_
  refine e_aload_n 17 dX0_reset_16 rfl rfl ?_
  refine e_iconst 18 hic_3 dX0_reset_17 rfl ?_
  refine e_puti 21 dX0_reset_18 lf_X0_41 rfl rfl rfl rfl hD.k0 hD.l0 ?_
  refine e_aload_n 22 dX0_reset_21 rfl rfl ?_
  refine e_iconst 23 hic_5 dX0_reset_22 rfl ?_
  refine e_puti 26 dX0_reset_23 lf_X0_44 rfl rfl rfl rfl hD.k0 hD.l0 ?_
  refine e_aload_n 27 dX0_reset_26 rfl rfl ?_
  refine e_bipush 29 hbi_20 dX0_reset_27 rfl ?_
  refine e_puti 32 dX0_reset_29 lf_X0_47 rfl rfl rfl rfl hD.k0 hD.l0 ?_
  refine e_aload_n 33 dX0_reset_32 rfl rfl ?_
  refine e_getr 36 dX0_reset_33 lf_X0_9 rfl rfl hD.k0 hD.l0 hD.r1 ?_
  refine e_iconst 37 hic_0 dX0_reset_36 rfl ?_
  refine c_Sv 40 dX0_reset_37 (k_J7_fillN G hD.k1 (hD.l (j := 1) (by decide))) lm_X0_50 zt_yJ7_fill_53178 rfl rfl rfl (Nat.le_of_ble_eq_true rfl) (Nat.le_of_ble_eq_true rfl) (Nat.le_of_ble_eq_true rfl) (by exact Nat.le_refl _) (by exact Nat.le_refl _) ?_
  rintro a _ _ ⟨o1, z1, rfl, rfl⟩
  refine e_vreturn dX0_reset_40 rfl ?_
  refine ⟨rfl, ⟨fun k hk => ?_, fun j hj => by rw [z1 j (by rw [hD.n1]; exact hj)]; rfl, fun w hw => absurd hw (Nat.not_lt_zero _)⟩, fun q hq => by rw [o1 q (by omega), zp_r _ _ _ (by omega), zp_r _ _ _ (by omega), zp_r _ _ _ (by omega), zp_r _ _ _ (by omega), zp_r _ _ _ (by omega), zp_r _ _ _ (by omega)], rfl, rfl⟩
  rw [o1 E (by omega)]
  have h6 : k = 0 ∨ k = 1 ∨ k = 2 ∨ k = 3 ∨ k = 4 ∨ k = 5 := by omega
  rcases h6 with q | q | q | q | q | q <;> subst q <;> simp [zp, zu] <;> rfl

set_option maxHeartbeats 4000000 in
set_option maxRecDepth 100000 in
theorem k_X0_bringNear (G : zG) {E : Nat} {mi : zFi} {ml : zFl} {mr : zFr} (hD : zLandL mr E) {Λ : zLd} (hΛ : zLandR mi E Λ) {x y v : Nat} (hx : x < 3) (hy : y < 3) : zMet G 0 yX0_bringNear cX0_bringNear 4 none [.ref E, .int (nI x), .int (nI y), .int (nI v)] 238 mi ml mr 238 (zPv fun u b c => zLandR u E (zSetN Λ x y v) ∧ (∀ q, q < E ∨ E + 6 ≤ q → u q = mi q) ∧ b = ml ∧ c = mr) := by
  refine z_intro ([.ref E, .int (nI x), .int (nI y), .int (nI v)]) (by decide) rfl (Nat.le_of_ble_eq_true rfl) ?_
  refine e_aload_n 1 dX0_bringNear_0 rfl rfl ?_
  refine e_getr 4 dX0_bringNear_1 lf_X0_9 rfl rfl hD.k0 hD.l0 hD.r1 ?_
  refine e_iload_n 5 dX0_bringNear_4 rfl rfl ?_
  refine e_iconst 6 hic_3 dX0_bringNear_5 rfl ?_
  first | refine e_imulN 7 dX0_bringNear_6 rfl ?_ | refine e_imul 7 dX0_bringNear_6 rfl ?_
  refine e_iload_n 8 dX0_bringNear_7 rfl rfl ?_
  first | refine e_iaddN 9 dX0_bringNear_8 rfl ?_ | refine e_iadd 9 dX0_bringNear_8 rfl ?_
  refine e_iload_n 10 dX0_bringNear_9 rfl rfl ?_
  refine e_iast 11 dX0_bringNear_10 rfl hD.k1 (hD.l (j := 1) (by decide)) rfl (by rw [hD.n1]; omega) ?_
  refine e_aload_n 12 dX0_bringNear_11 rfl rfl ?_
  refine e_getr 15 dX0_bringNear_12 lf_X0_9 rfl rfl hD.k0 hD.l0 hD.r1 ?_
  refine e_iload_n 16 dX0_bringNear_15 rfl rfl ?_
  refine e_iconst 17 hic_3 dX0_bringNear_16 rfl ?_
  first | refine e_imulN 18 dX0_bringNear_17 rfl ?_ | refine e_imul 18 dX0_bringNear_17 rfl ?_
  refine e_iload_n 19 dX0_bringNear_18 rfl rfl ?_
  first | refine e_iaddN 20 dX0_bringNear_19 rfl ?_ | refine e_iadd 20 dX0_bringNear_19 rfl ?_
  refine e_iload_n 21 dX0_bringNear_20 rfl rfl ?_
  refine e_iast 22 dX0_bringNear_21 rfl hD.k1 (hD.l (j := 1) (by decide)) rfl (by rw [hD.n1]; omega) ?_
  refine e_vreturn dX0_bringNear_22 rfl ?_
  exact ⟨rfl, zSetN_R hΛ, fun q hq => by rw [zp_r _ _ _ (by omega), zp_r _ _ _ (by omega)], rfl, rfl⟩

theorem zNarZ : ∀ k, k ≤ 1 → vp_nar .boolean (nI k) = nI k := by decide +kernel
set_option maxHeartbeats 4000000 in
set_option maxRecDepth 100000 in
theorem k_X0_addWord (G : zG) {E : Nat} {mi : zFi} {ml : zFl} {mr : zFr} (hD : zLandL mr E) {Λ : zLd} (hΛ : zLandR mi E Λ) (h5 : Λ 0 1 < 5) {x y g pl : Nat} (hpl : pl ≤ 1) : zMet G 0 yX0_addWord cX0_addWord 5 none [.ref E, .int (nI x), .int (nI y), .int (nI g), .int (nI pl)] 238 mi ml mr 238 (zPv fun u b c => zLandR u E (zAddW Λ x y g pl) ∧ (∀ q, q < E ∨ E + 6 ≤ q → u q = mi q) ∧ b = ml ∧ c = mr) := by
  refine z_intro ([.ref E, .int (nI x), .int (nI y), .int (nI g), .int (nI pl)]) (by decide) rfl (Nat.le_of_ble_eq_true rfl) ?_
  refine e_aload_n 1 dX0_addWord_0 rfl rfl ?_
  refine e_getr 4 dX0_addWord_1 lf_X0_15 rfl rfl hD.k0 hD.l0 hD.r2 ?_
  refine e_aload_n 5 dX0_addWord_4 rfl rfl ?_
  refine e_geti (v := nI (Λ 0 1)) 8 dX0_addWord_5 lf_X0_35 rfl rfl hD.k0 hD.l0 (by exact hΛ.f1) ?_
  refine e_iload_n 9 dX0_addWord_8 rfl rfl ?_
  refine e_iast 10 dX0_addWord_9 rfl hD.k2 (hD.l (j := 2) (by decide)) rfl (by rw [hD.n2]; omega) ?_
  refine e_aload_n 11 dX0_addWord_10 rfl rfl ?_
  refine e_getr 14 dX0_addWord_11 lf_X0_18 rfl rfl hD.k0 hD.l0 hD.r3 ?_
  refine e_aload_n 15 dX0_addWord_14 rfl rfl ?_
  refine e_geti (v := nI (Λ 0 1)) 18 dX0_addWord_15 lf_X0_35 rfl rfl hD.k0 hD.l0 (by rw [zp_r _ _ _ (by omega)]; exact hΛ.f1) ?_
  refine e_iload_n 19 dX0_addWord_18 rfl rfl ?_
  refine e_iast 20 dX0_addWord_19 rfl hD.k3 (hD.l (j := 3) (by decide)) rfl (by rw [hD.n3]; omega) ?_
  refine e_aload_n 21 dX0_addWord_20 rfl rfl ?_
  refine e_getr 24 dX0_addWord_21 lf_X0_21 rfl rfl hD.k0 hD.l0 hD.r4 ?_
  refine e_aload_n 25 dX0_addWord_24 rfl rfl ?_
  refine e_geti (v := nI (Λ 0 1)) 28 dX0_addWord_25 lf_X0_35 rfl rfl hD.k0 hD.l0 (by rw [zp_r _ _ _ (by omega), zp_r _ _ _ (by omega)]; exact hΛ.f1) ?_
  refine e_iload_n 29 dX0_addWord_28 rfl rfl ?_
  refine e_iast 30 dX0_addWord_29 rfl hD.k4 (hD.l (j := 4) (by decide)) rfl (by rw [hD.n4]; omega) ?_
  refine e_aload_n 31 dX0_addWord_30 rfl rfl ?_
  refine e_getr 34 dX0_addWord_31 lf_X0_24 rfl rfl hD.k0 hD.l0 hD.r5 ?_
  refine e_aload_n 35 dX0_addWord_34 rfl rfl ?_
  refine e_geti (v := nI (Λ 0 1)) 38 dX0_addWord_35 lf_X0_35 rfl rfl hD.k0 hD.l0 (by rw [zp_r _ _ _ (by omega), zp_r _ _ _ (by omega), zp_r _ _ _ (by omega)]; exact hΛ.f1) ?_
  refine e_iload 40 dX0_addWord_38 rfl rfl ?_
  refine e_zast 41 dX0_addWord_40 rfl hD.k5 (hD.l (j := 5) (by decide)) rfl (by rw [hD.n5]; omega) (zNarZ _ hpl) ?_
  refine e_aload_n 42 dX0_addWord_41 rfl rfl ?_
  refine e_dup 43 dX0_addWord_42 rfl rfl ?_
  refine e_geti (v := nI (Λ 0 1)) 46 dX0_addWord_43 lf_X0_35 rfl rfl hD.k0 hD.l0 (by rw [zp_r _ _ _ (by omega), zp_r _ _ _ (by omega), zp_r _ _ _ (by omega), zp_r _ _ _ (by omega)]; exact hΛ.f1) ?_
  refine e_iconst 47 hic_1 dX0_addWord_46 rfl ?_
  first | refine e_iaddN 48 dX0_addWord_47 rfl ?_ | refine e_iadd 48 dX0_addWord_47 rfl ?_
  refine e_puti 51 dX0_addWord_48 lf_X0_35 rfl rfl rfl rfl hD.k0 hD.l0 ?_
  refine e_vreturn dX0_addWord_51 rfl ?_
  exact ⟨rfl, zAddW_R hΛ, fun q hq => by rw [zp_r _ _ _ (by omega), zp_r _ _ _ (by omega), zp_r _ _ _ (by omega), zp_r _ _ _ (by omega), zp_r _ _ _ (by omega)], rfl, rfl⟩

