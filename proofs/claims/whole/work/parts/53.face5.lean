theorem zYs.c {F F' : Nat → Int32} {Λ : zLd} {m : zMo} (hW : zLandW Λ) (hm : zMoW Λ m) (h : zYs F Λ m) (e : ∀ k, k < 2950 → F' k = F k) : zYs F' Λ m := by
  obtain ⟨a, b, c, d⟩ := h
  have hP3 := hW.1.1
  have hW5 := hW.1.2.1
  have hn := hm.2.1.1
  have hy := hm.1
  refine ⟨(e 0 (by decide)).trans a, (e 1 (by decide)).trans b, ⟨(e 2 (by decide)).trans c.1, fun i hi => ?_⟩, fun w hw => ⟨fun p hp x g1 g2 => ?_, fun p hp y hy => ?_, fun y hy => ?_⟩⟩
  · rw [e _ (by omega), e _ (by omega), e _ (by omega), e _ (by omega)]; exact c.2 i hi
  · rw [e _ (by unfold zAt; omega)]; exact (d w hw).1 p hp x g1 g2
  · rw [e _ (by unfold zYo; omega)]; exact (d w hw).2.1 p hp y hy
  · rw [e _ (by unfold zPa; omega)]; exact (d w hw).2.2 y hy
theorem zAsA_st {mi u : zFi} {k9 : Nat} (hf : ∀ q, q ≠ 226 → u q = mi q) (hI : ∀ j, j < k9 → u 226 j = mi 225 j) : ∀ j, j < k9 + 1 → zp u 226 k9 (u 225 k9) 226 j = mi 225 j := fun j hj => by
  by_cases e : j = k9
  · rw [e, zp_s, hf 225 (by decide)]
  · rw [zp_k _ _ e]; exact hI j (by omega)
set_option maxHeartbeats 4000000 in
set_option maxRecDepth 100000 in
theorem l_X8_asideA (G : zG) (d : Nat) (Q : zQ) {D E : Nat} {mi : zFi} {ml : zFl} {mr : zFr} (hr : zRf mr D E) : ∀ (k k9 : Nat) (u : zFi), k9 + k = 2950 → (∀ q, q ≠ 226 → u q = mi q) → (∀ j, j < k9 → u 226 j = mi 225 j) → (∀ u2, (∀ q, q ≠ 226 → u2 q = mi q) → (∀ j, j < 2950 → u2 226 j = mi 225 j) → Q none u2 ml mr) → zE G (zRm d 238 238) (zQm G 238 238 Q) yX8_aside.cls yX8_aside.name cX8_aside 3 none 238 2 [.ref 224, .int (nI 1), .int (nI k9)] [] 238 u ml mr := by
  intro k
  induction k with
  | zero =>
    intro k9 u h hf hI hQ
    refine e_iload_n 3 dX8_aside_2 rfl rfl ?_
    refine e_sipush 6 hsi_2950 dX8_aside_3 rfl ?_
    refine e_icmp_geN 46 9 dX8_aside_6 (by decide) rfl (by omega) (by omega) (fun h6 => ?_) (fun h6 => ?_)
    · refine e_vreturn dX8_aside_46 rfl ?_
      have e : k9 = 2950 := by omega
      subst e
      exact hQ u hf hI
    · exact absurd h6 (by omega)
  | succ k ih =>
    intro k9 u h hf hI hQ
    refine e_iload_n 3 dX8_aside_2 rfl rfl ?_
    refine e_sipush 6 hsi_2950 dX8_aside_3 rfl ?_
    refine e_icmp_geN 46 9 dX8_aside_6 (by decide) rfl (by omega) (by omega) (fun h6 => ?_) (fun h6 => ?_)
    · exact absurd h6 (by omega)
    · refine e_iload_n 10 dX8_aside_9 rfl rfl ?_
      refine e_if_eqN 28 13 dX8_aside_10 (by decide) rfl (by decide) (fun h10 => ?_) (fun h10 => ?_)
      · exact absurd h10 (by decide)
      · refine e_aload_n 14 dX8_aside_13 rfl rfl ?_
        refine e_getr 17 dX8_aside_14 lf_X8_13 rfl rfl rfl (by decide) hr.ysp ?_
        refine e_iload_n 18 dX8_aside_17 rfl rfl ?_
        refine e_aload_n 19 dX8_aside_18 rfl rfl ?_
        refine e_getr 22 dX8_aside_19 lf_X8_7 rfl rfl rfl (by decide) hr.ys ?_
        refine e_iload_n 23 dX8_aside_22 rfl rfl ?_
        refine e_iald 24 dX8_aside_23 rfl rfl (by decide) rfl (by show k9 < 2950; omega) rfl ?_
        refine e_iast 25 dX8_aside_24 rfl rfl (by decide) rfl (by show k9 < 2950; omega) ?_
        refine e_goto 40 dX8_aside_25 (by decide) ?_
        refine e_iinc 43 dX8_aside_40 rfl (by decide) rfl (z_inc hii_1) (zst1_2 rfl) ?_
        refine e_goto 2 dX8_aside_43 (by decide) ?_
        exact ih (k9 + 1) _ (by omega) (fun q hq => (zp_r _ _ _ hq).trans (hf q hq)) (zAsA_st hf hI) hQ
set_option maxHeartbeats 4000000 in
set_option maxRecDepth 100000 in
theorem k_X8_asideA (G : zG) {D E : Nat} {mi : zFi} {ml : zFl} {mr : zFr} (hr : zRf mr D E) : zMet G 0 yX8_aside cX8_aside 3 none [.ref 224, .int (nI 1)] 238 mi ml mr 238 (zPv fun u b c => (∀ q, q ≠ 226 → u q = mi q) ∧ (∀ j, j < 2950 → u 226 j = mi 225 j) ∧ b = ml ∧ c = mr) := by
  refine z_intro ([.ref 224, .int (nI 1), zx]) (by decide) rfl (Nat.le_of_ble_eq_true rfl) ?_
  refine e_iconst 1 hic_0 dX8_aside_0 rfl ?_
  refine e_istore_n 2 dX8_aside_1 rfl (by decide) (zst1_2 rfl) ?_
  exact l_X8_asideA G 0 _ hr 2950 0 mi rfl (fun _ _ => rfl) (fun j hj => absurd hj (Nat.not_lt_zero _)) (fun u2 g1 g2 => ⟨rfl, g1, g2, rfl, rfl⟩)

theorem zAsB_st {mi u : zFi} {k9 : Nat} (hf : ∀ q, q ≠ 225 → u q = mi q) (hI : ∀ j, j < k9 → u 225 j = mi 226 j) : ∀ j, j < k9 + 1 → zp u 225 k9 (u 226 k9) 225 j = mi 226 j := fun j hj => by
  by_cases e : j = k9
  · rw [e, zp_s, hf 226 (by decide)]
  · rw [zp_k _ _ e]; exact hI j (by omega)
set_option maxHeartbeats 4000000 in
set_option maxRecDepth 100000 in
theorem l_X8_asideB (G : zG) (d : Nat) (Q : zQ) {D E : Nat} {mi : zFi} {ml : zFl} {mr : zFr} (hr : zRf mr D E) : ∀ (k k9 : Nat) (u : zFi), k9 + k = 2950 → (∀ q, q ≠ 225 → u q = mi q) → (∀ j, j < k9 → u 225 j = mi 226 j) → (∀ u2, (∀ q, q ≠ 225 → u2 q = mi q) → (∀ j, j < 2950 → u2 225 j = mi 226 j) → Q none u2 ml mr) → zE G (zRm d 238 238) (zQm G 238 238 Q) yX8_aside.cls yX8_aside.name cX8_aside 3 none 238 2 [.ref 224, .int (nI 0), .int (nI k9)] [] 238 u ml mr := by
  intro k
  induction k with
  | zero =>
    intro k9 u h hf hI hQ
    refine e_iload_n 3 dX8_aside_2 rfl rfl ?_
    refine e_sipush 6 hsi_2950 dX8_aside_3 rfl ?_
    refine e_icmp_geN 46 9 dX8_aside_6 (by decide) rfl (by omega) (by omega) (fun h6 => ?_) (fun h6 => ?_)
    · refine e_vreturn dX8_aside_46 rfl ?_
      have e : k9 = 2950 := by omega
      subst e
      exact hQ u hf hI
    · exact absurd h6 (by omega)
  | succ k ih =>
    intro k9 u h hf hI hQ
    refine e_iload_n 3 dX8_aside_2 rfl rfl ?_
    refine e_sipush 6 hsi_2950 dX8_aside_3 rfl ?_
    refine e_icmp_geN 46 9 dX8_aside_6 (by decide) rfl (by omega) (by omega) (fun h6 => ?_) (fun h6 => ?_)
    · exact absurd h6 (by omega)
    · refine e_iload_n 10 dX8_aside_9 rfl rfl ?_
      refine e_if_eqN 28 13 dX8_aside_10 (by decide) rfl (by decide) (fun h10 => ?_) (fun h10 => ?_)
      · refine e_aload_n 29 dX8_aside_28 rfl rfl ?_
        refine e_getr 32 dX8_aside_29 lf_X8_7 rfl rfl rfl (by decide) hr.ys ?_
        refine e_iload_n 33 dX8_aside_32 rfl rfl ?_
        refine e_aload_n 34 dX8_aside_33 rfl rfl ?_
        refine e_getr 37 dX8_aside_34 lf_X8_13 rfl rfl rfl (by decide) hr.ysp ?_
        refine e_iload_n 38 dX8_aside_37 rfl rfl ?_
        refine e_iald 39 dX8_aside_38 rfl rfl (by decide) rfl (by show k9 < 2950; omega) rfl ?_
        refine e_iast 40 dX8_aside_39 rfl rfl (by decide) rfl (by show k9 < 2950; omega) ?_
        refine e_iinc 43 dX8_aside_40 rfl (by decide) rfl (z_inc hii_1) (zst1_2 rfl) ?_
        refine e_goto 2 dX8_aside_43 (by decide) ?_
        exact ih (k9 + 1) _ (by omega) (fun q hq => (zp_r _ _ _ hq).trans (hf q hq)) (zAsB_st hf hI) hQ
      · exact absurd h10 (by decide)
set_option maxHeartbeats 4000000 in
set_option maxRecDepth 100000 in
theorem k_X8_asideB (G : zG) {D E : Nat} {mi : zFi} {ml : zFl} {mr : zFr} (hr : zRf mr D E) : zMet G 0 yX8_aside cX8_aside 3 none [.ref 224, .int (nI 0)] 238 mi ml mr 238 (zPv fun u b c => (∀ q, q ≠ 225 → u q = mi q) ∧ (∀ j, j < 2950 → u 225 j = mi 226 j) ∧ b = ml ∧ c = mr) := by
  refine z_intro ([.ref 224, .int (nI 0), zx]) (by decide) rfl (Nat.le_of_ble_eq_true rfl) ?_
  refine e_iconst 1 hic_0 dX8_aside_0 rfl ?_
  refine e_istore_n 2 dX8_aside_1 rfl (by decide) (zst1_2 rfl) ?_
  exact l_X8_asideB G 0 _ hr 2950 0 mi rfl (fun _ _ => rfl) (fun j hj => absurd hj (Nat.not_lt_zero _)) (fun u2 g1 g2 => ⟨rfl, g1, g2, rfl, rfl⟩)

