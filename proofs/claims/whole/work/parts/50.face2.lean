theorem zYs.lot {F F' : Nat → Int32} {Λ : zLd} {m : zMo} {v : Int32} (h : zYs F Λ m) (hn : m.2.2.1 0 0 ≤ 10) (h1 : F' 1 = v) (e : ∀ k, k ≠ 1 → F' k = F k) : zYs F' Λ (m.1, v, m.2.2) := by
  obtain ⟨a, b, c, d⟩ := h
  refine ⟨(e 0 (by decide)).trans a, h1, ⟨(e 2 (by decide)).trans c.1, fun i hi => ?_⟩, fun w hw => ⟨fun p hp x g1 g2 => ?_, fun p hp y hy => ?_, fun y hy => ?_⟩⟩
  · rw [e _ (by omega), e _ (by omega), e _ (by omega), e _ (by omega)]; exact c.2 i hi
  · rw [e _ (by unfold zAt; omega)]; exact (d w hw).1 p hp x g1 g2
  · rw [e _ (by unfold zYo; omega)]; exact (d w hw).2.1 p hp y hy
  · rw [e _ (by unfold zPa; omega)]; exact (d w hw).2.2 y hy
set_option maxHeartbeats 4000000 in
set_option maxRecDepth 100000 in
theorem k_X8_share (G : zG) {D E : Nat} {Λ : zLd} {late : Nat} {tr : Int64} {t : zTx} {m : zMo} {im : Nat → Nat × zMo} {l : zLt} {r : zWr} {mi : zFi} {ml : zFl} {mr : zFr} (hr : zRf mr D E) (hY : zY mi ml Λ late tr t m im l r) (hF : zWf Λ late t m im l r) {w p a : Int32} : zMet G 2 yX8_share cX8_share 4 (some .int) [.ref 224, .int w, .int p, .int a] 238 mi ml mr 238 (zPi fun x u b c => x = sShare Λ m w p a ∧ zY u b Λ late tr t m im l r ∧ (∀ q, q < 224 → u q = mi q) ∧ b = ml ∧ c = mr) := by
  obtain ⟨hW, hla30, htw, hmw, himw, hlw, hrw⟩ := id hF
  have hP3 := hW.1.1
  have hW5 := hW.1.2.1
  have hy99 := hmw.1
  refine z_intro ([.ref 224, .int w, .int p, .int a]) (by decide) rfl (Nat.le_of_ble_eq_true rfl) ?_
  refine e_aload_n 1 dX8_share_0 rfl rfl ?_
  refine e_iconst 2 hic_0 dX8_share_1 rfl ?_
  refine e_puti 5 dX8_share_2 lf_X8_56 rfl rfl rfl rfl rfl (by decide) ?_
  obtain ⟨m1, em, hfr⟩ : ∃ m1, m1 = zp mi 224 0 (nI 0) ∧ ∀ q, q ≠ 224 → m1 q = mi q := ⟨_, rfl, fun q hq => zp_r _ _ _ hq⟩
  have hY := hY.th (k := 0) (v := nI 0) (Or.inl rfl)
  rw [← em] at hY ⊢
  obtain ⟨hd, hlate, htr, ht, hs, him, hl, hw⟩ := id hY
  refine e_aload_n 6 dX8_share_5 rfl rfl ?_
  refine e_iload_n 7 dX8_share_6 rfl rfl ?_
  refine c_Vqi 10 (ci := 8) dX8_share_7 (k_X8_isWord G hr hd hW) lm_X8_156 zi_yX8_isWord zs_yX8_isWord rfl rfl (by decide) rfl rfl rfl (Nat.le_of_ble_eq_true rfl) (Nat.le_of_ble_eq_true rfl) (Nat.le_of_ble_eq_true rfl) (by exact Nat.le_refl _) (by exact Nat.le_refl _) ?_
  refine e_if_eq 42 13 dX8_share_10 (by decide) rfl (fun h10 => ?_) (fun h10 => ?_)
  · have h10 := zB_0 h10
    refine e_iconst 43 hic_m1 dX8_share_42 rfl ?_
    refine e_ireturn .int dX8_share_43 rfl rfl ?_
    exact ⟨_, rfl, by first | rfl | exact (iteN h10).symm | exact ((iteP h10).trans (iteN h18)).symm | exact ((iteP h10).trans ((iteP h18).trans (iteN h25))).symm, hY, fun q hq => hfr q (by omega), rfl, rfl⟩
  · have h10 := zB_1 h10
    obtain ⟨ew, hw9⟩ := h10.nat
    refine e_aload_n 14 dX8_share_13 rfl rfl ?_
    refine e_iload_n 15 dX8_share_14 rfl rfl ?_
    refine c_Vqi 18 (ci := 8) dX8_share_15 (k_X8_isPlace G hr hd hW) lm_X8_153 zi_yX8_isPlace zs_yX8_isPlace rfl rfl (by decide) rfl rfl rfl (Nat.le_of_ble_eq_true rfl) (Nat.le_of_ble_eq_true rfl) (Nat.le_of_ble_eq_true rfl) (by exact Nat.le_refl _) (by exact Nat.le_refl _) ?_
    refine e_if_eq 42 21 dX8_share_18 (by decide) rfl (fun h18 => ?_) (fun h18 => ?_)
    · have h18 := zB_0 h18
      refine e_iconst 43 hic_m1 dX8_share_42 rfl ?_
      refine e_ireturn .int dX8_share_43 rfl rfl ?_
      exact ⟨_, rfl, by first | rfl | exact (iteN h10).symm | exact ((iteP h10).trans (iteN h18)).symm | exact ((iteP h10).trans ((iteP h18).trans (iteN h25))).symm, hY, fun q hq => hfr q (by omega), rfl, rfl⟩
    · have h18 := zB_1 h18
      obtain ⟨ep, hp9⟩ := h18.nat
      refine e_iload_n 22 dX8_share_21 rfl rfl ?_
      refine c_Sqi 25 dX8_share_22 (k_X8_isAge G) lm_X8_190 zt_yX8_isAge rfl rfl rfl (Nat.le_of_ble_eq_true rfl) (Nat.le_of_ble_eq_true rfl) (Nat.le_of_ble_eq_true rfl) (by exact Nat.le_refl _) (by exact Nat.le_refl _) ?_
      refine e_if_eq 42 28 dX8_share_25 (by decide) rfl (fun h25 => ?_) (fun h25 => ?_)
      · have h25 := zB_0 h25
        refine e_iconst 43 hic_m1 dX8_share_42 rfl ?_
        refine e_ireturn .int dX8_share_43 rfl rfl ?_
        exact ⟨_, rfl, by first | rfl | exact (iteN h10).symm | exact ((iteP h10).trans (iteN h18)).symm | exact ((iteP h10).trans ((iteP h18).trans (iteN h25))).symm, hY, fun q hq => hfr q (by omega), rfl, rfl⟩
      · have h25 := zB_1 h25
        obtain ⟨ea, ha9⟩ := h25.nat
        refine e_aload_n 29 dX8_share_28 rfl rfl ?_
        refine e_getr 32 dX8_share_29 lf_X8_7 rfl rfl rfl (by decide) hr.ys ?_
        refine e_iload_n 33 dX8_share_32 rfl rfl ?_
        refine e_iload_n 34 dX8_share_33 rfl rfl ?_
        refine e_iload_n 35 dX8_share_34 rfl rfl ?_
        have e1 : sShare Λ m w p a = nI ((m.2.2.2 (zK w)).1 (zK p) (zK a)) := (iteP h10).trans ((iteP h18).trans (iteP h25))
        rw [e1]
        clear e1 h10 h18 h25
        generalize zK w = w9 at ew hw9 ⊢
        generalize zK p = p9 at ep hp9 ⊢
        generalize zK a = a9 at ea ha9 ⊢
        subst ew ep ea
        refine c_Sqi 38 dX8_share_35 (k_X8_at G) lm_X8_162 zt_yX8_at rfl rfl rfl (Nat.le_of_ble_eq_true rfl) (Nat.le_of_ble_eq_true rfl) (Nat.le_of_ble_eq_true rfl) (by exact Nat.le_refl _) (by exact Nat.le_refl _) ?_
        refine e_iald 39 dX8_share_38 rfl rfl (by decide) rfl (by show zAt w9 p9 a9 < 2950; unfold zAt; omega) ((hs.2.2.2 w9 hw9).1 p9 hp9 a9 ha9.1 ha9.2) ?_
        refine e_goto 43 dX8_share_39 (by decide) ?_
        refine e_ireturn .int dX8_share_43 rfl rfl ?_
        exact ⟨_, rfl, by first | rfl | exact (iteN h10).symm | exact ((iteP h10).trans (iteN h18)).symm | exact ((iteP h10).trans ((iteP h18).trans (iteN h25))).symm, hY, fun q hq => hfr q (by omega), rfl, rfl⟩

set_option maxHeartbeats 4000000 in
set_option maxRecDepth 100000 in
theorem k_X8_lot (G : zG) {D E : Nat} {Λ : zLd} {late : Nat} {tr : Int64} {t : zTx} {m : zMo} {im : Nat → Nat × zMo} {l : zLt} {r : zWr} {mi : zFi} {ml : zFl} {mr : zFr} (hr : zRf mr D E) (hY : zY mi ml Λ late tr t m im l r) (hF : zWf Λ late t m im l r) {v : Int32} : zMet G 0 yX8_lot cX8_lot 3 (some .int) [.ref 224, .int v] 238 mi ml mr 238 (zPi fun x u b c => x = m.2.1 ∧ zY u b Λ late tr t (m.1, v, m.2.2) im l r ∧ (∀ q, q < 224 → u q = mi q) ∧ b = ml ∧ c = mr) := by
  obtain ⟨hW, hla30, htw, hmw, himw, hlw, hrw⟩ := id hF
  have hP3 := hW.1.1
  have hW5 := hW.1.2.1
  have hy99 := hmw.1
  refine z_intro ([.ref 224, .int v, zx]) (by decide) rfl (Nat.le_of_ble_eq_true rfl) ?_
  refine e_aload_n 1 dX8_lot_0 rfl rfl ?_
  refine e_iconst 2 hic_0 dX8_lot_1 rfl ?_
  refine e_puti 5 dX8_lot_2 lf_X8_56 rfl rfl rfl rfl rfl (by decide) ?_
  obtain ⟨m1, em, hfr⟩ : ∃ m1, m1 = zp mi 224 0 (nI 0) ∧ ∀ q, q ≠ 224 → m1 q = mi q := ⟨_, rfl, fun q hq => zp_r _ _ _ hq⟩
  have hY := hY.th (k := 0) (v := nI 0) (Or.inl rfl)
  rw [← em] at hY ⊢
  obtain ⟨hd, hlate, htr, ht, hs, him, hl, hw⟩ := id hY
  refine e_aload_n 6 dX8_lot_5 rfl rfl ?_
  refine e_getr 9 dX8_lot_6 lf_X8_7 rfl rfl rfl (by decide) hr.ys ?_
  refine e_iconst 10 hic_1 dX8_lot_9 rfl ?_
  refine e_iald (v := m.2.1) 11 dX8_lot_10 rfl rfl (by decide) rfl (by show 1 < 2950; omega) hs.2.1 ?_
  refine e_istore_n 12 dX8_lot_11 rfl (by decide) (zst1_2 rfl) ?_
  refine e_aload_n 13 dX8_lot_12 rfl rfl ?_
  refine e_getr 16 dX8_lot_13 lf_X8_7 rfl rfl rfl (by decide) hr.ys ?_
  refine e_iconst 17 hic_1 dX8_lot_16 rfl ?_
  refine e_iload_n 18 dX8_lot_17 rfl rfl ?_
  refine e_iast 19 dX8_lot_18 rfl rfl (by decide) rfl (by show 1 < 2950; decide) ?_
  refine e_iload_n 20 dX8_lot_19 rfl rfl ?_
  refine e_ireturn .int dX8_lot_20 rfl rfl ?_
  have fp : zFs9 (zp m1 225 1 v) m1 := zFs9.p
  exact ⟨_, rfl, rfl, hY.mom fp.v (hs.lot hmw.2.1.1 (zp_s _ _ _ _) (fun k hk => zp_k _ _ hk)), fun q hq => (fp q (by omega)).trans (hfr q (by omega)), rfl, rfl⟩

set_option maxHeartbeats 4000000 in
set_option maxRecDepth 100000 in
theorem k_X8_clear (G : zG) {D E : Nat} {Λ : zLd} {late : Nat} {tr : Int64} {t : zTx} {m : zMo} {im : Nat → Nat × zMo} {l : zLt} {r : zWr} {mi : zFi} {ml : zFl} {mr : zFr} (hr : zRf mr D E) (hY : zY mi ml Λ late tr t m im l r) (hF : zWf Λ late t m im l r)  : zMet G 0 yX8_clear cX8_clear 2 (some .int) [.ref 224] 238 mi ml mr 238 (zPi fun x u b c => x = nI t.1 ∧ zY u b Λ late tr (0, t.2) m im l r ∧ (∀ q, q < 224 → u q = mi q) ∧ b = ml ∧ c = mr) := by
  obtain ⟨hW, hla30, htw, hmw, himw, hlw, hrw⟩ := id hF
  have hP3 := hW.1.1
  have hW5 := hW.1.2.1
  have hy99 := hmw.1
  refine z_intro ([.ref 224, zx]) (by decide) rfl (Nat.le_of_ble_eq_true rfl) ?_
  refine e_aload_n 1 dX8_clear_0 rfl rfl ?_
  refine e_iconst 2 hic_0 dX8_clear_1 rfl ?_
  refine e_puti 5 dX8_clear_2 lf_X8_56 rfl rfl rfl rfl rfl (by decide) ?_
  obtain ⟨m1, em, hfr⟩ : ∃ m1, m1 = zp mi 224 0 (nI 0) ∧ ∀ q, q ≠ 224 → m1 q = mi q := ⟨_, rfl, fun q hq => zp_r _ _ _ hq⟩
  have hY := hY.th (k := 0) (v := nI 0) (Or.inl rfl)
  rw [← em] at hY ⊢
  obtain ⟨hd, hlate, htr, ht, hs, him, hl, hw⟩ := id hY
  refine e_aload_n 6 dX8_clear_5 rfl rfl ?_
  refine e_geti 9 dX8_clear_6 lf_X8_64 rfl rfl rfl (by decide) ht.1 ?_
  refine e_istore_n 10 dX8_clear_9 rfl (by decide) (zst1_1 rfl) ?_
  refine e_aload_n 11 dX8_clear_10 rfl rfl ?_
  refine e_iconst 12 hic_0 dX8_clear_11 rfl ?_
  refine e_puti 15 dX8_clear_12 lf_X8_64 rfl rfl rfl rfl rfl (by decide) ?_
  refine e_iload_n 16 dX8_clear_15 rfl rfl ?_
  refine e_ireturn .int dX8_clear_16 rfl rfl ?_
  have e : ∀ q, q ≠ 224 → zp m1 224 7 (nI 0) q = m1 q := fun q hq => zp_r _ _ _ hq
  refine ⟨_, rfl, rfl, ⟨?_, ?_, htr, ⟨zp_s _ _ _ _, fun k hk => absurd hk (Nat.not_lt_zero _)⟩, ?_, ?_, ?_, ?_⟩, fun q hq => (e q (by omega)).trans (hfr q (by omega)), rfl, rfl⟩
  · unfold zYd; rw [zp_k _ _ (by decide), zp_k _ _ (by decide), e 230 (by decide), e 231 (by decide), e 232 (by decide)]; exact hd
  · rw [e 230 (by decide)]; exact hlate
  · rw [e 225 (by decide)]; exact hs
  · unfold zYi; rw [e 227 (by decide), e 228 (by decide)]; exact him
  · unfold zYl; rw [zp_k _ _ (by decide), e 233 (by decide)]; exact hl
  · unfold zYw; rw [zp_k _ _ (by decide), e 234 (by decide)]; exact hw

set_option maxHeartbeats 4000000 in
set_option maxRecDepth 100000 in
theorem k_X8_trace (G : zG) {D E : Nat} {Λ : zLd} {late : Nat} {tr : Int64} {t : zTx} {m : zMo} {im : Nat → Nat × zMo} {l : zLt} {r : zWr} {mi : zFi} {ml : zFl} {mr : zFr} (hr : zRf mr D E) (hY : zY mi ml Λ late tr t m im l r) (hF : zWf Λ late t m im l r)  : zMet G 0 yX8_trace cX8_trace 1 (some .long) [.ref 224] 238 mi ml mr 238 (zPl fun x u b c => x = tr ∧ zY u b Λ late tr t m im l r ∧ (∀ q, q < 224 → u q = mi q) ∧ b = ml ∧ c = mr) := by
  obtain ⟨hW, hla30, htw, hmw, himw, hlw, hrw⟩ := id hF
  have hP3 := hW.1.1
  have hW5 := hW.1.2.1
  have hy99 := hmw.1
  refine z_intro ([.ref 224]) (by decide) rfl (Nat.le_of_ble_eq_true rfl) ?_
  refine e_aload_n 1 dX8_trace_0 rfl rfl ?_
  refine e_iconst 2 hic_0 dX8_trace_1 rfl ?_
  refine e_puti 5 dX8_trace_2 lf_X8_56 rfl rfl rfl rfl rfl (by decide) ?_
  obtain ⟨m1, em, hfr⟩ : ∃ m1, m1 = zp mi 224 0 (nI 0) ∧ ∀ q, q ≠ 224 → m1 q = mi q := ⟨_, rfl, fun q hq => zp_r _ _ _ hq⟩
  have hY := hY.th (k := 0) (v := nI 0) (Or.inl rfl)
  rw [← em] at hY ⊢
  obtain ⟨hd, hlate, htr, ht, hs, him, hl, hw⟩ := id hY
  refine e_aload_n 6 dX8_trace_5 rfl rfl ?_
  refine e_getl 9 dX8_trace_6 lf_X8_243 rfl rfl rfl (by decide) htr ?_
  refine e_lreturn dX8_trace_9 rfl ?_
  exact ⟨_, rfl, rfl, hY, fun q hq => hfr q (by omega), rfl, rfl⟩

