/-- cells but for the peak's and the over's year -/
def zPk9 (u mi : zFi) : Prop := (∀ q, q ≠ 224 → u q = mi q) ∧ ∀ k, k ≠ 29 → k ≠ 30 → u 224 k = mi 224 k
theorem zPk9.r (mi : zFi) : zPk9 mi mi := ⟨fun _ _ => rfl, fun _ _ _ => rfl⟩
theorem zPk9.p {u mi : zFi} {k : Nat} {v : Int32} (h : zPk9 u mi) (hk : k = 29 ∨ k = 30) : zPk9 (zp u 224 k v) mi := ⟨fun q hq => (zp_r _ _ _ hq).trans (h.1 q hq), fun j g1 g2 => (zp_k _ _ (by omega)).trans (h.2 j g1 g2)⟩
theorem zYd.pk {u mi : zFi} {Λ : zLd} (h : zYd mi Λ) (e : zPk9 u mi) : zYd u Λ := by
  unfold zYd
  rw [e.2 16 (by decide) (by decide), e.2 17 (by decide) (by decide), e.1 230 (by decide), e.1 231 (by decide), e.1 232 (by decide)]
  exact h
theorem zY.pk {mi u : zFi} {ml : zFl} {Λ : zLd} {late : Nat} {tr : Int64} {t : zTx} {m : zMo} {im : Nat → Nat × zMo} {l : zLt} {r : zWr} (h : zY mi ml Λ late tr t m im l r) (e : zPk9 u mi) : zY u ml Λ late tr t m im l r := by
  obtain ⟨h1, h2, h3, h4, h5, h6, h7, h8⟩ := h
  refine ⟨h1.pk e, by rw [e.1 230 (by decide)]; exact h2, h3, ?_, by rw [e.1 225 (by decide)]; exact h5, ?_, ?_, ?_⟩
  · unfold zYt; rw [e.2 7 (by decide) (by decide), e.1 229 (by decide)]; exact h4
  · unfold zYi; rw [e.1 228 (by decide), e.1 227 (by decide)]; exact h6
  · unfold zYl; rw [e.2 23 (by decide) (by decide), e.1 233 (by decide)]; exact h7
  · unfold zYw; rw [e.2 25 (by decide) (by decide), e.1 234 (by decide)]; exact h8
theorem zFst_d {P : Nat → Bool} {Y y : Nat} (h : 0 < y) (hy : y ≤ Y) : zFst P (Y - (y - 1)) (y - 1 + 1) = if P y = true then some y else zFst P (Y - y) (y + 1) := by
  have e1 : Y - (y - 1) = (Y - y) + 1 := by omega
  have e2 : y - 1 + 1 = y := by omega
  rw [e1, e2]
  rfl
theorem zFst_m {P : Nat → Bool} {Y y : Nat} {x : Int32} (h : 0 < y) (hy : y ≤ Y) (hx : x = zOptI (if P y = true then some y else zFst P (Y - y) (y + 1))) : x = zOptI (zFst P (Y - (y - 1)) (y - 1 + 1)) := by
  rw [zFst_d h hy]
  exact hx
theorem zKpF_s (g : Nat → Nat) (k a b m : Nat) : zKpF g (k + 1) a b m = zKpF g k (a + 1) (if m < g a then a else b) (if m < g a then g a else m) := rfl
theorem zKpF_1 (g : Nat → Nat) : zKpF g 60 10 10 0 = zKpF g 59 11 10 (g 10) := by
  rw [show (60 : Nat) = 59 + 1 from rfl, zKpF_s]
  by_cases h : 0 < g 10
  · rw [if_pos h, if_pos h]
  · rw [if_neg h, if_neg h, show g 10 = 0 from by omega]
theorem zKept_1 {N : Nat} {sh : Nat → Nat → Nat} : zKept N sh = zKpF (fun a => zsum (fun p => sh p a) 0 N) 59 11 10 (zsum (fun p => sh p 10) 0 N) := zKpF_1 _
theorem nI_m1 {s : Nat} (h : s < 2 ^ 31) : ¬ nI s ≤ -1 := by
  rw [Int32.le_iff_toInt_le, nI_toInt h]
  have e : (-1 : Int32).toInt = -1 := by decide
  rw [e]
  omega
set_option maxHeartbeats 4000000 in
set_option maxRecDepth 100000 in
theorem l_X8_youngMean (G : zG) (d : Nat) (Q : zQ) {D E : Nat} {Λ : zLd} {mi : zFi} {ml : zFl} {mr : zFr} (hr : zRf mr D E) (hd : zYd mi Λ) (hW : zLandW Λ) {w y : Nat} {yg : Nat → Nat → Nat} (hw : w < Λ 0 1) (hy : y ≤ 99) (hyg : ∀ p, p < Λ 0 0 → mi 225 (zYo w p y) = nI (yg p y)) (hle : ∀ p, p < Λ 0 0 → yg p y ≤ 1000) : ∀ (k p s : Nat), p + k = Λ 0 0 → s + zsum (fun p => yg p y) p k ≤ 3000 → Q (some (.int (nI ((s + zsum (fun p => yg p y) p k) / Λ 0 0)))) mi ml mr → zE G (zRm d 238 238) (zQm G 238 238 Q) yX8_youngMean.cls yX8_youngMean.name cX8_youngMean 5 (some .int) 238 5 [.ref 224, .int (nI w), .int (nI y), .int (nI s), .int (nI p)] [] 238 mi ml mr := by
  intro k
  induction k with
  | zero =>
    intro p s h hs9 hQ
    have hP3 := hW.1.1
    have hW5 := hW.1.2.1
    have hP0 := (hW.2.2 w hw).2.2.1
    refine e_iload 7 dX8_youngMean_5 rfl rfl ?_
    refine e_aload_n 8 dX8_youngMean_7 rfl rfl ?_
    refine e_geti 11 dX8_youngMean_8 lf_X8_138 rfl rfl rfl (by decide) hd.1.1 ?_
    refine e_icmp_geN 45 14 dX8_youngMean_11 (by decide) rfl (by omega) (by omega) (fun h11 => ?_) (fun h11 => ?_)
    · refine e_iload_n 46 dX8_youngMean_45 rfl rfl ?_
      refine e_aload_n 47 dX8_youngMean_46 rfl rfl ?_
      refine e_geti 50 dX8_youngMean_47 lf_X8_138 rfl rfl rfl (by decide) hd.1.1 ?_
      refine e_idivN 51 dX8_youngMean_50 rfl (by have : zsum (fun p => yg p y) p 0 = 0 := rfl; omega) (by omega) (by omega) ?_
      refine e_ireturn .int dX8_youngMean_51 rfl rfl ?_
      exact hQ
    · exact absurd h11 (by omega)
  | succ k ih =>
    intro p s h hs9 hQ
    have hP3 := hW.1.1
    have hW5 := hW.1.2.1
    have hP0 := (hW.2.2 w hw).2.2.1
    have e0 : s + zsum (fun p => yg p y) p (k + 1) = s + yg p y + zsum (fun p => yg p y) (p + 1) k := by show s + (yg p y + _) = _; rw [Nat.add_assoc]
    rw [e0] at hQ hs9
    refine e_iload 7 dX8_youngMean_5 rfl rfl ?_
    refine e_aload_n 8 dX8_youngMean_7 rfl rfl ?_
    refine e_geti 11 dX8_youngMean_8 lf_X8_138 rfl rfl rfl (by decide) hd.1.1 ?_
    refine e_icmp_geN 45 14 dX8_youngMean_11 (by decide) rfl (by omega) (by omega) (fun h11 => ?_) (fun h11 => ?_)
    · exact absurd h11 (by omega)
    · refine e_iload_n 15 dX8_youngMean_14 rfl rfl ?_
      refine e_aload_n 16 dX8_youngMean_15 rfl rfl ?_
      refine e_getr 19 dX8_youngMean_16 lf_X8_7 rfl rfl rfl (by decide) hr.ys ?_
      refine e_sipush 22 hsi_950 dX8_youngMean_19 rfl ?_
      refine e_sipush 25 hsi_300 dX8_youngMean_22 rfl ?_
      refine e_iload_n 26 dX8_youngMean_25 rfl rfl ?_
      first | refine e_imulN 27 dX8_youngMean_26 rfl ?_ | refine e_imul 27 dX8_youngMean_26 rfl ?_
      first | refine e_iaddN 28 dX8_youngMean_27 rfl ?_ | refine e_iadd 28 dX8_youngMean_27 rfl ?_
      refine e_bipush 30 hbi_100 dX8_youngMean_28 rfl ?_
      refine e_iload 32 dX8_youngMean_30 rfl rfl ?_
      first | refine e_imulN 33 dX8_youngMean_32 rfl ?_ | refine e_imul 33 dX8_youngMean_32 rfl ?_
      first | refine e_iaddN 34 dX8_youngMean_33 rfl ?_ | refine e_iadd 34 dX8_youngMean_33 rfl ?_
      refine e_iload_n 35 dX8_youngMean_34 rfl rfl ?_
      first | refine e_iaddN 36 dX8_youngMean_35 rfl ?_ | refine e_iadd 36 dX8_youngMean_35 rfl ?_
      refine e_iald 37 dX8_youngMean_36 rfl rfl (by decide) rfl (by show zYo w p y < 2950; unfold zYo; omega) (hyg p h11) ?_
      first | refine e_iaddN 38 dX8_youngMean_37 rfl ?_ | refine e_iadd 38 dX8_youngMean_37 rfl ?_
      refine e_istore_n 39 dX8_youngMean_38 rfl (by decide) (zst1_3 rfl) ?_
      refine e_iinc 42 dX8_youngMean_39 rfl (by decide) rfl (z_inc hii_1) (zst1_4 rfl) ?_
      refine e_goto 5 dX8_youngMean_42 (by decide) ?_
      exact ih (p + 1) _ (by omega) hs9 hQ
set_option maxHeartbeats 4000000 in
set_option maxRecDepth 100000 in
theorem k_X8_youngMean (G : zG) {D E : Nat} {Λ : zLd} {mi : zFi} {ml : zFl} {mr : zFr} (hr : zRf mr D E) (hd : zYd mi Λ) (hW : zLandW Λ) {w y : Nat} {yg : Nat → Nat → Nat} (hw : w < Λ 0 1) (hy : y ≤ 99) (hyg : ∀ p, p < Λ 0 0 → mi 225 (zYo w p y) = nI (yg p y)) (hle : ∀ p, p < Λ 0 0 → yg p y ≤ 1000) : zMet G 0 yX8_youngMean cX8_youngMean 5 (some .int) [.ref 224, .int (nI w), .int (nI y)] 238 mi ml mr 238 (zPq (some (.int (nI (zYm (Λ 0 0) yg y)))) mi ml mr) := by
  refine z_intro ([.ref 224, .int (nI w), .int (nI y), zx, zx]) (by decide) rfl (Nat.le_of_ble_eq_true rfl) ?_
  refine e_iconst 1 hic_0 dX8_youngMean_0 rfl ?_
  refine e_istore_n 2 dX8_youngMean_1 rfl (by decide) (zst1_3 rfl) ?_
  refine e_iconst 3 hic_0 dX8_youngMean_2 rfl ?_
  refine e_istore 5 dX8_youngMean_3 rfl (by decide) (zst1_4 rfl) ?_
  have hb := zsum_le (f := (fun p => yg p y)) (M := 1000) (Λ 0 0) 0 (fun p _ h2 => hle p (by omega))
  have hP3 := hW.1.1
  exact l_X8_youngMean G _ _ hr hd hW hw hy hyg hle (Λ 0 0) 0 0 (by omega) (by omega) ⟨by rw [Nat.zero_add]; rfl, rfl, rfl, rfl⟩

set_option maxHeartbeats 4000000 in
set_option maxRecDepth 100000 in
theorem l_X8_peak1 (G : zG) (d : Nat) (Q : zQ) {D E : Nat} {Λ : zLd} {m : zMo} {mi : zFi} {ml : zFl} {mr : zFr} (hr : zRf mr D E) (hd0 : zYd mi Λ) (hW : zLandW Λ) (hs0 : zYs (mi 225) Λ m) (hm : zMoW Λ m) {w : Nat} (hw : w < Λ 0 1) : ∀ (k y b : Nat) (u : zFi), y + k = m.1 + 1 → b ≤ m.1 → zPk9 u mi → u 224 29 = nI b → u 224 30 = -9 → (∀ u2 v, zPk9 u2 mi → u2 224 29 = nI (zPkF (zYm (Λ 0 0) (m.2.2.2 w).2.1) k y b) → u2 224 30 = -9 → zE G (zRm (d + 1) 238 238) (zQm G 238 238 Q) yX8_peakOf.cls yX8_peakOf.name cX8_peakOf 3 (some .int) 238 59 [.ref 224, .int (nI w), v] [] 238 u2 ml mr) → zE G (zRm (d + 1) 238 238) (zQm G 238 238 Q) yX8_peakOf.cls yX8_peakOf.name cX8_peakOf 3 (some .int) 238 13 [.ref 224, .int (nI w), .int (nI y)] [] 238 u ml mr := by
  intro k
  induction k with
  | zero =>
    intro y b u h hb hI h29 h30 hQ
    have hd := hd0.pk hI
    have hs : zYs (u 225) Λ m := by rw [hI.1 225 (by decide)]; exact hs0
    have hle := zYm_le (hm.2.2 w hw).1
    have hy99 := hm.1
    refine e_iload_n 14 dX8_peakOf_13 rfl rfl ?_
    refine e_aload_n 15 dX8_peakOf_14 rfl rfl ?_
    refine e_getr 18 dX8_peakOf_15 lf_X8_7 rfl rfl rfl (by decide) hr.ys ?_
    refine e_iconst 19 hic_0 dX8_peakOf_18 rfl ?_
    refine e_iald (v := nI m.1) 20 dX8_peakOf_19 rfl rfl (by decide) rfl (by show 0 < 2950; omega) hs.1 ?_
    refine e_icmp_gtN 59 23 dX8_peakOf_20 (by decide) rfl (by omega) (by omega) (fun h20 => ?_) (fun h20 => ?_)
    · exact hQ u _ hI h29 h30
    · exact absurd h20 (by omega)
  | succ k ih =>
    intro y b u h hb hI h29 h30 hQ
    have hd := hd0.pk hI
    have hs : zYs (u 225) Λ m := by rw [hI.1 225 (by decide)]; exact hs0
    have hle := zYm_le (hm.2.2 w hw).1
    have hy99 := hm.1
    have e0 : zPkF (zYm (Λ 0 0) (m.2.2.2 w).2.1) (k + 1) y b = zPkF (zYm (Λ 0 0) (m.2.2.2 w).2.1) k (y + 1) (if (zYm (Λ 0 0) (m.2.2.2 w).2.1) b < (zYm (Λ 0 0) (m.2.2.2 w).2.1) y then y else b) := rfl
    rw [e0] at hQ
    refine e_iload_n 14 dX8_peakOf_13 rfl rfl ?_
    refine e_aload_n 15 dX8_peakOf_14 rfl rfl ?_
    refine e_getr 18 dX8_peakOf_15 lf_X8_7 rfl rfl rfl (by decide) hr.ys ?_
    refine e_iconst 19 hic_0 dX8_peakOf_18 rfl ?_
    refine e_iald (v := nI m.1) 20 dX8_peakOf_19 rfl rfl (by decide) rfl (by show 0 < 2950; omega) hs.1 ?_
    refine e_icmp_gtN 59 23 dX8_peakOf_20 (by decide) rfl (by omega) (by omega) (fun h20 => ?_) (fun h20 => ?_)
    · exact absurd h20 (by omega)
    · refine e_aload_n 24 dX8_peakOf_23 rfl rfl ?_
      refine e_aload_n 25 dX8_peakOf_24 rfl rfl ?_
      refine e_iload_n 26 dX8_peakOf_25 rfl rfl ?_
      refine e_iload_n 27 dX8_peakOf_26 rfl rfl ?_
      refine c_Vqi 30 (ci := 8) dX8_peakOf_27 (k_X8_youngMean G hr hd hW (yg := (m.2.2.2 w).2.1) hw (y := y) (by omega) (fun p hp => (hs.2.2.2 w hw).2.1 p hp y (by omega)) (fun p hp => (hm.2.2 w hw).1.2.1 p hp y (by omega))) lm_X8_199 zi_yX8_youngMean zs_yX8_youngMean rfl rfl (by decide) rfl rfl rfl (Nat.le_of_ble_eq_true rfl) (Nat.le_of_ble_eq_true rfl) (Nat.le_of_ble_eq_true rfl) (by exact Nat.le_refl _) (by exact Nat.le_refl _) ?_
      refine e_aload_n 31 dX8_peakOf_30 rfl rfl ?_
      refine e_iload_n 32 dX8_peakOf_31 rfl rfl ?_
      refine e_aload_n 33 dX8_peakOf_32 rfl rfl ?_
      refine e_geti 36 dX8_peakOf_33 lf_X8_193 rfl rfl rfl (by decide) h29 ?_
      refine c_Vqi 39 (ci := 8) dX8_peakOf_36 (k_X8_youngMean G hr hd hW (yg := (m.2.2.2 w).2.1) hw (y := b) (by omega) (fun p hp => (hs.2.2.2 w hw).2.1 p hp b (by omega)) (fun p hp => (hm.2.2 w hw).1.2.1 p hp b (by omega))) lm_X8_199 zi_yX8_youngMean zs_yX8_youngMean rfl rfl (by decide) rfl rfl rfl (Nat.le_of_ble_eq_true rfl) (Nat.le_of_ble_eq_true rfl) (Nat.le_of_ble_eq_true rfl) (by exact Nat.le_refl _) (by exact Nat.le_refl _) ?_
      refine e_icmp_leN 46 42 dX8_peakOf_39 (by decide) rfl (by have := hle y (by omega); omega) (by have := hle b (by omega); omega) (fun h39 => ?_) (fun h39 => ?_)
      · refine e_aload_n 47 dX8_peakOf_46 rfl rfl ?_
        refine e_geti 50 dX8_peakOf_47 lf_X8_193 rfl rfl rfl (by decide) h29 ?_
        refine e_puti 53 dX8_peakOf_50 lf_X8_193 rfl rfl rfl rfl rfl (by decide) ?_
        refine e_iinc 56 dX8_peakOf_53 rfl (by decide) rfl (z_inc hii_1) (zst1_2 rfl) ?_
        refine e_goto 13 dX8_peakOf_56 (by decide) ?_
        first
          | (rw [if_neg (by omega)] at hQ; exact ih (y + 1) b _ (by omega) hb (hI.p (Or.inl rfl)) (zp_s _ _ _ _) ((zp_k _ _ (by decide)).trans h30) hQ)
          | (rw [if_pos (by omega)] at hQ; exact ih (y + 1) y _ (by omega) (by omega) (hI.p (Or.inl rfl)) (zp_s _ _ _ _) ((zp_k _ _ (by decide)).trans h30) hQ)
      · refine e_iload_n 43 dX8_peakOf_42 rfl rfl ?_
        refine e_goto 50 dX8_peakOf_43 (by decide) ?_
        refine e_puti 53 dX8_peakOf_50 lf_X8_193 rfl rfl rfl rfl rfl (by decide) ?_
        refine e_iinc 56 dX8_peakOf_53 rfl (by decide) rfl (z_inc hii_1) (zst1_2 rfl) ?_
        refine e_goto 13 dX8_peakOf_56 (by decide) ?_
        first
          | (rw [if_neg (by omega)] at hQ; exact ih (y + 1) b _ (by omega) hb (hI.p (Or.inl rfl)) (zp_s _ _ _ _) ((zp_k _ _ (by decide)).trans h30) hQ)
          | (rw [if_pos (by omega)] at hQ; exact ih (y + 1) y _ (by omega) (by omega) (hI.p (Or.inl rfl)) (zp_s _ _ _ _) ((zp_k _ _ (by decide)).trans h30) hQ)
set_option maxHeartbeats 4000000 in
set_option maxRecDepth 100000 in
theorem l_X8_peak2 (G : zG) (d : Nat) (Q : zQ) {D E : Nat} {Λ : zLd} {m : zMo} {mi : zFi} {ml : zFl} {mr : zFr} (hr : zRf mr D E) (hd0 : zYd mi Λ) (hW : zLandW Λ) (hs0 : zYs (mi 225) Λ m) (hm : zMoW Λ m) {w : Nat} (hw : w < Λ 0 1) {pk : Nat} (hpk : pk ≤ m.1) : ∀ (k y : Nat) (u : zFi), y = pk + k → y ≤ m.1 → zPk9 u mi → u 224 29 = nI pk → u 224 30 = zOptI (zFst (fun y => decide ((zYm (Λ 0 0) (m.2.2.2 w).2.1) y < 100)) (m.1 - y) (y + 1)) → (∀ u2 v, zPk9 u2 mi → u2 224 29 = nI pk → u2 224 30 = zOptI (zFst (fun y => decide ((zYm (Λ 0 0) (m.2.2.2 w).2.1) y < 100)) (m.1 - pk) (pk + 1)) → zE G (zRm (d + 1) 238 238) (zQm G 238 238 Q) yX8_peakOf.cls yX8_peakOf.name cX8_peakOf 3 (some .int) 238 103 [.ref 224, .int (nI w), v] [] 238 u2 ml mr) → zE G (zRm (d + 1) 238 238) (zQm G 238 238 Q) yX8_peakOf.cls yX8_peakOf.name cX8_peakOf 3 (some .int) 238 66 [.ref 224, .int (nI w), .int (nI y)] [] 238 u ml mr := by
  intro k
  induction k with
  | zero =>
    intro y u h hy hI h29 h30 hQ
    have hd := hd0.pk hI
    have hs : zYs (u 225) Λ m := by rw [hI.1 225 (by decide)]; exact hs0
    have hle := zYm_le (hm.2.2 w hw).1
    have hy99 := hm.1
    refine e_iload_n 67 dX8_peakOf_66 rfl rfl ?_
    refine e_aload_n 68 dX8_peakOf_67 rfl rfl ?_
    refine e_geti 71 dX8_peakOf_68 lf_X8_193 rfl rfl rfl (by decide) h29 ?_
    refine e_icmp_leN 103 74 dX8_peakOf_71 (by decide) rfl (by omega) (by omega) (fun h71 => ?_) (fun h71 => ?_)
    · have e : y = pk := by omega
      subst e
      exact hQ u _ hI h29 h30
    · exact absurd h71 (by omega)
  | succ k ih =>
    intro y u h hy hI h29 h30 hQ
    have hd := hd0.pk hI
    have hs : zYs (u 225) Λ m := by rw [hI.1 225 (by decide)]; exact hs0
    have hle := zYm_le (hm.2.2 w hw).1
    have hy99 := hm.1
    refine e_iload_n 67 dX8_peakOf_66 rfl rfl ?_
    refine e_aload_n 68 dX8_peakOf_67 rfl rfl ?_
    refine e_geti 71 dX8_peakOf_68 lf_X8_193 rfl rfl rfl (by decide) h29 ?_
    refine e_icmp_leN 103 74 dX8_peakOf_71 (by decide) rfl (by omega) (by omega) (fun h71 => ?_) (fun h71 => ?_)
    · exact absurd h71 (by omega)
    · refine e_aload_n 75 dX8_peakOf_74 rfl rfl ?_
      refine e_aload_n 76 dX8_peakOf_75 rfl rfl ?_
      refine e_iload_n 77 dX8_peakOf_76 rfl rfl ?_
      refine e_iload_n 78 dX8_peakOf_77 rfl rfl ?_
      refine c_Vqi 81 (ci := 8) dX8_peakOf_78 (k_X8_youngMean G hr hd hW (yg := (m.2.2.2 w).2.1) hw (y := y) (by omega) (fun p hp => (hs.2.2.2 w hw).2.1 p hp y (by omega)) (fun p hp => (hm.2.2 w hw).1.2.1 p hp y (by omega))) lm_X8_199 zi_yX8_youngMean zs_yX8_youngMean rfl rfl (by decide) rfl rfl rfl (Nat.le_of_ble_eq_true rfl) (Nat.le_of_ble_eq_true rfl) (Nat.le_of_ble_eq_true rfl) (by exact Nat.le_refl _) (by exact Nat.le_refl _) ?_
      refine e_bipush 83 hbi_100 dX8_peakOf_81 rfl ?_
      refine e_icmp_geN 90 86 dX8_peakOf_83 (by decide) rfl (by have := hle y (by omega); omega) (by omega) (fun h83 => ?_) (fun h83 => ?_)
      · refine e_aload_n 91 dX8_peakOf_90 rfl rfl ?_
        refine e_geti 94 dX8_peakOf_91 lf_X8_196 rfl rfl rfl (by decide) h30 ?_
        refine e_puti 97 dX8_peakOf_94 lf_X8_196 rfl rfl rfl rfl rfl (by decide) ?_
        refine e_iinc 100 dX8_peakOf_97 rfl (by decide) rfl (z_dec (by omega)) (zst1_2 rfl) ?_
        refine e_goto 66 dX8_peakOf_100 (by decide) ?_
        first
          | exact ih (y - 1) _ (by omega) (by omega) (hI.p (Or.inr rfl)) ((zp_k _ _ (by decide)).trans h29) (zFst_m (by omega) hy ((zp_s _ _ _ _).trans (by rw [if_pos (by simp only [decide_eq_true_eq]; omega)]; rfl))) hQ
          | exact ih (y - 1) _ (by omega) (by omega) (hI.p (Or.inr rfl)) ((zp_k _ _ (by decide)).trans h29) (zFst_m (by omega) hy ((zp_s _ _ _ _).trans (by rw [if_neg (by simp only [decide_eq_true_eq]; omega)]))) hQ
      · refine e_iload_n 87 dX8_peakOf_86 rfl rfl ?_
        refine e_goto 94 dX8_peakOf_87 (by decide) ?_
        refine e_puti 97 dX8_peakOf_94 lf_X8_196 rfl rfl rfl rfl rfl (by decide) ?_
        refine e_iinc 100 dX8_peakOf_97 rfl (by decide) rfl (z_dec (by omega)) (zst1_2 rfl) ?_
        refine e_goto 66 dX8_peakOf_100 (by decide) ?_
        first
          | exact ih (y - 1) _ (by omega) (by omega) (hI.p (Or.inr rfl)) ((zp_k _ _ (by decide)).trans h29) (zFst_m (by omega) hy ((zp_s _ _ _ _).trans (by rw [if_pos (by simp only [decide_eq_true_eq]; omega)]; rfl))) hQ
          | exact ih (y - 1) _ (by omega) (by omega) (hI.p (Or.inr rfl)) ((zp_k _ _ (by decide)).trans h29) (zFst_m (by omega) hy ((zp_s _ _ _ _).trans (by rw [if_neg (by simp only [decide_eq_true_eq]; omega)]))) hQ
set_option maxHeartbeats 4000000 in
set_option maxRecDepth 100000 in
theorem k_X8_peakOf (G : zG) {D E : Nat} {Λ : zLd} {m : zMo} {mi : zFi} {ml : zFl} {mr : zFr} (hr : zRf mr D E) (hd0 : zYd mi Λ) (hW : zLandW Λ) (hs0 : zYs (mi 225) Λ m) (hm : zMoW Λ m) {w : Nat} (hw : w < Λ 0 1) : zMet G 1 yX8_peakOf cX8_peakOf 3 (some .int) [.ref 224, .int (nI w)] 238 mi ml mr 238 (zPi fun x u b c => x = nI (zPeakV Λ m.1 (m.2.2.2 w)) ∧ u 224 29 = nI (zPeakY (zYm (Λ 0 0) (m.2.2.2 w).2.1) m.1) ∧ u 224 30 = zOptI (zOver (zYm (Λ 0 0) (m.2.2.2 w).2.1) m.1) ∧ zPk9 u mi ∧ b = ml ∧ c = mr) := by
  refine z_intro ([.ref 224, .int (nI w), zx]) (by decide) rfl (Nat.le_of_ble_eq_true rfl) ?_
  refine e_aload_n 1 dX8_peakOf_0 rfl rfl ?_
  refine e_iconst 2 hic_0 dX8_peakOf_1 rfl ?_
  refine e_puti 5 dX8_peakOf_2 lf_X8_193 rfl rfl rfl rfl rfl (by decide) ?_
  refine e_aload_n 6 dX8_peakOf_5 rfl rfl ?_
  refine e_bipush 8 hbi_m9 dX8_peakOf_6 rfl ?_
  refine e_puti 11 dX8_peakOf_8 lf_X8_196 rfl rfl rfl rfl rfl (by decide) ?_
  refine e_iconst 12 hic_1 dX8_peakOf_11 rfl ?_
  refine e_istore_n 13 dX8_peakOf_12 rfl (by decide) (zst1_2 rfl) ?_
  have hy99 := hm.1
  refine l_X8_peak1 G 0 _ hr hd0 hW hs0 hm hw m.1 1 0 _ (by omega) (Nat.zero_le _) (((zPk9.r mi).p (Or.inl rfl)).p (Or.inr rfl)) ((zp_k _ _ (by decide)).trans (zp_s _ _ _ _)) (zp_s _ _ _ _) (fun u1 v1 i1 a29 a30 => ?_)
  have hs : zYs (u1 225) Λ m := by rw [i1.1 225 (by decide)]; exact hs0
  refine e_aload_n 60 dX8_peakOf_59 rfl rfl ?_
  refine e_getr 63 dX8_peakOf_60 lf_X8_7 rfl rfl rfl (by decide) hr.ys ?_
  refine e_iconst 64 hic_0 dX8_peakOf_63 rfl ?_
  refine e_iald (v := nI m.1) 65 dX8_peakOf_64 rfl rfl (by decide) rfl (by show 0 < 2950; omega) hs.1 ?_
  refine e_istore_n 66 dX8_peakOf_65 rfl (by decide) (zst1_2 rfl) ?_
  have hpk1 := zPeakY_le (zYm (Λ 0 0) (m.2.2.2 w).2.1) m.1
  refine l_X8_peak2 G 0 _ hr hd0 hW hs0 hm hw (pk := zPeakY (zYm (Λ 0 0) (m.2.2.2 w).2.1) m.1) hpk1 (m.1 - zPeakY (zYm (Λ 0 0) (m.2.2.2 w).2.1) m.1) m.1 u1 (by omega) (Nat.le_refl _) i1 a29 (by rw [a30, Nat.sub_self]; rfl) (fun u2 v2 i2 b29 b30 => ?_)
  have hd := hd0.pk i2
  have hs : zYs (u2 225) Λ m := by rw [i2.1 225 (by decide)]; exact hs0
  have hpk := zPeakY_le (zYm (Λ 0 0) (m.2.2.2 w).2.1) m.1
  refine e_aload_n 104 dX8_peakOf_103 rfl rfl ?_
  refine e_iload_n 105 dX8_peakOf_104 rfl rfl ?_
  refine e_aload_n 106 dX8_peakOf_105 rfl rfl ?_
  refine e_geti 109 dX8_peakOf_106 lf_X8_193 rfl rfl rfl (by decide) b29 ?_
  refine c_Vqi 112 (ci := 8) dX8_peakOf_109 (k_X8_youngMean G hr hd hW (yg := (m.2.2.2 w).2.1) hw (y := (zPeakY (zYm (Λ 0 0) (m.2.2.2 w).2.1) m.1)) (by omega) (fun p hp => (hs.2.2.2 w hw).2.1 p hp (zPeakY (zYm (Λ 0 0) (m.2.2.2 w).2.1) m.1) (by omega)) (fun p hp => (hm.2.2 w hw).1.2.1 p hp (zPeakY (zYm (Λ 0 0) (m.2.2.2 w).2.1) m.1) (by omega))) lm_X8_199 zi_yX8_youngMean zs_yX8_youngMean rfl rfl (by decide) rfl rfl rfl (Nat.le_of_ble_eq_true rfl) (Nat.le_of_ble_eq_true rfl) (Nat.le_of_ble_eq_true rfl) (by exact Nat.le_refl _) (by exact Nat.le_refl _) ?_
  refine e_ireturn .int dX8_peakOf_112 rfl rfl ?_
  exact ⟨_, rfl, rfl, b29, b30, i2, rfl, rfl⟩

set_option maxHeartbeats 4000000 in
set_option maxRecDepth 100000 in
theorem m_X8_keptAge (G : zG) (d : Nat) (Q : zQ) {D E : Nat} {Λ : zLd} {mi : zFi} {ml : zFl} {mr : zFr} (hr : zRf mr D E) (hd : zYd mi Λ) (hW : zLandW Λ) {w : Nat} {sh : Nat → Nat → Nat} (hsh : zYsh (mi 225) (Λ 0 0) w sh) (hle : ∀ p, p < Λ 0 0 → zLe (sh p)) (hw : w < Λ 0 1) {a b : Nat} {mo : Int32} (h10 : 10 ≤ a) (h69 : a ≤ 69) : ∀ (k p s : Nat), p + k = Λ 0 0 → zE G (zRm (d + 1) 238 238) (zQm G 238 238 Q) yX8_keptAge.cls yX8_keptAge.name cX8_keptAge 7 (some .int) 238 55 [.ref 224, .int (nI w), .int (nI b), .int mo, .int (nI a), .int (nI (s + zsum (fun p => sh p a) p k)), .int (nI (Λ 0 0))] [] 238 mi ml mr → zE G (zRm (d + 1) 238 238) (zQm G 238 238 Q) yX8_keptAge.cls yX8_keptAge.name cX8_keptAge 7 (some .int) 238 22 [.ref 224, .int (nI w), .int (nI b), .int mo, .int (nI a), .int (nI s), .int (nI p)] [] 238 mi ml mr := by
  intro k
  induction k with
  | zero =>
    intro p s h hQ
    have hP3 := hW.1.1
    have hW5 := hW.1.2.1
    refine e_iload 24 dX8_keptAge_22 rfl rfl ?_
    refine e_aload_n 25 dX8_keptAge_24 rfl rfl ?_
    refine e_geti 28 dX8_keptAge_25 lf_X8_138 rfl rfl rfl (by decide) hd.1.1 ?_
    refine e_icmp_geN 55 31 dX8_keptAge_28 (by decide) rfl (by omega) (by omega) (fun h28 => ?_) (fun h28 => ?_)
    · have e : p = Λ 0 0 := by omega
      subst e
      exact hQ
    · exact absurd h28 (by omega)
  | succ k ih =>
    intro p s h hQ
    have hP3 := hW.1.1
    have hW5 := hW.1.2.1
    have e0 : s + zsum (fun p => sh p a) p (k + 1) = s + sh p a + zsum (fun p => sh p a) (p + 1) k := by show s + (sh p a + _) = _; rw [Nat.add_assoc]
    rw [e0] at hQ
    refine e_iload 24 dX8_keptAge_22 rfl rfl ?_
    refine e_aload_n 25 dX8_keptAge_24 rfl rfl ?_
    refine e_geti 28 dX8_keptAge_25 lf_X8_138 rfl rfl rfl (by decide) hd.1.1 ?_
    refine e_icmp_geN 55 31 dX8_keptAge_28 (by decide) rfl (by omega) (by omega) (fun h28 => ?_) (fun h28 => ?_)
    · exact absurd h28 (by omega)
    · refine e_iload 33 dX8_keptAge_31 rfl rfl ?_
      refine e_aload_n 34 dX8_keptAge_33 rfl rfl ?_
      refine e_getr 37 dX8_keptAge_34 lf_X8_7 rfl rfl rfl (by decide) hr.ys ?_
      refine e_iload_n 38 dX8_keptAge_37 rfl rfl ?_
      refine e_iload 40 dX8_keptAge_38 rfl rfl ?_
      refine e_iload 42 dX8_keptAge_40 rfl rfl ?_
      refine c_Sqi 45 dX8_keptAge_42 (k_X8_at G) lm_X8_162 zt_yX8_at rfl rfl rfl (Nat.le_of_ble_eq_true rfl) (Nat.le_of_ble_eq_true rfl) (Nat.le_of_ble_eq_true rfl) (by exact Nat.le_refl _) (by exact Nat.le_refl _) ?_
      refine e_iald 46 dX8_keptAge_45 rfl rfl (by decide) rfl (by show zAt w p a < 2950; unfold zAt; omega) (hsh p h28 a h10 h69) ?_
      first | refine e_iaddN 47 dX8_keptAge_46 rfl ?_ | refine e_iadd 47 dX8_keptAge_46 rfl ?_
      refine e_istore 49 dX8_keptAge_47 rfl (by decide) (zst1_5 rfl) ?_
      refine e_iinc 52 dX8_keptAge_49 rfl (by decide) rfl (z_inc hii_1) (zst1_6 rfl) ?_
      refine e_goto 22 dX8_keptAge_52 (by decide) ?_
      exact ih (p + 1) _ (by omega) hQ
set_option maxHeartbeats 4000000 in
set_option maxRecDepth 100000 in
theorem l_X8_keptAge (G : zG) (d : Nat) (Q : zQ) {D E : Nat} {Λ : zLd} {mi : zFi} {ml : zFl} {mr : zFr} (hr : zRf mr D E) (hd : zYd mi Λ) (hW : zLandW Λ) {w : Nat} {sh : Nat → Nat → Nat} (hsh : zYsh (mi 225) (Λ 0 0) w sh) (hle : ∀ p, p < Λ 0 0 → zLe (sh p)) (hw : w < Λ 0 1) : ∀ (k a b mx : Nat) (v5 v6 : Value), 10 ≤ a → a + k = 70 → mx ≤ 3000 → Q (some (.int (nI (zKpF (fun a => zsum (fun p => sh p a) 0 (Λ 0 0)) k a b mx)))) mi ml mr → zE G (zRm (d + 1) 238 238) (zQm G 238 238 Q) yX8_keptAge.cls yX8_keptAge.name cX8_keptAge 7 (some .int) 238 9 [.ref 224, .int (nI w), .int (nI b), .int (nI mx), .int (nI a), v5, v6] [] 238 mi ml mr := by
  intro k
  induction k with
  | zero =>
    intro a b mx v5 v6 h10 h hm hQ
    refine e_iload 11 dX8_keptAge_9 rfl rfl ?_
    refine e_bipush 13 hbi_70 dX8_keptAge_11 rfl ?_
    refine e_icmp_geN 87 16 dX8_keptAge_13 (by decide) rfl (by omega) (by omega) (fun h13 => ?_) (fun h13 => ?_)
    · refine e_iload_n 88 dX8_keptAge_87 rfl rfl ?_
      refine e_ireturn .int dX8_keptAge_88 rfl rfl ?_
      exact hQ
    · exact absurd h13 (by omega)
  | succ k ih =>
    intro a b mx v5 v6 h10 h hm hQ
    have h69 : a ≤ 69 := by omega
    have hsa := zsum_le (f := fun p => sh p a) (M := 1000) (Λ 0 0) 0 (fun i h1 h2 => hle i (by omega) a (by omega) (by omega))
    have hP3 := hW.1.1
    have hs3 : Λ 0 0 * 1000 ≤ 3 * 1000 := Nat.mul_le_mul_right _ hP3
    have e0 : zKpF (fun a => zsum (fun p => sh p a) 0 (Λ 0 0)) (k + 1) a b mx = zKpF (fun a => zsum (fun p => sh p a) 0 (Λ 0 0)) k (a + 1) (if mx < zsum (fun p => sh p a) 0 (Λ 0 0) then a else b) (if mx < zsum (fun p => sh p a) 0 (Λ 0 0) then zsum (fun p => sh p a) 0 (Λ 0 0) else mx) := rfl
    rw [e0] at hQ
    refine e_iload 11 dX8_keptAge_9 rfl rfl ?_
    refine e_bipush 13 hbi_70 dX8_keptAge_11 rfl ?_
    refine e_icmp_geN 87 16 dX8_keptAge_13 (by decide) rfl (by omega) (by omega) (fun h13 => ?_) (fun h13 => ?_)
    · exact absurd h13 (by omega)
    · refine e_iconst 17 hic_0 dX8_keptAge_16 rfl ?_
      refine e_istore 19 dX8_keptAge_17 rfl (by decide) (zst1_5 rfl) ?_
      refine e_iconst 20 hic_0 dX8_keptAge_19 rfl ?_
      refine e_istore 22 dX8_keptAge_20 rfl (by decide) (zst1_6 rfl) ?_
      refine m_X8_keptAge G d _ hr hd hW hsh hle hw h10 h69 (Λ 0 0) 0 0 (by omega) ?_
      rw [Nat.zero_add]
      refine e_iload 57 dX8_keptAge_55 rfl rfl ?_
      refine e_iload_n 58 dX8_keptAge_57 rfl rfl ?_
      refine e_icmp_leN 66 61 dX8_keptAge_58 (by decide) rfl (by omega) (by omega) (fun h58 => ?_) (fun h58 => ?_)
      · refine e_iload_n 67 dX8_keptAge_66 rfl rfl ?_
        refine e_istore_n 68 dX8_keptAge_67 rfl (by decide) (zst1_2 rfl) ?_
        refine e_iload 70 dX8_keptAge_68 rfl rfl ?_
        refine e_iload_n 71 dX8_keptAge_70 rfl rfl ?_
        refine e_icmp_leN 79 74 dX8_keptAge_71 (by decide) rfl (by omega) (by omega) (fun h71 => ?_) (fun h71 => ?_)
        · refine e_iload_n 80 dX8_keptAge_79 rfl rfl ?_
          refine e_istore_n 81 dX8_keptAge_80 rfl (by decide) (zst1_3 rfl) ?_
          refine e_iinc 84 dX8_keptAge_81 rfl (by decide) rfl (z_inc hii_1) (zst1_4 rfl) ?_
          refine e_goto 9 dX8_keptAge_84 (by decide) ?_
          first
            | exact absurd h71 (by omega)
            | (rw [if_neg (by omega), if_neg (by omega)] at hQ; exact ih (a + 1) b mx _ _ (by omega) (by omega) (by omega) hQ)
            | (rw [if_pos (by omega), if_pos (by omega)] at hQ; exact ih (a + 1) a _ _ _ (by omega) (by omega) (by omega) hQ)
        · refine e_iload 76 dX8_keptAge_74 rfl rfl ?_
          refine e_goto 80 dX8_keptAge_76 (by decide) ?_
          refine e_istore_n 81 dX8_keptAge_80 rfl (by decide) (zst1_3 rfl) ?_
          refine e_iinc 84 dX8_keptAge_81 rfl (by decide) rfl (z_inc hii_1) (zst1_4 rfl) ?_
          refine e_goto 9 dX8_keptAge_84 (by decide) ?_
          first
            | exact absurd h71 (by omega)
            | (rw [if_neg (by omega), if_neg (by omega)] at hQ; exact ih (a + 1) b mx _ _ (by omega) (by omega) (by omega) hQ)
            | (rw [if_pos (by omega), if_pos (by omega)] at hQ; exact ih (a + 1) a _ _ _ (by omega) (by omega) (by omega) hQ)
      · refine e_iload 63 dX8_keptAge_61 rfl rfl ?_
        refine e_goto 67 dX8_keptAge_63 (by decide) ?_
        refine e_istore_n 68 dX8_keptAge_67 rfl (by decide) (zst1_2 rfl) ?_
        refine e_iload 70 dX8_keptAge_68 rfl rfl ?_
        refine e_iload_n 71 dX8_keptAge_70 rfl rfl ?_
        refine e_icmp_leN 79 74 dX8_keptAge_71 (by decide) rfl (by omega) (by omega) (fun h71 => ?_) (fun h71 => ?_)
        · refine e_iload_n 80 dX8_keptAge_79 rfl rfl ?_
          refine e_istore_n 81 dX8_keptAge_80 rfl (by decide) (zst1_3 rfl) ?_
          refine e_iinc 84 dX8_keptAge_81 rfl (by decide) rfl (z_inc hii_1) (zst1_4 rfl) ?_
          refine e_goto 9 dX8_keptAge_84 (by decide) ?_
          first
            | exact absurd h71 (by omega)
            | (rw [if_neg (by omega), if_neg (by omega)] at hQ; exact ih (a + 1) b mx _ _ (by omega) (by omega) (by omega) hQ)
            | (rw [if_pos (by omega), if_pos (by omega)] at hQ; exact ih (a + 1) a _ _ _ (by omega) (by omega) (by omega) hQ)
        · refine e_iload 76 dX8_keptAge_74 rfl rfl ?_
          refine e_goto 80 dX8_keptAge_76 (by decide) ?_
          refine e_istore_n 81 dX8_keptAge_80 rfl (by decide) (zst1_3 rfl) ?_
          refine e_iinc 84 dX8_keptAge_81 rfl (by decide) rfl (z_inc hii_1) (zst1_4 rfl) ?_
          refine e_goto 9 dX8_keptAge_84 (by decide) ?_
          first
            | exact absurd h71 (by omega)
            | (rw [if_neg (by omega), if_neg (by omega)] at hQ; exact ih (a + 1) b mx _ _ (by omega) (by omega) (by omega) hQ)
            | (rw [if_pos (by omega), if_pos (by omega)] at hQ; exact ih (a + 1) a _ _ _ (by omega) (by omega) (by omega) hQ)
set_option maxHeartbeats 4000000 in
set_option maxRecDepth 100000 in
theorem k_X8_keptAge (G : zG) {D E : Nat} {Λ : zLd} {mi : zFi} {ml : zFl} {mr : zFr} (hr : zRf mr D E) (hd : zYd mi Λ) (hW : zLandW Λ) {w : Nat} {sh : Nat → Nat → Nat} (hsh : zYsh (mi 225) (Λ 0 0) w sh) (hle : ∀ p, p < Λ 0 0 → zLe (sh p)) (hw : w < Λ 0 1) : zMet G 1 yX8_keptAge cX8_keptAge 7 (some .int) [.ref 224, .int (nI w)] 238 mi ml mr 238 (zPq (some (.int (nI (zKept (Λ 0 0) sh)))) mi ml mr) := by
  refine z_intro ([.ref 224, .int (nI w), zx, zx, zx, zx, zx]) (by decide) rfl (Nat.le_of_ble_eq_true rfl) ?_
  refine e_bipush 2 hbi_10 dX8_keptAge_0 rfl ?_
  refine e_istore_n 3 dX8_keptAge_2 rfl (by decide) (zst1_2 rfl) ?_
  refine e_iconst 4 hic_m1 dX8_keptAge_3 rfl ?_
  refine e_istore_n 5 dX8_keptAge_4 rfl (by decide) (zst1_3 rfl) ?_
  refine e_bipush 7 hbi_10 dX8_keptAge_5 rfl ?_
  refine e_istore 9 dX8_keptAge_7 rfl (by decide) (zst1_4 rfl) ?_
  refine e_iload 11 dX8_keptAge_9 rfl rfl ?_
  refine e_bipush 13 hbi_70 dX8_keptAge_11 rfl ?_
  refine e_icmp_geN 87 16 dX8_keptAge_13 (by decide) rfl (by decide) (by decide) (fun h13 => ?_) (fun h13 => ?_)
  · exact absurd h13 (by decide)
  · refine e_iconst 17 hic_0 dX8_keptAge_16 rfl ?_
    refine e_istore 19 dX8_keptAge_17 rfl (by decide) (zst1_5 rfl) ?_
    refine e_iconst 20 hic_0 dX8_keptAge_19 rfl ?_
    refine e_istore 22 dX8_keptAge_20 rfl (by decide) (zst1_6 rfl) ?_
    have hsa := zsum_le (f := fun p => sh p 10) (M := 1000) (Λ 0 0) 0 (fun i h1 h2 => hle i (by omega) 10 (by omega) (by omega))
    have hP3 := hW.1.1
    have hs3 : Λ 0 0 * 1000 ≤ 3 * 1000 := Nat.mul_le_mul_right _ hP3
    refine m_X8_keptAge G 0 _ hr hd hW hsh hle hw (a := 10) (b := 10) (by decide) (by decide) (Λ 0 0) 0 0 (by omega) ?_
    rw [Nat.zero_add (zsum (fun p => sh p 10) 0 (Λ 0 0))]
    refine e_iload 57 dX8_keptAge_55 rfl rfl ?_
    refine e_iload_n 58 dX8_keptAge_57 rfl rfl ?_
    refine e_icmp_le 66 61 dX8_keptAge_58 (by decide) rfl (fun h58 => ?_) (fun h58 => ?_)
    · exact absurd h58 (nI_m1 (by omega))
    · refine e_iload 63 dX8_keptAge_61 rfl rfl ?_
      refine e_goto 67 dX8_keptAge_63 (by decide) ?_
      refine e_istore_n 68 dX8_keptAge_67 rfl (by decide) (zst1_2 rfl) ?_
      refine e_iload 70 dX8_keptAge_68 rfl rfl ?_
      refine e_iload_n 71 dX8_keptAge_70 rfl rfl ?_
      refine e_icmp_le 79 74 dX8_keptAge_71 (by decide) rfl (fun h71 => ?_) (fun h71 => ?_)
      · exact absurd h71 (nI_m1 (by omega))
      · refine e_iload 76 dX8_keptAge_74 rfl rfl ?_
        refine e_goto 80 dX8_keptAge_76 (by decide) ?_
        refine e_istore_n 81 dX8_keptAge_80 rfl (by decide) (zst1_3 rfl) ?_
        refine e_iinc 84 dX8_keptAge_81 rfl (by decide) rfl (z_inc hii_1) (zst1_4 rfl) ?_
        refine e_goto 9 dX8_keptAge_84 (by decide) ?_
        refine l_X8_keptAge G 0 _ hr hd hW hsh hle hw 59 11 10 (zsum (fun p => sh p 10) 0 (Λ 0 0)) _ _ (by decide) (by decide) (by omega) ?_
        rw [← zKept_1]
        exact ⟨rfl, rfl, rfl, rfl⟩

