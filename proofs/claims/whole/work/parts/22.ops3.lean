/-- three tests, one behind another -/
theorem ite3_1 {α : Type} {p q s : Prop} {d1 : Decidable p} {d2 : Decidable q} {d3 : Decidable s} {a b : α} (h1 : p) (h2 : q) (h3 : s) : @ite _ p d1 (@ite _ q d2 (@ite _ s d3 a b) b) b = a := by rw [iteP h1, iteP h2, iteP h3]
theorem ite3_0 {α : Type} {p q s : Prop} {d1 : Decidable p} {d2 : Decidable q} {d3 : Decidable s} {a b : α} (h : ¬ (p ∧ q ∧ s)) : @ite _ p d1 (@ite _ q d2 (@ite _ s d3 a b) b) b = b := by
  by_cases h1 : p
  · rw [iteP h1]
    by_cases h2 : q
    · rw [iteP h2, iteN (fun h3 => h ⟨h1, h2, h3⟩)]
    · rw [iteN h2]
  · rw [iteN h1]
theorem ite2_1 {α : Type} {p q : Prop} {d1 : Decidable p} {d2 : Decidable q} {a b : α} (h1 : p) (h2 : q) : @ite _ p d1 (@ite _ q d2 a b) b = a := by rw [iteP h1, iteP h2]
theorem ite2_0 {α : Type} {p q : Prop} {d1 : Decidable p} {d2 : Decidable q} {a b : α} (h : ¬ (p ∧ q)) : @ite _ p d1 (@ite _ q d2 a b) b = b := by
  by_cases h1 : p
  · rw [iteP h1, iteN (fun h3 => h ⟨h1, h3⟩)]
  · rw [iteN h1]
def sShare (Λ : zLd) (m : zMo) (w p a : Int32) : Int32 := @ite _ (vN w (Λ 0 1)) (vN_dec _ _) (@ite _ (vN p (Λ 0 0)) (vN_dec _ _) (@ite _ (vR a 10 69) (vR_dec _ _ _) (nI ((m.2.2.2 (zK w)).1 (zK p) (zK a))) (-1)) (-1)) (-1)
set_option maxHeartbeats 4000000 in
set_option maxRecDepth 100000 in
theorem k_X7_share (G : zG) {D E : Nat} {Λ : zLd} {late : Nat} {tr : Int64} {t : zTx} {m : zMo} {im : Nat → Nat × zMo} {l : zLt} {r : zWr} {mi : zFi} {ml : zFl} {mr : zFr} (hr : zRf mr D E) (hX : zX mi ml D Λ late tr t m im l r) (hF : zWf Λ late t m im l r) {w p a : Int32} : zMet G 2 yX7_share cX7_share 4 (some .int) [.ref 0, .int w, .int p, .int a] 238 mi ml mr 238 (zPq (some (.int (sShare Λ m w p a))) mi ml mr) := by
  obtain ⟨hΛ, hlate, htr, ht, hm, him, hl, hw, hn72⟩ := id hX
  obtain ⟨hW, hla30, htw, hmw, himw, hlw, hrw⟩ := id hF
  have hP3 := hW.1.1
  have hW5 := hW.1.2.1
  have hy99 := hmw.1
  have hD9 := hr.Dl
  refine z_intro ([.ref 0, .int w, .int p, .int a]) (by decide) rfl (Nat.le_of_ble_eq_true rfl) ?_
  refine e_aload_n 1 dX7_share_0 rfl rfl ?_
  refine e_iload_n 2 dX7_share_1 rfl rfl ?_
  refine c_Vqi 5 (ci := 7) dX7_share_2 (k_X7_isWord G hr hΛ hW) lm_X7_126 zi_yX7_isWord zs_yX7_isWord rfl (by first | rfl | assumption) (by first | decide | omega) rfl rfl rfl (Nat.le_of_ble_eq_true rfl) (Nat.le_of_ble_eq_true rfl) (Nat.le_of_ble_eq_true rfl) (Nat.le_refl _) (Nat.le_refl _) ?_
  refine e_if_eq 23 8 dX7_share_5 (by decide) rfl (fun h5 => ?_) (fun h5 => ?_)
  · have h5 := zB_0 h5
    refine e_iconst 24 hic_m1 dX7_share_23 rfl ?_
    refine e_ireturn .int dX7_share_24 rfl rfl ?_
    refine ⟨someI (ite3_0 (fun q => ?_)), rfl, rfl, rfl⟩
    first | exact h5 q.1 | exact h13 q.2.1 | exact h20 q.2.2
  · have h5 := zB_1 h5
    obtain ⟨ew, hw9⟩ := h5.nat
    refine e_aload_n 9 dX7_share_8 rfl rfl ?_
    refine e_iload_n 10 dX7_share_9 rfl rfl ?_
    refine c_Vqi 13 (ci := 7) dX7_share_10 (k_X7_isPlace G hr hΛ hW) lm_X7_118 zi_yX7_isPlace zs_yX7_isPlace rfl (by first | rfl | assumption) (by first | decide | omega) rfl rfl rfl (Nat.le_of_ble_eq_true rfl) (Nat.le_of_ble_eq_true rfl) (Nat.le_of_ble_eq_true rfl) (Nat.le_refl _) (Nat.le_refl _) ?_
    refine e_if_eq 23 16 dX7_share_13 (by decide) rfl (fun h13 => ?_) (fun h13 => ?_)
    · have h13 := zB_0 h13
      refine e_iconst 24 hic_m1 dX7_share_23 rfl ?_
      refine e_ireturn .int dX7_share_24 rfl rfl ?_
      refine ⟨someI (ite3_0 (fun q => ?_)), rfl, rfl, rfl⟩
      first | exact h5 q.1 | exact h13 q.2.1 | exact h20 q.2.2
    · have h13 := zB_1 h13
      obtain ⟨ep, hp9⟩ := h13.nat
      refine e_iload_n 17 dX7_share_16 rfl rfl ?_
      refine c_Sqi 20 dX7_share_17 (k_X7_isAge G) lm_X7_156 zt_yX7_isAge rfl rfl rfl (Nat.le_of_ble_eq_true rfl) (Nat.le_of_ble_eq_true rfl) (Nat.le_of_ble_eq_true rfl) (Nat.le_refl _) (Nat.le_refl _) ?_
      refine e_if_ne 25 23 dX7_share_20 (by decide) rfl (fun h20 => ?_) (fun h20 => ?_)
      · have h20 := zB_1 h20
        obtain ⟨ea, ha9⟩ := h20.nat
        rw [ew, ep, ea]
        refine e_aload_n 26 dX7_share_25 rfl rfl ?_
        refine e_getr 29 dX7_share_26 lf_X7_19 rfl rfl rfl (by decide) hr.now ?_
        refine e_getr 32 dX7_share_29 lf_X7_159 rfl rfl rfl (by decide) hr.m3.r3 ?_
        refine e_iload_n 33 dX7_share_32 rfl rfl ?_
        refine e_aald 34 dX7_share_33 rfl hr.m3.k6 hr.m3.l6 rfl (hr.m3.n6 (by omega)) (hr.m3.lv (by omega)) ?_
        refine e_getr 37 dX7_share_34 lf_X7_163 rfl rfl (hr.m3.lf (w := zK w) (by omega)).k0 (hr.m3.lf (w := zK w) (by omega)).l0 (hr.m3.lf (w := zK w) (by omega)).r0 ?_
        refine e_iload_n 38 dX7_share_37 rfl rfl ?_
        refine e_aald 39 dX7_share_38 rfl (hr.m3.lf (w := zK w) (by omega)).k1 (hr.m3.lf (w := zK w) (by omega)).l1 rfl ((hr.m3.lf (w := zK w) (by omega)).n1 (by omega)) ((hr.m3.lf (w := zK w) (by omega)).sh (by omega)) ?_
        refine e_iload_n 40 dX7_share_39 rfl rfl ?_
        refine e_iald 41 dX7_share_40 rfl ((hr.m3.lf (w := zK w) (by omega)).ks (by omega)) ((hr.m3.lf (w := zK w) (by omega)).ls (by omega)) rfl ((hr.m3.lf (w := zK w) (by omega)).na (by omega) (by omega)) ((hm.2.2.2 _ hw9).1 _ hp9 _ ha9.1 ha9.2) ?_
        refine e_ireturn .int dX7_share_41 rfl rfl ?_
        rw [← ew, ← ep, ← ea]
        exact ⟨someI (ite3_1 h5 h13 h20), rfl, rfl, rfl⟩
      · have h20 := zB_0 h20
        refine e_iconst 24 hic_m1 dX7_share_23 rfl ?_
        refine e_ireturn .int dX7_share_24 rfl rfl ?_
        refine ⟨someI (ite3_0 (fun q => ?_)), rfl, rfl, rfl⟩
        first | exact h5 q.1 | exact h13 q.2.1 | exact h20 q.2.2

def zMeanW (N who : Nat) (x : zSt) : Nat := zsum (fun p => zMeas who (x.1 p)) 0 N / N
def sHas (Λ : zLd) (m : zMo) (w p who : Int32) : Int32 := @ite _ (vN w (Λ 0 1)) (vN_dec _ _) (@ite _ (vR who 0 2) (vR_dec _ _ _) (if p = -1 then nI (zMeanW (Λ 0 0) (zK who) (m.2.2.2 (zK w))) else @ite _ (vN p (Λ 0 0)) (vN_dec _ _) (nI (zMeas (zK who) ((m.2.2.2 (zK w)).1 (zK p)))) (-1)) (-1)) (-1)
theorem zMeanW_le {N who : Nat} {x : zSt} {Y : Nat} (h : zStW N Y x) : zMeanW N who x ≤ 1000 := by
  have := zsum_le (f := fun p => zMeas who (x.1 p)) (M := 1000) N 0 (fun i _ h2 => zMeas_le (h.1 i (by omega)))
  unfold zMeanW
  rcases Nat.eq_zero_or_pos N with e | e
  · subst e; simp
  · exact Nat.div_le_of_le_mul this
set_option maxHeartbeats 4000000 in
set_option maxRecDepth 100000 in
theorem l_X7_meanNow (G : zG) (d : Nat) (Q : zQ) {D E : Nat} {Λ : zLd} {late : Nat} {tr : Int64} {t : zTx} {m : zMo} {im : Nat → Nat × zMo} {l : zLt} {r : zWr} {mi : zFi} {ml : zFl} {mr : zFr} (hr : zRf mr D E) (hX : zX mi ml D Λ late tr t m im l r) (hF : zWf Λ late t m im l r) {w who : Nat} (hw9 : w < Λ 0 1) (hwho : who < 3) : ∀ (k p s : Nat), p + k = Λ 0 0 → Q (some (.int (nI ((s + zsum (fun p => zMeas who ((m.2.2.2 w).1 p)) p k) / Λ 0 0)))) mi ml mr → s + zsum (fun p => zMeas who ((m.2.2.2 w).1 p)) p k < 2 ^ 31 → zE G (zRm (d + 2) 238 238) (zQm G 238 238 Q) yX7_meanNow.cls yX7_meanNow.name cX7_meanNow 5 (some .int) 238 5 [.ref 0, .int (nI w), .int (nI who), .int (nI s), .int (nI p)] [] 238 mi ml mr := by
  intro k
  induction k with
  | zero =>
    intro p s h hQ hs
    obtain ⟨hΛ, hlate, htr, ht, hm, him, hl, hw, hn72⟩ := id hX
    obtain ⟨hW, hla30, htw, hmw, himw, hlw, hrw⟩ := id hF
    have hP3 := hW.1.1
    have hW5 := hW.1.2.1
    have hy99 := hmw.1
    have hD9 := hr.Dl
    refine e_iload 7 dX7_meanNow_5 rfl rfl ?_
    refine e_aload_n 8 dX7_meanNow_7 rfl rfl ?_
    refine e_getr 11 dX7_meanNow_8 lf_X7_62 rfl rfl rfl (by decide) hr.land ?_
    refine e_geti 14 dX7_meanNow_11 lf_X7_184 rfl rfl hr.dD.k0 hr.dD.l0 (hΛ.f0) ?_
    refine e_icmp_geN 41 17 dX7_meanNow_14 (by decide) rfl (by omega) (by omega) (fun h14 => ?_) (fun h14 => ?_)
    · refine e_iload_n 42 dX7_meanNow_41 rfl rfl ?_
      refine e_aload_n 43 dX7_meanNow_42 rfl rfl ?_
      refine e_getr 46 dX7_meanNow_43 lf_X7_62 rfl rfl rfl (by decide) hr.land ?_
      refine e_geti 49 dX7_meanNow_46 lf_X7_184 rfl rfl hr.dD.k0 hr.dD.l0 (hΛ.f0) ?_
      refine c_Sqi 52 dX7_meanNow_49 (k_X7_mean G (by have e : s + zsum (fun p => zMeas who ((m.2.2.2 w).1 p)) p 0 = s := rfl; omega) (by omega)) lm_X7_300 zt_yX7_mean rfl rfl rfl (Nat.le_of_ble_eq_true rfl) (Nat.le_of_ble_eq_true rfl) (Nat.le_of_ble_eq_true rfl) (Nat.le_refl _) (Nat.le_refl _) ?_
      refine e_ireturn .int dX7_meanNow_52 rfl rfl ?_
      exact hQ
    · exact absurd h14 (by omega)
  | succ k ih =>
    intro p s h hQ hs
    obtain ⟨hΛ, hlate, htr, ht, hm, him, hl, hw, hn72⟩ := id hX
    obtain ⟨hW, hla30, htw, hmw, himw, hlw, hrw⟩ := id hF
    have hP3 := hW.1.1
    have hW5 := hW.1.2.1
    have hy99 := hmw.1
    have hD9 := hr.Dl
    have e0 : s + zsum (fun p => zMeas who ((m.2.2.2 w).1 p)) p (k + 1) = s + zMeas who ((m.2.2.2 w).1 p) + zsum (fun p => zMeas who ((m.2.2.2 w).1 p)) (p + 1) k := by show s + (zMeas who ((m.2.2.2 w).1 p) + _) = _; rw [Nat.add_assoc]
    rw [e0] at hQ hs
    refine e_iload 7 dX7_meanNow_5 rfl rfl ?_
    refine e_aload_n 8 dX7_meanNow_7 rfl rfl ?_
    refine e_getr 11 dX7_meanNow_8 lf_X7_62 rfl rfl rfl (by decide) hr.land ?_
    refine e_geti 14 dX7_meanNow_11 lf_X7_184 rfl rfl hr.dD.k0 hr.dD.l0 (hΛ.f0) ?_
    refine e_icmp_geN 41 17 dX7_meanNow_14 (by decide) rfl (by omega) (by omega) (fun h14 => ?_) (fun h14 => ?_)
    · exact absurd h14 (by omega)
    · refine e_iload_n 18 dX7_meanNow_17 rfl rfl ?_
      refine e_aload_n 19 dX7_meanNow_18 rfl rfl ?_
      refine e_getr 22 dX7_meanNow_19 lf_X7_19 rfl rfl rfl (by decide) hr.now ?_
      refine e_getr 25 dX7_meanNow_22 lf_X7_159 rfl rfl rfl (by decide) hr.m3.r3 ?_
      refine e_iload_n 26 dX7_meanNow_25 rfl rfl ?_
      refine e_aald 27 dX7_meanNow_26 rfl hr.m3.k6 hr.m3.l6 rfl (hr.m3.n6 (by omega)) (hr.m3.lv (by omega)) ?_
      refine e_iload 29 dX7_meanNow_27 rfl rfl ?_
      refine e_iload_n 30 dX7_meanNow_29 rfl rfl ?_
      refine c_Vqi 33 (ci := 2) dX7_meanNow_30 (k_X2_measure G (hr.m3.lf (w := w) (by omega)) (by omega) ((hm.2.2.2 w hw9).1 p (by omega)) ((hmw.2.2 w hw9).1.1 p (by omega)) hwho) lm_X7_170 zi_yX2_measure zs_yX2_measure rfl (hr.m3.lf (w := w) (by omega)).k0 (hr.m3.lf (w := w) (by omega)).l0 rfl rfl rfl (Nat.le_of_ble_eq_true rfl) (Nat.le_of_ble_eq_true rfl) (Nat.le_of_ble_eq_true rfl) (Nat.le_refl _) (Nat.le_refl _) ?_
      first | refine e_iaddN 34 dX7_meanNow_33 rfl ?_ | refine e_iadd 34 dX7_meanNow_33 rfl ?_
      refine e_istore_n 35 dX7_meanNow_34 rfl (by decide) (zst1_3 rfl) ?_
      refine e_iinc 38 dX7_meanNow_35 rfl (by decide) rfl (z_inc hii_1) (zst1_4 rfl) ?_
      refine e_goto 5 dX7_meanNow_38 (by decide) ?_
      exact ih (p + 1) _ (by omega) hQ hs
set_option maxHeartbeats 4000000 in
set_option maxRecDepth 100000 in
theorem k_X7_meanNow (G : zG) {D E : Nat} {Λ : zLd} {late : Nat} {tr : Int64} {t : zTx} {m : zMo} {im : Nat → Nat × zMo} {l : zLt} {r : zWr} {mi : zFi} {ml : zFl} {mr : zFr} (hr : zRf mr D E) (hX : zX mi ml D Λ late tr t m im l r) (hF : zWf Λ late t m im l r) {w who : Nat} (hw9 : w < Λ 0 1) (hwho : who < 3) : zMet G 2 yX7_meanNow cX7_meanNow 5 (some .int) [.ref 0, .int (nI w), .int (nI who)] 238 mi ml mr 238 (zPq (some (.int (nI (zMeanW (Λ 0 0) who (m.2.2.2 w))))) mi ml mr) := by
  refine z_intro ([.ref 0, .int (nI w), .int (nI who), zx, zx]) (by decide) rfl (Nat.le_of_ble_eq_true rfl) ?_
  refine e_iconst 1 hic_0 dX7_meanNow_0 rfl ?_
  refine e_istore_n 2 dX7_meanNow_1 rfl (by decide) (zst1_3 rfl) ?_
  refine e_iconst 3 hic_0 dX7_meanNow_2 rfl ?_
  refine e_istore 5 dX7_meanNow_3 rfl (by decide) (zst1_4 rfl) ?_
  have hle := zsum_le (f := fun p => zMeas who ((m.2.2.2 w).1 p)) (M := 1000) (Λ 0 0) 0 (fun i _ h2 => zMeas_le ((hF.2.2.2.1.2.2 w hw9).1.1 i (by omega)))
  have hP3 := hF.1.1.1
  have h3 : Λ 0 0 * 1000 ≤ 3 * 1000 := Nat.mul_le_mul_right _ hP3
  exact l_X7_meanNow G _ _ hr hX hF hw9 hwho (Λ 0 0) 0 0 (by omega) ⟨by rw [Nat.zero_add]; rfl, rfl, rfl, rfl⟩ (by omega)

set_option maxHeartbeats 4000000 in
set_option maxRecDepth 100000 in
theorem k_X7_has (G : zG) {D E : Nat} {Λ : zLd} {late : Nat} {tr : Int64} {t : zTx} {m : zMo} {im : Nat → Nat × zMo} {l : zLt} {r : zWr} {mi : zFi} {ml : zFl} {mr : zFr} (hr : zRf mr D E) (hX : zX mi ml D Λ late tr t m im l r) (hF : zWf Λ late t m im l r) {w p who : Int32} : zMet G 3 yX7_has cX7_has 4 (some .int) [.ref 0, .int w, .int p, .int who] 238 mi ml mr 238 (zPq (some (.int (sHas Λ m w p who))) mi ml mr) := by
  obtain ⟨hΛ, hlate, htr, ht, hm, him, hl, hw, hn72⟩ := id hX
  obtain ⟨hW, hla30, htw, hmw, himw, hlw, hrw⟩ := id hF
  have hP3 := hW.1.1
  have hW5 := hW.1.2.1
  have hy99 := hmw.1
  have hD9 := hr.Dl
  refine z_intro ([.ref 0, .int w, .int p, .int who]) (by decide) rfl (Nat.le_of_ble_eq_true rfl) ?_
  refine e_aload_n 1 dX7_has_0 rfl rfl ?_
  refine e_iload_n 2 dX7_has_1 rfl rfl ?_
  refine c_Vqi 5 (ci := 7) dX7_has_2 (k_X7_isWord G hr hΛ hW) lm_X7_126 zi_yX7_isWord zs_yX7_isWord rfl (by first | rfl | assumption) (by first | decide | omega) rfl rfl rfl (Nat.le_of_ble_eq_true rfl) (Nat.le_of_ble_eq_true rfl) (Nat.le_of_ble_eq_true rfl) (Nat.le_refl _) (Nat.le_refl _) ?_
  refine e_if_eq 17 8 dX7_has_5 (by decide) rfl (fun h5 => ?_) (fun h5 => ?_)
  · have h5 := zB_0 h5
    refine e_iconst 18 hic_m1 dX7_has_17 rfl ?_
    refine e_ireturn .int dX7_has_18 rfl rfl ?_
    refine ⟨someI (ite2_0 (fun q => ?_)), rfl, rfl, rfl⟩
    first | exact h5 q.1 | exact h14 q.2
  · have h5 := zB_1 h5
    obtain ⟨ew, hw9⟩ := h5.nat
    refine e_iload_n 9 dX7_has_8 rfl rfl ?_
    refine e_iconst 10 hic_0 dX7_has_9 rfl ?_
    refine e_iconst 11 hic_2 dX7_has_10 rfl ?_
    refine c_Sqi 14 dX7_has_11 (k_X7_btw G (by decide) (by decide)) lm_X7_80 zt_yX7_between rfl rfl rfl (Nat.le_of_ble_eq_true rfl) (Nat.le_of_ble_eq_true rfl) (Nat.le_of_ble_eq_true rfl) (Nat.le_refl _) (Nat.le_refl _) ?_
    refine e_if_ne 19 17 dX7_has_14 (by decide) rfl (fun h14 => ?_) (fun h14 => ?_)
    · have h14 := zB_1 h14
      obtain ⟨eh, hh9⟩ := h14.nat
      refine e_iload_n 20 dX7_has_19 rfl rfl ?_
      refine e_iconst 21 hic_m1 dX7_has_20 rfl ?_
      have eS : sHas Λ m w p who = (if p = -1 then nI (zMeanW (Λ 0 0) (zK who) (m.2.2.2 (zK w))) else @ite _ (vN p (Λ 0 0)) (vN_dec _ _) (nI (zMeas (zK who) ((m.2.2.2 (zK w)).1 (zK p)))) (-1)) := ite2_1 h5 h14
      rw [eS]
      refine e_icmp_ne 31 24 dX7_has_21 (by decide) rfl (fun h21 => ?_) (fun h21 => ?_)
      · refine e_aload_n 32 dX7_has_31 rfl rfl ?_
        refine e_iload_n 33 dX7_has_32 rfl rfl ?_
        refine c_Vqi 36 (ci := 7) dX7_has_33 (k_X7_isPlace G hr hΛ hW) lm_X7_118 zi_yX7_isPlace zs_yX7_isPlace rfl (by first | rfl | assumption) (by first | decide | omega) rfl rfl rfl (Nat.le_of_ble_eq_true rfl) (Nat.le_of_ble_eq_true rfl) (Nat.le_of_ble_eq_true rfl) (Nat.le_refl _) (Nat.le_refl _) ?_
        refine e_if_eq 56 39 dX7_has_36 (by decide) rfl (fun h36 => ?_) (fun h36 => ?_)
        · have h36 := zB_0 h36
          refine e_iconst 57 hic_m1 dX7_has_56 rfl ?_
          refine e_ireturn .int dX7_has_57 rfl rfl ?_
          first
            | exact ⟨someI ((if_neg h21).trans (iteN h36)), rfl, rfl, rfl⟩
            | (rw [← ew, ← eh, ← ep]; exact ⟨someI ((if_neg h21).trans (iteP h36)), rfl, rfl, rfl⟩)
        · have h36 := zB_1 h36
          obtain ⟨ep, hp9⟩ := h36.nat
          rw [ew, eh, ep]
          refine e_aload_n 40 dX7_has_39 rfl rfl ?_
          refine e_getr 43 dX7_has_40 lf_X7_19 rfl rfl rfl (by decide) hr.now ?_
          refine e_getr 46 dX7_has_43 lf_X7_159 rfl rfl rfl (by decide) hr.m3.r3 ?_
          refine e_iload_n 47 dX7_has_46 rfl rfl ?_
          refine e_aald 48 dX7_has_47 rfl hr.m3.k6 hr.m3.l6 rfl (hr.m3.n6 (by omega)) (hr.m3.lv (by omega)) ?_
          refine e_iload_n 49 dX7_has_48 rfl rfl ?_
          refine e_iload_n 50 dX7_has_49 rfl rfl ?_
          refine c_Vqi 53 (ci := 2) dX7_has_50 (k_X2_measure G (hr.m3.lf (w := zK w) (by omega)) (by omega) ((hm.2.2.2 _ hw9).1 _ hp9) ((hmw.2.2 _ hw9).1.1 _ hp9) (by omega)) lm_X7_170 zi_yX2_measure zs_yX2_measure rfl (hr.m3.lf (w := zK w) (by omega)).k0 (hr.m3.lf (w := zK w) (by omega)).l0 rfl rfl rfl (Nat.le_of_ble_eq_true rfl) (Nat.le_of_ble_eq_true rfl) (Nat.le_of_ble_eq_true rfl) (Nat.le_refl _) (Nat.le_refl _) ?_
          refine e_goto 57 dX7_has_53 (by decide) ?_
          refine e_ireturn .int dX7_has_57 rfl rfl ?_
          first
            | exact ⟨someI ((if_neg h21).trans (iteN h36)), rfl, rfl, rfl⟩
            | (rw [← ew, ← eh, ← ep]; exact ⟨someI ((if_neg h21).trans (iteP h36)), rfl, rfl, rfl⟩)
      · rw [ew, eh]
        refine e_aload_n 25 dX7_has_24 rfl rfl ?_
        refine e_iload_n 26 dX7_has_25 rfl rfl ?_
        refine e_iload_n 27 dX7_has_26 rfl rfl ?_
        refine c_Vqi 30 (ci := 7) dX7_has_27 (k_X7_meanNow G hr hX hF hw9 (by omega)) lm_X7_167 zi_yX7_meanNow zs_yX7_meanNow rfl (by first | rfl | assumption) (by first | decide | omega) rfl rfl rfl (Nat.le_of_ble_eq_true rfl) (Nat.le_of_ble_eq_true rfl) (Nat.le_of_ble_eq_true rfl) (Nat.le_refl _) (Nat.le_refl _) ?_
        refine e_ireturn .int dX7_has_30 rfl rfl ?_
        rw [← ew, ← eh]
        exact ⟨someI (if_pos h21), rfl, rfl, rfl⟩
    · have h14 := zB_0 h14
      refine e_iconst 18 hic_m1 dX7_has_17 rfl ?_
      refine e_ireturn .int dX7_has_18 rfl rfl ?_
      refine ⟨someI (ite2_0 (fun q => ?_)), rfl, rfl, rfl⟩
      first | exact h5 q.1 | exact h14 q.2

