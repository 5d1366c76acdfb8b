def zAny (P : Nat → Bool) : Nat → Nat → Bool
  | 0, _ => false
  | k + 1, w => P w || zAny P k (w + 1)
def zWant (Λ : zLd) (m : zMo) (x : Nat) : Nat → Bool := fun w => decide (Λ 2 w = x) && decide (200 ≤ zMn Λ m w 0)
def sWants (Λ : zLd) (m : zMo) (x : Int32) : Int32 := @ite _ (vR x 0 3) (vR_dec _ _ _) (if zAny (zWant Λ m (zK x)) (Λ 0 1) 0 = true then nI 0 else nI 1) (-1)
set_option maxHeartbeats 4000000 in
set_option maxRecDepth 100000 in
theorem l_X7_wants (G : zG) (d : Nat) (Q : zQ) {D E : Nat} {Λ : zLd} {late : Nat} {tr : Int64} {t : zTx} {m : zMo} {im : Nat → Nat × zMo} {l : zLt} {r : zWr} {mi : zFi} {ml : zFl} {mr : zFr} (hr : zRf mr D E) (hX : zX mi ml D Λ late tr t m im l r) (hF : zWf Λ late t m im l r) {x : Nat} (hx3 : x ≤ 3) : ∀ (k w : Nat), w + k = Λ 0 1 → Q (some (.int (if zAny (zWant Λ m x) k w = true then nI 0 else nI 1))) mi ml mr → zE G (zRm (d + 3) 238 238) (zQm G 238 238 Q) yX7_wants.cls yX7_wants.name cX7_wants 3 (some .int) 238 13 [.ref 0, .int (nI x), .int (nI w)] [] 238 mi ml mr := by
  intro k
  induction k with
  | zero =>
    intro w h hQ
    obtain ⟨hΛ, hlate, htr, ht, hm, him, hl, hw, hn72⟩ := id hX
    obtain ⟨hW, hla30, htw, hmw, himw, hlw, hrw⟩ := id hF
    have hP3 := hW.1.1
    have hW5 := hW.1.2.1
    have hy99 := hmw.1
    have hD9 := hr.Dl
    refine e_iload_n 14 dX7_wants_13 rfl rfl ?_
    refine e_aload_n 15 dX7_wants_14 rfl rfl ?_
    refine e_getr 18 dX7_wants_15 lf_X7_62 rfl rfl rfl (by decide) hr.land ?_
    refine e_geti 21 dX7_wants_18 lf_X7_222 rfl rfl hr.dD.k0 hr.dD.l0 (hΛ.f1) ?_
    refine e_icmp_geN 57 24 dX7_wants_21 (by decide) rfl (by omega) (by omega) (fun h21 => ?_) (fun h21 => ?_)
    · refine e_iconst 58 hic_1 dX7_wants_57 rfl ?_
      refine e_ireturn .int dX7_wants_58 rfl rfl ?_
      exact hQ
    · exact absurd h21 (by omega)
  | succ k ih =>
    intro w h hQ
    obtain ⟨hΛ, hlate, htr, ht, hm, him, hl, hw, hn72⟩ := id hX
    obtain ⟨hW, hla30, htw, hmw, himw, hlw, hrw⟩ := id hF
    have hP3 := hW.1.1
    have hW5 := hW.1.2.1
    have hy99 := hmw.1
    have hD9 := hr.Dl
    have e0 : zAny (zWant Λ m x) (k + 1) w = (zWant Λ m x w || zAny (zWant Λ m x) k (w + 1)) := rfl
    refine e_iload_n 14 dX7_wants_13 rfl rfl ?_
    refine e_aload_n 15 dX7_wants_14 rfl rfl ?_
    refine e_getr 18 dX7_wants_15 lf_X7_62 rfl rfl rfl (by decide) hr.land ?_
    refine e_geti 21 dX7_wants_18 lf_X7_222 rfl rfl hr.dD.k0 hr.dD.l0 (hΛ.f1) ?_
    refine e_icmp_geN 57 24 dX7_wants_21 (by decide) rfl (by omega) (by omega) (fun h21 => ?_) (fun h21 => ?_)
    · exact absurd h21 (by omega)
    · refine e_aload_n 25 dX7_wants_24 rfl rfl ?_
      refine e_getr 28 dX7_wants_25 lf_X7_62 rfl rfl rfl (by decide) hr.land ?_
      refine e_getr 31 dX7_wants_28 lf_X7_129 rfl rfl hr.dD.k0 hr.dD.l0 hr.dD.r2 ?_
      refine e_iload_n 32 dX7_wants_31 rfl rfl ?_
      refine e_iald 33 dX7_wants_32 rfl hr.dD.k2 (hr.dD.l (j := 2) (by decide)) rfl (by rw [hr.dD.n2]; omega) (hΛ.2.2 w h21).1 ?_
      refine e_iload_n 34 dX7_wants_33 rfl rfl ?_
      refine e_icmp_neN 51 37 dX7_wants_34 (by decide) rfl (by have := hW.2.2 w h21; omega) (by omega) (fun h34 => ?_) (fun h34 => ?_)
      · refine e_iinc 54 dX7_wants_51 rfl (by decide) rfl (z_inc hii_1) (zst1_2 rfl) ?_
        refine e_goto 13 dX7_wants_54 (by decide) ?_
        have e1 : zWant Λ m x w = false := by unfold zWant zMn; first | (rw [decide_eq_false (by omega)]; rfl) | (rw [decide_eq_false (p := 200 ≤ _) (by omega), Bool.and_false])
        rw [e0, e1, Bool.false_or] at hQ
        exact ih (w + 1) (by omega) hQ
      · refine e_aload_n 38 dX7_wants_37 rfl rfl ?_
        refine e_iload_n 39 dX7_wants_38 rfl rfl ?_
        refine e_iconst 40 hic_0 dX7_wants_39 rfl ?_
        refine c_Vqi 43 (ci := 7) dX7_wants_40 (k_X7_meanNow G hr hX hF h21 (by decide)) lm_X7_167 zi_yX7_meanNow zs_yX7_meanNow rfl (by first | rfl | assumption) (by first | decide | omega) rfl rfl rfl (Nat.le_of_ble_eq_true rfl) (Nat.le_of_ble_eq_true rfl) (Nat.le_of_ble_eq_true rfl) (by exact Nat.le_refl _) (by exact Nat.le_refl _) ?_
        have hmn : zMeanW (Λ 0 0) 0 (m.2.2.2 w) ≤ 1000 := zMeanW_le (hmw.2.2 w h21).1
        refine e_sipush 46 hsi_200 dX7_wants_43 rfl ?_
        refine e_icmp_ltN 51 49 dX7_wants_46 (by decide) rfl (by omega) (by omega) (fun h46 => ?_) (fun h46 => ?_)
        · refine e_iinc 54 dX7_wants_51 rfl (by decide) rfl (z_inc hii_1) (zst1_2 rfl) ?_
          refine e_goto 13 dX7_wants_54 (by decide) ?_
          have e1 : zWant Λ m x w = false := by unfold zWant zMn; first | (rw [decide_eq_false (by omega)]; rfl) | (rw [decide_eq_false (p := 200 ≤ _) (by omega), Bool.and_false])
          rw [e0, e1, Bool.false_or] at hQ
          exact ih (w + 1) (by omega) hQ
        · refine e_iconst 50 hic_0 dX7_wants_49 rfl ?_
          refine e_ireturn .int dX7_wants_50 rfl rfl ?_
          have e1 : zWant Λ m x w = true := by unfold zWant zMn; simp [h34, h46]
          rw [if_pos (by rw [e0, e1]; rfl)] at hQ
          exact hQ
set_option maxHeartbeats 4000000 in
set_option maxRecDepth 100000 in
theorem k_X7_wants (G : zG) {D E : Nat} {Λ : zLd} {late : Nat} {tr : Int64} {t : zTx} {m : zMo} {im : Nat → Nat × zMo} {l : zLt} {r : zWr} {mi : zFi} {ml : zFl} {mr : zFr} (hr : zRf mr D E) (hX : zX mi ml D Λ late tr t m im l r) (hF : zWf Λ late t m im l r) {x : Int32} : zMet G 3 yX7_wants cX7_wants 3 (some .int) [.ref 0, .int x] 238 mi ml mr 238 (zPq (some (.int (sWants Λ m x))) mi ml mr) := by
  obtain ⟨hΛ, hlate, htr, ht, hm, him, hl, hw, hn72⟩ := id hX
  obtain ⟨hW, hla30, htw, hmw, himw, hlw, hrw⟩ := id hF
  have hP3 := hW.1.1
  have hW5 := hW.1.2.1
  have hy99 := hmw.1
  have hD9 := hr.Dl
  refine z_intro ([.ref 0, .int x, zx]) (by decide) rfl (Nat.le_of_ble_eq_true rfl) ?_
  refine e_iload_n 1 dX7_wants_0 rfl rfl ?_
  refine e_iconst 2 hic_0 dX7_wants_1 rfl ?_
  refine e_iconst 3 hic_3 dX7_wants_2 rfl ?_
  refine c_Sqi 6 dX7_wants_3 (k_X7_btw G (by decide) (by decide)) lm_X7_80 zt_yX7_between rfl rfl rfl (Nat.le_of_ble_eq_true rfl) (Nat.le_of_ble_eq_true rfl) (Nat.le_of_ble_eq_true rfl) (by exact Nat.le_refl _) (by exact Nat.le_refl _) ?_
  refine e_if_ne 11 9 dX7_wants_6 (by decide) rfl (fun h6 => ?_) (fun h6 => ?_)
  · have h6 := zB_1 h6
    obtain ⟨ex, hx9⟩ := h6.nat
    refine e_iconst 12 hic_0 dX7_wants_11 rfl ?_
    refine e_istore_n 13 dX7_wants_12 rfl (by decide) (zst1_2 rfl) ?_
    rw [ex]
    exact l_X7_wants G _ _ hr hX hF (by omega) (Λ 0 1) 0 (by omega) ⟨by rw [← ex]; exact someI (iteP h6), rfl, rfl, rfl⟩
  · have h6 := zB_0 h6
    refine e_iconst 10 hic_m1 dX7_wants_9 rfl ?_
    refine e_ireturn .int dX7_wants_10 rfl rfl ?_
    exact ⟨someI (iteN h6), rfl, rfl, rfl⟩

def zLot (s : Int32) : Int32 := s * nI 1103515245 + nI 12345
def zDrE (s : Int32) : Int32 := (s.toUInt32 >>> ((nI 16).toUInt32 &&& Int32.toUInt32 31)).toInt32
def zDrw (s : Int32) : Int32 := zDrE s - zDrE s / nI 1000 * nI 1000
def zFo {α : Type} (f : Nat → α → α) : Nat → Nat → α → α
  | 0, _, s => s
  | k + 1, w, s => zFo f k (w + 1) (f w s)
theorem zFo_s {α : Type} (f : Nat → α → α) (k w : Nat) (s : α) : zFo f (k + 1) w s = zFo f k (w + 1) (f w s) := rfl
def zDrSt (sh : Nat → Nat) (w : Nat) (s : Int32 × Int32) : Int32 × Int32 := (zLot s.1, if zDrw (zLot s.1) < nI (sh w) then s.2 ||| (nI 1 <<< (nI w &&& 31)) else s.2)
/-- people drawn: the lot and the bits, word by word -/
def zDrF (sh : Nat → Nat) (k w : Nat) (s : Int32 × Int32) : Int32 × Int32 := zFo (zDrSt sh) k w s
def sDrawOk (Λ : zLd) (a p : Int32) : Prop := vR a 10 69 ∧ vN p (Λ 0 0)
def sDrawOk_dec (Λ : zLd) (a p : Int32) : Decidable (sDrawOk Λ a p) := by unfold sDrawOk; exact @instDecidableAnd _ _ (vR_dec _ _ _) (vN_dec _ _)
def zDraw (Λ : zLd) (m : zMo) (a p : Nat) : Int32 × Int32 := zDrF (fun w => (m.2.2.2 w).1 p a) (Λ 0 1) 0 (m.2.1, nI 0)
def sDrawn (Λ : zLd) (m : zMo) (a p : Int32) : Int32 := @ite _ (sDrawOk Λ a p) (sDrawOk_dec Λ a p) (zDraw Λ m (zK a) (zK p)).2 (-1)
def sDrawnM (Λ : zLd) (m : zMo) (a p : Int32) : zMo := @ite _ (sDrawOk Λ a p) (sDrawOk_dec Λ a p) (m.1, (zDraw Λ m (zK a) (zK p)).1, m.2.2) m
theorem sDrawnM_W {Λ : zLd} {m : zMo} {a p : Int32} (h : zMoW Λ m) : zMoW Λ (sDrawnM Λ m a p) := by
  unfold sDrawnM
  by_cases q : sDrawOk Λ a p
  · rw [iteP q]; exact h
  · rw [iteN q]; exact h
set_option maxHeartbeats 4000000 in
set_option maxRecDepth 100000 in
theorem l_X7_drawn (G : zG) (d : Nat) (Q : zQ) {D E : Nat} {Λ : zLd} {m : zMo} {ml : zFl} {mr : zFr} (hr : zRf mr D E) (hW : zLandW Λ) (hmw : zMoW Λ m) {a p : Nat} (ha1 : 10 ≤ a) (ha2 : a ≤ 69) (hp : p < Λ 0 0) : ∀ (k w : Nat) (s : Int32 × Int32) (u : zFi) (v5 : Value), w + k = Λ 0 1 → zLandR u D Λ → zMoR u 3 Λ (m.1, s.1, m.2.2) → (∀ (b : zFi) (s2 : Int32 × Int32), s2 = zDrF (fun w => (m.2.2.2 w).1 p a) k w s → zLandR b D Λ → zMoR b 3 Λ (m.1, s2.1, m.2.2) → (∀ q, q ≠ 3 → b q = u q) → Q (some (.int s2.2)) b ml mr) → zE G (zRm (d + 2) 238 238) (zQm G 238 238 Q) yX7_drawn.cls yX7_drawn.name cX7_drawn 6 (some .int) 238 22 [.ref 0, .int (nI a), .int (nI p), .int s.2, .int (nI w), v5] [] 238 u ml mr := by
  intro k
  induction k with
  | zero =>
    intro w s u v5 h hΛ hm hQ
    have hP3 := hW.1.1
    have hW5 := hW.1.2.1
    have hD9 := hr.Dl
    refine e_iload 24 dX7_drawn_22 rfl rfl ?_
    refine e_aload_n 25 dX7_drawn_24 rfl rfl ?_
    refine e_getr 28 dX7_drawn_25 lf_X7_62 rfl rfl rfl (by decide) hr.land ?_
    refine e_geti 31 dX7_drawn_28 lf_X7_222 rfl rfl hr.dD.k0 hr.dD.l0 (hΛ.f1) ?_
    refine e_icmp_geN 107 34 dX7_drawn_31 (by decide) rfl (by omega) (by omega) (fun h31 => ?_) (fun h31 => ?_)
    · refine e_iload_n 108 dX7_drawn_107 rfl rfl ?_
      refine e_ireturn .int dX7_drawn_108 rfl rfl ?_
      exact hQ u s rfl hΛ hm (fun _ _ => rfl)
    · exact absurd h31 (by omega)
  | succ k ih =>
    intro w s u v5 h hΛ hm hQ
    have hP3 := hW.1.1
    have hW5 := hW.1.2.1
    have hD9 := hr.Dl
    have e0 : zDrF (fun w => (m.2.2.2 w).1 p a) (k + 1) w s = zDrF (fun w => (m.2.2.2 w).1 p a) k (w + 1) (zLot s.1, if zDrw (zLot s.1) < nI ((m.2.2.2 w).1 p a) then s.2 ||| (nI 1 <<< (nI w &&& 31)) else s.2) := zFo_s (zDrSt (fun w => (m.2.2.2 w).1 p a)) k w s
    rw [e0] at hQ
    refine e_iload 24 dX7_drawn_22 rfl rfl ?_
    refine e_aload_n 25 dX7_drawn_24 rfl rfl ?_
    refine e_getr 28 dX7_drawn_25 lf_X7_62 rfl rfl rfl (by decide) hr.land ?_
    refine e_geti 31 dX7_drawn_28 lf_X7_222 rfl rfl hr.dD.k0 hr.dD.l0 (hΛ.f1) ?_
    refine e_icmp_geN 107 34 dX7_drawn_31 (by decide) rfl (by omega) (by omega) (fun h31 => ?_) (fun h31 => ?_)
    · exact absurd h31 (by omega)
    · refine e_aload_n 35 dX7_drawn_34 rfl rfl ?_
      refine e_getr 38 dX7_drawn_35 lf_X7_19 rfl rfl rfl (by decide) hr.now ?_
      refine e_aload_n 39 dX7_drawn_38 rfl rfl ?_
      refine e_getr 42 dX7_drawn_39 lf_X7_19 rfl rfl rfl (by decide) hr.now ?_
      refine e_geti 45 dX7_drawn_42 lf_X7_77 rfl rfl rfl (by decide) hm.2.1 ?_
      refine e_ldc_w 48 lc_X7_277 dX7_drawn_45 rfl ?_
      refine e_imul 49 dX7_drawn_48 rfl ?_
      refine e_sipush 52 hsi_12345 dX7_drawn_49 rfl ?_
      refine e_iadd 53 dX7_drawn_52 rfl ?_
      rw [show s.1 * nI 1103515245 + nI 12345 = zLot s.1 from rfl]
      generalize zLot s.1 = s1 at hQ ⊢
      refine e_puti 56 dX7_drawn_53 lf_X7_77 rfl rfl rfl rfl rfl (by decide) ?_
      refine e_aload_n 57 dX7_drawn_56 rfl rfl ?_
      refine e_getr 60 dX7_drawn_57 lf_X7_19 rfl rfl rfl (by decide) hr.now ?_
      refine e_geti 63 dX7_drawn_60 lf_X7_77 rfl rfl rfl (by decide) (zp_s _ _ _ _) ?_
      refine e_bipush 65 hbi_16 dX7_drawn_63 rfl ?_
      refine e_iushr 66 dX7_drawn_65 rfl ?_
      refine e_sipush 69 hsi_1000 dX7_drawn_66 rfl ?_
      refine e_irem 70 dX7_drawn_69 rfl (by decide) ?_
      rw [show (s1.toUInt32 >>> ((nI 16).toUInt32 &&& Int32.toUInt32 31)).toInt32 - (s1.toUInt32 >>> ((nI 16).toUInt32 &&& Int32.toUInt32 31)).toInt32 / nI 1000 * nI 1000 = zDrw s1 from rfl]
      generalize zDrw s1 = dr at hQ ⊢
      refine e_istore 72 dX7_drawn_70 rfl (by decide) (zst1_5 rfl) ?_
      refine e_iload 74 dX7_drawn_72 rfl rfl ?_
      refine e_aload_n 75 dX7_drawn_74 rfl rfl ?_
      refine e_getr 78 dX7_drawn_75 lf_X7_19 rfl rfl rfl (by decide) hr.now ?_
      refine e_getr 81 dX7_drawn_78 lf_X7_159 rfl rfl rfl (by decide) hr.m3.r3 ?_
      refine e_iload 83 dX7_drawn_81 rfl rfl ?_
      refine e_aald 84 dX7_drawn_83 rfl hr.m3.k6 hr.m3.l6 rfl (hr.m3.n6 (by omega)) (hr.m3.lv (by omega)) ?_
      refine e_getr 87 dX7_drawn_84 lf_X7_163 rfl rfl (hr.m3.lf (w := w) (by omega)).k0 (hr.m3.lf (w := w) (by omega)).l0 (hr.m3.lf (w := w) (by omega)).r0 ?_
      refine e_iload_n 88 dX7_drawn_87 rfl rfl ?_
      refine e_aald 89 dX7_drawn_88 rfl (hr.m3.lf (w := w) (by omega)).k1 (hr.m3.lf (w := w) (by omega)).l1 rfl ((hr.m3.lf (w := w) (by omega)).n1 (by omega)) ((hr.m3.lf (w := w) (by omega)).sh (by omega)) ?_
      refine e_iload_n 90 dX7_drawn_89 rfl rfl ?_
      refine e_iald (v := nI ((m.2.2.2 w).1 p a)) 91 dX7_drawn_90 rfl ((hr.m3.lf (w := w) (by omega)).ks (by omega)) ((hr.m3.lf (w := w) (by omega)).ls (by omega)) rfl ((hr.m3.lf (w := w) (by omega)).na (by omega) (by omega)) (by rw [zp_r _ _ _ (by omega)]; exact (hm.2.2.2 w h31).1 p hp a ha1 ha2) ?_
      refine e_icmp_ge 101 94 dX7_drawn_91 (by decide) rfl (fun h91 => ?_) (fun h91 => ?_)
      · refine e_iinc 104 dX7_drawn_101 rfl (by decide) rfl (z_inc hii_1) (zst1_4 rfl) ?_
        refine e_goto 22 dX7_drawn_104 (by decide) ?_
        have hm2 : zMoR (zp u 3 1 s1) 3 Λ (m.1, s1, m.2.2) := ⟨(by rw [zp_k _ _ (by decide)]; exact hm.1), zp_s _ _ _ _, hm.2.2.1.congr (fun j hj => zp_r _ _ _ (by omega)), fun w hw9 => (hm.2.2.2 w hw9).congr hP3 (fun q h1 h2 => zp_r _ _ _ (by omega))⟩
        first
          | (rw [if_neg (show ¬ dr < nI ((m.2.2.2 w).1 p a) from fun z => absurd h91 (Int32.not_le.mpr z))] at hQ; exact ih (w + 1) (s1, _) _ _ (by omega) (hΛ.congr (fun j hj => zp_r _ _ _ (by omega))) hm2 (fun b s2 e h1 h2 h3 => hQ b s2 e h1 h2 (fun q hq => (h3 q hq).trans (zp_r _ _ _ (by omega)))))
          | (rw [if_pos (show dr < nI ((m.2.2.2 w).1 p a) from Int32.not_le.mp h91)] at hQ; exact ih (w + 1) (s1, _) _ _ (by omega) (hΛ.congr (fun j hj => zp_r _ _ _ (by omega))) hm2 (fun b s2 e h1 h2 h3 => hQ b s2 e h1 h2 (fun q hq => (h3 q hq).trans (zp_r _ _ _ (by omega)))))
      · refine e_iload_n 95 dX7_drawn_94 rfl rfl ?_
        refine e_iconst 96 hic_1 dX7_drawn_95 rfl ?_
        refine e_iload 98 dX7_drawn_96 rfl rfl ?_
        refine e_ishl 99 dX7_drawn_98 rfl ?_
        refine e_ior 100 dX7_drawn_99 rfl ?_
        refine e_istore_n 101 dX7_drawn_100 rfl (by decide) (zst1_3 rfl) ?_
        refine e_iinc 104 dX7_drawn_101 rfl (by decide) rfl (z_inc hii_1) (zst1_4 rfl) ?_
        refine e_goto 22 dX7_drawn_104 (by decide) ?_
        have hm2 : zMoR (zp u 3 1 s1) 3 Λ (m.1, s1, m.2.2) := ⟨(by rw [zp_k _ _ (by decide)]; exact hm.1), zp_s _ _ _ _, hm.2.2.1.congr (fun j hj => zp_r _ _ _ (by omega)), fun w hw9 => (hm.2.2.2 w hw9).congr hP3 (fun q h1 h2 => zp_r _ _ _ (by omega))⟩
        first
          | (rw [if_neg (show ¬ dr < nI ((m.2.2.2 w).1 p a) from fun z => absurd h91 (Int32.not_le.mpr z))] at hQ; exact ih (w + 1) (s1, _) _ _ (by omega) (hΛ.congr (fun j hj => zp_r _ _ _ (by omega))) hm2 (fun b s2 e h1 h2 h3 => hQ b s2 e h1 h2 (fun q hq => (h3 q hq).trans (zp_r _ _ _ (by omega)))))
          | (rw [if_pos (show dr < nI ((m.2.2.2 w).1 p a) from Int32.not_le.mp h91)] at hQ; exact ih (w + 1) (s1, _) _ _ (by omega) (hΛ.congr (fun j hj => zp_r _ _ _ (by omega))) hm2 (fun b s2 e h1 h2 h3 => hQ b s2 e h1 h2 (fun q hq => (h3 q hq).trans (zp_r _ _ _ (by omega)))))
set_option maxHeartbeats 4000000 in
set_option maxRecDepth 100000 in
theorem k_X7_drawn (G : zG) {D E : Nat} {Λ : zLd} {late : Nat} {tr : Int64} {t : zTx} {m : zMo} {im : Nat → Nat × zMo} {l : zLt} {r : zWr} {mi : zFi} {ml : zFl} {mr : zFr} (hr : zRf mr D E) (hX : zX mi ml D Λ late tr t m im l r) (hF : zWf Λ late t m im l r) {a p : Int32} : zMet G 2 yX7_drawn cX7_drawn 6 (some .int) [.ref 0, .int a, .int p] 238 mi ml mr 238 (zPi fun x u b c => x = sDrawn Λ m a p ∧ zX u b D Λ late tr t (sDrawnM Λ m a p) im l r ∧ (∀ q, 224 ≤ q → u q = mi q) ∧ b = ml ∧ c = mr) := by
  obtain ⟨hΛ, hlate, htr, ht, hm, him, hl, hw, hn72⟩ := id hX
  obtain ⟨hW, hla30, htw, hmw, himw, hlw, hrw⟩ := id hF
  have hP3 := hW.1.1
  have hW5 := hW.1.2.1
  have hy99 := hmw.1
  have hD9 := hr.Dl
  refine z_intro ([.ref 0, .int a, .int p, zx, zx, zx]) (by decide) rfl (Nat.le_of_ble_eq_true rfl) ?_
  refine e_iload_n 1 dX7_drawn_0 rfl rfl ?_
  refine c_Sqi 4 dX7_drawn_1 (k_X7_isAge G) lm_X7_156 zt_yX7_isAge rfl rfl rfl (Nat.le_of_ble_eq_true rfl) (Nat.le_of_ble_eq_true rfl) (Nat.le_of_ble_eq_true rfl) (by exact Nat.le_refl _) (by exact Nat.le_refl _) ?_
  refine e_if_eq 15 7 dX7_drawn_4 (by decide) rfl (fun h4 => ?_) (fun h4 => ?_)
  · have h4 := zB_0 h4
    refine e_iconst 16 hic_m1 dX7_drawn_15 rfl ?_
    refine e_ireturn .int dX7_drawn_16 rfl rfl ?_
    have hno : ¬ sDrawOk Λ a p := fun q => by first | exact h4 q.1 | exact h12 q.2
    have e1 : sDrawn Λ m a p = -1 := iteN hno
    have e2 : sDrawnM Λ m a p = m := iteN hno
    rw [e1, e2]
    exact ⟨_, rfl, rfl, hX, fun _ _ => rfl, rfl, rfl⟩
  · have h4 := zB_1 h4
    obtain ⟨ea, ha9⟩ := h4.nat
    refine e_aload_n 8 dX7_drawn_7 rfl rfl ?_
    refine e_iload_n 9 dX7_drawn_8 rfl rfl ?_
    refine c_Vqi 12 (ci := 7) dX7_drawn_9 (k_X7_isPlace G hr hΛ hW) lm_X7_118 zi_yX7_isPlace zs_yX7_isPlace rfl (by first | rfl | assumption) (by first | decide | omega) rfl rfl rfl (Nat.le_of_ble_eq_true rfl) (Nat.le_of_ble_eq_true rfl) (Nat.le_of_ble_eq_true rfl) (by exact Nat.le_refl _) (by exact Nat.le_refl _) ?_
    refine e_if_ne 17 15 dX7_drawn_12 (by decide) rfl (fun h12 => ?_) (fun h12 => ?_)
    · have h12 := zB_1 h12
      obtain ⟨ep, hp9⟩ := h12.nat
      refine e_iconst 18 hic_0 dX7_drawn_17 rfl ?_
      refine e_istore_n 19 dX7_drawn_18 rfl (by decide) (zst1_3 rfl) ?_
      refine e_iconst 20 hic_0 dX7_drawn_19 rfl ?_
      refine e_istore 22 dX7_drawn_20 rfl (by decide) (zst1_4 rfl) ?_
      have e1 : sDrawn Λ m a p = (zDraw Λ m (zK a) (zK p)).2 := iteP ⟨h4, h12⟩
      have e2 : sDrawnM Λ m a p = (m.1, (zDraw Λ m (zK a) (zK p)).1, m.2.2) := iteP ⟨h4, h12⟩
      rw [e1, e2]
      clear e1 e2 h4 h12
      generalize zK a = a9 at ea ha9 ⊢
      generalize zK p = p9 at ep hp9 ⊢
      subst ea ep
      exact l_X7_drawn G _ _ hr hW hmw ha9.1 ha9.2 hp9 (Λ 0 1) 0 (m.2.1, nI 0) mi _ (by omega) hΛ hm (fun b s2 e g1 g2 g3 => ⟨_, rfl, by rw [e]; rfl, hX.mom hW (by omega) (fun q hq => g3 q (by omega)) (by rw [e] at g2; exact g2), fun q hq => g3 q (by omega), rfl, rfl⟩)
    · have h12 := zB_0 h12
      refine e_iconst 16 hic_m1 dX7_drawn_15 rfl ?_
      refine e_ireturn .int dX7_drawn_16 rfl rfl ?_
      have hno : ¬ sDrawOk Λ a p := fun q => by first | exact h4 q.1 | exact h12 q.2
      have e1 : sDrawn Λ m a p = -1 := iteN hno
      have e2 : sDrawnM Λ m a p = m := iteN hno
      rw [e1, e2]
      exact ⟨_, rfl, rfl, hX, fun _ _ => rfl, rfl, rfl⟩

