set_option maxHeartbeats 4000000 in
set_option maxRecDepth 100000 in
theorem l_X8_weight (G : zG) (d : Nat) (Q : zQ) {D E : Nat} {Λ : zLd} {mi : zFi} {ml : zFl} {mr : zFr} (hr : zRf mr D E) (hd : zYd mi Λ) (hW : zLandW Λ) {on nt : Int32} {a p : Nat} (ha : 10 ≤ a) (ha2 : a ≤ 69) (hp : p < Λ 0 0) {f : Nat → Nat} (hf : ∀ w, w < Λ 0 1 → mi 225 (zAt w p a) = nI (f w)) (hle : ∀ w, w < Λ 0 1 → f w ≤ 1000) : ∀ (k w v : Nat) (v8 : Value), w + k = Λ 0 1 → Q (some (.long (lN (zprodA (zWf1 on nt f) k w v)))) mi ml mr → zE G (zRm (d + 1) 238 238) (zQm G 238 238 Q) yX8_weight.cls yX8_weight.name cX8_weight 9 (some .long) 238 6 [.ref 224, .int on, .int nt, .int (nI a), .int (nI p), .long (lN v), zx, .int (nI w), v8] [] 238 mi ml mr := by
  intro k
  induction k with
  | zero =>
    intro w v v8 h hQ
    have hP3 := hW.1.1
    have hW5 := hW.1.2.1
    refine e_iload 8 dX8_weight_6 rfl rfl ?_
    refine e_aload_n 9 dX8_weight_8 rfl rfl ?_
    refine e_geti 12 dX8_weight_9 lf_X8_141 rfl rfl rfl (by decide) hd.1.2 ?_
    refine e_icmp_geN 78 15 dX8_weight_12 (by decide) rfl (by omega) (by omega) (fun h12 => ?_) (fun h12 => ?_)
    · refine e_lload 80 dX8_weight_78 rfl rfl ?_
      refine e_lreturn dX8_weight_80 rfl ?_
      exact hQ
    · exact absurd h12 (by omega)
  | succ k ih =>
    intro w v v8 h hQ
    have hP3 := hW.1.1
    have hW5 := hW.1.2.1
    refine e_iload 8 dX8_weight_6 rfl rfl ?_
    refine e_aload_n 9 dX8_weight_8 rfl rfl ?_
    refine e_geti 12 dX8_weight_9 lf_X8_141 rfl rfl rfl (by decide) hd.1.2 ?_
    refine e_icmp_geN 78 15 dX8_weight_12 (by decide) rfl (by omega) (by omega) (fun h12 => ?_) (fun h12 => ?_)
    · exact absurd h12 (by omega)
    · have hl9 := hle w h12
      refine e_aload_n 16 dX8_weight_15 rfl rfl ?_
      refine e_getr 19 dX8_weight_16 lf_X8_7 rfl rfl rfl (by decide) hr.ys ?_
      refine e_iload 21 dX8_weight_19 rfl rfl ?_
      refine e_iload 23 dX8_weight_21 rfl rfl ?_
      refine e_iload_n 24 dX8_weight_23 rfl rfl ?_
      refine c_Sqi 27 dX8_weight_24 (k_X8_at G) lm_X8_162 zt_yX8_at rfl rfl rfl (Nat.le_of_ble_eq_true rfl) (Nat.le_of_ble_eq_true rfl) (Nat.le_of_ble_eq_true rfl) (by exact Nat.le_refl _) (by exact Nat.le_refl _) ?_
      refine e_iald 28 dX8_weight_27 rfl rfl (by decide) rfl (by show zAt w p a < 2950; unfold zAt; omega) (hf w h12) ?_
      refine e_istore 30 dX8_weight_28 rfl (by decide) (zst1_8 rfl) ?_
      refine e_lload 32 dX8_weight_30 rfl rfl ?_
      refine e_iload_n 33 dX8_weight_32 rfl rfl ?_
      refine e_iload 35 dX8_weight_33 rfl rfl ?_
      refine e_ishr 36 dX8_weight_35 rfl ?_
      refine e_iconst 37 hic_1 dX8_weight_36 rfl ?_
      refine e_iand 38 dX8_weight_37 rfl ?_
      refine e_iconst 39 hic_1 dX8_weight_38 rfl ?_
      refine e_icmp_ne 48 42 dX8_weight_39 (by decide) rfl (fun h39 => ?_) (fun h39 => ?_)
      · refine e_iload_n 49 dX8_weight_48 rfl rfl ?_
        refine e_iload 51 dX8_weight_49 rfl rfl ?_
        refine e_ishr 52 dX8_weight_51 rfl ?_
        refine e_iconst 53 hic_1 dX8_weight_52 rfl ?_
        refine e_iand 54 dX8_weight_53 rfl ?_
        refine e_iconst 55 hic_1 dX8_weight_54 rfl ?_
        refine e_icmp_ne 68 58 dX8_weight_55 (by decide) rfl (fun h55 => ?_) (fun h55 => ?_)
        · refine e_lconst 69 (v := lN 1) rfl dX8_weight_68 rfl ?_
          refine e_lmul 70 dX8_weight_69 rfl ?_
          rw [lN_mul]
          refine e_lstore 72 dX8_weight_70 rfl (by decide) (zst2_5 rfl) ?_
          refine e_iinc 75 dX8_weight_72 rfl (by decide) rfl (z_inc hii_1) (zst1_7 rfl) ?_
          refine e_goto 6 dX8_weight_75 (by decide) ?_
          rw [show zprodA (zWf1 on nt f) (k + 1) w v = zprodA (zWf1 on nt f) k (w + 1) (v * (zWf1 on nt f) w) from rfl] at hQ
          first
            | (rw [show (zWf1 on nt f) w = f w from iteP h39] at hQ; exact ih (w + 1) _ _ (by omega) hQ)
            | (rw [show (zWf1 on nt f) w = 1000 - f w from (iteN h39).trans (iteP h55)] at hQ; exact ih (w + 1) _ _ (by omega) hQ)
            | (rw [show (zWf1 on nt f) w = 1 from (iteN h39).trans (iteN h55)] at hQ; exact ih (w + 1) _ _ (by omega) hQ)
        · refine e_sipush 61 hsi_1000 dX8_weight_58 rfl ?_
          refine e_iload 63 dX8_weight_61 rfl rfl ?_
          first | refine e_isubN 64 dX8_weight_63 rfl (by omega) ?_ | refine e_isub 64 dX8_weight_63 rfl ?_
          refine e_i2l 65 dX8_weight_64 rfl ?_
          rw [i2l_nI9 (by omega)]
          refine e_goto 69 dX8_weight_65 (by decide) ?_
          refine e_lmul 70 dX8_weight_69 rfl ?_
          rw [lN_mul]
          refine e_lstore 72 dX8_weight_70 rfl (by decide) (zst2_5 rfl) ?_
          refine e_iinc 75 dX8_weight_72 rfl (by decide) rfl (z_inc hii_1) (zst1_7 rfl) ?_
          refine e_goto 6 dX8_weight_75 (by decide) ?_
          rw [show zprodA (zWf1 on nt f) (k + 1) w v = zprodA (zWf1 on nt f) k (w + 1) (v * (zWf1 on nt f) w) from rfl] at hQ
          first
            | (rw [show (zWf1 on nt f) w = f w from iteP h39] at hQ; exact ih (w + 1) _ _ (by omega) hQ)
            | (rw [show (zWf1 on nt f) w = 1000 - f w from (iteN h39).trans (iteP h55)] at hQ; exact ih (w + 1) _ _ (by omega) hQ)
            | (rw [show (zWf1 on nt f) w = 1 from (iteN h39).trans (iteN h55)] at hQ; exact ih (w + 1) _ _ (by omega) hQ)
      · refine e_iload 44 dX8_weight_42 rfl rfl ?_
        refine e_i2l 45 dX8_weight_44 rfl ?_
        rw [i2l_nI9 (by omega)]
        refine e_goto 69 dX8_weight_45 (by decide) ?_
        refine e_lmul 70 dX8_weight_69 rfl ?_
        rw [lN_mul]
        refine e_lstore 72 dX8_weight_70 rfl (by decide) (zst2_5 rfl) ?_
        refine e_iinc 75 dX8_weight_72 rfl (by decide) rfl (z_inc hii_1) (zst1_7 rfl) ?_
        refine e_goto 6 dX8_weight_75 (by decide) ?_
        rw [show zprodA (zWf1 on nt f) (k + 1) w v = zprodA (zWf1 on nt f) k (w + 1) (v * (zWf1 on nt f) w) from rfl] at hQ
        first
          | (rw [show (zWf1 on nt f) w = f w from iteP h39] at hQ; exact ih (w + 1) _ _ (by omega) hQ)
          | (rw [show (zWf1 on nt f) w = 1000 - f w from (iteN h39).trans (iteP h55)] at hQ; exact ih (w + 1) _ _ (by omega) hQ)
          | (rw [show (zWf1 on nt f) w = 1 from (iteN h39).trans (iteN h55)] at hQ; exact ih (w + 1) _ _ (by omega) hQ)
set_option maxHeartbeats 4000000 in
set_option maxRecDepth 100000 in
theorem k_X8_weight (G : zG) {D E : Nat} {Λ : zLd} {mi : zFi} {ml : zFl} {mr : zFr} (hr : zRf mr D E) (hd : zYd mi Λ) (hW : zLandW Λ) {on nt : Int32} {a p : Nat} (ha : 10 ≤ a) (ha2 : a ≤ 69) (hp : p < Λ 0 0) {f : Nat → Nat} (hf : ∀ w, w < Λ 0 1 → mi 225 (zAt w p a) = nI (f w)) (hle : ∀ w, w < Λ 0 1 → f w ≤ 1000) : zMet G 1 yX8_weight cX8_weight 9 (some .long) [.ref 224, .int on, .int nt, .int (nI a), .int (nI p)] 238 mi ml mr 238 (zPq (some (.long (lN (zWt (Λ 0 1) on nt f)))) mi ml mr) := by
  refine z_intro ([.ref 224, .int on, .int nt, .int (nI a), .int (nI p), zx, zx, zx, zx]) (by decide) rfl (Nat.le_of_ble_eq_true rfl) ?_
  refine e_lconst 1 (v := lN 1) rfl dX8_weight_0 rfl ?_
  refine e_lstore 3 dX8_weight_1 rfl (by decide) (zst2_5 rfl) ?_
  refine e_iconst 4 hic_0 dX8_weight_3 rfl ?_
  refine e_istore 6 dX8_weight_4 rfl (by decide) (zst1_7 rfl) ?_
  exact l_X8_weight G 0 _ hr hd hW ha ha2 hp hf hle (Λ 0 1) 0 1 _ (by omega) ⟨rfl, rfl, rfl, rfl⟩

