theorem zBit_v : ∀ k, k < 32 → ∀ w, w < 5 → (nI k >>> (nI w &&& 31)) &&& nI 1 = nI (@ite _ (zBit (nI k) w) (zBit_dec (nI k) w) 1 0) := by
  have h : ∀ k, k < 32 → ∀ w, w < 5 → (nI k >>> (nI w &&& 31)) &&& nI 1 = nI (if (nI k >>> (nI w &&& 31)) &&& nI 1 = nI 1 then 1 else 0) := by decide +kernel
  intro k hk w hw
  rw [h k hk w hw]
  by_cases q : zBit (nI k) w
  · rw [iteP q]; exact congrArg nI (if_pos q)
  · rw [iteN q]; exact congrArg nI (if_neg q)
/-- other cells than the rows' -/
def zFrz (u mi : zFi) : Prop := ∀ q, q ≠ 225 → q ≠ 226 → q ≠ 235 → q ≠ 236 → q ≠ 237 → u q = mi q
theorem zFrz.r (mi : zFi) : zFrz mi mi := fun _ _ _ _ _ _ => rfl
theorem zFrz.t {a b c : zFi} (h1 : zFrz a b) (h2 : zFrz b c) : zFrz a c := fun q v w x y z => (h1 q v w x y z).trans (h2 q v w x y z)
theorem zFrm.z {u mi : zFi} (h : zFrm u mi) : zFrz u mi := fun q v _ x y z => h q v x y z
theorem zFrz.lo {u mi : zFi} (h : zFrz u mi) {q : Nat} (hq : q < 224) : u q = mi q := h q (by omega) (by omega) (by omega) (by omega) (by omega)
theorem zFrz.a {u mi : zFi} (h : ∀ q, q ≠ 226 → u q = mi q) : zFrz u mi := fun q _ v _ _ _ => h q v
theorem zFrz.b {u mi : zFi} (h : ∀ q, q ≠ 225 → u q = mi q) : zFrz u mi := fun q v _ _ _ _ => h q v
theorem zY.mz {mi u : zFi} {ml : zFl} {Λ : zLd} {late : Nat} {tr : Int64} {t : zTx} {m m' : zMo} {im : Nat → Nat × zMo} {l : zLt} {r : zWr} (h : zY mi ml Λ late tr t m im l r) (e : zFrz u mi) (hs : zYs (u 225) Λ m') : zY u ml Λ late tr t m' im l r := by
  obtain ⟨h1, h2, h3, h4, h5, h6, h7, h8⟩ := h
  have g : ∀ q, (q = 224 ∨ (227 ≤ q ∧ q ≤ 234)) → u q = mi q := fun q hq => e q (by omega) (by omega) (by omega) (by omega) (by omega)
  refine ⟨?_, by rw [g 230 (by omega)]; exact h2, h3, ?_, hs, ?_, ?_, ?_⟩
  · unfold zYd; rw [g 224 (by omega), g 230 (by omega), g 231 (by omega), g 232 (by omega)]; exact h1
  · unfold zYt; rw [g 224 (by omega), g 229 (by omega)]; exact h4
  · unfold zYi; rw [g 228 (by omega), g 227 (by omega)]; exact h6
  · unfold zYl; rw [g 224 (by omega), g 233 (by omega)]; exact h7
  · unfold zYw; rw [g 224 (by omega), g 234 (by omega)]; exact h8
theorem zY.lett {m1 m2 : zFi} {ml : zFl} {Λ : zLd} {late : Nat} {tr : Int64} {t : zTx} {m : zMo} {im : Nat → Nat × zMo} {l l' : zLt} {r : zWr} (h : zY m1 ml Λ late tr t m im l r) (e : ∀ q, q ≠ 233 → q ≠ 224 → m2 q = m1 q) (e4 : ∀ k, k ≠ 23 → m2 224 k = m1 224 k) (g4 : m2 224 23 = nI l'.1) (hl : l'.1 = 1 → m2 233 0 = nI l'.2.1 ∧ m2 233 1 = nI l'.2.2.1 ∧ m2 233 2 = nI l'.2.2.2.1 ∧ m2 233 3 = nI l'.2.2.2.2) : zY m2 ml Λ late tr t m im l' r := by
  obtain ⟨hd, hlate, htr, ht, hs, him, -, hw⟩ := h
  refine ⟨?_, by rw [e 230 (by decide) (by decide)]; exact hlate, htr, ?_, by rw [e 225 (by decide) (by decide)]; exact hs, ?_, ⟨g4, hl⟩, ?_⟩
  · unfold zYd; rw [e4 16 (by decide), e4 17 (by decide), e 230 (by decide) (by decide), e 231 (by decide) (by decide), e 232 (by decide) (by decide)]; exact hd
  · unfold zYt; rw [e4 7 (by decide), e 229 (by decide) (by decide)]; exact ht
  · unfold zYi; rw [e 227 (by decide) (by decide), e 228 (by decide) (by decide)]; exact him
  · unfold zYw; rw [e4 25 (by decide), e 234 (by decide) (by decide)]; exact hw
set_option maxHeartbeats 4000000 in
set_option maxRecDepth 100000 in
theorem k_X8_isLetterTold (G : zG) {D E : Nat} {Λ : zLd} {late : Nat} {tr : Int64} {t : zTx} {m : zMo} {im : Nat → Nat × zMo} {l : zLt} {r : zWr} {mi : zFi} {ml : zFl} {mr : zFr} (hr : zRf mr D E) (hY : zY mi ml Λ late tr t m im l r) (hF : zWf Λ late t m im l r) : zMet G 0 yX8_isLetterTold cX8_isLetterTold 1 (some .boolean) [.ref 224] 238 mi ml mr 238 (zPq (some (.int (zB (zLetS l m) (zLetS_dec l m)))) mi ml mr) := by
  obtain ⟨hW, hla30, htw, hmw, himw, hlw, hrw⟩ := id hF
  have hP3 := hW.1.1
  have hW5 := hW.1.2.1
  have hy99 := hmw.1
  obtain ⟨hd, hlate, htr, ht, hs, him, hl, hw⟩ := id hY
  have hl1 := hlw.1
  refine z_intro ([.ref 224]) (by decide) rfl (Nat.le_of_ble_eq_true rfl) ?_
  refine e_aload_n 1 dX8_isLetterTold_0 rfl rfl ?_
  refine e_geti 4 dX8_isLetterTold_1 lf_X8_144 rfl rfl rfl (by decide) hl.1 ?_
  refine e_if_eqN 26 7 dX8_isLetterTold_4 (by decide) rfl (by omega) (fun h4 => ?_) (fun h4 => ?_)
  · refine e_iconst 27 hic_0 dX8_isLetterTold_26 rfl ?_
    refine e_ireturn .boolean dX8_isLetterTold_27 rfl rfl ?_
    exact ⟨by unfold zB; first | rw [if_neg (fun q => by have g1 := q.1; have g2 := q.2; omega)] | rw [if_pos ⟨h9, by omega⟩], rfl, rfl, rfl⟩
  · have h9 : l.1 = 1 := by omega
    have hl9 := hlw.2 h9
    refine e_aload_n 8 dX8_isLetterTold_7 rfl rfl ?_
    refine e_getr 11 dX8_isLetterTold_8 lf_X8_35 rfl rfl rfl (by decide) hr.yle ?_
    refine e_iconst 12 hic_1 dX8_isLetterTold_11 rfl ?_
    refine e_iald 13 dX8_isLetterTold_12 rfl rfl (by decide) rfl (by show 1 < 4; decide) (hl.2 h9).2.1 ?_
    refine e_aload_n 14 dX8_isLetterTold_13 rfl rfl ?_
    refine e_getr 17 dX8_isLetterTold_14 lf_X8_7 rfl rfl rfl (by decide) hr.ys ?_
    refine e_iconst 18 hic_0 dX8_isLetterTold_17 rfl ?_
    refine e_iald (v := nI m.1) 19 dX8_isLetterTold_18 rfl rfl (by decide) rfl (by show 0 < 2950; omega) hs.1 ?_
    refine e_icmp_gtN 26 22 dX8_isLetterTold_19 (by decide) rfl (by omega) (by omega) (fun h19 => ?_) (fun h19 => ?_)
    · refine e_iconst 27 hic_0 dX8_isLetterTold_26 rfl ?_
      refine e_ireturn .boolean dX8_isLetterTold_27 rfl rfl ?_
      exact ⟨by unfold zB; first | rw [if_neg (fun q => by have g1 := q.1; have g2 := q.2; omega)] | rw [if_pos ⟨h9, by omega⟩], rfl, rfl, rfl⟩
    · refine e_iconst 23 hic_1 dX8_isLetterTold_22 rfl ?_
      refine e_goto 27 dX8_isLetterTold_23 (by decide) ?_
      refine e_ireturn .boolean dX8_isLetterTold_27 rfl rfl ?_
      exact ⟨by unfold zB; first | rw [if_neg (fun q => by have g1 := q.1; have g2 := q.2; omega)] | rw [if_pos ⟨h9, by omega⟩], rfl, rfl, rfl⟩

set_option maxHeartbeats 4000000 in
set_option maxRecDepth 100000 in
theorem l_X8_letter (G : zG) (d : Nat) (Q : zQ) {D E : Nat} {Λ : zLd} {mi : zFi} {ml : zFl} {mr : zFr} (hr : zRf mr D E) (hd : zYd mi Λ) (hW5 : Λ 0 1 ≤ 5) {s y a p : Int32} {b : Nat} (hb : b < 32) (h233 : mi 233 0 = nI b) : ∀ (k w n : Nat), w + k = Λ 0 1 → Q (some (.int (nI (n + zsum (fun w => @ite _ (zBit (nI b) w) (zBit_dec (nI b) w) 1 0) w k)))) mi ml mr → zE G (zRm (d + 2) 238 238) (zQm G 238 238 Q) yX8_letter.cls yX8_letter.name cX8_letter 7 (some .int) 238 86 [.ref 224, .int s, .int y, .int a, .int p, .int (nI n), .int (nI w)] [] 238 mi ml mr := by
  intro k
  induction k with
  | zero =>
    intro w n h hQ
    refine e_iload 88 dX8_letter_86 rfl rfl ?_
    refine e_aload_n 89 dX8_letter_88 rfl rfl ?_
    refine e_geti 92 dX8_letter_89 lf_X8_141 rfl rfl rfl (by decide) hd.1.2 ?_
    refine e_icmp_geN 117 95 dX8_letter_92 (by decide) rfl (by omega) (by omega) (fun h92 => ?_) (fun h92 => ?_)
    · refine e_iload 119 dX8_letter_117 rfl rfl ?_
      refine e_ireturn .int dX8_letter_119 rfl rfl ?_
      exact hQ
    · exact absurd h92 (by omega)
  | succ k ih =>
    intro w n h hQ
    rw [show n + zsum (fun w => @ite _ (zBit (nI b) w) (zBit_dec (nI b) w) 1 0) w (k + 1) = n + (@ite _ (zBit (nI b) w) (zBit_dec (nI b) w) 1 0) + zsum (fun w => @ite _ (zBit (nI b) w) (zBit_dec (nI b) w) 1 0) (w + 1) k from by show n + (_ + _) = _; rw [Nat.add_assoc]] at hQ
    refine e_iload 88 dX8_letter_86 rfl rfl ?_
    refine e_aload_n 89 dX8_letter_88 rfl rfl ?_
    refine e_geti 92 dX8_letter_89 lf_X8_141 rfl rfl rfl (by decide) hd.1.2 ?_
    refine e_icmp_geN 117 95 dX8_letter_92 (by decide) rfl (by omega) (by omega) (fun h92 => ?_) (fun h92 => ?_)
    · exact absurd h92 (by omega)
    · refine e_iload 97 dX8_letter_95 rfl rfl ?_
      refine e_aload_n 98 dX8_letter_97 rfl rfl ?_
      refine e_getr 101 dX8_letter_98 lf_X8_35 rfl rfl rfl (by decide) hr.yle ?_
      refine e_iconst 102 hic_0 dX8_letter_101 rfl ?_
      refine e_iald 103 dX8_letter_102 rfl rfl (by decide) rfl (by show 0 < 4; decide) h233 ?_
      refine e_iload 105 dX8_letter_103 rfl rfl ?_
      refine e_ishr 106 dX8_letter_105 rfl ?_
      refine e_iconst 107 hic_1 dX8_letter_106 rfl ?_
      refine e_iand 108 dX8_letter_107 rfl ?_
      rw [zBit_v b hb w (by omega)]
      first | refine e_iaddN 109 dX8_letter_108 rfl ?_ | refine e_iadd 109 dX8_letter_108 rfl ?_
      refine e_istore 111 dX8_letter_109 rfl (by decide) (zst1_5 rfl) ?_
      refine e_iinc 114 dX8_letter_111 rfl (by decide) rfl (z_inc hii_1) (zst1_6 rfl) ?_
      refine e_goto 86 dX8_letter_114 (by decide) ?_
      exact ih (w + 1) _ (by omega) hQ
set_option maxHeartbeats 4000000 in
set_option maxRecDepth 100000 in
theorem k_X8_letter (G : zG) {D E : Nat} {Λ : zLd} {late : Nat} {tr : Int64} {t : zTx} {m : zMo} {im : Nat → Nat × zMo} {l : zLt} {r : zWr} {mi : zFi} {ml : zFl} {mr : zFr} (hr : zRf mr D E) (hY : zY mi ml Λ late tr t m im l r) (hF : zWf Λ late t m im l r) {s y a p : Int32} : zMet G 2 yX8_letter cX8_letter 7 (some .int) [.ref 224, .int s, .int y, .int a, .int p] 238 mi ml mr 238 (zPi fun x u b c => x = sLetter Λ m s y a p ∧ zY u b Λ late tr t m im (sLetterL Λ m l s y a p) r ∧ (∀ q, q < 224 → u q = mi q) ∧ b = ml ∧ c = mr) := by
  obtain ⟨hW, hla30, htw, hmw, himw, hlw, hrw⟩ := id hF
  have hP3 := hW.1.1
  have hW5 := hW.1.2.1
  have hy99 := hmw.1
  refine z_intro ([.ref 224, .int s, .int y, .int a, .int p, zx, zx]) (by decide) rfl (Nat.le_of_ble_eq_true rfl) ?_
  refine e_aload_n 1 dX8_letter_0 rfl rfl ?_
  refine e_iconst 2 hic_0 dX8_letter_1 rfl ?_
  refine e_puti 5 dX8_letter_2 lf_X8_56 rfl rfl rfl rfl rfl (by decide) ?_
  obtain ⟨m1, em, hfr⟩ : ∃ m1, m1 = zp mi 224 0 (nI 0) ∧ ∀ q, q ≠ 224 → m1 q = mi q := ⟨_, rfl, fun q hq => zp_r _ _ _ hq⟩
  have hY := hY.th (k := 0) (v := nI 0) (Or.inl rfl)
  rw [← em] at hY ⊢
  obtain ⟨hd, hlate, htr, ht, hs, him, hl, hw⟩ := id hY
  refine e_iload_n 6 dX8_letter_5 rfl rfl ?_
  refine e_iconst 7 hic_0 dX8_letter_6 rfl ?_
  refine e_aload_n 8 dX8_letter_7 rfl rfl ?_
  refine e_getr 11 dX8_letter_8 lf_X8_7 rfl rfl rfl (by decide) hr.ys ?_
  refine e_iconst 12 hic_0 dX8_letter_11 rfl ?_
  refine e_iald (v := nI m.1) 13 dX8_letter_12 rfl rfl (by decide) rfl (by show 0 < 2950; omega) hs.1 ?_
  refine c_Sqi 16 dX8_letter_13 (k_X8_inN G (by decide) (by omega)) lm_X8_60 zt_yX8_in rfl rfl rfl (Nat.le_of_ble_eq_true rfl) (Nat.le_of_ble_eq_true rfl) (Nat.le_of_ble_eq_true rfl) (by exact Nat.le_refl _) (by exact Nat.le_refl _) ?_
  refine e_if_eq 35 19 dX8_letter_16 (by decide) rfl (fun h16 => ?_) (fun h16 => ?_)
  · have h16 := zB_0 h16
    refine e_iconst 36 hic_m1 dX8_letter_35 rfl ?_
    refine e_ireturn .int dX8_letter_36 rfl rfl ?_
    have hno : ¬ sLetOk Λ m y a p := fun q => by first | exact h16 q.1 | exact h23 q.2.1 | exact h32 q.2.2
    have e1 : sLetter Λ m s y a p = -1 := iteN hno
    have e2 : sLetterL Λ m l s y a p = l := iteN hno
    rw [e1, e2]
    exact ⟨_, rfl, rfl, hY, fun q hq => hfr q (by omega), rfl, rfl⟩
  · have h16 := zB_1 h16
    obtain ⟨ey, hy9⟩ := h16.nat
    refine e_iload_n 20 dX8_letter_19 rfl rfl ?_
    refine c_Sqi 23 dX8_letter_20 (k_X8_isAge G) lm_X8_190 zt_yX8_isAge rfl rfl rfl (Nat.le_of_ble_eq_true rfl) (Nat.le_of_ble_eq_true rfl) (Nat.le_of_ble_eq_true rfl) (by exact Nat.le_refl _) (by exact Nat.le_refl _) ?_
    refine e_if_eq 35 26 dX8_letter_23 (by decide) rfl (fun h23 => ?_) (fun h23 => ?_)
    · have h23 := zB_0 h23
      refine e_iconst 36 hic_m1 dX8_letter_35 rfl ?_
      refine e_ireturn .int dX8_letter_36 rfl rfl ?_
      have hno : ¬ sLetOk Λ m y a p := fun q => by first | exact h16 q.1 | exact h23 q.2.1 | exact h32 q.2.2
      have e1 : sLetter Λ m s y a p = -1 := iteN hno
      have e2 : sLetterL Λ m l s y a p = l := iteN hno
      rw [e1, e2]
      exact ⟨_, rfl, rfl, hY, fun q hq => hfr q (by omega), rfl, rfl⟩
    · have h23 := zB_1 h23
      obtain ⟨ea, ha9⟩ := h23.nat
      refine e_aload_n 27 dX8_letter_26 rfl rfl ?_
      refine e_iload 29 dX8_letter_27 rfl rfl ?_
      refine c_Vqi 32 (ci := 8) dX8_letter_29 (k_X8_isPlace G hr hd hW) lm_X8_153 zi_yX8_isPlace zs_yX8_isPlace rfl rfl (by decide) rfl rfl rfl (Nat.le_of_ble_eq_true rfl) (Nat.le_of_ble_eq_true rfl) (Nat.le_of_ble_eq_true rfl) (by exact Nat.le_refl _) (by exact Nat.le_refl _) ?_
      refine e_if_ne 37 35 dX8_letter_32 (by decide) rfl (fun h32 => ?_) (fun h32 => ?_)
      · have h32 := zB_1 h32
        obtain ⟨ep, hp9⟩ := h32.nat
        refine e_aload_n 38 dX8_letter_37 rfl rfl ?_
        refine e_getr 41 dX8_letter_38 lf_X8_35 rfl rfl rfl (by decide) hr.yle ?_
        refine e_iconst 42 hic_0 dX8_letter_41 rfl ?_
        refine e_iload_n 43 dX8_letter_42 rfl rfl ?_
        refine e_iconst 44 hic_1 dX8_letter_43 rfl ?_
        refine e_aload_n 45 dX8_letter_44 rfl rfl ?_
        refine e_geti 48 dX8_letter_45 lf_X8_141 rfl rfl rfl (by decide) hd.1.2 ?_
        refine e_ishl 49 dX8_letter_48 rfl ?_
        refine e_iconst 50 hic_1 dX8_letter_49 rfl ?_
        refine e_isub 51 dX8_letter_50 rfl ?_
        refine e_iand 52 dX8_letter_51 rfl ?_
        rw [zMask_ok _ hW5]
        refine e_iast 53 dX8_letter_52 rfl rfl (by decide) rfl (by show 0 < 4; decide) ?_
        refine e_aload_n 54 dX8_letter_53 rfl rfl ?_
        refine e_getr 57 dX8_letter_54 lf_X8_35 rfl rfl rfl (by decide) hr.yle ?_
        refine e_iconst 58 hic_1 dX8_letter_57 rfl ?_
        refine e_iload_n 59 dX8_letter_58 rfl rfl ?_
        refine e_iast 60 dX8_letter_59 rfl rfl (by decide) rfl (by show 1 < 4; decide) ?_
        refine e_aload_n 61 dX8_letter_60 rfl rfl ?_
        refine e_getr 64 dX8_letter_61 lf_X8_35 rfl rfl rfl (by decide) hr.yle ?_
        refine e_iconst 65 hic_2 dX8_letter_64 rfl ?_
        refine e_iload_n 66 dX8_letter_65 rfl rfl ?_
        refine e_iast 67 dX8_letter_66 rfl rfl (by decide) rfl (by show 2 < 4; decide) ?_
        refine e_aload_n 68 dX8_letter_67 rfl rfl ?_
        refine e_getr 71 dX8_letter_68 lf_X8_35 rfl rfl rfl (by decide) hr.yle ?_
        refine e_iconst 72 hic_3 dX8_letter_71 rfl ?_
        refine e_iload 74 dX8_letter_72 rfl rfl ?_
        refine e_iast 75 dX8_letter_74 rfl rfl (by decide) rfl (by show 3 < 4; decide) ?_
        refine e_aload_n 76 dX8_letter_75 rfl rfl ?_
        refine e_iconst 77 hic_1 dX8_letter_76 rfl ?_
        refine e_puti 80 dX8_letter_77 lf_X8_144 rfl rfl rfl rfl rfl (by decide) ?_
        refine e_iconst 81 hic_0 dX8_letter_80 rfl ?_
        refine e_istore 83 dX8_letter_81 rfl (by decide) (zst1_5 rfl) ?_
        refine e_iconst 84 hic_0 dX8_letter_83 rfl ?_
        refine e_istore 86 dX8_letter_84 rfl (by decide) (zst1_6 rfl) ?_
        have hok : sLetOk Λ m y a p := ⟨h16, h23, h32⟩
        have e1 : sLetter Λ m s y a p = nI (zCnt (nI (zMask s (Λ 0 1))) (Λ 0 1)) := iteP hok
        have e2 : sLetterL Λ m l s y a p = (1, zMask s (Λ 0 1), zK y, zK a, zK p) := iteP hok
        rw [e1, e2]
        have hb32 : zMask s (Λ 0 1) < 32 := by have := zMask_lt s (Λ 0 1); have := Nat.pow_le_pow_right (n := 2) (by decide) hW5; omega
        have e : ∀ q, q ≠ 233 → q ≠ 224 → (zp (zp (zp (zp (zp m1 233 0 (nI (zMask s (Λ 0 1)))) 233 1 y) 233 2 a) 233 3 p) 224 23 (nI 1)) q = m1 q := fun q h1 h2 => by rw [zp_r _ _ _ h2, zp_r _ _ _ h1, zp_r _ _ _ h1, zp_r _ _ _ h1, zp_r _ _ _ h1]
        have e4 : ∀ k, k ≠ 23 → (zp (zp (zp (zp (zp m1 233 0 (nI (zMask s (Λ 0 1)))) 233 1 y) 233 2 a) 233 3 p) 224 23 (nI 1)) 224 k = m1 224 k := fun k hk => by rw [zp_k _ _ hk, zp_r _ _ _ (by decide), zp_r _ _ _ (by decide), zp_r _ _ _ (by decide), zp_r _ _ _ (by decide)]
        have g0 : (zp (zp (zp (zp (zp m1 233 0 (nI (zMask s (Λ 0 1)))) 233 1 y) 233 2 a) 233 3 p) 224 23 (nI 1)) 233 0 = nI (zMask s (Λ 0 1)) := by rw [zp_r _ _ _ (by decide), zp_k _ _ (by decide), zp_k _ _ (by decide), zp_k _ _ (by decide), zp_s]
        have g1 : (zp (zp (zp (zp (zp m1 233 0 (nI (zMask s (Λ 0 1)))) 233 1 y) 233 2 a) 233 3 p) 224 23 (nI 1)) 233 1 = y := by rw [zp_r _ _ _ (by decide), zp_k _ _ (by decide), zp_k _ _ (by decide), zp_s]
        have g2 : (zp (zp (zp (zp (zp m1 233 0 (nI (zMask s (Λ 0 1)))) 233 1 y) 233 2 a) 233 3 p) 224 23 (nI 1)) 233 2 = a := by rw [zp_r _ _ _ (by decide), zp_k _ _ (by decide), zp_s]
        have g3 : (zp (zp (zp (zp (zp m1 233 0 (nI (zMask s (Λ 0 1)))) 233 1 y) 233 2 a) 233 3 p) 224 23 (nI 1)) 233 3 = p := by rw [zp_r _ _ _ (by decide), zp_s]
        have g4 : (zp (zp (zp (zp (zp m1 233 0 (nI (zMask s (Λ 0 1)))) 233 1 y) 233 2 a) 233 3 p) 224 23 (nI 1)) 224 23 = nI 1 := zp_s _ _ _ _
        generalize zp (zp (zp (zp (zp m1 233 0 (nI (zMask s (Λ 0 1)))) 233 1 y) 233 2 a) 233 3 p) 224 23 (nI 1) = m2 at e e4 g0 g1 g2 g3 g4 ⊢
        have hY2 := hY.lett (l' := (1, zMask s (Λ 0 1), zK y, zK a, zK p)) e e4 g4 (fun _ => ⟨g0, g1.trans ey, g2.trans ea, g3.trans ep⟩)
        exact l_X8_letter G 0 _ hr hY2.1 hW5 hb32 g0 (Λ 0 1) 0 0 (by omega) ⟨_, rfl, by rw [Nat.zero_add]; rfl, hY2, fun q hq => (e q (by omega) (by omega)).trans (hfr q (by omega)), rfl, rfl⟩
      · have h32 := zB_0 h32
        refine e_iconst 36 hic_m1 dX8_letter_35 rfl ?_
        refine e_ireturn .int dX8_letter_36 rfl rfl ?_
        have hno : ¬ sLetOk Λ m y a p := fun q => by first | exact h16 q.1 | exact h23 q.2.1 | exact h32 q.2.2
        have e1 : sLetter Λ m s y a p = -1 := iteN hno
        have e2 : sLetterL Λ m l s y a p = l := iteN hno
        rw [e1, e2]
        exact ⟨_, rfl, rfl, hY, fun q hq => hfr q (by omega), rfl, rfl⟩

