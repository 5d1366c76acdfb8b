theorem zY.writ {m1 m2 : zFi} {ml : zFl} {Λ : zLd} {late : Nat} {tr : Int64} {t : zTx} {m : zMo} {im : Nat → Nat × zMo} {l : zLt} {r r' : zWr} (h : zY m1 ml Λ late tr t m im l r) (e : ∀ q, q ≠ 234 → q ≠ 224 → m2 q = m1 q) (e4 : ∀ k, k ≠ 25 → m2 224 k = m1 224 k) (hw : zYw m2 r') : zY m2 ml Λ late tr t m im l r' := by
  obtain ⟨hd, hlate, htr, ht, hs, him, hl, -⟩ := h
  refine ⟨?_, by rw [e 230 (by decide) (by decide)]; exact hlate, htr, ?_, by rw [e 225 (by decide) (by decide)]; exact hs, ?_, ?_, hw⟩
  · unfold zYd; rw [e4 16 (by decide), e4 17 (by decide), e 230 (by decide) (by decide), e 231 (by decide) (by decide), e 232 (by decide) (by decide)]; exact hd
  · unfold zYt; rw [e4 7 (by decide), e 229 (by decide) (by decide)]; exact ht
  · unfold zYi; rw [e 227 (by decide) (by decide), e 228 (by decide) (by decide)]; exact him
  · unfold zYl; rw [e4 23 (by decide), e 233 (by decide) (by decide)]; exact hl
def zWrM (m1 : zFi) (n y a w : Nat) : zFi := zp (zp (zp (zp m1 234 (3 * n) (nI y)) 234 (3 * n + 1) (nI a)) 234 (3 * n + 2) (nI w)) 224 25 (nI (n + 1))
theorem zYw.add {m1 : zFi} {r : zWr} {y a w : Nat} (h : zYw m1 r) : zYw (zWrM m1 r.1 y a w) (zWadd r y a w) := by
  refine ⟨zp_s _ _ _ _, fun k hk => ?_⟩
  have hk9 : k < r.1 + 1 := hk
  show zWrM m1 r.1 y a w 234 (3 * k) = nI (zu r.2.1 r.1 y k) ∧ zWrM m1 r.1 y a w 234 (3 * k + 1) = nI (zu r.2.2.1 r.1 a k) ∧ zWrM m1 r.1 y a w 234 (3 * k + 2) = nI (zu r.2.2.2 r.1 w k)
  have e : zWrM m1 r.1 y a w 234 = (zp (zp (zp m1 234 (3 * r.1) (nI y)) 234 (3 * r.1 + 1) (nI a)) 234 (3 * r.1 + 2) (nI w)) 234 := zp_r _ _ _ (by decide)
  rw [e]
  by_cases q : k = r.1
  · rw [q, zu_s, zu_s, zu_s]
    refine ⟨?_, ?_, ?_⟩
    · rw [zp_k _ _ (by omega), zp_k _ _ (by omega), zp_s]
    · rw [zp_k _ _ (by omega), zp_s]
    · rw [zp_s]
  · rw [zu_n _ _ q, zu_n _ _ q, zu_n _ _ q, zp_k _ _ (by omega), zp_k _ _ (by omega), zp_k _ _ (by omega), zp_k _ _ (by omega), zp_k _ _ (by omega), zp_k _ _ (by omega), zp_k _ _ (by omega), zp_k _ _ (by omega), zp_k _ _ (by omega)]
    exact h.2 k (by omega)
theorem zWrM_r {m1 : zFi} {n y a w q : Nat} (h1 : q ≠ 234) (h2 : q ≠ 224) : zWrM m1 n y a w q = m1 q := by
  unfold zWrM
  rw [zp_r _ _ _ h2, zp_r _ _ _ h1, zp_r _ _ _ h1, zp_r _ _ _ h1]
theorem zWrM_4 {m1 : zFi} {n y a w k : Nat} (h : k ≠ 25) : zWrM m1 n y a w 224 k = m1 224 k := by
  unfold zWrM
  rw [zp_k _ _ h, zp_r _ _ _ (by decide), zp_r _ _ _ (by decide), zp_r _ _ _ (by decide)]
set_option maxHeartbeats 4000000 in
set_option maxRecDepth 100000 in
theorem k_X8_writing (G : zG) {D E : Nat} {Λ : zLd} {late : Nat} {tr : Int64} {t : zTx} {m : zMo} {im : Nat → Nat × zMo} {l : zLt} {r : zWr} {mi : zFi} {ml : zFl} {mr : zFr} (hr : zRf mr D E) (hY : zY mi ml Λ late tr t m im l r) (hF : zWf Λ late t m im l r) {y a w : Int32} : zMet G 2 yX8_writing cX8_writing 4 (some .int) [.ref 224, .int y, .int a, .int w] 238 mi ml mr 238 (zPi fun x u b c => x = sWriting Λ r y a w ∧ zY u b Λ late tr t m im l (sWritR Λ r y a w) ∧ (∀ q, q < 224 → u q = mi q) ∧ b = ml ∧ c = mr) := by
  obtain ⟨hW, hla30, htw, hmw, himw, hlw, hrw⟩ := id hF
  have hP3 := hW.1.1
  have hW5 := hW.1.2.1
  have hy99 := hmw.1
  refine z_intro ([.ref 224, .int y, .int a, .int w]) (by decide) rfl (Nat.le_of_ble_eq_true rfl) ?_
  refine e_aload_n 1 dX8_writing_0 rfl rfl ?_
  refine e_iconst 2 hic_0 dX8_writing_1 rfl ?_
  refine e_puti 5 dX8_writing_2 lf_X8_56 rfl rfl rfl rfl rfl (by decide) ?_
  obtain ⟨m1, em, hfr⟩ : ∃ m1, m1 = zp mi 224 0 (nI 0) ∧ ∀ q, q ≠ 224 → m1 q = mi q := ⟨_, rfl, fun q hq => zp_r _ _ _ hq⟩
  have hY := hY.th (k := 0) (v := nI 0) (Or.inl rfl)
  rw [← em] at hY ⊢
  obtain ⟨hd, hlate, htr, ht, hs, him, hl, hw⟩ := id hY
  refine e_iload_n 6 dX8_writing_5 rfl rfl ?_
  refine e_iconst 7 hic_0 dX8_writing_6 rfl ?_
  refine e_bipush 9 hbi_99 dX8_writing_7 rfl ?_
  refine c_Sqi 12 dX8_writing_9 (k_X8_inN G (by decide) (by decide)) lm_X8_60 zt_yX8_in rfl rfl rfl (Nat.le_of_ble_eq_true rfl) (Nat.le_of_ble_eq_true rfl) (Nat.le_of_ble_eq_true rfl) (by exact Nat.le_refl _) (by exact Nat.le_refl _) ?_
  refine e_if_eq 30 15 dX8_writing_12 (by decide) rfl (fun h12 => ?_) (fun h12 => ?_)
  · have h12 := zB_0 h12
    refine e_iconst 31 hic_m1 dX8_writing_30 rfl ?_
    refine e_ireturn .int dX8_writing_31 rfl rfl ?_
    have hno : ¬ sWritOk Λ y a w := fun q => by first | exact h12 q.1 | exact h19 q.2.1 | exact h27 q.2.2
    have e1 : sWriting Λ r y a w = -1 := iteN hno
    have e2 : sWritR Λ r y a w = r := iteN hno
    rw [e1, e2]
    exact ⟨_, rfl, rfl, hY, fun q hq => hfr q (by omega), rfl, rfl⟩
  · have h12 := zB_1 h12
    obtain ⟨ey, hy9⟩ := h12.nat
    refine e_iload_n 16 dX8_writing_15 rfl rfl ?_
    refine c_Sqi 19 dX8_writing_16 (k_X8_isAge G) lm_X8_190 zt_yX8_isAge rfl rfl rfl (Nat.le_of_ble_eq_true rfl) (Nat.le_of_ble_eq_true rfl) (Nat.le_of_ble_eq_true rfl) (by exact Nat.le_refl _) (by exact Nat.le_refl _) ?_
    refine e_if_eq 30 22 dX8_writing_19 (by decide) rfl (fun h19 => ?_) (fun h19 => ?_)
    · have h19 := zB_0 h19
      refine e_iconst 31 hic_m1 dX8_writing_30 rfl ?_
      refine e_ireturn .int dX8_writing_31 rfl rfl ?_
      have hno : ¬ sWritOk Λ y a w := fun q => by first | exact h12 q.1 | exact h19 q.2.1 | exact h27 q.2.2
      have e1 : sWriting Λ r y a w = -1 := iteN hno
      have e2 : sWritR Λ r y a w = r := iteN hno
      rw [e1, e2]
      exact ⟨_, rfl, rfl, hY, fun q hq => hfr q (by omega), rfl, rfl⟩
    · have h19 := zB_1 h19
      obtain ⟨ea, ha9⟩ := h19.nat
      refine e_aload_n 23 dX8_writing_22 rfl rfl ?_
      refine e_iload_n 24 dX8_writing_23 rfl rfl ?_
      refine c_Vqi 27 (ci := 8) dX8_writing_24 (k_X8_isWord G hr hd hW) lm_X8_156 zi_yX8_isWord zs_yX8_isWord rfl rfl (by decide) rfl rfl rfl (Nat.le_of_ble_eq_true rfl) (Nat.le_of_ble_eq_true rfl) (Nat.le_of_ble_eq_true rfl) (by exact Nat.le_refl _) (by exact Nat.le_refl _) ?_
      refine e_if_ne 32 30 dX8_writing_27 (by decide) rfl (fun h27 => ?_) (fun h27 => ?_)
      · have h27 := zB_1 h27
        obtain ⟨ew, hw9⟩ := h27.nat
        have e1 : sWriting Λ r y a w = (if r.1 < 40 then nI (r.1 + 1) else -3) := iteP ⟨h12, h19, h27⟩
        have e2 : sWritR Λ r y a w = (if r.1 < 40 then zWadd r (zK y) (zK a) (zK w) else r) := iteP ⟨h12, h19, h27⟩
        rw [e1, e2]
        clear e1 e2 h12 h19 h27
        generalize zK y = y9 at ey hy9 ⊢
        generalize zK a = a9 at ea ha9 ⊢
        generalize zK w = w9 at ew hw9 ⊢
        subst ey ea ew
        have hr40 := hrw.1
        refine e_aload_n 33 dX8_writing_32 rfl rfl ?_
        refine e_geti (v := nI r.1) 36 dX8_writing_33 lf_X8_147 rfl rfl rfl (by decide) (by first | exact hw.1 | (rw [zp_r _ _ _ (by decide)]; exact hw.1) | (rw [zp_r _ _ _ (by decide), zp_r _ _ _ (by decide)]; exact hw.1) | (rw [zp_r _ _ _ (by decide), zp_r _ _ _ (by decide), zp_r _ _ _ (by decide)]; exact hw.1)) ?_
        refine e_bipush 38 hbi_40 dX8_writing_36 rfl ?_
        refine e_icmp_neN 44 41 dX8_writing_38 (by decide) rfl (by omega) (by omega) (fun h38 => ?_) (fun h38 => ?_)
        · have hr4 : r.1 < 40 := by omega
          rw [if_pos hr4, if_pos hr4]
          refine e_aload_n 45 dX8_writing_44 rfl rfl ?_
          refine e_getr 48 dX8_writing_45 lf_X8_38 rfl rfl rfl (by decide) hr.ywr ?_
          refine e_iconst 49 hic_3 dX8_writing_48 rfl ?_
          refine e_aload_n 50 dX8_writing_49 rfl rfl ?_
          refine e_geti (v := nI r.1) 53 dX8_writing_50 lf_X8_147 rfl rfl rfl (by decide) (by first | exact hw.1 | (rw [zp_r _ _ _ (by decide)]; exact hw.1) | (rw [zp_r _ _ _ (by decide), zp_r _ _ _ (by decide)]; exact hw.1) | (rw [zp_r _ _ _ (by decide), zp_r _ _ _ (by decide), zp_r _ _ _ (by decide)]; exact hw.1)) ?_
          first | refine e_imulN 54 dX8_writing_53 rfl ?_ | refine e_imul 54 dX8_writing_53 rfl ?_
          refine e_iload_n 55 dX8_writing_54 rfl rfl ?_
          refine e_iast 56 dX8_writing_55 rfl rfl (by decide) rfl (by show 3 * r.1 < 120; omega) ?_
          refine e_aload_n 57 dX8_writing_56 rfl rfl ?_
          refine e_getr 60 dX8_writing_57 lf_X8_38 rfl rfl rfl (by decide) hr.ywr ?_
          refine e_iconst 61 hic_3 dX8_writing_60 rfl ?_
          refine e_aload_n 62 dX8_writing_61 rfl rfl ?_
          refine e_geti (v := nI r.1) 65 dX8_writing_62 lf_X8_147 rfl rfl rfl (by decide) (by first | exact hw.1 | (rw [zp_r _ _ _ (by decide)]; exact hw.1) | (rw [zp_r _ _ _ (by decide), zp_r _ _ _ (by decide)]; exact hw.1) | (rw [zp_r _ _ _ (by decide), zp_r _ _ _ (by decide), zp_r _ _ _ (by decide)]; exact hw.1)) ?_
          first | refine e_imulN 66 dX8_writing_65 rfl ?_ | refine e_imul 66 dX8_writing_65 rfl ?_
          refine e_iconst 67 hic_1 dX8_writing_66 rfl ?_
          first | refine e_iaddN 68 dX8_writing_67 rfl ?_ | refine e_iadd 68 dX8_writing_67 rfl ?_
          refine e_iload_n 69 dX8_writing_68 rfl rfl ?_
          refine e_iast 70 dX8_writing_69 rfl rfl (by decide) rfl (by show 3 * r.1 + 1 < 120; omega) ?_
          refine e_aload_n 71 dX8_writing_70 rfl rfl ?_
          refine e_getr 74 dX8_writing_71 lf_X8_38 rfl rfl rfl (by decide) hr.ywr ?_
          refine e_iconst 75 hic_3 dX8_writing_74 rfl ?_
          refine e_aload_n 76 dX8_writing_75 rfl rfl ?_
          refine e_geti (v := nI r.1) 79 dX8_writing_76 lf_X8_147 rfl rfl rfl (by decide) (by first | exact hw.1 | (rw [zp_r _ _ _ (by decide)]; exact hw.1) | (rw [zp_r _ _ _ (by decide), zp_r _ _ _ (by decide)]; exact hw.1) | (rw [zp_r _ _ _ (by decide), zp_r _ _ _ (by decide), zp_r _ _ _ (by decide)]; exact hw.1)) ?_
          first | refine e_imulN 80 dX8_writing_79 rfl ?_ | refine e_imul 80 dX8_writing_79 rfl ?_
          refine e_iconst 81 hic_2 dX8_writing_80 rfl ?_
          first | refine e_iaddN 82 dX8_writing_81 rfl ?_ | refine e_iadd 82 dX8_writing_81 rfl ?_
          refine e_iload_n 83 dX8_writing_82 rfl rfl ?_
          refine e_iast 84 dX8_writing_83 rfl rfl (by decide) rfl (by show 3 * r.1 + 2 < 120; omega) ?_
          refine e_aload_n 85 dX8_writing_84 rfl rfl ?_
          refine e_dup 86 dX8_writing_85 rfl rfl ?_
          refine e_geti (v := nI r.1) 89 dX8_writing_86 lf_X8_147 rfl rfl rfl (by decide) (by first | exact hw.1 | (rw [zp_r _ _ _ (by decide)]; exact hw.1) | (rw [zp_r _ _ _ (by decide), zp_r _ _ _ (by decide)]; exact hw.1) | (rw [zp_r _ _ _ (by decide), zp_r _ _ _ (by decide), zp_r _ _ _ (by decide)]; exact hw.1)) ?_
          refine e_iconst 90 hic_1 dX8_writing_89 rfl ?_
          first | refine e_iaddN 91 dX8_writing_90 rfl ?_ | refine e_iadd 91 dX8_writing_90 rfl ?_
          refine e_puti 94 dX8_writing_91 lf_X8_147 rfl rfl rfl rfl rfl (by decide) ?_
          refine e_aload_n 95 dX8_writing_94 rfl rfl ?_
          refine e_geti (v := nI (r.1 + 1)) 98 dX8_writing_95 lf_X8_147 rfl rfl rfl (by decide) (zp_s _ _ _ _) ?_
          refine e_ireturn .int dX8_writing_98 rfl rfl ?_
          have hY2 := hY.writ (m2 := zWrM m1 r.1 y9 a9 w9) (fun q g1 g2 => zWrM_r g1 g2) (fun k hk => zWrM_4 hk) hw.add
          exact ⟨_, rfl, rfl, hY2, fun q hq => (zWrM_r (by omega) (by omega)).trans (hfr q (by omega)), rfl, rfl⟩
        · rw [if_neg (by omega), if_neg (by omega)]
          refine e_bipush 43 hbi_m3 dX8_writing_41 rfl ?_
          refine e_ireturn .int dX8_writing_43 rfl rfl ?_
          exact ⟨_, rfl, rfl, hY, fun q hq => hfr q (by omega), rfl, rfl⟩
      · have h27 := zB_0 h27
        refine e_iconst 31 hic_m1 dX8_writing_30 rfl ?_
        refine e_ireturn .int dX8_writing_31 rfl rfl ?_
        have hno : ¬ sWritOk Λ y a w := fun q => by first | exact h12 q.1 | exact h19 q.2.1 | exact h27 q.2.2
        have e1 : sWriting Λ r y a w = -1 := iteN hno
        have e2 : sWritR Λ r y a w = r := iteN hno
        rw [e1, e2]
        exact ⟨_, rfl, rfl, hY, fun q hq => hfr q (by omega), rfl, rfl⟩

theorem zWst_n {r : zWr} {w k : Nat} {g : Int32 → Int32 → Int32} {acc : Int32} (h : ¬ r.2.2.2 k = w) : zWst r w g k acc = acc := if_neg h
theorem zWst_y {r : zWr} {w k : Nat} {g : Int32 → Int32 → Int32} {acc : Int32} (h : r.2.2.2 k = w) : zWst r w g k acc = g acc (zWk r k) := if_pos h
/-- x is c as soon as there is one; c is b before -/
def zSpR (many : Nat) (x c b : Int32) : Prop := (many = 0 ∧ c = b) ∨ (0 < many ∧ x = c)
theorem zSpR.mi {many : Nat} {x c v x' : Int32} (h : zSpR many x c (nI 115)) (hv : v < nI 115) (hx : (many = 0 ∧ x' = v) ∨ (0 < many ∧ x' = if v < x then v else x)) : zSpR (many + 1) x' (if v < c then v else c) (nI 115) := by
  refine Or.inr ⟨Nat.succ_pos _, ?_⟩
  rcases h with ⟨h1, h2⟩ | ⟨h1, h2⟩
  · rcases hx with ⟨_, k2⟩ | ⟨k1, _⟩
    · rw [h2, k2, if_pos hv]
    · omega
  · rcases hx with ⟨k1, _⟩ | ⟨_, k2⟩
    · omega
    · rw [k2, h2]
theorem zSpR.ma {many : Nat} {x c v x' : Int32} (h : zSpR many x c (-69)) (hv : -69 < v) (hx : (many = 0 ∧ x' = v) ∨ (0 < many ∧ x' = if x < v then v else x)) : zSpR (many + 1) x' (if c < v then v else c) (-69) := by
  refine Or.inr ⟨Nat.succ_pos _, ?_⟩
  rcases h with ⟨h1, h2⟩ | ⟨h1, h2⟩
  · rcases hx with ⟨_, k2⟩ | ⟨k1, _⟩
    · rw [h2, k2, if_pos hv]
    · omega
  · rcases hx with ⟨k1, _⟩ | ⟨_, k2⟩
    · omega
    · rw [k2, h2]
theorem zWv_b : ∀ y, y < 100 → ∀ a, a < 70 → 10 ≤ a → zWv y a < nI 115 ∧ -69 < zWv y a := by decide +kernel
theorem zSp0 {many : Nat} {x c b : Int32} (h : zSpR many x c b) (h0 : 0 < many) : x = c := by
  rcases h with ⟨h1, _⟩ | ⟨_, h2⟩
  · omega
  · exact h2
set_option maxHeartbeats 4000000 in
set_option maxRecDepth 100000 in
theorem l_X8_span (G : zG) (d : Nat) (Q : zQ) {D E : Nat} {Λ : zLd} {r : zWr} {mi : zFi} {ml : zFl} {mr : zFr} (hr : zRf mr D E) (hW5 : Λ 0 1 ≤ 5) (hw : zYw mi r) (hrw : r.1 ≤ 40 ∧ ∀ k, k < r.1 → r.2.1 k ≤ 99 ∧ 10 ≤ r.2.2.1 k ∧ r.2.2.1 k ≤ 69 ∧ r.2.2.2 k < Λ 0 1) {w : Nat} {what : Int32} (hw9 : w < Λ 0 1) : ∀ (k k9 many : Nat) (s a b cm cM : Int32) (v8 : Value), k9 + k = r.1 → many ≤ k9 → zSpR many a cm (nI 115) → zSpR many b cM (-69) → (∀ a2 b2 v9, zSpR (many + zsum (fun k => if r.2.2.2 k = w then 1 else 0) k9 k) a2 (zFo (zWst r w (fun a v => if v < a then v else a)) k k9 cm) (nI 115) → zSpR (many + zsum (fun k => if r.2.2.2 k = w then 1 else 0) k9 k) b2 (zFo (zWst r w (fun a v => if a < v then v else a)) k k9 cM) (-69) → zE G (zRm (d + 2) 238 238) (zQm G 238 238 Q) yX8_span.cls yX8_span.name cX8_span 9 (some .int) 238 145 [.ref 224, .int (nI w), .int what, .int (nI (many + zsum (fun k => if r.2.2.2 k = w then 1 else 0) k9 k)), .int (zFo (zWst r w (fun a v => a + v)) k k9 s), .int a2, .int b2, .int (nI r.1), v9] [] 238 mi ml mr) → zE G (zRm (d + 2) 238 238) (zQm G 238 238 Q) yX8_span.cls yX8_span.name cX8_span 9 (some .int) 238 39 [.ref 224, .int (nI w), .int what, .int (nI many), .int s, .int a, .int b, .int (nI k9), v8] [] 238 mi ml mr := by
  intro k
  induction k with
  | zero =>
    intro k9 many s a b cm cM v8 h hm h1 h2 hQ
    have hr40 := hrw.1
    refine e_iload 41 dX8_span_39 rfl rfl ?_
    refine e_aload_n 42 dX8_span_41 rfl rfl ?_
    refine e_geti 45 dX8_span_42 lf_X8_147 rfl rfl rfl (by decide) hw.1 ?_
    refine e_icmp_geN 145 48 dX8_span_45 (by decide) rfl (by omega) (by omega) (fun h45 => ?_) (fun h45 => ?_)
    · have e : k9 = r.1 := by omega
      subst e
      exact hQ a b _ h1 h2
    · exact absurd h45 (by omega)
  | succ k ih =>
    intro k9 many s a b cm cM v8 h hm h1 h2 hQ
    have hr40 := hrw.1
    rw [zFo_s, zFo_s, zFo_s, show zsum (fun k => if r.2.2.2 k = w then 1 else 0) k9 (k + 1) = (if r.2.2.2 k9 = w then 1 else 0) + zsum (fun k => if r.2.2.2 k = w then 1 else 0) (k9 + 1) k from rfl] at hQ
    refine e_iload 41 dX8_span_39 rfl rfl ?_
    refine e_aload_n 42 dX8_span_41 rfl rfl ?_
    refine e_geti 45 dX8_span_42 lf_X8_147 rfl rfl rfl (by decide) hw.1 ?_
    refine e_icmp_geN 145 48 dX8_span_45 (by decide) rfl (by omega) (by omega) (fun h45 => ?_) (fun h45 => ?_)
    · exact absurd h45 (by omega)
    · have hk9 := hrw.2 k9 h45
      refine e_aload_n 49 dX8_span_48 rfl rfl ?_
      refine e_getr 52 dX8_span_49 lf_X8_38 rfl rfl rfl (by decide) hr.ywr ?_
      refine e_iconst 53 hic_3 dX8_span_52 rfl ?_
      refine e_iload 55 dX8_span_53 rfl rfl ?_
      first | refine e_imulN 56 dX8_span_55 rfl ?_ | refine e_imul 56 dX8_span_55 rfl ?_
      refine e_iconst 57 hic_2 dX8_span_56 rfl ?_
      first | refine e_iaddN 58 dX8_span_57 rfl ?_ | refine e_iadd 58 dX8_span_57 rfl ?_
      refine e_iald 59 dX8_span_58 rfl rfl (by decide) rfl (by show 3 * k9 + 2 < 120; omega) (hw.2 k9 h45).2.2 ?_
      refine e_iload_n 60 dX8_span_59 rfl rfl ?_
      refine e_icmp_neN 139 63 dX8_span_60 (by decide) rfl (by omega) (by omega) (fun h60 => ?_) (fun h60 => ?_)
      · refine e_iinc 142 dX8_span_139 rfl (by decide) rfl (z_inc hii_1) (zst1_7 rfl) ?_
        refine e_goto 39 dX8_span_142 (by decide) ?_
        first
          | exact absurd h90 (by omega)
          | (rw [zWst_n h60, zWst_n h60, zWst_n h60, if_neg h60, Nat.zero_add] at hQ
             exact ih (k9 + 1) many s a b cm cM _ (by omega) (by omega) h1 h2 hQ)
          | (rw [zWst_y h60, zWst_y h60, zWst_y h60, if_pos h60, ← Nat.add_assoc many 1] at hQ
             exact ih (k9 + 1) (many + 1) _ _ _ _ _ _ (by omega) (by omega) (h1.mi hvb.1 (by first | exact Or.inl ⟨by omega, rfl⟩ | exact Or.inr ⟨by omega, (if_pos (Int32.not_le.mp h97)).symm⟩ | exact Or.inr ⟨by omega, (if_neg (fun z => absurd h97 (Int32.not_le.mpr z))).symm⟩)) (h2.ma hvb.2 (by first | exact Or.inl ⟨by omega, rfl⟩ | exact Or.inr ⟨by omega, (if_pos (Int32.not_le.mp h117)).symm⟩ | exact Or.inr ⟨by omega, (if_neg (fun z => absurd h117 (Int32.not_le.mpr z))).symm⟩)) hQ)
      · refine e_aload_n 64 dX8_span_63 rfl rfl ?_
        refine e_getr 67 dX8_span_64 lf_X8_38 rfl rfl rfl (by decide) hr.ywr ?_
        refine e_iconst 68 hic_3 dX8_span_67 rfl ?_
        refine e_iload 70 dX8_span_68 rfl rfl ?_
        first | refine e_imulN 71 dX8_span_70 rfl ?_ | refine e_imul 71 dX8_span_70 rfl ?_
        refine e_iald 72 dX8_span_71 rfl rfl (by decide) rfl (by show 3 * k9 < 120; omega) (hw.2 k9 h45).1 ?_
        refine e_aload_n 73 dX8_span_72 rfl rfl ?_
        refine e_getr 76 dX8_span_73 lf_X8_38 rfl rfl rfl (by decide) hr.ywr ?_
        refine e_iconst 77 hic_3 dX8_span_76 rfl ?_
        refine e_iload 79 dX8_span_77 rfl rfl ?_
        first | refine e_imulN 80 dX8_span_79 rfl ?_ | refine e_imul 80 dX8_span_79 rfl ?_
        refine e_iconst 81 hic_1 dX8_span_80 rfl ?_
        first | refine e_iaddN 82 dX8_span_81 rfl ?_ | refine e_iadd 82 dX8_span_81 rfl ?_
        refine e_iald 83 dX8_span_82 rfl rfl (by decide) rfl (by show 3 * k9 + 1 < 120; omega) (hw.2 k9 h45).2.1 ?_
        refine e_isub 84 dX8_span_83 rfl ?_
        refine e_bipush 86 hbi_16 dX8_span_84 rfl ?_
        refine e_iadd 87 dX8_span_86 rfl ?_
        have hvb := zWv_b (r.2.1 k9) (by omega) (r.2.2.1 k9) (by omega) (by omega)
        rw [show nI (r.2.1 k9) - nI (r.2.2.1 k9) + nI 16 = zWv (r.2.1 k9) (r.2.2.1 k9) from rfl]
        have ev : zWk r k9 = zWv (r.2.1 k9) (r.2.2.1 k9) := rfl
        rw [← ev] at hvb ⊢
        clear ev
        refine e_istore 89 dX8_span_87 rfl (by decide) (zst1_8 rfl) ?_
        refine e_iload_n 90 dX8_span_89 rfl rfl ?_
        refine e_if_eqN 100 93 dX8_span_90 (by decide) rfl (by omega) (fun h90 => ?_) (fun h90 => ?_)
        · refine e_iload 102 dX8_span_100 rfl rfl ?_
          refine e_goto 107 dX8_span_102 (by decide) ?_
          refine e_istore 109 dX8_span_107 rfl (by decide) (zst1_5 rfl) ?_
          refine e_iload_n 110 dX8_span_109 rfl rfl ?_
          refine e_if_eqN 120 113 dX8_span_110 (by decide) rfl (by omega) (fun h110 => ?_) (fun h110 => ?_)
          · refine e_iload 122 dX8_span_120 rfl rfl ?_
            refine e_goto 127 dX8_span_122 (by decide) ?_
            refine e_istore 129 dX8_span_127 rfl (by decide) (zst1_6 rfl) ?_
            refine e_iload 131 dX8_span_129 rfl rfl ?_
            refine e_iload 133 dX8_span_131 rfl rfl ?_
            refine e_iadd 134 dX8_span_133 rfl ?_
            refine e_istore 136 dX8_span_134 rfl (by decide) (zst1_4 rfl) ?_
            refine e_iinc 139 dX8_span_136 rfl (by decide) rfl (z_inc hii_1) (zst1_3 rfl) ?_
            refine e_iinc 142 dX8_span_139 rfl (by decide) rfl (z_inc hii_1) (zst1_7 rfl) ?_
            refine e_goto 39 dX8_span_142 (by decide) ?_
            first
              | exact absurd h90 (by omega)
              | (rw [zWst_n h60, zWst_n h60, zWst_n h60, if_neg h60, Nat.zero_add] at hQ
                 exact ih (k9 + 1) many s a b cm cM _ (by omega) (by omega) h1 h2 hQ)
              | (rw [zWst_y h60, zWst_y h60, zWst_y h60, if_pos h60, ← Nat.add_assoc many 1] at hQ
                 exact ih (k9 + 1) (many + 1) _ _ _ _ _ _ (by omega) (by omega) (h1.mi hvb.1 (by first | exact Or.inl ⟨by omega, rfl⟩ | exact Or.inr ⟨by omega, (if_pos (Int32.not_le.mp h97)).symm⟩ | exact Or.inr ⟨by omega, (if_neg (fun z => absurd h97 (Int32.not_le.mpr z))).symm⟩)) (h2.ma hvb.2 (by first | exact Or.inl ⟨by omega, rfl⟩ | exact Or.inr ⟨by omega, (if_pos (Int32.not_le.mp h117)).symm⟩ | exact Or.inr ⟨by omega, (if_neg (fun z => absurd h117 (Int32.not_le.mpr z))).symm⟩)) hQ)
          · refine e_iload 115 dX8_span_113 rfl rfl ?_
            refine e_iload 117 dX8_span_115 rfl rfl ?_
            refine e_icmp_le 125 120 dX8_span_117 (by decide) rfl (fun h117 => ?_) (fun h117 => ?_)
            · refine e_iload 127 dX8_span_125 rfl rfl ?_
              refine e_istore 129 dX8_span_127 rfl (by decide) (zst1_6 rfl) ?_
              refine e_iload 131 dX8_span_129 rfl rfl ?_
              refine e_iload 133 dX8_span_131 rfl rfl ?_
              refine e_iadd 134 dX8_span_133 rfl ?_
              refine e_istore 136 dX8_span_134 rfl (by decide) (zst1_4 rfl) ?_
              refine e_iinc 139 dX8_span_136 rfl (by decide) rfl (z_inc hii_1) (zst1_3 rfl) ?_
              refine e_iinc 142 dX8_span_139 rfl (by decide) rfl (z_inc hii_1) (zst1_7 rfl) ?_
              refine e_goto 39 dX8_span_142 (by decide) ?_
              first
                | exact absurd h90 (by omega)
                | (rw [zWst_n h60, zWst_n h60, zWst_n h60, if_neg h60, Nat.zero_add] at hQ
                   exact ih (k9 + 1) many s a b cm cM _ (by omega) (by omega) h1 h2 hQ)
                | (rw [zWst_y h60, zWst_y h60, zWst_y h60, if_pos h60, ← Nat.add_assoc many 1] at hQ
                   exact ih (k9 + 1) (many + 1) _ _ _ _ _ _ (by omega) (by omega) (h1.mi hvb.1 (by first | exact Or.inl ⟨by omega, rfl⟩ | exact Or.inr ⟨by omega, (if_pos (Int32.not_le.mp h97)).symm⟩ | exact Or.inr ⟨by omega, (if_neg (fun z => absurd h97 (Int32.not_le.mpr z))).symm⟩)) (h2.ma hvb.2 (by first | exact Or.inl ⟨by omega, rfl⟩ | exact Or.inr ⟨by omega, (if_pos (Int32.not_le.mp h117)).symm⟩ | exact Or.inr ⟨by omega, (if_neg (fun z => absurd h117 (Int32.not_le.mpr z))).symm⟩)) hQ)
            · refine e_iload 122 dX8_span_120 rfl rfl ?_
              refine e_goto 127 dX8_span_122 (by decide) ?_
              refine e_istore 129 dX8_span_127 rfl (by decide) (zst1_6 rfl) ?_
              refine e_iload 131 dX8_span_129 rfl rfl ?_
              refine e_iload 133 dX8_span_131 rfl rfl ?_
              refine e_iadd 134 dX8_span_133 rfl ?_
              refine e_istore 136 dX8_span_134 rfl (by decide) (zst1_4 rfl) ?_
              refine e_iinc 139 dX8_span_136 rfl (by decide) rfl (z_inc hii_1) (zst1_3 rfl) ?_
              refine e_iinc 142 dX8_span_139 rfl (by decide) rfl (z_inc hii_1) (zst1_7 rfl) ?_
              refine e_goto 39 dX8_span_142 (by decide) ?_
              first
                | exact absurd h90 (by omega)
                | (rw [zWst_n h60, zWst_n h60, zWst_n h60, if_neg h60, Nat.zero_add] at hQ
                   exact ih (k9 + 1) many s a b cm cM _ (by omega) (by omega) h1 h2 hQ)
                | (rw [zWst_y h60, zWst_y h60, zWst_y h60, if_pos h60, ← Nat.add_assoc many 1] at hQ
                   exact ih (k9 + 1) (many + 1) _ _ _ _ _ _ (by omega) (by omega) (h1.mi hvb.1 (by first | exact Or.inl ⟨by omega, rfl⟩ | exact Or.inr ⟨by omega, (if_pos (Int32.not_le.mp h97)).symm⟩ | exact Or.inr ⟨by omega, (if_neg (fun z => absurd h97 (Int32.not_le.mpr z))).symm⟩)) (h2.ma hvb.2 (by first | exact Or.inl ⟨by omega, rfl⟩ | exact Or.inr ⟨by omega, (if_pos (Int32.not_le.mp h117)).symm⟩ | exact Or.inr ⟨by omega, (if_neg (fun z => absurd h117 (Int32.not_le.mpr z))).symm⟩)) hQ)
        · refine e_iload 95 dX8_span_93 rfl rfl ?_
          refine e_iload 97 dX8_span_95 rfl rfl ?_
          refine e_icmp_ge 105 100 dX8_span_97 (by decide) rfl (fun h97 => ?_) (fun h97 => ?_)
          · refine e_iload 107 dX8_span_105 rfl rfl ?_
            refine e_istore 109 dX8_span_107 rfl (by decide) (zst1_5 rfl) ?_
            refine e_iload_n 110 dX8_span_109 rfl rfl ?_
            refine e_if_eqN 120 113 dX8_span_110 (by decide) rfl (by omega) (fun h110 => ?_) (fun h110 => ?_)
            · refine e_iload 122 dX8_span_120 rfl rfl ?_
              refine e_goto 127 dX8_span_122 (by decide) ?_
              refine e_istore 129 dX8_span_127 rfl (by decide) (zst1_6 rfl) ?_
              refine e_iload 131 dX8_span_129 rfl rfl ?_
              refine e_iload 133 dX8_span_131 rfl rfl ?_
              refine e_iadd 134 dX8_span_133 rfl ?_
              refine e_istore 136 dX8_span_134 rfl (by decide) (zst1_4 rfl) ?_
              refine e_iinc 139 dX8_span_136 rfl (by decide) rfl (z_inc hii_1) (zst1_3 rfl) ?_
              refine e_iinc 142 dX8_span_139 rfl (by decide) rfl (z_inc hii_1) (zst1_7 rfl) ?_
              refine e_goto 39 dX8_span_142 (by decide) ?_
              first
                | exact absurd h90 (by omega)
                | (rw [zWst_n h60, zWst_n h60, zWst_n h60, if_neg h60, Nat.zero_add] at hQ
                   exact ih (k9 + 1) many s a b cm cM _ (by omega) (by omega) h1 h2 hQ)
                | (rw [zWst_y h60, zWst_y h60, zWst_y h60, if_pos h60, ← Nat.add_assoc many 1] at hQ
                   exact ih (k9 + 1) (many + 1) _ _ _ _ _ _ (by omega) (by omega) (h1.mi hvb.1 (by first | exact Or.inl ⟨by omega, rfl⟩ | exact Or.inr ⟨by omega, (if_pos (Int32.not_le.mp h97)).symm⟩ | exact Or.inr ⟨by omega, (if_neg (fun z => absurd h97 (Int32.not_le.mpr z))).symm⟩)) (h2.ma hvb.2 (by first | exact Or.inl ⟨by omega, rfl⟩ | exact Or.inr ⟨by omega, (if_pos (Int32.not_le.mp h117)).symm⟩ | exact Or.inr ⟨by omega, (if_neg (fun z => absurd h117 (Int32.not_le.mpr z))).symm⟩)) hQ)
            · refine e_iload 115 dX8_span_113 rfl rfl ?_
              refine e_iload 117 dX8_span_115 rfl rfl ?_
              refine e_icmp_le 125 120 dX8_span_117 (by decide) rfl (fun h117 => ?_) (fun h117 => ?_)
              · refine e_iload 127 dX8_span_125 rfl rfl ?_
                refine e_istore 129 dX8_span_127 rfl (by decide) (zst1_6 rfl) ?_
                refine e_iload 131 dX8_span_129 rfl rfl ?_
                refine e_iload 133 dX8_span_131 rfl rfl ?_
                refine e_iadd 134 dX8_span_133 rfl ?_
                refine e_istore 136 dX8_span_134 rfl (by decide) (zst1_4 rfl) ?_
                refine e_iinc 139 dX8_span_136 rfl (by decide) rfl (z_inc hii_1) (zst1_3 rfl) ?_
                refine e_iinc 142 dX8_span_139 rfl (by decide) rfl (z_inc hii_1) (zst1_7 rfl) ?_
                refine e_goto 39 dX8_span_142 (by decide) ?_
                first
                  | exact absurd h90 (by omega)
                  | (rw [zWst_n h60, zWst_n h60, zWst_n h60, if_neg h60, Nat.zero_add] at hQ
                     exact ih (k9 + 1) many s a b cm cM _ (by omega) (by omega) h1 h2 hQ)
                  | (rw [zWst_y h60, zWst_y h60, zWst_y h60, if_pos h60, ← Nat.add_assoc many 1] at hQ
                     exact ih (k9 + 1) (many + 1) _ _ _ _ _ _ (by omega) (by omega) (h1.mi hvb.1 (by first | exact Or.inl ⟨by omega, rfl⟩ | exact Or.inr ⟨by omega, (if_pos (Int32.not_le.mp h97)).symm⟩ | exact Or.inr ⟨by omega, (if_neg (fun z => absurd h97 (Int32.not_le.mpr z))).symm⟩)) (h2.ma hvb.2 (by first | exact Or.inl ⟨by omega, rfl⟩ | exact Or.inr ⟨by omega, (if_pos (Int32.not_le.mp h117)).symm⟩ | exact Or.inr ⟨by omega, (if_neg (fun z => absurd h117 (Int32.not_le.mpr z))).symm⟩)) hQ)
              · refine e_iload 122 dX8_span_120 rfl rfl ?_
                refine e_goto 127 dX8_span_122 (by decide) ?_
                refine e_istore 129 dX8_span_127 rfl (by decide) (zst1_6 rfl) ?_
                refine e_iload 131 dX8_span_129 rfl rfl ?_
                refine e_iload 133 dX8_span_131 rfl rfl ?_
                refine e_iadd 134 dX8_span_133 rfl ?_
                refine e_istore 136 dX8_span_134 rfl (by decide) (zst1_4 rfl) ?_
                refine e_iinc 139 dX8_span_136 rfl (by decide) rfl (z_inc hii_1) (zst1_3 rfl) ?_
                refine e_iinc 142 dX8_span_139 rfl (by decide) rfl (z_inc hii_1) (zst1_7 rfl) ?_
                refine e_goto 39 dX8_span_142 (by decide) ?_
                first
                  | exact absurd h90 (by omega)
                  | (rw [zWst_n h60, zWst_n h60, zWst_n h60, if_neg h60, Nat.zero_add] at hQ
                     exact ih (k9 + 1) many s a b cm cM _ (by omega) (by omega) h1 h2 hQ)
                  | (rw [zWst_y h60, zWst_y h60, zWst_y h60, if_pos h60, ← Nat.add_assoc many 1] at hQ
                     exact ih (k9 + 1) (many + 1) _ _ _ _ _ _ (by omega) (by omega) (h1.mi hvb.1 (by first | exact Or.inl ⟨by omega, rfl⟩ | exact Or.inr ⟨by omega, (if_pos (Int32.not_le.mp h97)).symm⟩ | exact Or.inr ⟨by omega, (if_neg (fun z => absurd h97 (Int32.not_le.mpr z))).symm⟩)) (h2.ma hvb.2 (by first | exact Or.inl ⟨by omega, rfl⟩ | exact Or.inr ⟨by omega, (if_pos (Int32.not_le.mp h117)).symm⟩ | exact Or.inr ⟨by omega, (if_neg (fun z => absurd h117 (Int32.not_le.mpr z))).symm⟩)) hQ)
          · refine e_iload 102 dX8_span_100 rfl rfl ?_
            refine e_goto 107 dX8_span_102 (by decide) ?_
            refine e_istore 109 dX8_span_107 rfl (by decide) (zst1_5 rfl) ?_
            refine e_iload_n 110 dX8_span_109 rfl rfl ?_
            refine e_if_eqN 120 113 dX8_span_110 (by decide) rfl (by omega) (fun h110 => ?_) (fun h110 => ?_)
            · refine e_iload 122 dX8_span_120 rfl rfl ?_
              refine e_goto 127 dX8_span_122 (by decide) ?_
              refine e_istore 129 dX8_span_127 rfl (by decide) (zst1_6 rfl) ?_
              refine e_iload 131 dX8_span_129 rfl rfl ?_
              refine e_iload 133 dX8_span_131 rfl rfl ?_
              refine e_iadd 134 dX8_span_133 rfl ?_
              refine e_istore 136 dX8_span_134 rfl (by decide) (zst1_4 rfl) ?_
              refine e_iinc 139 dX8_span_136 rfl (by decide) rfl (z_inc hii_1) (zst1_3 rfl) ?_
              refine e_iinc 142 dX8_span_139 rfl (by decide) rfl (z_inc hii_1) (zst1_7 rfl) ?_
              refine e_goto 39 dX8_span_142 (by decide) ?_
              first
                | exact absurd h90 (by omega)
                | (rw [zWst_n h60, zWst_n h60, zWst_n h60, if_neg h60, Nat.zero_add] at hQ
                   exact ih (k9 + 1) many s a b cm cM _ (by omega) (by omega) h1 h2 hQ)
                | (rw [zWst_y h60, zWst_y h60, zWst_y h60, if_pos h60, ← Nat.add_assoc many 1] at hQ
                   exact ih (k9 + 1) (many + 1) _ _ _ _ _ _ (by omega) (by omega) (h1.mi hvb.1 (by first | exact Or.inl ⟨by omega, rfl⟩ | exact Or.inr ⟨by omega, (if_pos (Int32.not_le.mp h97)).symm⟩ | exact Or.inr ⟨by omega, (if_neg (fun z => absurd h97 (Int32.not_le.mpr z))).symm⟩)) (h2.ma hvb.2 (by first | exact Or.inl ⟨by omega, rfl⟩ | exact Or.inr ⟨by omega, (if_pos (Int32.not_le.mp h117)).symm⟩ | exact Or.inr ⟨by omega, (if_neg (fun z => absurd h117 (Int32.not_le.mpr z))).symm⟩)) hQ)
            · refine e_iload 115 dX8_span_113 rfl rfl ?_
              refine e_iload 117 dX8_span_115 rfl rfl ?_
              refine e_icmp_le 125 120 dX8_span_117 (by decide) rfl (fun h117 => ?_) (fun h117 => ?_)
              · refine e_iload 127 dX8_span_125 rfl rfl ?_
                refine e_istore 129 dX8_span_127 rfl (by decide) (zst1_6 rfl) ?_
                refine e_iload 131 dX8_span_129 rfl rfl ?_
                refine e_iload 133 dX8_span_131 rfl rfl ?_
                refine e_iadd 134 dX8_span_133 rfl ?_
                refine e_istore 136 dX8_span_134 rfl (by decide) (zst1_4 rfl) ?_
                refine e_iinc 139 dX8_span_136 rfl (by decide) rfl (z_inc hii_1) (zst1_3 rfl) ?_
                refine e_iinc 142 dX8_span_139 rfl (by decide) rfl (z_inc hii_1) (zst1_7 rfl) ?_
                refine e_goto 39 dX8_span_142 (by decide) ?_
                first
                  | exact absurd h90 (by omega)
                  | (rw [zWst_n h60, zWst_n h60, zWst_n h60, if_neg h60, Nat.zero_add] at hQ
                     exact ih (k9 + 1) many s a b cm cM _ (by omega) (by omega) h1 h2 hQ)
                  | (rw [zWst_y h60, zWst_y h60, zWst_y h60, if_pos h60, ← Nat.add_assoc many 1] at hQ
                     exact ih (k9 + 1) (many + 1) _ _ _ _ _ _ (by omega) (by omega) (h1.mi hvb.1 (by first | exact Or.inl ⟨by omega, rfl⟩ | exact Or.inr ⟨by omega, (if_pos (Int32.not_le.mp h97)).symm⟩ | exact Or.inr ⟨by omega, (if_neg (fun z => absurd h97 (Int32.not_le.mpr z))).symm⟩)) (h2.ma hvb.2 (by first | exact Or.inl ⟨by omega, rfl⟩ | exact Or.inr ⟨by omega, (if_pos (Int32.not_le.mp h117)).symm⟩ | exact Or.inr ⟨by omega, (if_neg (fun z => absurd h117 (Int32.not_le.mpr z))).symm⟩)) hQ)
              · refine e_iload 122 dX8_span_120 rfl rfl ?_
                refine e_goto 127 dX8_span_122 (by decide) ?_
                refine e_istore 129 dX8_span_127 rfl (by decide) (zst1_6 rfl) ?_
                refine e_iload 131 dX8_span_129 rfl rfl ?_
                refine e_iload 133 dX8_span_131 rfl rfl ?_
                refine e_iadd 134 dX8_span_133 rfl ?_
                refine e_istore 136 dX8_span_134 rfl (by decide) (zst1_4 rfl) ?_
                refine e_iinc 139 dX8_span_136 rfl (by decide) rfl (z_inc hii_1) (zst1_3 rfl) ?_
                refine e_iinc 142 dX8_span_139 rfl (by decide) rfl (z_inc hii_1) (zst1_7 rfl) ?_
                refine e_goto 39 dX8_span_142 (by decide) ?_
                first
                  | exact absurd h90 (by omega)
                  | (rw [zWst_n h60, zWst_n h60, zWst_n h60, if_neg h60, Nat.zero_add] at hQ
                     exact ih (k9 + 1) many s a b cm cM _ (by omega) (by omega) h1 h2 hQ)
                  | (rw [zWst_y h60, zWst_y h60, zWst_y h60, if_pos h60, ← Nat.add_assoc many 1] at hQ
                     exact ih (k9 + 1) (many + 1) _ _ _ _ _ _ (by omega) (by omega) (h1.mi hvb.1 (by first | exact Or.inl ⟨by omega, rfl⟩ | exact Or.inr ⟨by omega, (if_pos (Int32.not_le.mp h97)).symm⟩ | exact Or.inr ⟨by omega, (if_neg (fun z => absurd h97 (Int32.not_le.mpr z))).symm⟩)) (h2.ma hvb.2 (by first | exact Or.inl ⟨by omega, rfl⟩ | exact Or.inr ⟨by omega, (if_pos (Int32.not_le.mp h117)).symm⟩ | exact Or.inr ⟨by omega, (if_neg (fun z => absurd h117 (Int32.not_le.mpr z))).symm⟩)) hQ)
set_option maxHeartbeats 4000000 in
set_option maxRecDepth 100000 in
theorem k_X8_span (G : zG) {D E : Nat} {Λ : zLd} {late : Nat} {tr : Int64} {t : zTx} {m : zMo} {im : Nat → Nat × zMo} {l : zLt} {r : zWr} {mi : zFi} {ml : zFl} {mr : zFr} (hr : zRf mr D E) (hY : zY mi ml Λ late tr t m im l r) (hF : zWf Λ late t m im l r) {w what : Int32} : zMet G 2 yX8_span cX8_span 9 (some .int) [.ref 224, .int w, .int what] 238 mi ml mr 238 (zPi fun x u b c => x = sSpan Λ r w what ∧ zY u b Λ late tr t m im l r ∧ (∀ q, q < 224 → u q = mi q) ∧ b = ml ∧ c = mr) := by
  obtain ⟨hW, hla30, htw, hmw, himw, hlw, hrw⟩ := id hF
  have hP3 := hW.1.1
  have hW5 := hW.1.2.1
  have hy99 := hmw.1
  refine z_intro ([.ref 224, .int w, .int what, zx, zx, zx, zx, zx, zx]) (by decide) rfl (Nat.le_of_ble_eq_true rfl) ?_
  refine e_aload_n 1 dX8_span_0 rfl rfl ?_
  refine e_iconst 2 hic_0 dX8_span_1 rfl ?_
  refine e_puti 5 dX8_span_2 lf_X8_56 rfl rfl rfl rfl rfl (by decide) ?_
  obtain ⟨m1, em, hfr⟩ : ∃ m1, m1 = zp mi 224 0 (nI 0) ∧ ∀ q, q ≠ 224 → m1 q = mi q := ⟨_, rfl, fun q hq => zp_r _ _ _ hq⟩
  have hY := hY.th (k := 0) (v := nI 0) (Or.inl rfl)
  rw [← em] at hY ⊢
  obtain ⟨hd, hlate, htr, ht, hs, him, hl, hw⟩ := id hY
  refine e_aload_n 6 dX8_span_5 rfl rfl ?_
  refine e_iload_n 7 dX8_span_6 rfl rfl ?_
  refine c_Vqi 10 (ci := 8) dX8_span_7 (k_X8_isWord G hr hd hW) lm_X8_156 zi_yX8_isWord zs_yX8_isWord rfl rfl (by decide) rfl rfl rfl (Nat.le_of_ble_eq_true rfl) (Nat.le_of_ble_eq_true rfl) (Nat.le_of_ble_eq_true rfl) (by exact Nat.le_refl _) (by exact Nat.le_refl _) ?_
  refine e_if_eq 22 13 dX8_span_10 (by decide) rfl (fun h10 => ?_) (fun h10 => ?_)
  · have h10 := zB_0 h10
    refine e_ldc 24 lc_X8_240 dX8_span_22 rfl ?_
    refine e_ireturn .int dX8_span_24 rfl rfl ?_
    exact ⟨_, rfl, (iteN (fun q => by first | exact h10 q.1 | exact h19 q.2)).symm, hY, fun q hq => hfr q (by omega), rfl, rfl⟩
  · have h10 := zB_1 h10
    obtain ⟨ew, hw9⟩ := h10.nat
    refine e_iload_n 14 dX8_span_13 rfl rfl ?_
    refine e_iconst 15 hic_0 dX8_span_14 rfl ?_
    refine e_iconst 16 hic_3 dX8_span_15 rfl ?_
    refine c_Sqi 19 dX8_span_16 (k_X8_inN G (by decide) (by decide)) lm_X8_60 zt_yX8_in rfl rfl rfl (Nat.le_of_ble_eq_true rfl) (Nat.le_of_ble_eq_true rfl) (Nat.le_of_ble_eq_true rfl) (by exact Nat.le_refl _) (by exact Nat.le_refl _) ?_
    refine e_if_ne 25 22 dX8_span_19 (by decide) rfl (fun h19 => ?_) (fun h19 => ?_)
    · have h19 := zB_1 h19
      obtain ⟨ewhat, hh9⟩ := h19.nat
      have eA : sSpan Λ r w what = (if zWco r (zK w) = 0 then -1000000 else sSpanV r (zK w) (zK what)) := iteP ⟨h10, h19⟩
      rw [eA]
      clear eA h10 h19
      generalize zK w = w9 at ew hw9 ⊢
      generalize zK what = k9 at ewhat hh9 ⊢
      subst ew ewhat
      have hco := zWco_le r w9
      have hr40 := hrw.1
      refine e_iconst 26 hic_0 dX8_span_25 rfl ?_
      refine e_istore_n 27 dX8_span_26 rfl (by decide) (zst1_3 rfl) ?_
      refine e_iconst 28 hic_0 dX8_span_27 rfl ?_
      refine e_istore 30 dX8_span_28 rfl (by decide) (zst1_4 rfl) ?_
      refine e_iconst 31 hic_0 dX8_span_30 rfl ?_
      refine e_istore 33 dX8_span_31 rfl (by decide) (zst1_5 rfl) ?_
      refine e_iconst 34 hic_0 dX8_span_33 rfl ?_
      refine e_istore 36 dX8_span_34 rfl (by decide) (zst1_6 rfl) ?_
      refine e_iconst 37 hic_0 dX8_span_36 rfl ?_
      refine e_istore 39 dX8_span_37 rfl (by decide) (zst1_7 rfl) ?_
      refine l_X8_span G 0 _ hr hW5 hw hrw hw9 r.1 0 0 (nI 0) (nI 0) (nI 0) (nI 115) (-69) _ (by omega) (Nat.zero_le _) (Or.inl ⟨rfl, rfl⟩) (Or.inl ⟨rfl, rfl⟩) (fun a2 b2 v9 hR1 hR2 => ?_)
      rw [Nat.zero_add] at hR1 hR2
      rw [Nat.zero_add (zsum _ 0 r.1)]
      have ec : zsum (fun k => if r.2.2.2 k = w9 then 1 else 0) 0 r.1 = zWco r w9 := rfl
      rw [ec] at hR1 hR2 ⊢
      refine e_iload_n 146 dX8_span_145 rfl rfl ?_
      refine e_if_neN 154 149 dX8_span_146 (by decide) rfl (by omega) (fun h146 => ?_) (fun h146 => ?_)
      · have em : b2 = zWmax r w9 := zSp0 hR2 (by omega)
        have el : a2 = zWmin r w9 := zSp0 hR1 (by omega)
        rw [if_neg (by omega)]
        subst em el
        unfold sSpanV
        refine e_iload_n 155 dX8_span_154 rfl rfl ?_
        refine e_if_neN 163 158 dX8_span_155 (by decide) rfl (by omega) (fun h155 => ?_) (fun h155 => ?_)
        · rw [if_neg (by omega)]
          refine e_iload_n 164 dX8_span_163 rfl rfl ?_
          refine e_iconst 165 hic_1 dX8_span_164 rfl ?_
          refine e_icmp_neN 173 168 dX8_span_165 (by decide) rfl (by omega) (by omega) (fun h165 => ?_) (fun h165 => ?_)
          · rw [if_neg (by omega)]
            refine e_iload 175 dX8_span_173 rfl rfl ?_
            refine e_i2l 176 dX8_span_175 rfl ?_
            refine e_iload_n 177 dX8_span_176 rfl rfl ?_
            refine e_i2l 178 dX8_span_177 rfl ?_
            rw [i2l_nI9 (by omega)]
            refine e_iload_n 179 dX8_span_178 rfl rfl ?_
            refine e_iconst 180 hic_2 dX8_span_179 rfl ?_
            first | refine e_isubN 181 dX8_span_180 rfl (by omega) ?_ | refine e_isub 181 dX8_span_180 rfl ?_
            refine c_Sql 184 dX8_span_181 (k_X8_part G (zAbs_i2l (zWsum r w9)) (zAbs_lt _) (by omega) (by omega) (by omega)) lm_X8_223 zt_yX8_part rfl rfl rfl (Nat.le_of_ble_eq_true rfl) (Nat.le_of_ble_eq_true rfl) (Nat.le_of_ble_eq_true rfl) (by exact Nat.le_refl _) (by exact Nat.le_refl _) ?_
            refine e_l2i 185 dX8_span_184 rfl ?_
            refine e_ireturn .int dX8_span_185 rfl rfl ?_
            exact ⟨_, rfl, rfl, hY, fun q hq => hfr q (by omega), rfl, rfl⟩
          · rw [if_pos (by omega)]
            refine e_iload 170 dX8_span_168 rfl rfl ?_
            refine e_goto 185 dX8_span_170 (by decide) ?_
            refine e_ireturn .int dX8_span_185 rfl rfl ?_
            exact ⟨_, rfl, rfl, hY, fun q hq => hfr q (by omega), rfl, rfl⟩
        · rw [if_pos (by omega)]
          refine e_iload 160 dX8_span_158 rfl rfl ?_
          refine e_goto 185 dX8_span_160 (by decide) ?_
          refine e_ireturn .int dX8_span_185 rfl rfl ?_
          exact ⟨_, rfl, rfl, hY, fun q hq => hfr q (by omega), rfl, rfl⟩
      · rw [if_pos (by omega)]
        refine e_ldc 151 lc_X8_240 dX8_span_149 rfl ?_
        refine e_goto 185 dX8_span_151 (by decide) ?_
        refine e_ireturn .int dX8_span_185 rfl rfl ?_
        exact ⟨_, rfl, rfl, hY, fun q hq => hfr q (by omega), rfl, rfl⟩
    · have h19 := zB_0 h19
      refine e_ldc 24 lc_X8_240 dX8_span_22 rfl ?_
      refine e_ireturn .int dX8_span_24 rfl rfl ?_
      exact ⟨_, rfl, (iteN (fun q => by first | exact h10 q.1 | exact h19 q.2)).symm, hY, fun q hq => hfr q (by omega), rfl, rfl⟩

