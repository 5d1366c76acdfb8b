theorem zYsg.c {F F' : Nat → Int32} {S : zLd} (h : zYsg F S) (hn : S 0 0 ≤ 10) (e : ∀ k, 1 ≤ k → k < 50 → F' k = F k) : zYsg F' S := ⟨by rw [e 2 (by decide) (by decide)]; exact h.1, fun i hi => by rw [e _ (by omega) (by omega), e _ (by omega) (by omega), e _ (by omega) (by omega), e _ (by omega) (by omega)]; exact h.2 i hi⟩
def zSgL (Λ S : zLd) (y k i : Nat) (sh : Nat → Nat → Nat → Nat) : Nat → Nat → Nat → Nat := fun v => if Λ 3 v ≤ y then zSing S v y k i (sh v) else sh v
theorem zSing_s (S : zLd) (v y k i : Nat) (sh : Nat → Nat → Nat) : zSing S v y (k + 1) i sh = zSing S v y k (i + 1) (if S 1 i = y ∧ S 2 i = v then zRaise (S 3 i) 13 19 (10 * S 4 i) sh else sh) := rfl
theorem zSgL_y {Λ S : zLd} {y k i : Nat} {sh : Nat → Nat → Nat → Nat} (h1 : S 1 i = y) (hc : Λ 3 (S 2 i) ≤ y) : ∀ v, zSgL Λ S y k (i + 1) (zu sh (S 2 i) (zRaise (S 3 i) 13 19 (10 * S 4 i) (sh (S 2 i)))) v = zSgL Λ S y (k + 1) i sh v := fun v => by
  unfold zSgL
  by_cases e : v = S 2 i
  · subst e
    rw [if_pos hc, if_pos hc, zu_s, zSing_s, if_pos ⟨h1, rfl⟩]
  · by_cases c : Λ 3 v ≤ y
    · rw [if_pos c, if_pos c, zu_n _ _ e, zSing_s, if_neg (fun z => e z.2.symm)]
    · rw [if_neg c, if_neg c, zu_n _ _ e]
theorem zSgL_n {Λ S : zLd} {y k i : Nat} {sh : Nat → Nat → Nat → Nat} (h : S 1 i = y → ¬ Λ 3 (S 2 i) ≤ y) : ∀ v, zSgL Λ S y k (i + 1) sh v = zSgL Λ S y (k + 1) i sh v := fun v => by
  unfold zSgL
  by_cases c : Λ 3 v ≤ y
  · rw [if_pos c, if_pos c, zSing_s, if_neg (fun z => h z.1 (by rw [z.2]; exact c))]
  · rw [if_neg c, if_neg c]
/-- the words before w with what is coined this year -/
def zCoW (Λ : zLd) (y : Nat) (sh : Nat → Nat → Nat → Nat) (w : Nat) : Nat → Nat → Nat → Nat := fun v => if v < w then zCoin Λ v y (sh v) else sh v
theorem zCoW_w (Λ : zLd) (y : Nat) (sh : Nat → Nat → Nat → Nat) (w : Nat) : zCoW Λ y sh w w = sh w := if_neg (Nat.lt_irrefl w)
theorem zCoW_s {Λ : zLd} {y : Nat} {sh : Nat → Nat → Nat → Nat} {w : Nat} (v : Nat) (h : v ≠ w) : zCoW Λ y sh w v = zCoW Λ y sh (w + 1) v := by
  unfold zCoW
  by_cases z : v < w
  · rw [if_pos z, if_pos (by omega)]
  · rw [if_neg z, if_neg (by omega)]
theorem zCoW_z {Λ : zLd} {y : Nat} {sh : Nat → Nat → Nat → Nat} {w : Nat} : zCoW Λ y sh (w + 1) w = zCoin Λ w y (sh w) := if_pos (Nat.lt_succ_self w)
theorem zCoW_y {mi u u2 : zFi} {Λ : zLd} {y w : Nat} {sh : Nat → Nat → Nat → Nat} (hW : zLandW Λ) (hw : w < Λ 0 1) (hc : Λ 3 w = y) (h : zShI mi u Λ (zCoW Λ y sh w)) (hJ : zSgI u u2 w (Λ 4 w) (sh w (Λ 4 w)) (10 * Λ 0 5) 15 18) : zShI mi u2 Λ (zCoW Λ y sh (w + 1)) := by
  have h1 := h.row (a1 := 15) (a2 := 17) hW hw (hW.2.2 w hw).2.2.1 (by rw [zCoW_w]; exact hJ)
  refine h1.e (fun v hv => ?_)
  by_cases e : v = w
  · subst e
    rw [zu_s, zCoW_w, zCoW_z]
    unfold zCoin
    rw [if_pos hc]
  · rw [zu_n _ _ e]
    exact zCoW_s v e
theorem zCoW_n {mi u : zFi} {Λ : zLd} {y w : Nat} {sh : Nat → Nat → Nat → Nat} (hc : ¬ Λ 3 w = y) (h : zShI mi u Λ (zCoW Λ y sh w)) : zShI mi u Λ (zCoW Λ y sh (w + 1)) := by
  refine h.e (fun v hv => ?_)
  by_cases e : v = w
  · subst e
    rw [zCoW_w, zCoW_z]
    unfold zCoin
    rw [if_neg hc]
  · exact zCoW_s v e
theorem zLe_zu {N W w : Nat} {sh : Nat → Nat → Nat → Nat} {X : Nat → Nat → Nat} (h : ∀ v, v < W → ∀ q, q < N → zLe (sh v q)) (hX : ∀ q, q < N → zLe (X q)) : ∀ v, v < W → ∀ q, q < N → zLe (zu sh w X v q) := fun v hv q hq => by
  by_cases e : v = w
  · subst e; rw [zu_s]; exact hX q hq
  · rw [zu_n _ _ e]; exact h v hv q hq
theorem zZero_st {F : Nat → Int32} {u : zFi} {k9 : Nat} (h : ∀ j, 50 ≤ j → j < k9 → u 225 j = nI 0) : ∀ j, 50 ≤ j → j < k9 + 1 → zp u 225 k9 (nI 0) 225 j = nI 0 := fun j g1 g2 => by
  by_cases e : j = k9
  · subst e; rw [zp_s]
  · rw [zp_k _ _ e]; exact h j g1 (by omega)
set_option maxHeartbeats 4000000 in
set_option maxRecDepth 100000 in
theorem l_X8_coin (G : zG) (d : Nat) (Q : zQ) {D E : Nat} {Λ : zLd} {mi : zFi} {ml : zFl} {mr : zFr} (hr : zRf mr D E) (hd0 : zYd mi Λ) (hW : zLandW Λ) {y : Nat} (hy0 : mi 225 0 = nI y) (hy : y ≤ 99) {sh : Nat → Nat → Nat → Nat} (hle : ∀ v, v < Λ 0 1 → ∀ q, q < Λ 0 0 → zLe (sh v q)) : ∀ (k w : Nat) (u : zFi) (v2 v3 : Value), w + k = Λ 0 1 → zShI mi u Λ (zCoW Λ y sh w) → (∀ u2 v2 v3, zShI mi u2 Λ (fun v => zCoin Λ v y (sh v)) → zE G (zRm (d + 4) 238 238) (zQm G 238 238 Q) yX8_comes.cls yX8_comes.name cX8_comes 4 none 238 108 [.ref 224, .int (nI (Λ 0 1)), v2, v3] [] 238 u2 ml mr) → zE G (zRm (d + 4) 238 238) (zQm G 238 238 Q) yX8_comes.cls yX8_comes.name cX8_comes 4 none 238 2 [.ref 224, .int (nI w), v2, v3] [] 238 u ml mr := by
  intro k
  induction k with
  | zero =>
    intro w u v2 v3 h hI hQ
    have hd := hd0.s hI.1
    have hP3 := hW.1.1
    have hW5 := hW.1.2.1
    have hy1 := (hI.2.1 0 (by omega)).trans hy0
    refine e_iload_n 3 dX8_comes_2 rfl rfl ?_
    refine e_aload_n 4 dX8_comes_3 rfl rfl ?_
    refine e_geti 7 dX8_comes_4 lf_X8_141 rfl rfl rfl (by decide) hd.1.2 ?_
    refine e_icmp_geN 108 10 dX8_comes_7 (by decide) rfl (by omega) (by omega) (fun h7 => ?_) (fun h7 => ?_)
    · have ew : w = Λ 0 1 := by omega
      subst ew
      exact hQ u _ _ (hI.e (fun v hv => show zCoW Λ y sh (Λ 0 1) v = _ from if_pos hv))
    · exact absurd h7 (by omega)
  | succ k ih =>
    intro w u v2 v3 h hI hQ
    have hd := hd0.s hI.1
    have hP3 := hW.1.1
    have hW5 := hW.1.2.1
    have hy1 := (hI.2.1 0 (by omega)).trans hy0
    refine e_iload_n 3 dX8_comes_2 rfl rfl ?_
    refine e_aload_n 4 dX8_comes_3 rfl rfl ?_
    refine e_geti 7 dX8_comes_4 lf_X8_141 rfl rfl rfl (by decide) hd.1.2 ?_
    refine e_icmp_geN 108 10 dX8_comes_7 (by decide) rfl (by omega) (by omega) (fun h7 => ?_) (fun h7 => ?_)
    · exact absurd h7 (by omega)
    · refine e_bipush 12 hbi_15 dX8_comes_10 rfl ?_
      refine e_istore_n 13 dX8_comes_12 rfl (by decide) (zst1_2 rfl) ?_
      have hrow := hI.2.2 w h7 (Λ 4 w) (hW.2.2 w h7).2.2.1
      rw [zCoW_w] at hrow
      by_cases hc : Λ 3 w = y
      · refine m_X8_coin G d Q hr hd hW hy1 hy h7 (hle w h7 (Λ 4 w) (hW.2.2 w h7).2.2.1) hc 3 15 u _ (by decide) (by decide) (zSgI.z hrow) (fun u2 v3 hJ => ?_)
        refine e_iinc 105 dX8_comes_102 rfl (by decide) rfl (z_inc hii_1) (zst1_1 rfl) ?_
        refine e_goto 2 dX8_comes_105 (by decide) ?_
        exact ih (w + 1) u2 _ _ (by omega) (zCoW_y hW h7 hc hI hJ) hQ
      · refine e_iload_n 14 dX8_comes_13 rfl rfl ?_
        refine e_bipush 16 hbi_18 dX8_comes_14 rfl ?_
        refine e_icmp_geN 102 19 dX8_comes_16 (by decide) rfl (by decide) (by decide) (fun h16 => ?_) (fun h16 => ?_)
        · exact absurd h16 (by decide)
        · refine e_aload_n 20 dX8_comes_19 rfl rfl ?_
          refine e_getr 23 dX8_comes_20 lf_X8_32 rfl rfl rfl (by decide) hr.yw ?_
          refine e_iconst 24 hic_4 dX8_comes_23 rfl ?_
          refine e_iload_n 25 dX8_comes_24 rfl rfl ?_
          first | refine e_imulN 26 dX8_comes_25 rfl ?_ | refine e_imul 26 dX8_comes_25 rfl ?_
          refine e_iconst 27 hic_1 dX8_comes_26 rfl ?_
          first | refine e_iaddN 28 dX8_comes_27 rfl ?_ | refine e_iadd 28 dX8_comes_27 rfl ?_
          refine e_iald (v := nI (Λ 3 w)) 29 dX8_comes_28 rfl rfl (by decide) rfl (by show _ < 40; omega) (hd.2.2.2 w h7 1 (by decide)) ?_
          refine e_aload_n 30 dX8_comes_29 rfl rfl ?_
          refine e_getr 33 dX8_comes_30 lf_X8_7 rfl rfl rfl (by decide) hr.ys ?_
          refine e_iconst 34 hic_0 dX8_comes_33 rfl ?_
          refine e_iald 35 dX8_comes_34 rfl rfl (by decide) rfl (by show 0 < 2950; decide) hy1 ?_
          refine e_icmp_neN 102 38 dX8_comes_35 (by decide) rfl (by have := (hW.2.2 w h7).2.1; omega) (by omega) (fun h35 => ?_) (fun h35 => ?_)
          · refine e_iinc 105 dX8_comes_102 rfl (by decide) rfl (z_inc hii_1) (zst1_1 rfl) ?_
            refine e_goto 2 dX8_comes_105 (by decide) ?_
            exact ih (w + 1) u _ _ (by omega) (zCoW_n hc hI) hQ
          · exact absurd (by omega) hc
set_option maxHeartbeats 4000000 in
set_option maxRecDepth 100000 in
theorem l_X8_comeS (G : zG) (d : Nat) (Q : zQ) {v3 : Value} {D E : Nat} {Λ : zLd} {mi : zFi} {ml : zFl} {mr : zFr} (hr : zRf mr D E) (hd0 : zYd mi Λ) (hW : zLandW Λ) {y : Nat} (hy0 : mi 225 0 = nI y) (hy : y ≤ 99) {S : zLd} (hS0 : zYsg (mi 225) S) (hSW : zSongW (Λ 0 0) (Λ 0 1) S) : ∀ (k i : Nat) (u : zFi) (sh : Nat → Nat → Nat → Nat) (v2 : Value), i + k = S 0 0 → zShI mi u Λ sh → (∀ v, v < Λ 0 1 → ∀ q, q < Λ 0 0 → zLe (sh v q)) → (∀ u2 v2, zShI mi u2 Λ (zSgL Λ S y k i sh) → zE G (zRm (d + 4) 238 238) (zQm G 238 238 Q) yX8_comes.cls yX8_comes.name cX8_comes 4 none 238 175 [.ref 224, .int (nI (S 0 0)), v2, v3] [] 238 u2 ml mr) → zE G (zRm (d + 4) 238 238) (zQm G 238 238 Q) yX8_comes.cls yX8_comes.name cX8_comes 4 none 238 110 [.ref 224, .int (nI i), v2, v3] [] 238 u ml mr := by
  intro k
  induction k with
  | zero =>
    intro i u sh v2 h hI hle hQ
    have hd := hd0.s hI.1
    have hP3 := hW.1.1
    have hW5 := hW.1.2.1
    have hn := hSW.1
    have hy1 := (hI.2.1 0 (by omega)).trans hy0
    have hS := hS0.c hn (fun k _ g2 => hI.2.1 k (by omega))
    refine e_iload_n 111 dX8_comes_110 rfl rfl ?_
    refine e_aload_n 112 dX8_comes_111 rfl rfl ?_
    refine e_getr 115 dX8_comes_112 lf_X8_7 rfl rfl rfl (by decide) hr.ys ?_
    refine e_iconst 116 hic_2 dX8_comes_115 rfl ?_
    refine e_iald 117 dX8_comes_116 rfl rfl (by decide) rfl (by show 2 < 2950; omega) hS.1 ?_
    refine e_icmp_geN 175 120 dX8_comes_117 (by decide) rfl (by omega) (by omega) (fun h117 => ?_) (fun h117 => ?_)
    · have e : i = S 0 0 := by omega
      subst e
      exact hQ u _ (hI.e (fun v _ => by unfold zSgL; split <;> rfl))
    · exact absurd h117 (by omega)
  | succ k ih =>
    intro i u sh v2 h hI hle hQ
    have hd := hd0.s hI.1
    have hP3 := hW.1.1
    have hW5 := hW.1.2.1
    have hn := hSW.1
    have hy1 := (hI.2.1 0 (by omega)).trans hy0
    have hS := hS0.c hn (fun k _ g2 => hI.2.1 k (by omega))
    refine e_iload_n 111 dX8_comes_110 rfl rfl ?_
    refine e_aload_n 112 dX8_comes_111 rfl rfl ?_
    refine e_getr 115 dX8_comes_112 lf_X8_7 rfl rfl rfl (by decide) hr.ys ?_
    refine e_iconst 116 hic_2 dX8_comes_115 rfl ?_
    refine e_iald 117 dX8_comes_116 rfl rfl (by decide) rfl (by show 2 < 2950; omega) hS.1 ?_
    refine e_icmp_geN 175 120 dX8_comes_117 (by decide) rfl (by omega) (by omega) (fun h117 => ?_) (fun h117 => ?_)
    · exact absurd h117 (by omega)
    · have hk9 := hSW.2 i h117
      refine e_iconst 121 hic_3 dX8_comes_120 rfl ?_
      refine e_iconst 122 hic_4 dX8_comes_121 rfl ?_
      refine e_iload_n 123 dX8_comes_122 rfl rfl ?_
      first | refine e_imulN 124 dX8_comes_123 rfl ?_ | refine e_imul 124 dX8_comes_123 rfl ?_
      first | refine e_iaddN 125 dX8_comes_124 rfl ?_ | refine e_iadd 125 dX8_comes_124 rfl ?_
      refine e_istore_n 126 dX8_comes_125 rfl (by decide) (zst1_2 rfl) ?_
      refine e_aload_n 127 dX8_comes_126 rfl rfl ?_
      refine e_getr 130 dX8_comes_127 lf_X8_7 rfl rfl rfl (by decide) hr.ys ?_
      refine e_iload_n 131 dX8_comes_130 rfl rfl ?_
      refine e_iald 132 dX8_comes_131 rfl rfl (by decide) rfl (by show _ < 2950; omega) (hS.2 i h117).1 ?_
      refine e_aload_n 133 dX8_comes_132 rfl rfl ?_
      refine e_getr 136 dX8_comes_133 lf_X8_7 rfl rfl rfl (by decide) hr.ys ?_
      refine e_iconst 137 hic_0 dX8_comes_136 rfl ?_
      refine e_iald 138 dX8_comes_137 rfl rfl (by decide) rfl (by show 0 < 2950; decide) hy1 ?_
      refine e_icmp_neN 169 141 dX8_comes_138 (by decide) rfl (by omega) (by omega) (fun h138 => ?_) (fun h138 => ?_)
      · refine e_iinc 172 dX8_comes_169 rfl (by decide) rfl (z_inc hii_1) (zst1_1 rfl) ?_
        refine e_goto 110 dX8_comes_172 (by decide) ?_
        first
          | (rcases hJ with ⟨hc, hJ⟩ | ⟨hc, rfl⟩ <;> first | exact ih (i + 1) u2 _ _ (by omega) (hI.row hW hk9.2.1 hk9.2.2.1 hJ) (zLe_zu hle (zRaise_le (by omega) (hle _ hk9.2.1))) (fun u3 v3 hK => hQ u3 v3 (hK.e (fun v _ => zSgL_y h138 hc v))) | exact ih (i + 1) _ sh _ (by omega) hI hle (fun u3 v3 hK => hQ u3 v3 (hK.e (fun v _ => zSgL_n (fun _ => hc) v))))
          | exact ih (i + 1) _ sh _ (by omega) hI hle (fun u3 v3 hK => hQ u3 v3 (hK.e (fun v _ => zSgL_n (fun z => absurd z h138) v)))
      · refine e_aload_n 142 dX8_comes_141 rfl rfl ?_
        refine e_aload_n 143 dX8_comes_142 rfl rfl ?_
        refine e_getr 146 dX8_comes_143 lf_X8_7 rfl rfl rfl (by decide) hr.ys ?_
        refine e_iload_n 147 dX8_comes_146 rfl rfl ?_
        refine e_iconst 148 hic_1 dX8_comes_147 rfl ?_
        first | refine e_iaddN 149 dX8_comes_148 rfl ?_ | refine e_iadd 149 dX8_comes_148 rfl ?_
        refine e_iald 150 dX8_comes_149 rfl rfl (by decide) rfl (by show _ < 2950; omega) (hS.2 i h117).2.1 ?_
        refine e_aload_n 151 dX8_comes_150 rfl rfl ?_
        refine e_getr 154 dX8_comes_151 lf_X8_7 rfl rfl rfl (by decide) hr.ys ?_
        refine e_iload_n 155 dX8_comes_154 rfl rfl ?_
        refine e_iconst 156 hic_2 dX8_comes_155 rfl ?_
        first | refine e_iaddN 157 dX8_comes_156 rfl ?_ | refine e_iadd 157 dX8_comes_156 rfl ?_
        refine e_iald 158 dX8_comes_157 rfl rfl (by decide) rfl (by show _ < 2950; omega) (hS.2 i h117).2.2.1 ?_
        refine e_aload_n 159 dX8_comes_158 rfl rfl ?_
        refine e_getr 162 dX8_comes_159 lf_X8_7 rfl rfl rfl (by decide) hr.ys ?_
        refine e_iload_n 163 dX8_comes_162 rfl rfl ?_
        refine e_iconst 164 hic_3 dX8_comes_163 rfl ?_
        first | refine e_iaddN 165 dX8_comes_164 rfl ?_ | refine e_iadd 165 dX8_comes_164 rfl ?_
        refine e_iald 166 dX8_comes_165 rfl rfl (by decide) rfl (by show _ < 2950; omega) (hS.2 i h117).2.2.2 ?_
        refine c_Vv 169 (ci := 8) dX8_comes_166 (k_X8_sings G hr hd hW hy1 hy hk9.2.1 hk9.2.2.1 hk9.2.2.2.2 (hI.2.2 _ hk9.2.1 _ hk9.2.2.1) (hle _ hk9.2.1 _ hk9.2.2.1)) lm_X8_172 zi_yX8_sings zs_yX8_sings rfl rfl (by decide) rfl rfl rfl (Nat.le_of_ble_eq_true rfl) (Nat.le_of_ble_eq_true rfl) (Nat.le_of_ble_eq_true rfl) (by exact Nat.le_refl _) (by exact Nat.le_refl _) ?_
        rintro u2 _ _ ⟨hJ, rfl, rfl⟩
        refine e_iinc 172 dX8_comes_169 rfl (by decide) rfl (z_inc hii_1) (zst1_1 rfl) ?_
        refine e_goto 110 dX8_comes_172 (by decide) ?_
        first
          | (rcases hJ with ⟨hc, hJ⟩ | ⟨hc, rfl⟩ <;> first | exact ih (i + 1) u2 _ _ (by omega) (hI.row hW hk9.2.1 hk9.2.2.1 hJ) (zLe_zu hle (zRaise_le (by omega) (hle _ hk9.2.1))) (fun u3 v3 hK => hQ u3 v3 (hK.e (fun v _ => zSgL_y h138 hc v))) | exact ih (i + 1) _ sh _ (by omega) hI hle (fun u3 v3 hK => hQ u3 v3 (hK.e (fun v _ => zSgL_n (fun _ => hc) v))))
          | exact ih (i + 1) _ sh _ (by omega) hI hle (fun u3 v3 hK => hQ u3 v3 (hK.e (fun v _ => zSgL_n (fun z => absurd z h138) v)))
set_option maxHeartbeats 4000000 in
set_option maxRecDepth 100000 in
theorem k_X8_comes (G : zG) {D E : Nat} {Λ : zLd} {mi : zFi} {ml : zFl} {mr : zFr} (hr : zRf mr D E) (hd0 : zYd mi Λ) (hW : zLandW Λ) {y : Nat} (hy0 : mi 225 0 = nI y) (hy : y ≤ 99) {S : zLd} (hS0 : zYsg (mi 225) S) (hSW : zSongW (Λ 0 0) (Λ 0 1) S) {sh yg : Nat → Nat → Nat → Nat} {pm : Nat → Nat → Nat} (hs : ∀ v, v < Λ 0 1 → zYsh (mi 225) (Λ 0 0) v (sh v)) (hle : ∀ v, v < Λ 0 1 → ∀ q, q < Λ 0 0 → zLe (sh v q)) (hno : ∀ v, v < Λ 0 1 → (∀ q, q < Λ 0 0 → ∀ t, t < y → mi 225 (zYo v q t) = nI (yg v q t)) ∧ ∀ t, t < y → mi 225 (zPa v t) = nI (pm v t)) : zMet G 4 yX8_comes cX8_comes 4 none [.ref 224] 238 mi ml mr 238 (zPv fun u b c => zFs9 u mi ∧ (∀ k, k < 50 → u 225 k = mi 225 k) ∧ (∀ v, v < Λ 0 1 → zYsh (u 225) (Λ 0 0) v (zArr Λ S v y (sh v)) ∧ zYno (u 225) (Λ 0 0) v y (zNote (Λ 0 0) y (zArr Λ S v y (sh v)) (yg v) (pm v)).2.1 (zNote (Λ 0 0) y (zArr Λ S v y (sh v)) (yg v) (pm v)).2.2) ∧ b = ml ∧ c = mr) := by
  refine z_intro ([.ref 224, zx, zx, zx]) (by decide) rfl (Nat.le_of_ble_eq_true rfl) ?_
  refine e_iconst 1 hic_0 dX8_comes_0 rfl ?_
  refine e_istore_n 2 dX8_comes_1 rfl (by decide) (zst1_1 rfl) ?_
  have hP3 := hW.1.1
  have hW5 := hW.1.2.1
  have hst := hW.1.2.2.2.2.2.2
  refine l_X8_coin G 0 _ hr hd0 hW hy0 hy hle (Λ 0 1) 0 mi _ _ (by omega) ⟨zFs9.r mi, fun _ _ => rfl, fun v hv => by rw [show zCoW Λ y sh 0 v = sh v from if_neg (by omega)]; exact hs v hv⟩ (fun u2 v2 v3 hI => ?_)
  refine e_iconst 109 hic_0 dX8_comes_108 rfl ?_
  refine e_istore_n 110 dX8_comes_109 rfl (by decide) (zst1_1 rfl) ?_
  refine l_X8_comeS G _ _ hr hd0 hW hy0 hy hS0 hSW (S 0 0) 0 u2 (fun v => zCoin Λ v y (sh v)) _ (by omega) hI (fun v hv => zCoin_le (by omega) (hle v hv)) (fun u3 v2 hK => ?_)
  have hK : zShI mi u3 Λ (fun v => (zArr Λ S v y (sh v))) := hK
  refine e_aload_n 176 dX8_comes_175 rfl rfl ?_
  refine c_Vv 179 (ci := 8) dX8_comes_176 (k_X8_records G hr (hd0.s hK.1) hW ((hK.2.1 0 (by omega)).trans hy0) hy (sh := fun v => (zArr Λ S v y (sh v))) (yg := yg) (pm := pm) hK.2.2 (fun v hv => zArr_le (by omega) (fun j hj => (hSW.2 j hj).2.2.2.2) (hle v hv)) (fun v hv => ⟨fun q hq t ht => by rw [hK.2.1 _ (by unfold zYo; omega)]; exact (hno v hv).1 q hq t ht, fun t ht => by rw [hK.2.1 _ (by unfold zPa; omega)]; exact (hno v hv).2 t ht⟩)) lm_X8_176 zi_yX8_records zs_yX8_records rfl rfl (by decide) rfl rfl rfl (Nat.le_of_ble_eq_true rfl) (Nat.le_of_ble_eq_true rfl) (Nat.le_of_ble_eq_true rfl) (by exact Nat.le_refl _) (by exact Nat.le_refl _) ?_
  rintro u4 _ _ ⟨f4, e4, n4, rfl, rfl⟩
  refine e_vreturn dX8_comes_179 rfl ?_
  exact ⟨rfl, f4.t hK.1, fun k hk => (e4 k (by omega)).trans (hK.2.1 k (by omega)), fun v hv => ⟨fun q hq a h1 h2 => by rw [e4 _ (by unfold zAt; omega)]; exact hK.2.2 v hv q hq a h1 h2, n4 v hv⟩, rfl, rfl⟩

set_option maxHeartbeats 4000000 in
set_option maxRecDepth 100000 in
theorem l_X8_begins (G : zG) (d : Nat) (Q : zQ) {D E : Nat} {Λ : zLd} {mi : zFi} {ml : zFl} {mr : zFr} (hr : zRf mr D E) : ∀ (k k9 : Nat) (u : zFi), 50 ≤ k9 → k9 + k = 2950 → zFs9 u mi → u 225 0 = nI 0 → (∀ j, 1 ≤ j → j < 50 → u 225 j = mi 225 j) → (∀ j, 50 ≤ j → j < k9 → u 225 j = nI 0) → (∀ u, zFs9 u mi → u 225 0 = nI 0 → (∀ j, 1 ≤ j → j < 50 → u 225 j = mi 225 j) → (∀ j, 50 ≤ j → j < 2950 → u 225 j = nI 0) → zE G (zRm (d + 5) 238 238) (zQm G 238 238 Q) yX8_begins.cls yX8_begins.name cX8_begins 2 none 238 30 [.ref 224, .int (nI 2950)] [] 238 u ml mr) → zE G (zRm (d + 5) 238 238) (zQm G 238 238 Q) yX8_begins.cls yX8_begins.name cX8_begins 2 none 238 10 [.ref 224, .int (nI k9)] [] 238 u ml mr := by
  intro k
  induction k with
  | zero =>
    intro k9 u h50 h i1 i2 i3 i4 hQ
    refine e_iload_n 11 dX8_begins_10 rfl rfl ?_
    refine e_sipush 14 hsi_2950 dX8_begins_11 rfl ?_
    refine e_icmp_geN 30 17 dX8_begins_14 (by decide) rfl (by omega) (by omega) (fun h14 => ?_) (fun h14 => ?_)
    · have e : k9 = 2950 := by omega
      subst e
      exact hQ u i1 i2 i3 i4
    · exact absurd h14 (by omega)
  | succ k ih =>
    intro k9 u h50 h i1 i2 i3 i4 hQ
    refine e_iload_n 11 dX8_begins_10 rfl rfl ?_
    refine e_sipush 14 hsi_2950 dX8_begins_11 rfl ?_
    refine e_icmp_geN 30 17 dX8_begins_14 (by decide) rfl (by omega) (by omega) (fun h14 => ?_) (fun h14 => ?_)
    · exact absurd h14 (by omega)
    · refine e_aload_n 18 dX8_begins_17 rfl rfl ?_
      refine e_getr 21 dX8_begins_18 lf_X8_7 rfl rfl rfl (by decide) hr.ys ?_
      refine e_iload_n 22 dX8_begins_21 rfl rfl ?_
      refine e_iconst 23 hic_0 dX8_begins_22 rfl ?_
      refine e_iast 24 dX8_begins_23 rfl rfl (by decide) rfl (by show k9 < 2950; omega) ?_
      refine e_iinc 27 dX8_begins_24 rfl (by decide) rfl (z_inc hii_1) (zst1_1 rfl) ?_
      refine e_goto 10 dX8_begins_27 (by decide) ?_
      exact ih (k9 + 1) _ (by omega) (by omega) (zFs9.p.t i1) (by rw [zp_k _ _ (by omega)]; exact i2) (fun j g1 g2 => by rw [zp_k _ _ (by omega)]; exact i3 j g1 g2) (zZero_st (F := mi 225) i4) hQ
set_option maxHeartbeats 4000000 in
set_option maxRecDepth 100000 in
theorem k_X8_begins (G : zG) {D E : Nat} {Λ : zLd} {mi : zFi} {ml : zFl} {mr : zFr} (hr : zRf mr D E) (hd0 : zYd mi Λ) (hW : zLandW Λ) {S : zLd} (hS0 : zYsg (mi 225) S) (hSW : zSongW (Λ 0 0) (Λ 0 1) S) : zMet G 5 yX8_begins cX8_begins 2 none [.ref 224] 238 mi ml mr 238 (zPv fun u b c => zFs9 u mi ∧ (∀ k, 1 ≤ k → k < 50 → u 225 k = mi 225 k) ∧ u 225 0 = nI 0 ∧ (∀ v, v < Λ 0 1 → zYsh (u 225) (Λ 0 0) v (zBegin Λ S v).1 ∧ zYno (u 225) (Λ 0 0) v 0 (zBegin Λ S v).2.1 (zBegin Λ S v).2.2) ∧ b = ml ∧ c = mr) := by
  refine z_intro ([.ref 224, zx]) (by decide) rfl (Nat.le_of_ble_eq_true rfl) ?_
  refine e_aload_n 1 dX8_begins_0 rfl rfl ?_
  refine e_getr 4 dX8_begins_1 lf_X8_7 rfl rfl rfl (by decide) hr.ys ?_
  refine e_iconst 5 hic_0 dX8_begins_4 rfl ?_
  refine e_iconst 6 hic_0 dX8_begins_5 rfl ?_
  refine e_iast 7 dX8_begins_6 rfl rfl (by decide) rfl (by show 0 < 2950; decide) ?_
  refine e_bipush 9 hbi_50 dX8_begins_7 rfl ?_
  refine e_istore_n 10 dX8_begins_9 rfl (by decide) (zst1_1 rfl) ?_
  have hP3 := hW.1.1
  have hW5 := hW.1.2.1
  refine l_X8_begins G 0 _ (Λ := Λ) hr 2900 50 _ (by decide) (by decide) zFs9.p (zp_s _ _ _ _) (fun j g1 g2 => zp_k _ _ (by omega)) (fun j g1 g2 => absurd g1 (by omega)) (fun u i1 i2 i3 i4 => ?_)
  refine e_aload_n 31 dX8_begins_30 rfl rfl ?_
  refine c_Vv 34 (ci := 8) dX8_begins_31 (k_X8_comes G hr (hd0.s i1) hW i2 (Nat.zero_le 99) (hS0.c hSW.1 i3) hSW (sh := fun _ _ _ => 0) (yg := fun _ _ _ => 0) (pm := fun _ _ => 0) (fun v hv q hq a h1 h2 => i4 _ (by unfold zAt; omega) (by unfold zAt; omega)) (fun v hv q hq a _ _ => Nat.zero_le _) (fun v hv => ⟨fun q hq t ht => absurd ht (Nat.not_lt_zero _), fun t ht => absurd ht (Nat.not_lt_zero _)⟩)) lm_X8_179 zi_yX8_comes zs_yX8_comes rfl rfl (by decide) rfl rfl rfl (Nat.le_of_ble_eq_true rfl) (Nat.le_of_ble_eq_true rfl) (Nat.le_of_ble_eq_true rfl) (by exact Nat.le_refl _) (by exact Nat.le_refl _) ?_
  rintro u4 _ _ ⟨f4, e4, n4, rfl, rfl⟩
  refine e_vreturn dX8_begins_34 rfl ?_
  exact ⟨rfl, f4.t i1, fun k h1 h2 => (e4 k h2).trans (i3 k h1 h2), (e4 0 (by decide)).trans i2, fun v hv => n4 v hv, rfl, rfl⟩

