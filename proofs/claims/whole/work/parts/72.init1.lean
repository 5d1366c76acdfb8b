set_option maxHeartbeats 4000000 in
set_option maxRecDepth 100000 in
theorem l_J7_fillG (G : zG) (d : Nat) (Q : zQ) {r n : Nat} {ml : zFl} {mr : zFr} (hk : zKD r = 16) (hr : r < n) (hl : zLN r < 2 ^ 31) : ∀ (k i : Nat) (mi : zFi), i + k = zLN r → (∀ mi', zOnly r mi mi' → (∀ j, j < zLN r → mi' r j = if i ≤ j then 0 else mi r j) → Q none mi' ml mr) → zE G (zRm d n n) (zQm G n n Q) yJ7_fill_53178.cls yJ7_fill_53178.name cJ7_fill_53178 4 none n 5 [.ref r, .int 0, .int (nI i), .int (nI (zLN r))] [] n mi ml mr := by
  intro k
  induction k with
  | zero =>
    intro i mi h hQ
    refine e_iload_n 6 dJ7_fill_53178_5 rfl rfl ?_
    refine e_iload_n 7 dJ7_fill_53178_6 rfl rfl ?_
    refine e_icmp_geN 20 10 dJ7_fill_53178_7 (by decide) rfl (by omega) (by omega) (fun h7 => ?_) (fun h7 => ?_)
    · refine e_vreturn dJ7_fill_53178_20 rfl ?_
      exact hQ mi (fun _ _ => rfl) (fun j hj => by rw [if_neg (by omega)])
    · exact absurd h7 (by omega)
  | succ k ih =>
    intro i mi h hQ
    refine e_iload_n 6 dJ7_fill_53178_5 rfl rfl ?_
    refine e_iload_n 7 dJ7_fill_53178_6 rfl rfl ?_
    refine e_icmp_geN 20 10 dJ7_fill_53178_7 (by decide) rfl (by omega) (by omega) (fun h7 => ?_) (fun h7 => ?_)
    · exact absurd h7 (by omega)
    · refine e_aload_n 11 dJ7_fill_53178_10 rfl rfl ?_
      refine e_iload_n 12 dJ7_fill_53178_11 rfl rfl ?_
      refine e_iload_n 13 dJ7_fill_53178_12 rfl rfl ?_
      refine e_iast 14 dJ7_fill_53178_13 rfl hk hr rfl (by omega) ?_
      refine e_iinc 17 dJ7_fill_53178_14 rfl (by decide) rfl (z_inc hii_1) (zst1_2 rfl) ?_
      refine e_goto 5 dJ7_fill_53178_17 (by decide) ?_
      refine ih (i + 1) _ (by omega) (fun mi' h1 h2 => hQ mi' (fun q hq => (h1 q hq).trans (zp_r _ _ _ hq)) (fun j hj => ?_))
      rw [h2 j hj]
      by_cases hji : j = i
      · subst hji; rw [if_neg (by omega), if_pos (Nat.le_refl j), zp_s]
      · by_cases hlt : i ≤ j
        · rw [if_pos (by omega), if_pos hlt]
        · rw [if_neg (by omega), if_neg hlt, zp_k _ _ hji]
set_option maxHeartbeats 4000000 in
set_option maxRecDepth 100000 in
theorem k_J7_fillG (G : zG) {r n : Nat} {mi : zFi} {ml : zFl} {mr : zFr} (hk : zKD r = 16) (hr : r < n) : zMet G 0 yJ7_fill_53178 cJ7_fill_53178 4 none [.ref r, .int 0] n mi ml mr n (zPv fun a b c => zOnly r mi a ∧ (∀ j, j < zLN r → a r j = 0) ∧ b = ml ∧ c = mr) := by
  refine z_intro ([.ref r, .int 0, zx, zx]) (by decide) rfl (Nat.le_of_ble_eq_true rfl) ?_
  refine e_iconst 1 hic_0 dJ7_fill_53178_0 rfl ?_
  refine e_istore_n 2 dJ7_fill_53178_1 rfl (by decide) (zst1_2 rfl) ?_
  refine e_aload_n 3 dJ7_fill_53178_2 rfl rfl ?_
  refine e_alen 4 16 dJ7_fill_53178_3 rfl (by decide) (by decide) hk hr ?_
  refine e_istore_n 5 dJ7_fill_53178_4 rfl (by decide) (zst1_3 rfl) ?_
  rw [← nI_0]
  rw [nI_0]
  exact l_J7_fillG G _ _ hk hr (by have := zLN_le r; omega) (zLN r) 0 mi (by omega) (fun mi' h1 h2 => ⟨rfl, h1, fun j hj => by rw [h2 j hj, if_pos (Nat.zero_le j)], rfl, rfl⟩)

theorem k_J7_fillGN (G : zG) {r n : Nat} {mi : zFi} {ml : zFl} {mr : zFr} (hk : zKD r = 16) (hr : r < n) : zMet G 0 yJ7_fill_53178 cJ7_fill_53178 4 none [.ref r, .int (nI 0)] n mi ml mr n (zPv fun a b c => zOnly r mi a ∧ (∀ j, j < zLN r → a r j = 0) ∧ b = ml ∧ c = mr) := by
  rw [nI_0]
  exact k_J7_fillG G hk hr
set_option maxHeartbeats 4000000 in
set_option maxRecDepth 100000 in
theorem k_X0_resetG (G : zG) {E n : Nat} {mi : zFi} {ml : zFl} {mr : zFr} (hD : zLandL mr E) (hn : E + 6 ≤ n) (hn2 : n ≤ 1000) : zMet G 1 yX0_reset cX0_reset 1 none [.ref E] n mi ml mr n (zPv fun u b c => zLandR u E zL0 ∧ (∀ q, q < E ∨ E + 6 ≤ q → u q = mi q) ∧ b = ml ∧ c = mr) := by
  refine z_intro ([.ref E]) (by decide) rfl (Nat.le_of_ble_eq_true rfl) ?_
  refine e_aload_n 1 dX0_reset_0 rfl rfl ?_
  refine e_iconst 2 hic_0 dX0_reset_1 rfl ?_
  refine e_puti 5 dX0_reset_2 lf_X0_31 rfl rfl rfl rfl hD.k0 (by omega) ?_
  refine e_aload_n 6 dX0_reset_5 rfl rfl ?_
  refine e_iconst 7 hic_0 dX0_reset_6 rfl ?_
  refine e_puti 10 dX0_reset_7 lf_X0_35 rfl rfl rfl rfl hD.k0 (by omega) ?_
  refine e_aload_n 11 dX0_reset_10 rfl rfl ?_
  refine e_bipush 13 hbi_6 dX0_reset_11 rfl ?_
  refine e_puti 16 dX0_reset_13 lf_X0_38 rfl rfl rfl rfl hD.k0 (by omega) ?_
  refine e_aload_n 17 dX0_reset_16 rfl rfl ?_
  refine e_iconst 18 hic_3 dX0_reset_17 rfl ?_
  refine e_puti 21 dX0_reset_18 lf_X0_41 rfl rfl rfl rfl hD.k0 (by omega) ?_
  refine e_aload_n 22 dX0_reset_21 rfl rfl ?_
  refine e_iconst 23 hic_5 dX0_reset_22 rfl ?_
  refine e_puti 26 dX0_reset_23 lf_X0_44 rfl rfl rfl rfl hD.k0 (by omega) ?_
  refine e_aload_n 27 dX0_reset_26 rfl rfl ?_
  refine e_bipush 29 hbi_20 dX0_reset_27 rfl ?_
  refine e_puti 32 dX0_reset_29 lf_X0_47 rfl rfl rfl rfl hD.k0 (by omega) ?_
  refine e_aload_n 33 dX0_reset_32 rfl rfl ?_
  refine e_getr 36 dX0_reset_33 lf_X0_9 rfl rfl hD.k0 (by omega) hD.r1 ?_
  refine e_iconst 37 hic_0 dX0_reset_36 rfl ?_
  refine e_callS dX0_reset_37 (k_J7_fillGN G hD.k1 (show E + 1 < n by omega)) lm_X0_50 zt_yJ7_fill_53178 rfl rfl (Nat.le_of_ble_eq_true rfl) (Nat.le_of_ble_eq_true rfl) (Nat.le_of_ble_eq_true rfl) (by omega) (by omega) (Nat.sub_le_sub_right (by omega) _) (Nat.sub_le_sub_right (zSl_le (by omega)) _) (fun r9 a9 b9 c9 hq => ?_)
  obtain ⟨rfl, o1, z1, rfl, rfl⟩ := hq
  refine e_vreturn dX0_reset_40 rfl ?_
  refine ⟨rfl, ⟨fun k hk => ?_, fun j hj => by rw [z1 j (by rw [hD.n1]; exact hj)]; rfl, fun w hw => absurd hw (Nat.not_lt_zero _)⟩, fun q hq => by rw [o1 q (by omega), zp_r _ _ _ (by omega), zp_r _ _ _ (by omega), zp_r _ _ _ (by omega), zp_r _ _ _ (by omega), zp_r _ _ _ (by omega), zp_r _ _ _ (by omega)], rfl, rfl⟩
  rw [o1 E (by omega)]
  have h6 : k = 0 ∨ k = 1 ∨ k = 2 ∨ k = 3 ∨ k = 4 ∨ k = 5 := by omega
  rcases h6 with q | q | q | q | q | q <;> subst q <;> simp [zp, zu] <;> rfl

/-- the kinds and lengths of a life's cells -/
def zLifeS (L : Nat) : Prop := L + 11 ≤ 238 ∧ (zKD L = 2 ∧ zKD (L + 1) = 21 ∧ zKD (L + 5) = 21 ∧ zKD (L + 9) = 16 ∧ zKD (L + 10) = 16) ∧ (zLN (L + 1) = 3 ∧ zLN (L + 5) = 3 ∧ zLN (L + 9) = 100 ∧ zLN (L + 10) = 100) ∧ ∀ p, p < 3 → zKD (L + 2 + p) = 16 ∧ zKD (L + 6 + p) = 16 ∧ zLN (L + 2 + p) = 70 ∧ zLN (L + 6 + p) = 100
theorem zLifeS_77 : zLifeS 77 := by unfold zLifeS; decide +kernel
theorem zLifeS_m : ∀ w, w < 5 → zLifeS (3 + 7 + 11 * w) ∧ zLifeS (100 + 7 + 11 * w) ∧ zLifeS (162 + 7 + 11 * w) := by
  intro w hw
  have h5 : w = 0 ∨ w = 1 ∨ w = 2 ∨ w = 3 ∨ w = 4 := by omega
  rcases h5 with q | q | q | q | q <;> subst q <;> refine ⟨?_, ?_, ?_⟩ <;> (unfold zLifeS; decide +kernel)
theorem zLife_mk {L : Nat} {mr : zFr} (h : zLifeS L) : zLife (zp (zp (zp (zu (zp (zu mr (L + 1) (fun q => if q < 3 then some (L + 1 + 1 + q) else none)) L 0 (some (L + 1))) (L + 1 + 1 + 3) (fun q => if q < 3 then some (L + 1 + 1 + 3 + 1 + q) else none)) L 1 (some (L + 1 + 1 + 3))) L 2 (some (L + 1 + 1 + 3 + 1 + 3))) L 3 (some (L + 1 + 1 + 3 + 1 + 3 + 1))) L := by
  obtain ⟨h1, h2, h3, h4⟩ := h
  refine ⟨h1, h2, h3, h4, ⟨?_, ?_, ?_, ?_⟩, fun p hp => ⟨?_, ?_⟩⟩
  · rw [zp_k _ _ (by decide), zp_k _ _ (by decide), zp_k _ _ (by decide), zu_n _ _ (by omega), zp_s]
  · rw [zp_k _ _ (by decide), zp_k _ _ (by decide), zp_s]
  · rw [zp_k _ _ (by decide), zp_s]
  · rw [zp_s]
  · rw [zp_r _ _ _ (by omega), zp_r _ _ _ (by omega), zp_r _ _ _ (by omega), zu_n _ _ (by omega), zp_r _ _ _ (by omega), zu_s, if_pos hp]
  · rw [zp_r _ _ _ (by omega), zp_r _ _ _ (by omega), zp_r _ _ _ (by omega), zu_s, if_pos hp]
theorem zLife_fr {L : Nat} {mr : zFr} (h : zLifeS L) {q : Nat} (hq : q < L ∨ L + 11 ≤ q) : (zp (zp (zp (zu (zp (zu mr (L + 1) (fun q => if q < 3 then some (L + 1 + 1 + q) else none)) L 0 (some (L + 1))) (L + 1 + 1 + 3) (fun q => if q < 3 then some (L + 1 + 1 + 3 + 1 + q) else none)) L 1 (some (L + 1 + 1 + 3))) L 2 (some (L + 1 + 1 + 3 + 1 + 3))) L 3 (some (L + 1 + 1 + 3 + 1 + 3 + 1))) q = mr q := by
  rw [zp_r _ _ _ (by omega), zp_r _ _ _ (by omega), zp_r _ _ _ (by omega), zu_n _ _ (by omega), zp_r _ _ _ (by omega), zu_n _ _ (by omega)]
set_option maxHeartbeats 4000000 in
set_option maxRecDepth 100000 in
theorem k_X2_init (G : zG) {L : Nat} {mi : zFi} {ml : zFl} {mr : zFr} (hS : zLifeS L) : zMet G 1 yX2_init cX2_init 1 none [.ref L] (L + 1) mi ml mr (L + 11) (zPv fun u b c => u = mi ∧ b = ml ∧ zLife c L ∧ ∀ q, q < L ∨ L + 11 ≤ q → c q = mr q) := by
  have hl9 := hS.1
  refine z_intro ([.ref L]) (by decide) rfl (Nat.le_of_ble_eq_true rfl) ?_
  refine e_aload_n 1 dX2_init_0 rfl rfl ?_
  refine e_objInit 4 dX2_init_1 loi_X2 lo_i lo_c rfl (Nat.le_of_ble_eq_true rfl) (Nat.le_of_ble_eq_true rfl) ?_
  refine e_aload_n 5 dX2_init_4 rfl rfl ?_
  refine e_iconst 6 hic_3 dX2_init_5 rfl ?_
  refine e_bipush 8 hbi_70 dX2_init_6 rfl ?_
  refine e_multi 12 3 70 dX2_init_8 lx_X2_9 la_187 rfl hS.2.1.2.1 hS.2.2.1.1 rfl rfl (by decide) (by decide) (fun q hq => ⟨(congrArg zKD (by omega)).trans (hS.2.2.2 q hq).1, (congrArg zLN (by omega)).trans (hS.2.2.2 q hq).2.2.1⟩) (by omega) (Nat.sub_le_sub_right (by omega) _) (Nat.sub_le_sub_right (zSl_le (by omega)) _) ?_
  refine e_putrF 15 dX2_init_12 lf_X2_11d rfl rfl (fun _ => rfl) (fun _ => rfl) rfl hS.2.1.1 (by omega) ?_
  refine e_aload_n 16 dX2_init_15 rfl rfl ?_
  refine e_iconst 17 hic_3 dX2_init_16 rfl ?_
  refine e_bipush 19 hbi_100 dX2_init_17 rfl ?_
  refine e_multi 23 3 100 dX2_init_19 lx_X2_9 la_187 rfl hS.2.1.2.2.1 hS.2.2.1.2.1 rfl rfl (by decide) (by decide) (fun q hq => ⟨(congrArg zKD (by omega)).trans (hS.2.2.2 q hq).2.1, (congrArg zLN (by omega)).trans (hS.2.2.2 q hq).2.2.2⟩) (by omega) (Nat.sub_le_sub_right (by omega) _) (Nat.sub_le_sub_right (zSl_le (by omega)) _) ?_
  refine e_putrF 26 dX2_init_23 lf_X2_16d rfl rfl (fun _ => rfl) (fun _ => rfl) rfl hS.2.1.1 (by omega) ?_
  refine e_aload_n 27 dX2_init_26 rfl rfl ?_
  refine e_bipush 29 hbi_100 dX2_init_27 rfl ?_
  refine e_newarr 31 16 .int dX2_init_29 rfl (fun _ => rfl) rfl (by decide) la_187 rfl (by decide) (by decide) hS.2.1.2.2.2.1 (congrArg nI hS.2.2.1.2.2.1.symm) (by omega) (Nat.sub_le_sub_right (by omega) _) (Nat.sub_le_sub_right (zSl_le (by omega)) _) ?_
  refine e_putrF 34 dX2_init_31 lf_X2_19d rfl rfl (fun _ => rfl) (fun _ => rfl) rfl hS.2.1.1 (by omega) ?_
  refine e_aload_n 35 dX2_init_34 rfl rfl ?_
  refine e_bipush 37 hbi_100 dX2_init_35 rfl ?_
  refine e_newarr 39 16 .int dX2_init_37 rfl (fun _ => rfl) rfl (by decide) la_187 rfl (by decide) (by decide) hS.2.1.2.2.2.2 (congrArg nI hS.2.2.1.2.2.2.symm) (by omega) (Nat.sub_le_sub_right (by omega) _) (Nat.sub_le_sub_right (zSl_le (by omega)) _) ?_
  refine e_putrF 42 dX2_init_39 lf_X2_23d rfl rfl (fun _ => rfl) (fun _ => rfl) rfl hS.2.1.1 (by omega) ?_
  refine e_vreturn dX2_init_42 rfl ?_
  refine ⟨rfl, rfl, rfl, zLife_mk hS, fun q hq => zLife_fr hS hq⟩

theorem zSongS {B : Nat} (h : B = 4 ∨ B = 72 ∨ B = 101 ∨ B = 163) : B + 5 ≤ 238 ∧ zKD B = 5 ∧ (zKD (B + 1) = 16 ∧ zKD (B + 2) = 16 ∧ zKD (B + 3) = 16 ∧ zKD (B + 4) = 16) ∧ zLN (B + 1) = 10 ∧ zLN (B + 2) = 10 ∧ zLN (B + 3) = 10 ∧ zLN (B + 4) = 10 := by
  rcases h with q | q | q | q <;> subst q <;> decide
set_option maxHeartbeats 4000000 in
set_option maxRecDepth 100000 in
theorem k_X5_init (G : zG) {B : Nat} {mi : zFi} {ml : zFl} {mr : zFr} (hB : B = 4 ∨ B = 72 ∨ B = 101 ∨ B = 163) : zMet G 1 yX5_init cX5_init 1 none [.ref B] (B + 1) mi ml mr (B + 5) (zPv fun u b c => u = mi ∧ b = ml ∧ zSongL c B ∧ ∀ q, q < B ∨ B + 5 ≤ q → c q = mr q) := by
  have hS := zSongS hB
  have hl9 := hS.1
  refine z_intro ([.ref B]) (by decide) rfl (Nat.le_of_ble_eq_true rfl) ?_
  refine e_aload_n 1 dX5_init_0 rfl rfl ?_
  refine e_objInit 4 dX5_init_1 loi_X5 lo_i lo_c rfl (Nat.le_of_ble_eq_true rfl) (Nat.le_of_ble_eq_true rfl) ?_
  refine e_aload_n 5 dX5_init_4 rfl rfl ?_
  refine e_bipush 7 hbi_10 dX5_init_5 rfl ?_
  refine e_newarr 9 16 .int dX5_init_7 rfl (fun _ => rfl) rfl (by decide) la_187 rfl (by decide) (by decide) hS.2.2.1.1 (congrArg nI hS.2.2.2.1.symm) (by omega) (Nat.sub_le_sub_right (by omega) _) (Nat.sub_le_sub_right (zSl_le (by omega)) _) ?_
  refine e_putrF 12 dX5_init_9 lf_X5_9d rfl rfl (fun _ => rfl) (fun _ => rfl) rfl hS.2.1 (by omega) ?_
  refine e_aload_n 13 dX5_init_12 rfl rfl ?_
  refine e_bipush 15 hbi_10 dX5_init_13 rfl ?_
  refine e_newarr 17 16 .int dX5_init_15 rfl (fun _ => rfl) rfl (by decide) la_187 rfl (by decide) (by decide) hS.2.2.1.2.1 (congrArg nI hS.2.2.2.2.1.symm) (by omega) (Nat.sub_le_sub_right (by omega) _) (Nat.sub_le_sub_right (zSl_le (by omega)) _) ?_
  refine e_putrF 20 dX5_init_17 lf_X5_15d rfl rfl (fun _ => rfl) (fun _ => rfl) rfl hS.2.1 (by omega) ?_
  refine e_aload_n 21 dX5_init_20 rfl rfl ?_
  refine e_bipush 23 hbi_10 dX5_init_21 rfl ?_
  refine e_newarr 25 16 .int dX5_init_23 rfl (fun _ => rfl) rfl (by decide) la_187 rfl (by decide) (by decide) hS.2.2.1.2.2.1 (congrArg nI hS.2.2.2.2.2.1.symm) (by omega) (Nat.sub_le_sub_right (by omega) _) (Nat.sub_le_sub_right (zSl_le (by omega)) _) ?_
  refine e_putrF 28 dX5_init_25 lf_X5_18d rfl rfl (fun _ => rfl) (fun _ => rfl) rfl hS.2.1 (by omega) ?_
  refine e_aload_n 29 dX5_init_28 rfl rfl ?_
  refine e_bipush 31 hbi_10 dX5_init_29 rfl ?_
  refine e_newarr 33 16 .int dX5_init_31 rfl (fun _ => rfl) rfl (by decide) la_187 rfl (by decide) (by decide) hS.2.2.1.2.2.2 (congrArg nI hS.2.2.2.2.2.2.symm) (by omega) (Nat.sub_le_sub_right (by omega) _) (Nat.sub_le_sub_right (zSl_le (by omega)) _) ?_
  refine e_putrF 36 dX5_init_33 lf_X5_21d rfl rfl (fun _ => rfl) (fun _ => rfl) rfl hS.2.1 (by omega) ?_
  refine e_vreturn dX5_init_36 rfl ?_
  refine ⟨rfl, rfl, rfl, ⟨hB, ?_, ?_, ?_, ?_⟩, fun q hq => ?_⟩
  · rw [zp_k _ _ (by decide), zp_k _ _ (by decide), zp_k _ _ (by decide), zp_s]
  · rw [zp_k _ _ (by decide), zp_k _ _ (by decide), zp_s]
  · rw [zp_k _ _ (by decide), zp_s]
  · rw [zp_s]
  · rw [zp_r _ _ _ (by omega), zp_r _ _ _ (by omega), zp_r _ _ _ (by omega), zp_r _ _ _ (by omega)]

theorem zMomS {B : Nat} (h : B = 3 ∨ B = 100 ∨ B = 162) : B + 62 ≤ 238 ∧ zKD B = 3 ∧ zKD (B + 1) = 5 ∧ zKD (B + 6) = 19 ∧ zLN (B + 6) = 5 ∧ (B + 1 = 4 ∨ B + 1 = 72 ∨ B + 1 = 101 ∨ B + 1 = 163) ∧ ∀ w, w < 5 → zLifeS (B + 7 + 11 * w) := by
  rcases h with q | q | q <;> subst q
  · exact ⟨by decide, by decide, by decide, by decide, by decide, by decide, fun w hw => (zLifeS_m w hw).1⟩
  · exact ⟨by decide, by decide, by decide, by decide, by decide, by decide, fun w hw => (zLifeS_m w hw).2.1⟩
  · exact ⟨by decide, by decide, by decide, by decide, by decide, by decide, fun w hw => (zLifeS_m w hw).2.2⟩
/-- the lives made so far -/
def zMmI (B : Nat) (mr c : zFr) (w : Nat) : Prop := (c B 2 = some (B + 1) ∧ c B 3 = some (B + 6)) ∧ zSongL c (B + 1) ∧ (∀ v, v < w → c (B + 6) v = some (B + 7 + 11 * v) ∧ zLife c (B + 7 + 11 * v)) ∧ ∀ q, q < B ∨ B + 62 ≤ q → c q = mr q
theorem zLife.c6 {mr mr' : zFr} {L : Nat} (h : zLife mr L) (e : ∀ q, L ≤ q → q < L + 6 → mr' q = mr q) : zLife mr' L := by
  obtain ⟨a, b, c, d, f, g⟩ := h
  refine ⟨a, b, c, d, by rw [e L (Nat.le_refl _) (by omega)]; exact f, fun p hp => ?_⟩
  rw [e (L + 1) (by omega) (by omega), e (L + 5) (by omega) (by omega)]
  exact g p hp
theorem zSongL.c5 {mr mr' : zFr} {B : Nat} (h : zSongL mr B) (e : mr' B = mr B) : zSongL mr' B := ⟨h.1, by rw [e]; exact h.2⟩
theorem zMmI.s {B w : Nat} {mr c c2 : zFr} (hw : w < 5) (h : zMmI B mr c w) (l : zLife c2 (B + 7 + 11 * w)) (e : ∀ q, q < B + 7 + 11 * w ∨ B + 7 + 11 * w + 11 ≤ q → c2 q = c q) : zMmI B mr (zp c2 (B + 6) w (some (B + 7 + 11 * w))) (w + 1) := by
  obtain ⟨⟨h1, h2⟩, h3, h4, h5⟩ := h
  have e0 : ∀ q, q ≠ B + 6 → (q < B + 7 + 11 * w ∨ B + 7 + 11 * w + 11 ≤ q) → zp c2 (B + 6) w (some (B + 7 + 11 * w)) q = c q := fun q a b => (zp_r _ _ _ a).trans (e q b)
  refine ⟨⟨by rw [e0 B (by omega) (by omega)]; exact h1, by rw [e0 B (by omega) (by omega)]; exact h2⟩, h3.c5 (e0 _ (by omega) (by omega)), fun v hv => ?_, fun q hq => by rw [e0 q (by omega) (by omega)]; exact h5 q hq⟩
  by_cases z : v = w
  · rw [z]
    exact ⟨zp_s _ _ _ _, l.c6 (fun q a b => zp_r _ _ _ (by omega))⟩
  · have h9 := h4 v (by omega)
    exact ⟨by rw [zp_k _ _ z, e _ (by omega)]; exact h9.1, h9.2.c6 (fun q a b => e0 q (by omega) (by omega))⟩
set_option maxHeartbeats 4000000 in
set_option maxRecDepth 100000 in
theorem l_X3_init (G : zG) (d : Nat) (Q : zQ) {B : Nat} {mi : zFi} {ml : zFl} {mr : zFr} (hB : B = 3 ∨ B = 100 ∨ B = 162) : ∀ (k w n : Nat) (c : zFr), w + k = 5 → n = B + 7 + 11 * w → zMmI B mr c w → (∀ c2, zMmI B mr c2 5 → Q none mi ml c2) → zE G (zRm (d + 2) (B + 1) (B + 62)) (zQm G (B + 1) (B + 62) Q) yX3_init.cls yX3_init.name cX3_init 2 none (B + 1) 25 [.ref B, .int (nI w)] [] n mi ml c := by
  intro k
  induction k with
  | zero =>
    intro w n c h hn hI hQ
    have hS := zMomS hB
    have hl9 := hS.1
    subst hn
    have e5 : w = 5 := by omega
    subst e5
    refine e_iload_n 26 dX3_init_25 rfl rfl ?_
    refine e_iconst 27 hic_5 dX3_init_26 rfl ?_
    refine e_icmp_geN 49 30 dX3_init_27 (by decide) rfl (by omega) (by omega) (fun h27 => ?_) (fun h27 => ?_)
    · refine e_vreturn dX3_init_49 rfl ?_
      exact hQ c hI
    · exact absurd h27 (by omega)
  | succ k ih =>
    intro w n c h hn hI hQ
    have hS := zMomS hB
    have hl9 := hS.1
    subst hn
    refine e_iload_n 26 dX3_init_25 rfl rfl ?_
    refine e_iconst 27 hic_5 dX3_init_26 rfl ?_
    refine e_icmp_geN 49 30 dX3_init_27 (by decide) rfl (by omega) (by omega) (fun h27 => ?_) (fun h27 => ?_)
    · exact absurd h27 (by omega)
    · refine e_aload_n 31 dX3_init_30 rfl rfl ?_
      refine e_getr 34 dX3_init_31 lf_X3_20 rfl rfl hS.2.1 (by omega) hI.1.2 ?_
      refine e_iload_n 35 dX3_init_34 rfl rfl ?_
      refine e_new 38 dX3_init_35 zc_2 lx_X3_18 lz_X2 ln_X2 rfl (hS.2.2.2.2.2.2 w h27).2.1.1 (by omega) (Nat.sub_le_sub_right (by omega) _) (Nat.sub_le_sub_right (zSl_le (by omega)) _) ?_
      refine e_dup 39 dX3_init_38 rfl rfl ?_
      refine e_callI dX3_init_39 (k_X2_init G (hS.2.2.2.2.2.2 w h27)) lm_X3_24 zi_yX2_init rfl rfl rfl (Nat.le_of_ble_eq_true rfl) (Nat.le_of_ble_eq_true rfl) (Nat.le_of_ble_eq_true rfl) (by omega) (by omega) (Nat.sub_le_sub_right (by omega) _) (Nat.sub_le_sub_right (zSl_le (by omega)) _) (fun r9 a9 b9 c9 hq => ?_)
      obtain ⟨rfl, rfl, rfl, l9, e9⟩ := hq
      refine e_aast 43 dX3_init_42 rfl (Or.inl ⟨hS.2.2.2.1, (hS.2.2.2.2.2.2 w h27).2.1.1⟩) (by omega) (by omega) rfl (by rw [hS.2.2.2.2.1]; omega) ?_
      refine e_iinc 46 dX3_init_43 rfl (by decide) rfl (z_inc hii_1) (zst1_1 rfl) ?_
      refine e_goto 25 dX3_init_46 (by decide) ?_
      exact ih (w + 1) _ _ (by omega) (by omega) (hI.s h27 l9 e9) hQ
theorem zMm0 {B : Nat} {mr c : zFr} (g9 : zSongL c (B + 1)) (e9 : ∀ q, q < B + 1 ∨ B + 1 + 5 ≤ q → c q = mr q) : zMmI B mr (zp (zp c B 2 (some (B + 1))) B 3 (some (B + 1 + 5))) 0 :=
  ⟨⟨(zp_k _ _ (by decide)).trans (zp_s _ _ _ _), zp_s _ _ _ _⟩, g9.c5 ((zp_r _ _ _ (by omega)).trans (zp_r _ _ _ (by omega))), fun v hv => absurd hv (Nat.not_lt_zero _), fun q hq => (zp_r _ _ _ (by omega)).trans ((zp_r _ _ _ (by omega)).trans (e9 q (by omega)))⟩
set_option maxHeartbeats 4000000 in
set_option maxRecDepth 100000 in
theorem k_X3_init (G : zG) {B : Nat} {mi : zFi} {ml : zFl} {mr : zFr} (hB : B = 3 ∨ B = 100 ∨ B = 162) : zMet G 2 yX3_init cX3_init 2 none [.ref B] (B + 1) mi ml mr (B + 62) (zPv fun u b c => u = mi ∧ b = ml ∧ zMomL c B ∧ ∀ q, q < B ∨ B + 62 ≤ q → c q = mr q) := by
  have hS := zMomS hB
  have hl9 := hS.1
  refine z_intro ([.ref B, zx]) (by decide) rfl (Nat.le_of_ble_eq_true rfl) ?_
  refine e_aload_n 1 dX3_init_0 rfl rfl ?_
  refine e_objInit 4 dX3_init_1 loi_X3 lo_i lo_c rfl (Nat.le_of_ble_eq_true rfl) (Nat.le_of_ble_eq_true rfl) ?_
  refine e_aload_n 5 dX3_init_4 rfl rfl ?_
  refine e_new 8 dX3_init_5 zc_5 lx_X3_9 lz_X5 ln_X5 rfl hS.2.2.1 (by omega) (Nat.sub_le_sub_right (by omega) _) (Nat.sub_le_sub_right (zSl_le (by omega)) _) ?_
  refine e_dup 9 dX3_init_8 rfl rfl ?_
  refine e_callI dX3_init_9 (k_X5_init G hS.2.2.2.2.2.1) lm_X3_11 zi_yX5_init rfl rfl rfl (Nat.le_of_ble_eq_true rfl) (Nat.le_of_ble_eq_true rfl) (Nat.le_of_ble_eq_true rfl) (by omega) (by omega) (Nat.sub_le_sub_right (by omega) _) (Nat.sub_le_sub_right (zSl_le (by omega)) _) (fun r9 a9 b9 c9 hq => ?_)
  obtain ⟨rfl, rfl, rfl, g9, e9⟩ := hq
  refine e_putrF 15 dX3_init_12 lf_X3_12d rfl rfl (fun _ => rfl) (fun _ => rfl) rfl hS.2.1 (by omega) ?_
  refine e_aload_n 16 dX3_init_15 rfl rfl ?_
  refine e_iconst 17 hic_5 dX3_init_16 rfl ?_
  refine e_newq 20 19 RX2 dX3_init_17 (fun _ => rfl) lx_X3_18 (Or.inl rfl) rfl (by decide) hS.2.2.2.1 (congrArg nI hS.2.2.2.2.1.symm) (by omega) (Nat.sub_le_sub_right (by omega) _) (Nat.sub_le_sub_right (zSl_le (by omega)) _) ?_
  refine e_putrF 23 dX3_init_20 lf_X3_20d rfl rfl (fun _ => rfl) (fun _ => rfl) rfl hS.2.1 (by omega) ?_
  refine e_iconst 24 hic_0 dX3_init_23 rfl ?_
  refine e_istore_n 25 dX3_init_24 rfl (by decide) (zst1_1 rfl) ?_
  exact l_X3_init G 0 _ (mr := mr) hB 5 0 _ _ rfl rfl (zMm0 g9 e9) (fun c2 h2 => ⟨rfl, rfl, rfl, ⟨hB, h2.1, fun w hw => (h2.2.2.1 w hw).1, h2.2.1, fun w hw => (h2.2.2.1 w hw).2⟩, h2.2.2.2⟩)

theorem zLandS {D : Nat} (h : D = 88 ∨ D = 94) : D + 6 ≤ 238 ∧ zKD D = 0 ∧ (zKD (D + 1) = 16 ∧ zKD (D + 2) = 16 ∧ zKD (D + 3) = 16 ∧ zKD (D + 4) = 16 ∧ zKD (D + 5) = 18) ∧ zLN (D + 1) = 9 ∧ zLN (D + 2) = 5 ∧ zLN (D + 3) = 5 ∧ zLN (D + 4) = 5 ∧ zLN (D + 5) = 5 := by
  rcases h with q | q <;> subst q <;> decide
set_option maxHeartbeats 4000000 in
set_option maxRecDepth 100000 in
theorem k_X0_init (G : zG) {D : Nat} {mi : zFi} {ml : zFl} {mr : zFr} (hD : D = 88 ∨ D = 94) : zMet G 2 yX0_init cX0_init 1 none [.ref D] (D + 1) mi ml mr (D + 6) (zPv fun u b c => zLandR u D zL0 ∧ (∀ q, q < D ∨ D + 6 ≤ q → u q = mi q) ∧ b = ml ∧ zLandL c D ∧ ∀ q, q < D ∨ D + 6 ≤ q → c q = mr q) := by
  have hS := zLandS hD
  have hl9 := hS.1
  refine z_intro ([.ref D]) (by decide) rfl (Nat.le_of_ble_eq_true rfl) ?_
  refine e_aload_n 1 dX0_init_0 rfl rfl ?_
  refine e_objInit 4 dX0_init_1 loi_X0 lo_i lo_c rfl (Nat.le_of_ble_eq_true rfl) (Nat.le_of_ble_eq_true rfl) ?_
  refine e_aload_n 5 dX0_init_4 rfl rfl ?_
  refine e_bipush 7 hbi_9 dX0_init_5 rfl ?_
  refine e_newarr 9 16 .int dX0_init_7 rfl (fun _ => rfl) rfl (by decide) la_187 rfl (by decide) (by decide) hS.2.2.1.1 (congrArg nI hS.2.2.2.1.symm) (by omega) (Nat.sub_le_sub_right (by omega) _) (Nat.sub_le_sub_right (zSl_le (by omega)) _) ?_
  refine e_putrF 12 dX0_init_9 lf_X0_9d rfl rfl (fun _ => rfl) (fun _ => rfl) rfl hS.2.1 (by omega) ?_
  refine e_aload_n 13 dX0_init_12 rfl rfl ?_
  refine e_iconst 14 hic_5 dX0_init_13 rfl ?_
  refine e_newarr 16 16 .int dX0_init_14 rfl (fun _ => rfl) rfl (by decide) la_187 rfl (by decide) (by decide) hS.2.2.1.2.1 (congrArg nI hS.2.2.2.2.1.symm) (by omega) (Nat.sub_le_sub_right (by omega) _) (Nat.sub_le_sub_right (zSl_le (by omega)) _) ?_
  refine e_putrF 19 dX0_init_16 lf_X0_15d rfl rfl (fun _ => rfl) (fun _ => rfl) rfl hS.2.1 (by omega) ?_
  refine e_aload_n 20 dX0_init_19 rfl rfl ?_
  refine e_iconst 21 hic_5 dX0_init_20 rfl ?_
  refine e_newarr 23 16 .int dX0_init_21 rfl (fun _ => rfl) rfl (by decide) la_187 rfl (by decide) (by decide) hS.2.2.1.2.2.1 (congrArg nI hS.2.2.2.2.2.1.symm) (by omega) (Nat.sub_le_sub_right (by omega) _) (Nat.sub_le_sub_right (zSl_le (by omega)) _) ?_
  refine e_putrF 26 dX0_init_23 lf_X0_18d rfl rfl (fun _ => rfl) (fun _ => rfl) rfl hS.2.1 (by omega) ?_
  refine e_aload_n 27 dX0_init_26 rfl rfl ?_
  refine e_iconst 28 hic_5 dX0_init_27 rfl ?_
  refine e_newarr 30 16 .int dX0_init_28 rfl (fun _ => rfl) rfl (by decide) la_187 rfl (by decide) (by decide) hS.2.2.1.2.2.2.1 (congrArg nI hS.2.2.2.2.2.2.1.symm) (by omega) (Nat.sub_le_sub_right (by omega) _) (Nat.sub_le_sub_right (zSl_le (by omega)) _) ?_
  refine e_putrF 33 dX0_init_30 lf_X0_21d rfl rfl (fun _ => rfl) (fun _ => rfl) rfl hS.2.1 (by omega) ?_
  refine e_aload_n 34 dX0_init_33 rfl rfl ?_
  refine e_iconst 35 hic_5 dX0_init_34 rfl ?_
  refine e_newarr 37 18 .boolean dX0_init_35 rfl (fun _ => rfl) rfl (by decide) la_255 rfl (by decide) (by decide) hS.2.2.1.2.2.2.2 (congrArg nI hS.2.2.2.2.2.2.2.symm) (by omega) (Nat.sub_le_sub_right (by omega) _) (Nat.sub_le_sub_right (zSl_le (by omega)) _) ?_
  refine e_putrF 40 dX0_init_37 lf_X0_24d rfl rfl (fun _ => rfl) (fun _ => rfl) rfl hS.2.1 (by omega) ?_
  obtain ⟨c1, ec⟩ : ∃ c1, c1 = (zp (zp (zp (zp (zp mr D 6 (some (D + 1))) D 7 (some (D + 2))) D 8 (some (D + 3))) D 9 (some (D + 4))) D 10 (some (D + 5))) := ⟨_, rfl⟩
  have hl : zLandL c1 D := by rw [ec]; exact ⟨hD, by rw [zp_k _ _ (by decide), zp_k _ _ (by decide), zp_k _ _ (by decide), zp_k _ _ (by decide), zp_s], by rw [zp_k _ _ (by decide), zp_k _ _ (by decide), zp_k _ _ (by decide), zp_s], by rw [zp_k _ _ (by decide), zp_k _ _ (by decide), zp_s], by rw [zp_k _ _ (by decide), zp_s], zp_s _ _ _ _⟩
  have hfc : ∀ q, q ≠ D → c1 q = mr q := fun q hq => by rw [ec, zp_r _ _ _ hq, zp_r _ _ _ hq, zp_r _ _ _ hq, zp_r _ _ _ hq, zp_r _ _ _ hq]
  have ec := ec.symm
  rw [show (zp (zp (zp (zp (zp mr D 6 (some (D + 1))) D 7 (some (D + 1 + 1))) D 8 (some (D + 1 + 1 + 1))) D 9 (some (D + 1 + 1 + 1 + 1))) D 10 (some (D + 1 + 1 + 1 + 1 + 1))) = c1 from ec]
  refine e_aload_n 41 dX0_init_40 rfl rfl ?_
  refine e_callV (ci := 0) dX0_init_41 (k_X0_resetG G (n := D + 6) hl (Nat.le_refl _) (by omega)) lm_X0_28 zi_yX0_reset zs_yX0_reset rfl hS.2.1 (by omega) rfl rfl (Nat.le_of_ble_eq_true rfl) (Nat.le_of_ble_eq_true rfl) (Nat.le_of_ble_eq_true rfl) (by omega) (by omega) (Nat.sub_le_sub_right (by omega) _) (Nat.sub_le_sub_right (zSl_le (by omega)) _) (fun r9 a9 b9 c9 hq => ?_)
  obtain ⟨rfl, r9, o9, rfl, rfl⟩ := hq
  refine e_vreturn dX0_init_44 rfl ?_
  exact ⟨rfl, r9, o9, rfl, hl, fun q hq => hfc q (by omega)⟩

set_option maxHeartbeats 4000000 in
set_option maxRecDepth 100000 in
theorem k_X1_init (G : zG) {mi : zFi} {ml : zFl} {mr : zFr} : zMet G 1 yX1_init cX1_init 1 none [.ref 67] 68 mi ml mr 69 (zPv fun u b c => u = mi ∧ b = ml ∧ c = zp mr 67 5 (some 68)) := by
  refine z_intro ([.ref 67]) (by decide) rfl (Nat.le_of_ble_eq_true rfl) ?_
  refine e_aload_n 1 dX1_init_0 rfl rfl ?_
  refine e_objInit 4 dX1_init_1 loi_X1 lo_i lo_c rfl (Nat.le_of_ble_eq_true rfl) (Nat.le_of_ble_eq_true rfl) ?_
  refine e_aload_n 5 dX1_init_4 rfl rfl ?_
  refine e_iconst 6 hic_5 dX1_init_5 rfl ?_
  refine e_newarr 8 16 .int dX1_init_6 rfl (fun _ => rfl) rfl (by decide) la_187 rfl (by decide) (by decide) rfl rfl (by omega) (Nat.sub_le_sub_right (by omega) _) (Nat.sub_le_sub_right (zSl_le (by omega)) _) ?_
  refine e_putrF 11 dX1_init_8 lf_X1_9d rfl rfl (fun _ => rfl) (fun _ => rfl) rfl rfl (by decide) ?_
  refine e_vreturn dX1_init_11 rfl ?_
  exact ⟨rfl, rfl, rfl, rfl⟩

set_option maxHeartbeats 4000000 in
set_option maxRecDepth 100000 in
theorem k_X6_init (G : zG) {mi : zFi} {ml : zFl} {mr : zFr} : zMet G 1 yX6_init cX6_init 1 none [.ref 69] 70 mi ml mr 72 (zPv fun u b c => u = mi ∧ b = ml ∧ c = zp (zp mr 69 1 (some 70)) 69 2 (some 71)) := by
  refine z_intro ([.ref 69]) (by decide) rfl (Nat.le_of_ble_eq_true rfl) ?_
  refine e_aload_n 1 dX6_init_0 rfl rfl ?_
  refine e_objInit 4 dX6_init_1 loi_X6 lo_i lo_c rfl (Nat.le_of_ble_eq_true rfl) (Nat.le_of_ble_eq_true rfl) ?_
  refine e_aload_n 5 dX6_init_4 rfl rfl ?_
  refine e_bipush 7 hbi_40 dX6_init_5 rfl ?_
  refine e_newarr 9 16 .int dX6_init_7 rfl (fun _ => rfl) rfl (by decide) la_187 rfl (by decide) (by decide) rfl rfl (by omega) (Nat.sub_le_sub_right (by omega) _) (Nat.sub_le_sub_right (zSl_le (by omega)) _) ?_
  refine e_putrF 12 dX6_init_9 lf_X6_9d rfl rfl (fun _ => rfl) (fun _ => rfl) rfl rfl (by decide) ?_
  refine e_aload_n 13 dX6_init_12 rfl rfl ?_
  refine e_bipush 15 hbi_40 dX6_init_13 rfl ?_
  refine e_newarr 17 16 .int dX6_init_15 rfl (fun _ => rfl) rfl (by decide) la_187 rfl (by decide) (by decide) rfl rfl (by omega) (Nat.sub_le_sub_right (by omega) _) (Nat.sub_le_sub_right (zSl_le (by omega)) _) ?_
  refine e_putrF 20 dX6_init_17 lf_X6_15d rfl rfl (fun _ => rfl) (fun _ => rfl) rfl rfl (by decide) ?_
  refine e_vreturn dX6_init_20 rfl ?_
  exact ⟨rfl, rfl, rfl, rfl⟩

set_option maxHeartbeats 4000000 in
set_option maxRecDepth 100000 in
theorem k_X4_init (G : zG) {mi : zFi} {ml : zFl} {mr : zFr} : zMet G 1 yX4_init cX4_init 1 none [.ref 1] 2 mi ml mr 3 (zPv fun u b c => u = mi ∧ b = ml ∧ c = zp mr 1 0 (some 2)) := by
  refine z_intro ([.ref 1]) (by decide) rfl (Nat.le_of_ble_eq_true rfl) ?_
  refine e_aload_n 1 dX4_init_0 rfl rfl ?_
  refine e_objInit 4 dX4_init_1 loi_X4 lo_i lo_c rfl (Nat.le_of_ble_eq_true rfl) (Nat.le_of_ble_eq_true rfl) ?_
  refine e_aload_n 5 dX4_init_4 rfl rfl ?_
  refine e_sipush 8 hsi_300 dX4_init_5 rfl ?_
  refine e_newarr 10 17 .char dX4_init_8 rfl (fun _ => rfl) rfl (by decide) la_151 rfl (by decide) (by decide) rfl rfl (by omega) (Nat.sub_le_sub_right (by omega) _) (Nat.sub_le_sub_right (zSl_le (by omega)) _) ?_
  refine e_putrF 13 dX4_init_10 lf_X4_9d rfl rfl (fun _ => rfl) (fun _ => rfl) rfl rfl (by decide) ?_
  refine e_vreturn dX4_init_13 rfl ?_
  exact ⟨rfl, rfl, rfl, rfl⟩

