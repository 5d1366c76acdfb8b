/-- the class's references -/
def zRf7 (mr : zFr) : Prop := (mr 0 0 = some 1 ∧ mr 0 1 = some 3 ∧ mr 0 2 = some 65 ∧ mr 0 3 = some 66 ∧ mr 0 4 = some 67 ∧ mr 0 5 = some 69 ∧ mr 0 6 = some 72 ∧ mr 0 7 = some 77 ∧ mr 0 8 = some 88 ∧ mr 0 9 = some 94) ∧
  (mr 1 0 = some 2 ∧ mr 65 0 = some 100 ∧ mr 65 1 = some 162 ∧ mr 67 5 = some 68 ∧ mr 69 1 = some 70 ∧ mr 69 2 = some 71) ∧
  (zMomL mr 3 ∧ zMomL mr 100 ∧ zMomL mr 162 ∧ zSongL mr 72 ∧ zLife mr 77 ∧ zLandL mr 88 ∧ zLandL mr 94)
theorem zMomL.c62 {mr mr' : zFr} {B : Nat} (h : zMomL mr B) (e : ∀ q, B ≤ q → q < B + 62 → mr' q = mr q) : zMomL mr' B := by
  obtain ⟨h1, h2, h3, h4, h5⟩ := h
  refine ⟨h1, by rw [e B (Nat.le_refl _) (by omega)]; exact h2, fun w hw => by rw [e (B + 6) (by omega) (by omega)]; exact h3 w hw, h4.c5 (e _ (by omega) (by omega)), fun w hw => (h5 w hw).c6 (fun q a b => e q (by omega) (by omega))⟩
theorem zRf7.c {mr mr' : zFr} (h : zRf7 mr) (e : ∀ q, q < 224 → mr' q = mr q) : zRf7 mr' := by
  obtain ⟨h1, h2, g1, g2, g3, g4, g5, g6, g7⟩ := h
  refine ⟨by rw [e 0 (by decide)]; exact h1, by rw [e 1 (by decide), e 65 (by decide), e 67 (by decide), e 69 (by decide)]; exact h2, g1.c62 (fun q _ b => e q (by omega)), g2.c62 (fun q _ b => e q (by omega)), g3.c62 (fun q _ b => e q (by omega)), g4.c5 (e _ (by decide)), g5.c6 (fun q _ b => e q (by omega)), g6.c (e _ (by decide)), g7.c (e _ (by decide))⟩
/-- the state at the start -/
def zt0 : zTx := (0, fun _ => 0)
def zm0 : zMo := (0, nI 1, zS0, fun w => zBegin zL0 zS0 w)
def zi0 : Nat → Nat × zMo := fun _ => (0, zm0)
def zl0 : zLt := (0, 0, 0, 0, 0)
def zr0 : zWr := (0, fun _ => 0, fun _ => 0, fun _ => 0)
theorem zWf0 : zWf zL0 2 zt0 zm0 zi0 zl0 zr0 := ⟨zL0_W, by decide, ⟨Nat.zero_le _, fun k hk => absurd hk (Nat.not_lt_zero _)⟩, zAnew_W (m := (0, nI 1, zS0, fun w => zBegin zL0 zS0 w)) zL0_W, fun i _ => ⟨Nat.zero_le 1, fun z => absurd z Nat.zero_ne_one⟩, ⟨Nat.zero_le 1, fun z => absurd z Nat.zero_ne_one⟩, Nat.zero_le _, fun k hk => absurd hk (Nat.not_lt_zero _)⟩
theorem zRf7_mk {mr c3 c72 c77 c88 c94 c100 c162 : zFr} (e3 : ∀ q, q < 3 ∨ 65 ≤ q → c3 q = (zp (zp mr 1 0 (some 2)) 0 0 (some 1)) q) (e72 : ∀ q, q < 72 ∨ 77 ≤ q → c72 q = (zp (zp (zp (zp (zp (zp (zp (zp c3 0 1 (some 3)) 0 2 (some 65)) 0 3 (some 66)) 67 5 (some 68)) 0 4 (some 67)) 69 1 (some 70)) 69 2 (some 71)) 0 5 (some 69)) q) (e77 : ∀ q, q < 77 ∨ 88 ≤ q → c77 q = (zp c72 0 6 (some 72)) q) (e88 : ∀ q, q < 88 ∨ 94 ≤ q → c88 q = (zp c77 0 7 (some 77)) q) (e94 : ∀ q, q < 94 ∨ 100 ≤ q → c94 q = (zp c88 0 8 (some 88)) q) (e100 : ∀ q, q < 100 ∨ 162 ≤ q → c100 q = (zp c94 0 9 (some 94)) q) (e162 : ∀ q, q < 162 ∨ 224 ≤ q → c162 q = (zp c100 65 0 (some 100)) q) (g3 : zMomL c3 3) (g72 : zSongL c72 72) (g77 : zLife c77 77) (g88 : zLandL c88 88) (g94 : zLandL c94 94) (g100 : zMomL c100 100) (g162 : zMomL c162 162) : zRf7 (zp c162 65 1 (some 162)) ∧ ∀ q, 224 ≤ q → (zp c162 65 1 (some 162)) q = mr q :=
  ⟨⟨⟨by rw [zp_r _ _ _ (by decide), e162 _ (by omega), zp_r _ _ _ (by decide), e100 _ (by omega), zp_k _ _ (by decide), e94 _ (by omega), zp_k _ _ (by decide), e88 _ (by omega), zp_k _ _ (by decide), e77 _ (by omega), zp_k _ _ (by decide), e72 _ (by omega), zp_k _ _ (by decide), zp_r _ _ _ (by decide), zp_r _ _ _ (by decide), zp_k _ _ (by decide), zp_r _ _ _ (by decide), zp_k _ _ (by decide), zp_k _ _ (by decide), zp_k _ _ (by decide), e3 _ (by omega), zp_s], by rw [zp_r _ _ _ (by decide), e162 _ (by omega), zp_r _ _ _ (by decide), e100 _ (by omega), zp_k _ _ (by decide), e94 _ (by omega), zp_k _ _ (by decide), e88 _ (by omega), zp_k _ _ (by decide), e77 _ (by omega), zp_k _ _ (by decide), e72 _ (by omega), zp_k _ _ (by decide), zp_r _ _ _ (by decide), zp_r _ _ _ (by decide), zp_k _ _ (by decide), zp_r _ _ _ (by decide), zp_k _ _ (by decide), zp_k _ _ (by decide), zp_s], by rw [zp_r _ _ _ (by decide), e162 _ (by omega), zp_r _ _ _ (by decide), e100 _ (by omega), zp_k _ _ (by decide), e94 _ (by omega), zp_k _ _ (by decide), e88 _ (by omega), zp_k _ _ (by decide), e77 _ (by omega), zp_k _ _ (by decide), e72 _ (by omega), zp_k _ _ (by decide), zp_r _ _ _ (by decide), zp_r _ _ _ (by decide), zp_k _ _ (by decide), zp_r _ _ _ (by decide), zp_k _ _ (by decide), zp_s], by rw [zp_r _ _ _ (by decide), e162 _ (by omega), zp_r _ _ _ (by decide), e100 _ (by omega), zp_k _ _ (by decide), e94 _ (by omega), zp_k _ _ (by decide), e88 _ (by omega), zp_k _ _ (by decide), e77 _ (by omega), zp_k _ _ (by decide), e72 _ (by omega), zp_k _ _ (by decide), zp_r _ _ _ (by decide), zp_r _ _ _ (by decide), zp_k _ _ (by decide), zp_r _ _ _ (by decide), zp_s], by rw [zp_r _ _ _ (by decide), e162 _ (by omega), zp_r _ _ _ (by decide), e100 _ (by omega), zp_k _ _ (by decide), e94 _ (by omega), zp_k _ _ (by decide), e88 _ (by omega), zp_k _ _ (by decide), e77 _ (by omega), zp_k _ _ (by decide), e72 _ (by omega), zp_k _ _ (by decide), zp_r _ _ _ (by decide), zp_r _ _ _ (by decide), zp_s], by rw [zp_r _ _ _ (by decide), e162 _ (by omega), zp_r _ _ _ (by decide), e100 _ (by omega), zp_k _ _ (by decide), e94 _ (by omega), zp_k _ _ (by decide), e88 _ (by omega), zp_k _ _ (by decide), e77 _ (by omega), zp_k _ _ (by decide), e72 _ (by omega), zp_s], by rw [zp_r _ _ _ (by decide), e162 _ (by omega), zp_r _ _ _ (by decide), e100 _ (by omega), zp_k _ _ (by decide), e94 _ (by omega), zp_k _ _ (by decide), e88 _ (by omega), zp_k _ _ (by decide), e77 _ (by omega), zp_s], by rw [zp_r _ _ _ (by decide), e162 _ (by omega), zp_r _ _ _ (by decide), e100 _ (by omega), zp_k _ _ (by decide), e94 _ (by omega), zp_k _ _ (by decide), e88 _ (by omega), zp_s], by rw [zp_r _ _ _ (by decide), e162 _ (by omega), zp_r _ _ _ (by decide), e100 _ (by omega), zp_k _ _ (by decide), e94 _ (by omega), zp_s], by rw [zp_r _ _ _ (by decide), e162 _ (by omega), zp_r _ _ _ (by decide), e100 _ (by omega), zp_s]⟩, ⟨by rw [zp_r _ _ _ (by decide), e162 _ (by omega), zp_r _ _ _ (by decide), e100 _ (by omega), zp_r _ _ _ (by decide), e94 _ (by omega), zp_r _ _ _ (by decide), e88 _ (by omega), zp_r _ _ _ (by decide), e77 _ (by omega), zp_r _ _ _ (by decide), e72 _ (by omega), zp_r _ _ _ (by decide), zp_r _ _ _ (by decide), zp_r _ _ _ (by decide), zp_r _ _ _ (by decide), zp_r _ _ _ (by decide), zp_r _ _ _ (by decide), zp_r _ _ _ (by decide), zp_r _ _ _ (by decide), e3 _ (by omega), zp_r _ _ _ (by decide), zp_s], by rw [zp_k _ _ (by decide), e162 _ (by omega), zp_s], by rw [zp_s], by rw [zp_r _ _ _ (by decide), e162 _ (by omega), zp_r _ _ _ (by decide), e100 _ (by omega), zp_r _ _ _ (by decide), e94 _ (by omega), zp_r _ _ _ (by decide), e88 _ (by omega), zp_r _ _ _ (by decide), e77 _ (by omega), zp_r _ _ _ (by decide), e72 _ (by omega), zp_r _ _ _ (by decide), zp_r _ _ _ (by decide), zp_r _ _ _ (by decide), zp_r _ _ _ (by decide), zp_s], by rw [zp_r _ _ _ (by decide), e162 _ (by omega), zp_r _ _ _ (by decide), e100 _ (by omega), zp_r _ _ _ (by decide), e94 _ (by omega), zp_r _ _ _ (by decide), e88 _ (by omega), zp_r _ _ _ (by decide), e77 _ (by omega), zp_r _ _ _ (by decide), e72 _ (by omega), zp_r _ _ _ (by decide), zp_k _ _ (by decide), zp_s], by rw [zp_r _ _ _ (by decide), e162 _ (by omega), zp_r _ _ _ (by decide), e100 _ (by omega), zp_r _ _ _ (by decide), e94 _ (by omega), zp_r _ _ _ (by decide), e88 _ (by omega), zp_r _ _ _ (by decide), e77 _ (by omega), zp_r _ _ _ (by decide), e72 _ (by omega), zp_r _ _ _ (by decide), zp_s]⟩, g3.c62 (fun q a b => by rw [zp_r _ _ _ (by omega), e162 _ (by omega), zp_r _ _ _ (by omega), e100 _ (by omega), zp_r _ _ _ (by omega), e94 _ (by omega), zp_r _ _ _ (by omega), e88 _ (by omega), zp_r _ _ _ (by omega), e77 _ (by omega), zp_r _ _ _ (by omega), e72 _ (by omega), zp_r _ _ _ (by omega), zp_r _ _ _ (by omega), zp_r _ _ _ (by omega), zp_r _ _ _ (by omega), zp_r _ _ _ (by omega), zp_r _ _ _ (by omega), zp_r _ _ _ (by omega), zp_r _ _ _ (by omega)]), g100.c62 (fun q a b => by rw [zp_r _ _ _ (by omega), e162 _ (by omega), zp_r _ _ _ (by omega)]), g162.c62 (fun q a b => by rw [zp_r _ _ _ (by omega)]), g72.c5 (by rw [zp_r _ _ _ (by omega), e162 _ (by omega), zp_r _ _ _ (by omega), e100 _ (by omega), zp_r _ _ _ (by omega), e94 _ (by omega), zp_r _ _ _ (by omega), e88 _ (by omega), zp_r _ _ _ (by omega), e77 _ (by omega), zp_r _ _ _ (by omega)]), g77.c6 (fun q a b => by rw [zp_r _ _ _ (by omega), e162 _ (by omega), zp_r _ _ _ (by omega), e100 _ (by omega), zp_r _ _ _ (by omega), e94 _ (by omega), zp_r _ _ _ (by omega), e88 _ (by omega), zp_r _ _ _ (by omega)]), g88.c (by rw [zp_r _ _ _ (by omega), e162 _ (by omega), zp_r _ _ _ (by omega), e100 _ (by omega), zp_r _ _ _ (by omega), e94 _ (by omega), zp_r _ _ _ (by omega)]), g94.c (by rw [zp_r _ _ _ (by omega), e162 _ (by omega), zp_r _ _ _ (by omega), e100 _ (by omega), zp_r _ _ _ (by omega)])⟩, fun q hq => by rw [zp_r _ _ _ (by omega), e162 _ (by omega), zp_r _ _ _ (by omega), e100 _ (by omega), zp_r _ _ _ (by omega), e94 _ (by omega), zp_r _ _ _ (by omega), e88 _ (by omega), zp_r _ _ _ (by omega), e77 _ (by omega), zp_r _ _ _ (by omega), e72 _ (by omega), zp_r _ _ _ (by omega), zp_r _ _ _ (by omega), zp_r _ _ _ (by omega), zp_r _ _ _ (by omega), zp_r _ _ _ (by omega), zp_r _ _ _ (by omega), zp_r _ _ _ (by omega), zp_r _ _ _ (by omega), e3 _ (by omega), zp_r _ _ _ (by omega), zp_r _ _ _ (by omega)]⟩
theorem zXst {mi u88 u94 : zFi} {ml : zFl} (h0 : ∀ r k, mi r k = 0) (l88 : zLandR u88 88 zL0) (f88 : ∀ q, q < 88 ∨ 94 ≤ q → u88 q = mi q) (f94 : ∀ q, q < 94 ∨ 100 ≤ q → u94 q = u88 q) : zX (zp (zp u94 0 10 (nI 2)) 3 1 (nI 1)) (zp ml 0 11 (lN 0)) 88 zL0 2 (lN 0) zt0 zm0 zi0 zl0 zr0 ∧ ∀ q, 224 ≤ q → (zp (zp u94 0 10 (nI 2)) 3 1 (nI 1)) q = mi q := by
  have e : ∀ q, q ≠ 0 → q ≠ 3 → (q < 88 ∨ 100 ≤ q) → (zp (zp u94 0 10 (nI 2)) 3 1 (nI 1)) q = mi q := fun q a b c => by rw [zp_r _ _ _ b, zp_r _ _ _ a, f94 q (by omega), f88 q (by omega)]
  have z : ∀ r k, mi r k = nI 0 := fun r k => (h0 r k).trans nI_0.symm
  refine ⟨⟨l88.congr (fun j hj => ?_), ?_, zp_s _ _ _ _, ⟨?_, fun k hk => absurd hk (Nat.not_lt_zero _)⟩, ⟨?_, zp_s _ _ _ _, ⟨?_, fun i hi => absurd hi (Nat.not_lt_zero _)⟩, fun w hw => absurd hw (Nat.not_lt_zero _)⟩, ⟨⟨?_, ?_⟩, fun q => absurd q Nat.zero_ne_one, fun q => absurd q Nat.zero_ne_one⟩, ⟨?_, fun q => absurd q Nat.zero_ne_one⟩, ⟨?_, fun k hk => absurd hk (Nat.not_lt_zero _)⟩, ?_⟩, fun q hq => e q (by omega) (by omega) (by omega)⟩
  · rw [zp_r _ _ _ (by omega), zp_r _ _ _ (by omega), f94 _ (by omega)]
  · rw [zp_r _ _ _ (by decide), zp_s]
  · rw [e 1 (by decide) (by decide) (by decide)]; exact z 1 1
  · rw [zp_k _ _ (by decide), zp_r _ _ _ (by decide), f94 3 (by decide), f88 3 (by decide)]; exact z 3 0
  · rw [e (3 + 1) (by decide) (by decide) (by decide)]; exact z 4 0
  · rw [e 66 (by decide) (by decide) (by decide)]; exact z 66 0
  · rw [e 66 (by decide) (by decide) (by decide)]; exact z 66 1
  · rw [e 67 (by decide) (by decide) (by decide)]; exact z 67 0
  · rw [e 69 (by decide) (by decide) (by decide)]; exact z 69 0
  · rw [e 72 (by decide) (by decide) (by decide)]; exact z 72 0
set_option maxHeartbeats 4000000 in
set_option maxRecDepth 100000 in
theorem k_X7_init (G : zG) {mi : zFi} {ml : zFl} {mr : zFr} (h0 : ∀ r k, mi r k = 0) : zMet G 3 yX7_init cX7_init 2 none [.ref 0] 1 mi ml mr 224 (zPv fun u b c => zX u b 88 zL0 2 (lN 0) zt0 zm0 zi0 zl0 zr0 ∧ zRf7 c ∧ (∀ q, 224 ≤ q → u q = mi q) ∧ (∀ q, q ≠ 0 → b q = ml q) ∧ ∀ q, 224 ≤ q → c q = mr q) := by
  refine z_intro ([.ref 0, zx]) (by decide) rfl (Nat.le_of_ble_eq_true rfl) ?_
  refine e_aload_n 1 dX7_init_0 rfl rfl ?_
  refine e_objInit 4 dX7_init_1 loi_X7 lo_i lo_c rfl (Nat.le_of_ble_eq_true rfl) (Nat.le_of_ble_eq_true rfl) ?_
  refine e_aload_n 5 dX7_init_4 rfl rfl ?_
  refine e_new 8 dX7_init_5 zc_4 lx_X7_7 lz_X4 ln_X4 rfl rfl (by omega) (Nat.sub_le_sub_right (by omega) _) (Nat.sub_le_sub_right (zSl_le (by omega)) _) ?_
  refine e_dup 9 dX7_init_8 rfl rfl ?_
  refine e_callI dX7_init_9 (k_X4_init G) lm_X7_9 zi_yX4_init rfl rfl rfl (Nat.le_of_ble_eq_true rfl) (Nat.le_of_ble_eq_true rfl) (Nat.le_of_ble_eq_true rfl) (by omega) (by omega) (Nat.sub_le_sub_right (by omega) _) (Nat.sub_le_sub_right (zSl_le (by omega)) _) (fun r9 a9 b9 c9 hq => ?_)
  obtain ⟨rfl, rfl, rfl, rfl⟩ := hq
  refine e_putrF 15 dX7_init_12 lf_X7_10d rfl rfl (fun _ => rfl) (fun _ => rfl) rfl rfl (by decide) ?_
  refine e_aload_n 16 dX7_init_15 rfl rfl ?_
  refine e_new 19 dX7_init_16 zc_3 lx_X7_16 lz_X3 ln_X3 rfl rfl (by omega) (Nat.sub_le_sub_right (by omega) _) (Nat.sub_le_sub_right (zSl_le (by omega)) _) ?_
  refine e_dup 20 dX7_init_19 rfl rfl ?_
  refine e_callI dX7_init_20 (k_X3_init G (B := 3) (Or.inl rfl)) lm_X7_18 zi_yX3_init rfl rfl rfl (Nat.le_of_ble_eq_true rfl) (Nat.le_of_ble_eq_true rfl) (Nat.le_of_ble_eq_true rfl) (by omega) (by omega) (Nat.sub_le_sub_right (by omega) _) (Nat.sub_le_sub_right (zSl_le (by omega)) _) (fun r9 a9 b9 c9 hq => ?_)
  obtain ⟨rfl, rfl, rfl, g3, e3⟩ := hq
  refine e_putrF 26 dX7_init_23 lf_X7_19d rfl rfl (fun _ => rfl) (fun _ => rfl) rfl rfl (by decide) ?_
  refine e_aload_n 27 dX7_init_26 rfl rfl ?_
  refine e_iconst 28 hic_2 dX7_init_27 rfl ?_
  refine e_newq 31 20 RX3 dX7_init_28 (fun _ => rfl) lx_X7_16 (Or.inr rfl) rfl (by decide) rfl rfl (by omega) (Nat.sub_le_sub_right (by omega) _) (Nat.sub_le_sub_right (zSl_le (by omega)) _) ?_
  refine e_putrF 34 dX7_init_31 lf_X7_23d rfl rfl (fun _ => rfl) (fun _ => rfl) rfl rfl (by decide) ?_
  refine e_aload_n 35 dX7_init_34 rfl rfl ?_
  refine e_iconst 36 hic_2 dX7_init_35 rfl ?_
  refine e_newarr 38 18 .boolean dX7_init_36 rfl (fun _ => rfl) rfl (by decide) la_255 rfl (by decide) (by decide) rfl rfl (by omega) (Nat.sub_le_sub_right (by omega) _) (Nat.sub_le_sub_right (zSl_le (by omega)) _) ?_
  refine e_putrF 41 dX7_init_38 lf_X7_27d rfl rfl (fun _ => rfl) (fun _ => rfl) rfl rfl (by decide) ?_
  refine e_aload_n 42 dX7_init_41 rfl rfl ?_
  refine e_new 45 dX7_init_42 zc_1 lx_X7_31 lz_X1 ln_X1 rfl rfl (by omega) (Nat.sub_le_sub_right (by omega) _) (Nat.sub_le_sub_right (zSl_le (by omega)) _) ?_
  refine e_dup 46 dX7_init_45 rfl rfl ?_
  refine e_callI dX7_init_46 (k_X1_init G) lm_X7_33 zi_yX1_init rfl rfl rfl (Nat.le_of_ble_eq_true rfl) (Nat.le_of_ble_eq_true rfl) (Nat.le_of_ble_eq_true rfl) (by omega) (by omega) (Nat.sub_le_sub_right (by omega) _) (Nat.sub_le_sub_right (zSl_le (by omega)) _) (fun r9 a9 b9 c9 hq => ?_)
  obtain ⟨rfl, rfl, rfl, rfl⟩ := hq
  refine e_putrF 52 dX7_init_49 lf_X7_34d rfl rfl (fun _ => rfl) (fun _ => rfl) rfl rfl (by decide) ?_
  refine e_aload_n 53 dX7_init_52 rfl rfl ?_
  refine e_new 56 dX7_init_53 zc_6 lx_X7_38 lz_X6 ln_X6 rfl rfl (by omega) (Nat.sub_le_sub_right (by omega) _) (Nat.sub_le_sub_right (zSl_le (by omega)) _) ?_
  refine e_dup 57 dX7_init_56 rfl rfl ?_
  refine e_callI dX7_init_57 (k_X6_init G) lm_X7_40 zi_yX6_init rfl rfl rfl (Nat.le_of_ble_eq_true rfl) (Nat.le_of_ble_eq_true rfl) (Nat.le_of_ble_eq_true rfl) (by omega) (by omega) (Nat.sub_le_sub_right (by omega) _) (Nat.sub_le_sub_right (zSl_le (by omega)) _) (fun r9 a9 b9 c9 hq => ?_)
  obtain ⟨rfl, rfl, rfl, rfl⟩ := hq
  refine e_putrF 63 dX7_init_60 lf_X7_41d rfl rfl (fun _ => rfl) (fun _ => rfl) rfl rfl (by decide) ?_
  refine e_aload_n 64 dX7_init_63 rfl rfl ?_
  refine e_new 67 dX7_init_64 zc_5 lx_X7_45 lz_X5 ln_X5 rfl rfl (by omega) (Nat.sub_le_sub_right (by omega) _) (Nat.sub_le_sub_right (zSl_le (by omega)) _) ?_
  refine e_dup 68 dX7_init_67 rfl rfl ?_
  refine e_callI dX7_init_68 (k_X5_init G (B := 72) (Or.inr (Or.inl rfl))) lm_X7_47 zi_yX5_init rfl rfl rfl (Nat.le_of_ble_eq_true rfl) (Nat.le_of_ble_eq_true rfl) (Nat.le_of_ble_eq_true rfl) (by omega) (by omega) (Nat.sub_le_sub_right (by omega) _) (Nat.sub_le_sub_right (zSl_le (by omega)) _) (fun r9 a9 b9 c9 hq => ?_)
  obtain ⟨rfl, rfl, rfl, g72, e72⟩ := hq
  refine e_putrF 74 dX7_init_71 lf_X7_48d rfl rfl (fun _ => rfl) (fun _ => rfl) rfl rfl (by decide) ?_
  refine e_aload_n 75 dX7_init_74 rfl rfl ?_
  refine e_new 78 dX7_init_75 zc_2 lx_X7_52 lz_X2 ln_X2 rfl rfl (by omega) (Nat.sub_le_sub_right (by omega) _) (Nat.sub_le_sub_right (zSl_le (by omega)) _) ?_
  refine e_dup 79 dX7_init_78 rfl rfl ?_
  refine e_callI dX7_init_79 (k_X2_init G zLifeS_77) lm_X7_54 zi_yX2_init rfl rfl rfl (Nat.le_of_ble_eq_true rfl) (Nat.le_of_ble_eq_true rfl) (Nat.le_of_ble_eq_true rfl) (by omega) (by omega) (Nat.sub_le_sub_right (by omega) _) (Nat.sub_le_sub_right (zSl_le (by omega)) _) (fun r9 a9 b9 c9 hq => ?_)
  obtain ⟨rfl, rfl, rfl, g77, e77⟩ := hq
  refine e_putrF 85 dX7_init_82 lf_X7_55d rfl rfl (fun _ => rfl) (fun _ => rfl) rfl rfl (by decide) ?_
  refine e_aload_n 86 dX7_init_85 rfl rfl ?_
  refine e_new 89 dX7_init_86 zc_0 lx_X7_59 lz_X0 ln_X0 rfl rfl (by omega) (Nat.sub_le_sub_right (by omega) _) (Nat.sub_le_sub_right (zSl_le (by omega)) _) ?_
  refine e_dup 90 dX7_init_89 rfl rfl ?_
  refine e_callI dX7_init_90 (k_X0_init G (D := 88) (Or.inl rfl)) lm_X7_61 zi_yX0_init rfl rfl rfl (Nat.le_of_ble_eq_true rfl) (Nat.le_of_ble_eq_true rfl) (Nat.le_of_ble_eq_true rfl) (by omega) (by omega) (Nat.sub_le_sub_right (by omega) _) (Nat.sub_le_sub_right (zSl_le (by omega)) _) (fun r9 a9 b9 c9 hq => ?_)
  obtain ⟨rfl, l88, f88, rfl, g88, e88⟩ := hq
  refine e_putr 96 dX7_init_93 lf_X7_62 rfl (fun _ => rfl) (fun _ => rfl) rfl rfl (by decide) ?_
  refine e_aload_n 97 dX7_init_96 rfl rfl ?_
  refine e_new 100 dX7_init_97 zc_0 lx_X7_59 lz_X0 ln_X0 rfl rfl (by omega) (Nat.sub_le_sub_right (by omega) _) (Nat.sub_le_sub_right (zSl_le (by omega)) _) ?_
  refine e_dup 101 dX7_init_100 rfl rfl ?_
  refine e_callI dX7_init_101 (k_X0_init G (D := 94) (Or.inr rfl)) lm_X7_61 zi_yX0_init rfl rfl rfl (Nat.le_of_ble_eq_true rfl) (Nat.le_of_ble_eq_true rfl) (Nat.le_of_ble_eq_true rfl) (by omega) (by omega) (Nat.sub_le_sub_right (by omega) _) (Nat.sub_le_sub_right (zSl_le (by omega)) _) (fun r9 a9 b9 c9 hq => ?_)
  obtain ⟨rfl, l94, f94, rfl, g94, e94⟩ := hq
  refine e_putr 107 dX7_init_104 lf_X7_66 rfl (fun _ => rfl) (fun _ => rfl) rfl rfl (by decide) ?_
  refine e_aload_n 108 dX7_init_107 rfl rfl ?_
  refine e_iconst 109 hic_2 dX7_init_108 rfl ?_
  refine e_puti 112 dX7_init_109 lf_X7_69 rfl rfl rfl rfl rfl (by decide) ?_
  refine e_aload_n 113 dX7_init_112 rfl rfl ?_
  refine e_lconst 114 (v := lN 0) rfl dX7_init_113 rfl ?_
  refine e_putl 117 dX7_init_114 lf_X7_73 rfl rfl rfl rfl rfl (by decide) ?_
  refine e_iconst 118 hic_0 dX7_init_117 rfl ?_
  refine e_istore_n 119 dX7_init_118 rfl (by decide) (zst1_1 rfl) ?_
  refine e_iload_n 120 dX7_init_119 rfl rfl ?_
  refine e_iconst 121 hic_2 dX7_init_120 rfl ?_
  refine e_icmp_geN 143 124 dX7_init_121 (by decide) rfl (by decide) (by decide) (fun h121 => ?_) (fun h121 => ?_)
  · exact absurd h121 (by decide)
  · refine e_aload_n 125 dX7_init_124 rfl rfl ?_
    refine e_getr 128 dX7_init_125 lf_X7_23 rfl rfl rfl (by decide) (by rw [zp_k _ _ (by decide), e94 _ (by omega), zp_k _ _ (by decide), e88 _ (by omega), zp_k _ _ (by decide), e77 _ (by omega), zp_k _ _ (by decide), e72 _ (by omega), zp_k _ _ (by decide), zp_r _ _ _ (by decide), zp_r _ _ _ (by decide), zp_k _ _ (by decide), zp_r _ _ _ (by decide), zp_k _ _ (by decide), zp_s]) ?_
    refine e_iload_n 129 dX7_init_128 rfl rfl ?_
    refine e_new 132 dX7_init_129 zc_3 lx_X7_16 lz_X3 ln_X3 rfl rfl (by omega) (Nat.sub_le_sub_right (by omega) _) (Nat.sub_le_sub_right (zSl_le (by omega)) _) ?_
    refine e_dup 133 dX7_init_132 rfl rfl ?_
    refine e_callI dX7_init_133 (k_X3_init G (B := 100) (Or.inr (Or.inl rfl))) lm_X7_18 zi_yX3_init rfl rfl rfl (Nat.le_of_ble_eq_true rfl) (Nat.le_of_ble_eq_true rfl) (Nat.le_of_ble_eq_true rfl) (by omega) (by omega) (Nat.sub_le_sub_right (by omega) _) (Nat.sub_le_sub_right (zSl_le (by omega)) _) (fun r9 a9 b9 c9 hq => ?_)
    obtain ⟨rfl, rfl, rfl, g100, e100⟩ := hq
    refine e_aast 137 dX7_init_136 rfl (Or.inr ⟨rfl, rfl⟩) (by decide) (by decide) rfl (by decide) ?_
    refine e_iinc 140 dX7_init_137 rfl (by decide) rfl (z_inc hii_1) (zst1_1 rfl) ?_
    refine e_goto 119 dX7_init_140 (by decide) ?_
    refine e_iload_n 120 dX7_init_119 rfl rfl ?_
    refine e_iconst 121 hic_2 dX7_init_120 rfl ?_
    refine e_icmp_geN 143 124 dX7_init_121 (by decide) rfl (by decide) (by decide) (fun h121 => ?_) (fun h121 => ?_)
    · exact absurd h121 (by decide)
    · refine e_aload_n 125 dX7_init_124 rfl rfl ?_
      refine e_getr 128 dX7_init_125 lf_X7_23 rfl rfl rfl (by decide) (by rw [zp_r _ _ _ (by decide), e100 _ (by omega), zp_k _ _ (by decide), e94 _ (by omega), zp_k _ _ (by decide), e88 _ (by omega), zp_k _ _ (by decide), e77 _ (by omega), zp_k _ _ (by decide), e72 _ (by omega), zp_k _ _ (by decide), zp_r _ _ _ (by decide), zp_r _ _ _ (by decide), zp_k _ _ (by decide), zp_r _ _ _ (by decide), zp_k _ _ (by decide), zp_s]) ?_
      refine e_iload_n 129 dX7_init_128 rfl rfl ?_
      refine e_new 132 dX7_init_129 zc_3 lx_X7_16 lz_X3 ln_X3 rfl rfl (by omega) (Nat.sub_le_sub_right (by omega) _) (Nat.sub_le_sub_right (zSl_le (by omega)) _) ?_
      refine e_dup 133 dX7_init_132 rfl rfl ?_
      refine e_callI dX7_init_133 (k_X3_init G (B := 162) (Or.inr (Or.inr rfl))) lm_X7_18 zi_yX3_init rfl rfl rfl (Nat.le_of_ble_eq_true rfl) (Nat.le_of_ble_eq_true rfl) (Nat.le_of_ble_eq_true rfl) (by omega) (by omega) (Nat.sub_le_sub_right (by omega) _) (Nat.sub_le_sub_right (zSl_le (by omega)) _) (fun r9 a9 b9 c9 hq => ?_)
      obtain ⟨rfl, rfl, rfl, g162, e162⟩ := hq
      refine e_aast 137 dX7_init_136 rfl (Or.inr ⟨rfl, rfl⟩) (by decide) (by decide) rfl (by decide) ?_
      refine e_iinc 140 dX7_init_137 rfl (by decide) rfl (z_inc hii_1) (zst1_1 rfl) ?_
      refine e_goto 119 dX7_init_140 (by decide) ?_
      refine e_iload_n 120 dX7_init_119 rfl rfl ?_
      refine e_iconst 121 hic_2 dX7_init_120 rfl ?_
      refine e_icmp_geN 143 124 dX7_init_121 (by decide) rfl (by decide) (by decide) (fun h121 => ?_) (fun h121 => ?_)
      · have hR7 := zRf7_mk e3 e72 e77 e88 e94 e100 e162 g3 g72 g77 g88 g94 g100 g162
        refine e_aload_n 144 dX7_init_143 rfl rfl ?_
        refine e_getr 147 dX7_init_144 lf_X7_19 rfl rfl rfl (by decide) hR7.1.1.2.1 ?_
        refine e_iconst 148 hic_1 dX7_init_147 rfl ?_
        refine e_puti 151 dX7_init_148 lf_X7_77 rfl rfl rfl rfl rfl (by decide) ?_
        refine e_vreturn dX7_init_151 rfl ?_
        exact ⟨rfl, (zXst h0 l88 f88 f94).1, hR7.1, (zXst (ml := fun _ _ => 0) h0 l88 f88 f94).2, fun q hq => zp_r _ _ _ hq, hR7.2⟩
      · exact absurd h121 (by decide)

theorem zRf_mk {mr : zFr} (h : zRf7 mr) : zRf (zp (zp (zp (zp (zp (zp (zp (zp (zp (zp (zp (zp (zp mr 224 2 (some 225)) 224 3 (some 226)) 224 4 (some 227)) 224 5 (some 228)) 224 6 (some 229)) 224 13 (some 230)) 224 14 (some 231)) 224 15 (some 232)) 224 22 (some 233)) 224 24 (some 234)) 224 26 (some 235)) 224 27 (some 236)) 224 28 (some 237)) 88 94 := by
  have e : ∀ q, q ≠ 224 → (zp (zp (zp (zp (zp (zp (zp (zp (zp (zp (zp (zp (zp mr 224 2 (some 225)) 224 3 (some 226)) 224 4 (some 227)) 224 5 (some 228)) 224 6 (some 229)) 224 13 (some 230)) 224 14 (some 231)) 224 15 (some 232)) 224 22 (some 233)) 224 24 (some 234)) 224 26 (some 235)) 224 27 (some 236)) 224 28 (some 237)) q = mr q := fun q hq => by rw [zp_r _ _ _ hq, zp_r _ _ _ hq, zp_r _ _ _ hq, zp_r _ _ _ hq, zp_r _ _ _ hq, zp_r _ _ _ hq, zp_r _ _ _ hq, zp_r _ _ _ hq, zp_r _ _ _ hq, zp_r _ _ _ hq, zp_r _ _ _ hq, zp_r _ _ _ hq, zp_r _ _ _ hq]
  obtain ⟨h1, h2, h3⟩ := h.c (fun q hq => e q (by omega))
  exact ⟨Or.inl ⟨rfl, rfl⟩, h1, h2, h3, by rw [zp_k _ _ (by decide), zp_k _ _ (by decide), zp_k _ _ (by decide), zp_k _ _ (by decide), zp_k _ _ (by decide), zp_k _ _ (by decide), zp_k _ _ (by decide), zp_k _ _ (by decide), zp_k _ _ (by decide), zp_k _ _ (by decide), zp_k _ _ (by decide), zp_k _ _ (by decide), zp_s], by rw [zp_k _ _ (by decide), zp_k _ _ (by decide), zp_k _ _ (by decide), zp_k _ _ (by decide), zp_k _ _ (by decide), zp_k _ _ (by decide), zp_k _ _ (by decide), zp_k _ _ (by decide), zp_k _ _ (by decide), zp_k _ _ (by decide), zp_k _ _ (by decide), zp_s], by rw [zp_k _ _ (by decide), zp_k _ _ (by decide), zp_k _ _ (by decide), zp_k _ _ (by decide), zp_k _ _ (by decide), zp_k _ _ (by decide), zp_k _ _ (by decide), zp_k _ _ (by decide), zp_k _ _ (by decide), zp_k _ _ (by decide), zp_s], by rw [zp_k _ _ (by decide), zp_k _ _ (by decide), zp_k _ _ (by decide), zp_k _ _ (by decide), zp_k _ _ (by decide), zp_k _ _ (by decide), zp_k _ _ (by decide), zp_k _ _ (by decide), zp_k _ _ (by decide), zp_s], by rw [zp_k _ _ (by decide), zp_k _ _ (by decide), zp_k _ _ (by decide), zp_k _ _ (by decide), zp_k _ _ (by decide), zp_k _ _ (by decide), zp_k _ _ (by decide), zp_k _ _ (by decide), zp_s], by rw [zp_k _ _ (by decide), zp_k _ _ (by decide), zp_k _ _ (by decide), zp_k _ _ (by decide), zp_k _ _ (by decide), zp_k _ _ (by decide), zp_k _ _ (by decide), zp_s], by rw [zp_k _ _ (by decide), zp_k _ _ (by decide), zp_k _ _ (by decide), zp_k _ _ (by decide), zp_k _ _ (by decide), zp_k _ _ (by decide), zp_s], by rw [zp_k _ _ (by decide), zp_k _ _ (by decide), zp_k _ _ (by decide), zp_k _ _ (by decide), zp_k _ _ (by decide), zp_s], by rw [zp_k _ _ (by decide), zp_k _ _ (by decide), zp_k _ _ (by decide), zp_k _ _ (by decide), zp_s], by rw [zp_k _ _ (by decide), zp_k _ _ (by decide), zp_k _ _ (by decide), zp_s], by rw [zp_k _ _ (by decide), zp_k _ _ (by decide), zp_s], by rw [zp_k _ _ (by decide), zp_s], by rw [zp_s]⟩
theorem zYst {mi w2 u4 : zFi} {ml : zFl} (h0 : ∀ r, 224 ≤ r → ∀ k, mi r k = 0) (hl : ml 224 1 = lN 0) (f : zFrR w2 (zp (zp mi 230 4 (nI 2)) 225 1 (nI 1))) (a : zAdp w2 u4 zL0) : zY u4 ml zL0 2 (lN 0) zt0 zm0 zi0 zl0 zr0 ∧ ∀ q, q < 224 → u4 q = mi q := by
  obtain ⟨⟨a1, a2⟩, a3, ⟨a4, a5, a6, a7⟩, a8, a9⟩ := a
  refine ⟨⟨a1, ?_, hl, ⟨?_, fun k hk => absurd hk (Nat.not_lt_zero _)⟩, ?_, fun i hi => ⟨?_, fun z => absurd z Nat.zero_ne_one⟩, ⟨a6, fun z => absurd z Nat.zero_ne_one⟩, ⟨a7, fun k hk => absurd hk (Nat.not_lt_zero _)⟩⟩, fun q hq => ?_⟩
  · rw [a2, f.2.2.1 4 (by decide), zp_r _ _ _ (by decide), zp_s]
  · rw [a9 7 (by decide) (by decide) (by decide) (by decide), f.2.1 7 (by decide), zp_r _ _ _ (by decide), zp_r _ _ _ (by decide)]
    exact (h0 224 (by decide) 7).trans nI_0.symm
  · have h1 : w2 225 1 = nI 1 := by rw [f.1 225 (by decide) (by decide) (by decide) (by decide), zp_s]
    rw [h1] at a3
    exact a3
  · show u4 228 i = nI 0
    have i2 : i = 0 ∨ i = 1 := by omega
    rcases i2 with q | q <;> rw [q]
    · exact a4
    · exact a5
  · rw [a8 q (by omega) (by omega) (by omega) (by omega) (by omega) (by omega), f.1 q (by omega) (by omega) (by omega) (by omega), zp_r _ _ _ (by omega), zp_r _ _ _ (by omega)]
set_option maxHeartbeats 4000000 in
set_option maxRecDepth 100000 in
theorem k_X8_init (G : zG) {mi : zFi} {ml : zFl} {mr : zFr} (h7 : zRf7 mr) (h0 : ∀ r, 224 ≤ r → ∀ k, mi r k = 0) (hl : ml 224 1 = lN 0) : zMet G 7 yX8_init cX8_init 1 none [.ref 224] 225 mi ml mr 238 (zPv fun u b c => zY u b zL0 2 (lN 0) zt0 zm0 zi0 zl0 zr0 ∧ zRf c 88 94 ∧ (∀ q, q < 224 → u q = mi q) ∧ b = ml) := by
  refine z_intro ([.ref 224]) (by decide) rfl (Nat.le_of_ble_eq_true rfl) ?_
  refine e_aload_n 1 dX8_init_0 rfl rfl ?_
  refine e_objInit 4 dX8_init_1 loi_X8 lo_i lo_c rfl (Nat.le_of_ble_eq_true rfl) (Nat.le_of_ble_eq_true rfl) ?_
  refine e_aload_n 5 dX8_init_4 rfl rfl ?_
  refine e_sipush 8 hsi_2950 dX8_init_5 rfl ?_
  refine e_newarr 10 16 .int dX8_init_8 rfl (fun _ => rfl) rfl (by decide) la_187 rfl (by decide) (by decide) rfl rfl (by omega) (Nat.sub_le_sub_right (by omega) _) (Nat.sub_le_sub_right (zSl_le (by omega)) _) ?_
  refine e_putrF 13 dX8_init_10 lf_X8_7d rfl rfl (fun _ => rfl) (fun _ => rfl) rfl rfl (by decide) ?_
  refine e_aload_n 14 dX8_init_13 rfl rfl ?_
  refine e_sipush 17 hsi_2950 dX8_init_14 rfl ?_
  refine e_newarr 19 16 .int dX8_init_17 rfl (fun _ => rfl) rfl (by decide) la_187 rfl (by decide) (by decide) rfl rfl (by omega) (Nat.sub_le_sub_right (by omega) _) (Nat.sub_le_sub_right (zSl_le (by omega)) _) ?_
  refine e_putrF 22 dX8_init_19 lf_X8_13d rfl rfl (fun _ => rfl) (fun _ => rfl) rfl rfl (by decide) ?_
  refine e_aload_n 23 dX8_init_22 rfl rfl ?_
  refine e_sipush 26 hsi_5900 dX8_init_23 rfl ?_
  refine e_newarr 28 16 .int dX8_init_26 rfl (fun _ => rfl) rfl (by decide) la_187 rfl (by decide) (by decide) rfl rfl (by omega) (Nat.sub_le_sub_right (by omega) _) (Nat.sub_le_sub_right (zSl_le (by omega)) _) ?_
  refine e_putrF 31 dX8_init_28 lf_X8_16d rfl rfl (fun _ => rfl) (fun _ => rfl) rfl rfl (by decide) ?_
  refine e_aload_n 32 dX8_init_31 rfl rfl ?_
  refine e_iconst 33 hic_2 dX8_init_32 rfl ?_
  refine e_newarr 35 18 .boolean dX8_init_33 rfl (fun _ => rfl) rfl (by decide) la_255 rfl (by decide) (by decide) rfl rfl (by omega) (Nat.sub_le_sub_right (by omega) _) (Nat.sub_le_sub_right (zSl_le (by omega)) _) ?_
  refine e_putrF 38 dX8_init_35 lf_X8_19d rfl rfl (fun _ => rfl) (fun _ => rfl) rfl rfl (by decide) ?_
  refine e_aload_n 39 dX8_init_38 rfl rfl ?_
  refine e_sipush 42 hsi_300 dX8_init_39 rfl ?_
  refine e_newarr 44 16 .int dX8_init_42 rfl (fun _ => rfl) rfl (by decide) la_187 rfl (by decide) (by decide) rfl rfl (by omega) (Nat.sub_le_sub_right (by omega) _) (Nat.sub_le_sub_right (zSl_le (by omega)) _) ?_
  refine e_putrF 47 dX8_init_44 lf_X8_23d rfl rfl (fun _ => rfl) (fun _ => rfl) rfl rfl (by decide) ?_
  refine e_aload_n 48 dX8_init_47 rfl rfl ?_
  refine e_bipush 50 hbi_10 dX8_init_48 rfl ?_
  refine e_newarr 52 16 .int dX8_init_50 rfl (fun _ => rfl) rfl (by decide) la_187 rfl (by decide) (by decide) rfl rfl (by omega) (Nat.sub_le_sub_right (by omega) _) (Nat.sub_le_sub_right (zSl_le (by omega)) _) ?_
  refine e_putrF 55 dX8_init_52 lf_X8_26d rfl rfl (fun _ => rfl) (fun _ => rfl) rfl rfl (by decide) ?_
  refine e_aload_n 56 dX8_init_55 rfl rfl ?_
  refine e_bipush 58 hbi_18 dX8_init_56 rfl ?_
  refine e_newarr 60 16 .int dX8_init_58 rfl (fun _ => rfl) rfl (by decide) la_187 rfl (by decide) (by decide) rfl rfl (by omega) (Nat.sub_le_sub_right (by omega) _) (Nat.sub_le_sub_right (zSl_le (by omega)) _) ?_
  refine e_putrF 63 dX8_init_60 lf_X8_29d rfl rfl (fun _ => rfl) (fun _ => rfl) rfl rfl (by decide) ?_
  refine e_aload_n 64 dX8_init_63 rfl rfl ?_
  refine e_bipush 66 hbi_40 dX8_init_64 rfl ?_
  refine e_newarr 68 16 .int dX8_init_66 rfl (fun _ => rfl) rfl (by decide) la_187 rfl (by decide) (by decide) rfl rfl (by omega) (Nat.sub_le_sub_right (by omega) _) (Nat.sub_le_sub_right (zSl_le (by omega)) _) ?_
  refine e_putrF 71 dX8_init_68 lf_X8_32d rfl rfl (fun _ => rfl) (fun _ => rfl) rfl rfl (by decide) ?_
  refine e_aload_n 72 dX8_init_71 rfl rfl ?_
  refine e_iconst 73 hic_4 dX8_init_72 rfl ?_
  refine e_newarr 75 16 .int dX8_init_73 rfl (fun _ => rfl) rfl (by decide) la_187 rfl (by decide) (by decide) rfl rfl (by omega) (Nat.sub_le_sub_right (by omega) _) (Nat.sub_le_sub_right (zSl_le (by omega)) _) ?_
  refine e_putrF 78 dX8_init_75 lf_X8_35d rfl rfl (fun _ => rfl) (fun _ => rfl) rfl rfl (by decide) ?_
  refine e_aload_n 79 dX8_init_78 rfl rfl ?_
  refine e_bipush 81 hbi_120 dX8_init_79 rfl ?_
  refine e_newarr 83 16 .int dX8_init_81 rfl (fun _ => rfl) rfl (by decide) la_187 rfl (by decide) (by decide) rfl rfl (by omega) (Nat.sub_le_sub_right (by omega) _) (Nat.sub_le_sub_right (zSl_le (by omega)) _) ?_
  refine e_putrF 86 dX8_init_83 lf_X8_38d rfl rfl (fun _ => rfl) (fun _ => rfl) rfl rfl (by decide) ?_
  refine e_aload_n 87 dX8_init_86 rfl rfl ?_
  refine e_iconst 88 hic_3 dX8_init_87 rfl ?_
  refine e_newarr 90 16 .int dX8_init_88 rfl (fun _ => rfl) rfl (by decide) la_187 rfl (by decide) (by decide) rfl rfl (by omega) (Nat.sub_le_sub_right (by omega) _) (Nat.sub_le_sub_right (zSl_le (by omega)) _) ?_
  refine e_putrF 93 dX8_init_90 lf_X8_41d rfl rfl (fun _ => rfl) (fun _ => rfl) rfl rfl (by decide) ?_
  refine e_aload_n 94 dX8_init_93 rfl rfl ?_
  refine e_iconst 95 hic_3 dX8_init_94 rfl ?_
  refine e_newarr 97 16 .int dX8_init_95 rfl (fun _ => rfl) rfl (by decide) la_187 rfl (by decide) (by decide) rfl rfl (by omega) (Nat.sub_le_sub_right (by omega) _) (Nat.sub_le_sub_right (zSl_le (by omega)) _) ?_
  refine e_putrF 100 dX8_init_97 lf_X8_44d rfl rfl (fun _ => rfl) (fun _ => rfl) rfl rfl (by decide) ?_
  refine e_aload_n 101 dX8_init_100 rfl rfl ?_
  refine e_iconst 102 hic_3 dX8_init_101 rfl ?_
  refine e_newarr 104 16 .int dX8_init_102 rfl (fun _ => rfl) rfl (by decide) la_187 rfl (by decide) (by decide) rfl rfl (by omega) (Nat.sub_le_sub_right (by omega) _) (Nat.sub_le_sub_right (zSl_le (by omega)) _) ?_
  refine e_putrF 107 dX8_init_104 lf_X8_47d rfl rfl (fun _ => rfl) (fun _ => rfl) rfl rfl (by decide) ?_
  obtain ⟨c1, ec⟩ : ∃ c1, c1 = (zp (zp (zp (zp (zp (zp (zp (zp (zp (zp (zp (zp (zp mr 224 2 (some 225)) 224 3 (some 226)) 224 4 (some 227)) 224 5 (some 228)) 224 6 (some 229)) 224 13 (some 230)) 224 14 (some 231)) 224 15 (some 232)) 224 22 (some 233)) 224 24 (some 234)) 224 26 (some 235)) 224 27 (some 236)) 224 28 (some 237)) := ⟨_, rfl⟩
  have hr : zRf c1 88 94 := by rw [ec]; exact zRf_mk h7
  rw [← ec]
  clear ec
  refine e_aload_n 108 dX8_init_107 rfl rfl ?_
  refine e_getr 111 dX8_init_108 lf_X8_26 rfl rfl rfl (by decide) hr.yl ?_
  refine e_iconst 112 hic_4 dX8_init_111 rfl ?_
  refine e_iconst 113 hic_2 dX8_init_112 rfl ?_
  refine e_iast 114 dX8_init_113 rfl rfl (by decide) rfl (by show 4 < 10; decide) ?_
  refine e_aload_n 115 dX8_init_114 rfl rfl ?_
  refine e_getr 118 dX8_init_115 lf_X8_7 rfl rfl rfl (by decide) hr.ys ?_
  refine e_iconst 119 hic_1 dX8_init_118 rfl ?_
  refine e_iconst 120 hic_1 dX8_init_119 rfl ?_
  refine e_iast 121 dX8_init_120 rfl rfl (by decide) rfl (by show 1 < 2950; decide) ?_
  refine e_aload_n 122 dX8_init_121 rfl rfl ?_
  refine c_Vv 125 (ci := 8) dX8_init_122 (k_X8_drafts G hr) lm_X8_50 zi_yX8_drafts zs_yX8_drafts rfl rfl (by decide) rfl rfl rfl (Nat.le_of_ble_eq_true rfl) (Nat.le_of_ble_eq_true rfl) (Nat.le_of_ble_eq_true rfl) (by exact Nat.le_refl _) (by exact Nat.le_refl _) ?_
  rintro w2 _ _ ⟨⟨d2, f2, k2⟩, rfl, rfl⟩
  refine e_aload_n 126 dX8_init_125 rfl rfl ?_
  refine c_Vv 129 (ci := 8) dX8_init_126 (k_X8_adopts G hr d2 zL0_W) lm_X8_53 zi_yX8_adopts zs_yX8_adopts rfl rfl (by decide) rfl rfl rfl (Nat.le_of_ble_eq_true rfl) (Nat.le_of_ble_eq_true rfl) (Nat.le_of_ble_eq_true rfl) (by exact Nat.le_refl _) (by exact Nat.le_refl _) ?_
  rintro u4 _ _ ⟨a4, rfl, rfl⟩
  have hY := zYst h0 hl f2 a4
  refine e_vreturn dX8_init_129 rfl ?_
  exact ⟨rfl, hY.1, hr, hY.2, rfl⟩

