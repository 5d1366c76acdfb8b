theorem va_cpy_all {f g : Nat → Int32} {n k : Nat} (h : k < n) : va_cpy f g 0 0 n k = f k := by
  unfold va_cpy
  rw [if_pos (by omega)]
  congr 1
  omega
/-- a life's cells from L on hold what those from K on held -/
def zCopied (L K : Nat) (mi a : zFi) : Prop := (∀ q, q < L ∨ L + 11 ≤ q → a q = mi q) ∧ (∀ p, p < 3 → (∀ j, j < 70 → a (L + 2 + p) j = mi (K + 2 + p) j) ∧ ∀ j, j < 100 → a (L + 6 + p) j = mi (K + 6 + p) j) ∧ (∀ j, j < 100 → a (L + 9) j = mi (K + 9) j) ∧ ∀ j, j < 100 → a (L + 10) j = mi (K + 10) j
theorem zCopied.R {L K N Y : Nat} {mi a : zFi} {x : zSt} (h : zCopied L K mi a) (hN : N ≤ 3) (hY : Y < 100) (hR : zLifeR mi K N Y x) : zLifeR a L N Y x := by
  obtain ⟨h1, h2, h3, h4⟩ := h
  obtain ⟨r1, r2, r3, r4⟩ := hR
  refine ⟨fun p hp x g1 g2 => ?_, fun p hp y hy => ?_, fun y hy => ?_, fun y hy => ?_⟩
  · rw [(h2 p (by omega)).1 x (by omega)]; exact r1 p hp x g1 g2
  · rw [(h2 p (by omega)).2 y (by omega)]; exact r2 p hp y hy
  · rw [h3 y (by omega)]; exact r3 y hy
  · rw [h4 y (by omega)]; exact r4 y hy
set_option maxHeartbeats 4000000 in
set_option maxRecDepth 100000 in
theorem l_X2_copyFrom (G : zG) (d : Nat) (Q : zQ) {L K : Nat} {mi : zFi} {ml : zFl} {mr : zFr} (hL : zLife mr L) (hK : zLife mr K) (hLK : L + 11 ≤ K ∨ K + 11 ≤ L) : ∀ (k p : Nat) (m : zFi), p + k = 3 → ((∀ q, q < L ∨ L + 11 ≤ q → m q = mi q) ∧ ∀ j, j < p → (∀ i, i < 70 → m (L + 2 + j) i = mi (K + 2 + j) i) ∧ ∀ i, i < 100 → m (L + 6 + j) i = mi (K + 6 + j) i) → (∀ a, zCopied L K mi a → Q none a ml mr) → zE G (zRm (d + 1) 238 238) (zQm G 238 238 Q) yX2_copyFrom.cls yX2_copyFrom.name cX2_copyFrom 3 none 238 2 [.ref L, .ref K, .int (nI p)] [] 238 m ml mr := by
  intro k
  induction k with
  | zero =>
    intro p m h hI hQ
    have hl9 := hL.lt
    have hk9 := hK.lt
    refine e_iload_n 3 dX2_copyFrom_2 rfl rfl ?_
    refine e_iconst 4 hic_3 dX2_copyFrom_3 rfl ?_
    refine e_icmp_geN 51 7 dX2_copyFrom_4 (by decide) rfl (by omega) (by omega) (fun h4 => ?_) (fun h4 => ?_)
    · obtain rfl : p = 3 := by omega
      refine e_aload_n 52 dX2_copyFrom_51 rfl rfl ?_
      refine e_getr 55 dX2_copyFrom_52 lf_X2_19 rfl rfl hK.k0 hK.l0 hK.r2 ?_
      refine e_iconst 56 hic_0 dX2_copyFrom_55 rfl ?_
      refine e_aload_n 57 dX2_copyFrom_56 rfl rfl ?_
      refine e_getr 60 dX2_copyFrom_57 lf_X2_19 rfl rfl hL.k0 hL.l0 hL.r2 ?_
      refine e_iconst 61 hic_0 dX2_copyFrom_60 rfl ?_
      refine e_bipush 63 hbi_100 dX2_copyFrom_61 rfl ?_
      refine e_copy 66 dX2_copyFrom_63 lcp_X2 lnat lsta ln_J10 rfl hK.k9 hL.k9 hK.l9 hL.l9 rfl rfl rfl (by have := hK.n9 (y := 99) (by decide); omega) (by have := hL.n9 (y := 99) (by decide); omega) (Nat.le_of_ble_eq_true rfl) (Nat.le_of_ble_eq_true rfl) ?_
      refine e_aload_n 67 dX2_copyFrom_66 rfl rfl ?_
      refine e_getr 70 dX2_copyFrom_67 lf_X2_23 rfl rfl hK.k0 hK.l0 hK.r3 ?_
      refine e_iconst 71 hic_0 dX2_copyFrom_70 rfl ?_
      refine e_aload_n 72 dX2_copyFrom_71 rfl rfl ?_
      refine e_getr 75 dX2_copyFrom_72 lf_X2_23 rfl rfl hL.k0 hL.l0 hL.r3 ?_
      refine e_iconst 76 hic_0 dX2_copyFrom_75 rfl ?_
      refine e_bipush 78 hbi_100 dX2_copyFrom_76 rfl ?_
      refine e_copy 81 dX2_copyFrom_78 lcp_X2 lnat lsta ln_J10 rfl hK.k10 hL.k10 hK.l10 hL.l10 rfl rfl rfl (by have := hK.n10 (y := 99) (by decide); omega) (by have := hL.n10 (y := 99) (by decide); omega) (Nat.le_of_ble_eq_true rfl) (Nat.le_of_ble_eq_true rfl) ?_
      refine e_vreturn dX2_copyFrom_81 rfl ?_
      refine hQ _ ⟨fun q hq => ?_, fun j hj => ⟨fun i hi => ?_, fun i hi => ?_⟩, fun i hi => ?_, fun i hi => ?_⟩
      · rw [zu_n _ _ (by omega), zu_n _ _ (by omega)]; exact hI.1 q hq
      · rw [zu_n _ _ (by omega), zu_n _ _ (by omega)]; exact (hI.2 j (by omega)).1 i hi
      · rw [zu_n _ _ (by omega), zu_n _ _ (by omega)]; exact (hI.2 j (by omega)).2 i hi
      · rw [zu_n _ _ (by omega), zu_s, va_cpy_all hi, hI.1 _ (by omega)]
      · rw [zu_s, va_cpy_all hi, zu_n _ _ (by omega), hI.1 _ (by omega)]
    · exact absurd h4 (by omega)
  | succ k ih =>
    intro p m h hI hQ
    have hl9 := hL.lt
    have hk9 := hK.lt
    refine e_iload_n 3 dX2_copyFrom_2 rfl rfl ?_
    refine e_iconst 4 hic_3 dX2_copyFrom_3 rfl ?_
    refine e_icmp_geN 51 7 dX2_copyFrom_4 (by decide) rfl (by omega) (by omega) (fun h4 => ?_) (fun h4 => ?_)
    · exact absurd h4 (by omega)
    · refine e_aload_n 8 dX2_copyFrom_7 rfl rfl ?_
      refine e_getr 11 dX2_copyFrom_8 lf_X2_11 rfl rfl hK.k0 hK.l0 hK.r0 ?_
      refine e_iload_n 12 dX2_copyFrom_11 rfl rfl ?_
      refine e_aald 13 dX2_copyFrom_12 rfl hK.k1 hK.l1 rfl (hK.n1 (by omega)) (hK.sh (by omega)) ?_
      refine e_iconst 14 hic_0 dX2_copyFrom_13 rfl ?_
      refine e_aload_n 15 dX2_copyFrom_14 rfl rfl ?_
      refine e_getr 18 dX2_copyFrom_15 lf_X2_11 rfl rfl hL.k0 hL.l0 hL.r0 ?_
      refine e_iload_n 19 dX2_copyFrom_18 rfl rfl ?_
      refine e_aald 20 dX2_copyFrom_19 rfl hL.k1 hL.l1 rfl (hL.n1 (by omega)) (hL.sh (by omega)) ?_
      refine e_iconst 21 hic_0 dX2_copyFrom_20 rfl ?_
      refine e_bipush 23 hbi_70 dX2_copyFrom_21 rfl ?_
      refine e_copy 26 dX2_copyFrom_23 lcp_X2 lnat lsta ln_J10 rfl (hK.ks (by omega)) (hL.ks (by omega)) (hK.ls (by omega)) (hL.ls (by omega)) rfl rfl rfl (by rw [hK.ns (by omega)]; decide) (by rw [hL.ns (by omega)]; decide) (Nat.le_of_ble_eq_true rfl) (Nat.le_of_ble_eq_true rfl) ?_
      refine e_aload_n 27 dX2_copyFrom_26 rfl rfl ?_
      refine e_getr 30 dX2_copyFrom_27 lf_X2_16 rfl rfl hK.k0 hK.l0 hK.r1 ?_
      refine e_iload_n 31 dX2_copyFrom_30 rfl rfl ?_
      refine e_aald 32 dX2_copyFrom_31 rfl hK.k5 hK.l5 rfl (hK.n5 (by omega)) (hK.yg (by omega)) ?_
      refine e_iconst 33 hic_0 dX2_copyFrom_32 rfl ?_
      refine e_aload_n 34 dX2_copyFrom_33 rfl rfl ?_
      refine e_getr 37 dX2_copyFrom_34 lf_X2_16 rfl rfl hL.k0 hL.l0 hL.r1 ?_
      refine e_iload_n 38 dX2_copyFrom_37 rfl rfl ?_
      refine e_aald 39 dX2_copyFrom_38 rfl hL.k5 hL.l5 rfl (hL.n5 (by omega)) (hL.yg (by omega)) ?_
      refine e_iconst 40 hic_0 dX2_copyFrom_39 rfl ?_
      refine e_bipush 42 hbi_100 dX2_copyFrom_40 rfl ?_
      refine e_copy 45 dX2_copyFrom_42 lcp_X2 lnat lsta ln_J10 rfl (hK.ky (by omega)) (hL.ky (by omega)) (hK.ly (by omega)) (hL.ly (by omega)) rfl rfl rfl (by rw [hK.ny (by omega)]; decide) (by rw [hL.ny (by omega)]; decide) (Nat.le_of_ble_eq_true rfl) (Nat.le_of_ble_eq_true rfl) ?_
      refine e_iinc 48 dX2_copyFrom_45 rfl (by decide) rfl (z_inc hii_1) (zst1_2 rfl) ?_
      refine e_goto 2 dX2_copyFrom_48 (by decide) ?_
      refine ih (p + 1) _ (by omega) ⟨fun q hq => ?_, fun j hj => ?_⟩ hQ
      · rw [zu_n _ _ (by omega), zu_n _ _ (by omega)]; exact hI.1 q hq
      · by_cases e : j = p
        · subst e
          refine ⟨fun i hi => ?_, fun i hi => ?_⟩
          · rw [zu_n _ _ (by omega), zu_s, va_cpy_all hi, hI.1 _ (by omega)]
          · rw [zu_s, va_cpy_all hi, zu_n _ _ (by omega), hI.1 _ (by omega)]
        · refine ⟨fun i hi => ?_, fun i hi => ?_⟩
          · rw [zu_n _ _ (by omega), zu_n _ _ (by omega)]; exact (hI.2 j (by omega)).1 i hi
          · rw [zu_n _ _ (by omega), zu_n _ _ (by omega)]; exact (hI.2 j (by omega)).2 i hi
set_option maxHeartbeats 4000000 in
set_option maxRecDepth 100000 in
theorem k_X2_copyFrom (G : zG) {L K : Nat} {mi : zFi} {ml : zFl} {mr : zFr} (hL : zLife mr L) (hK : zLife mr K) (hLK : L + 11 ≤ K ∨ K + 11 ≤ L) : zMet G 1 yX2_copyFrom cX2_copyFrom 3 none [.ref L, .ref K] 238 mi ml mr 238 (zPv fun a b c => zCopied L K mi a ∧ b = ml ∧ c = mr) := by
  refine z_intro ([.ref L, .ref K, zx]) (by decide) rfl (Nat.le_of_ble_eq_true rfl) ?_
  refine e_iconst 1 hic_0 dX2_copyFrom_0 rfl ?_
  refine e_istore_n 2 dX2_copyFrom_1 rfl (by decide) (zst1_2 rfl) ?_
  exact l_X2_copyFrom G _ _ hL hK hLK 3 0 mi (by omega) ⟨fun _ _ => rfl, fun j hj => absurd hj (Nat.not_lt_zero _)⟩ (fun a h => ⟨rfl, h, rfl, rfl⟩)

def zSongAdd (S : zLd) (y w p g : Nat) : zLd := fun k => if k = 0 then zu (S 0) 0 (S 0 0 + 1) else if k = 1 then zu (S 1) (S 0 0) y else if k = 2 then zu (S 2) (S 0 0) w else if k = 3 then zu (S 3) (S 0 0) p else zu (S k) (S 0 0) g
def zOnlyB (B n : Nat) (mi a : zFi) : Prop := ∀ q, q < B ∨ B + n ≤ q → a q = mi q
set_option maxHeartbeats 4000000 in
set_option maxRecDepth 100000 in
theorem k_X5_add (G : zG) {B y w p g : Nat} {S : zLd} {mi : zFi} {ml : zFl} {mr : zFr} (hB : zSongL mr B) (hSg : zSongR mi B S) (hn : S 0 0 < 10) : zMet G 0 yX5_add cX5_add 5 none [.ref B, .int (nI y), .int (nI w), .int (nI p), .int (nI g)] 238 mi ml mr 238 (zPv fun a b c => zOnlyB B 5 mi a ∧ zSongR a B (zSongAdd S y w p g) ∧ b = ml ∧ c = mr) := by
  refine z_intro ([.ref B, .int (nI y), .int (nI w), .int (nI p), .int (nI g)]) (by decide) rfl (Nat.le_of_ble_eq_true rfl) ?_
  refine e_aload_n 1 dX5_add_0 rfl rfl ?_
  refine e_getr 4 dX5_add_1 lf_X5_9 rfl rfl hB.k0 hB.l0 hB.r1 ?_
  refine e_aload_n 5 dX5_add_4 rfl rfl ?_
  refine e_geti 8 dX5_add_5 lf_X5_24 rfl rfl hB.k0 hB.l0 hSg.1 ?_
  refine e_iload_n 9 dX5_add_8 rfl rfl ?_
  refine e_iast 10 dX5_add_9 rfl (hB.k (j := 1) (by decide) (by decide)) (hB.l (j := 1) (by decide)) rfl (by rw [hB.n (j := 1) (by decide) (by decide)]; omega) ?_
  refine e_aload_n 11 dX5_add_10 rfl rfl ?_
  refine e_getr 14 dX5_add_11 lf_X5_15 rfl rfl hB.k0 hB.l0 hB.r2 ?_
  refine e_aload_n 15 dX5_add_14 rfl rfl ?_
  refine e_geti (v := nI (S 0 0)) 18 dX5_add_15 lf_X5_24 rfl rfl hB.k0 hB.l0 (by rw [zp_r _ _ _ (by omega)]; exact hSg.1) ?_
  refine e_iload_n 19 dX5_add_18 rfl rfl ?_
  refine e_iast 20 dX5_add_19 rfl (hB.k (j := 2) (by decide) (by decide)) (hB.l (j := 2) (by decide)) rfl (by rw [hB.n (j := 2) (by decide) (by decide)]; omega) ?_
  refine e_aload_n 21 dX5_add_20 rfl rfl ?_
  refine e_getr 24 dX5_add_21 lf_X5_18 rfl rfl hB.k0 hB.l0 hB.r3 ?_
  refine e_aload_n 25 dX5_add_24 rfl rfl ?_
  refine e_geti (v := nI (S 0 0)) 28 dX5_add_25 lf_X5_24 rfl rfl hB.k0 hB.l0 (by rw [zp_r _ _ _ (by omega), zp_r _ _ _ (by omega)]; exact hSg.1) ?_
  refine e_iload_n 29 dX5_add_28 rfl rfl ?_
  refine e_iast 30 dX5_add_29 rfl (hB.k (j := 3) (by decide) (by decide)) (hB.l (j := 3) (by decide)) rfl (by rw [hB.n (j := 3) (by decide) (by decide)]; omega) ?_
  refine e_aload_n 31 dX5_add_30 rfl rfl ?_
  refine e_getr 34 dX5_add_31 lf_X5_21 rfl rfl hB.k0 hB.l0 hB.r4 ?_
  refine e_aload_n 35 dX5_add_34 rfl rfl ?_
  refine e_geti (v := nI (S 0 0)) 38 dX5_add_35 lf_X5_24 rfl rfl hB.k0 hB.l0 (by rw [zp_r _ _ _ (by omega), zp_r _ _ _ (by omega), zp_r _ _ _ (by omega)]; exact hSg.1) ?_
  refine e_iload 40 dX5_add_38 rfl rfl ?_
  refine e_iast 41 dX5_add_40 rfl (hB.k (j := 4) (by decide) (by decide)) (hB.l (j := 4) (by decide)) rfl (by rw [hB.n (j := 4) (by decide) (by decide)]; omega) ?_
  refine e_aload_n 42 dX5_add_41 rfl rfl ?_
  refine e_dup 43 dX5_add_42 rfl rfl ?_
  refine e_geti (v := nI (S 0 0)) 46 dX5_add_43 lf_X5_24 rfl rfl hB.k0 hB.l0 (by rw [zp_r _ _ _ (by omega), zp_r _ _ _ (by omega), zp_r _ _ _ (by omega), zp_r _ _ _ (by omega)]; exact hSg.1) ?_
  refine e_iconst 47 hic_1 dX5_add_46 rfl ?_
  first | refine e_iaddN 48 dX5_add_47 rfl ?_ | refine e_iadd 48 dX5_add_47 rfl ?_
  refine e_puti 51 dX5_add_48 lf_X5_24 rfl rfl rfl rfl hB.k0 hB.l0 ?_
  refine e_vreturn dX5_add_51 rfl ?_
  refine ⟨rfl, fun q hq => ?_, ⟨?_, fun i hi => ?_⟩, rfl, rfl⟩
  · rw [zp_r _ _ _ (by omega), zp_r _ _ _ (by omega), zp_r _ _ _ (by omega), zp_r _ _ _ (by omega), zp_r _ _ _ (by omega)]
  · rw [zp_s]; rfl
  · have hi2 : i < S 0 0 + 1 := hi
    have e1 : ∀ j, 1 ≤ j → j < 5 → ∀ z : zFi, zp z B 0 (nI (S 0 0 + 1)) (B + j) i = z (B + j) i := fun j h1 h2 z => by rw [zp_r _ _ _ (by omega)]
    rw [e1 1 (by decide) (by decide), e1 2 (by decide) (by decide), e1 3 (by decide) (by decide), e1 4 (by decide) (by decide)]
    by_cases e : i = S 0 0
    · subst e
      refine ⟨?_, ?_, ?_, ?_⟩
      · rw [zp_r _ _ _ (by omega), zp_r _ _ _ (by omega), zp_r _ _ _ (by omega), zp_s]; simp [zSongAdd, zu]
      · rw [zp_r _ _ _ (by omega), zp_r _ _ _ (by omega), zp_s]; simp [zSongAdd, zu]
      · rw [zp_r _ _ _ (by omega), zp_s]; simp [zSongAdd, zu]
      · rw [zp_s]; simp [zSongAdd, zu]
    · have h4 := hSg.2 i (by omega)
      rw [zp_k _ _ e, zp_k _ _ e, zp_k _ _ e, zp_k _ _ e, zp_k _ _ e, zp_k _ _ e, zp_k _ _ e, zp_k _ _ e, zp_k _ _ e, zp_k _ _ e, zp_k _ _ e, zp_k _ _ e, zp_k _ _ e, zp_k _ _ e, zp_k _ _ e, zp_k _ _ e]
      simpa [zSongAdd, zu, e] using h4

set_option maxHeartbeats 4000000 in
set_option maxRecDepth 100000 in
theorem k_X5_copyFrom (G : zG) {B E : Nat} {S : zLd} {mi : zFi} {ml : zFl} {mr : zFr} (hB : zSongL mr B) (hE : zSongL mr E) (hSg : zSongR mi E S) (hn : S 0 0 ≤ 10) (hBE : B + 5 ≤ E ∨ E + 5 ≤ B) : zMet G 1 yX5_copyFrom cX5_copyFrom 2 none [.ref B, .ref E] 238 mi ml mr 238 (zPv fun a b c => zOnlyB B 5 mi a ∧ zSongR a B S ∧ b = ml ∧ c = mr) := by
  refine z_intro ([.ref B, .ref E]) (by decide) rfl (Nat.le_of_ble_eq_true rfl) ?_
  refine e_aload_n 1 dX5_copyFrom_0 rfl rfl ?_
  refine e_aload_n 2 dX5_copyFrom_1 rfl rfl ?_
  refine e_geti 5 dX5_copyFrom_2 lf_X5_24 rfl rfl hE.k0 hE.l0 hSg.1 ?_
  refine e_puti 8 dX5_copyFrom_5 lf_X5_24 rfl rfl rfl rfl hB.k0 hB.l0 ?_
  refine e_aload_n 9 dX5_copyFrom_8 rfl rfl ?_
  refine e_getr 12 dX5_copyFrom_9 lf_X5_9 rfl rfl hE.k0 hE.l0 hE.r1 ?_
  refine e_iconst 13 hic_0 dX5_copyFrom_12 rfl ?_
  refine e_aload_n 14 dX5_copyFrom_13 rfl rfl ?_
  refine e_getr 17 dX5_copyFrom_14 lf_X5_9 rfl rfl hB.k0 hB.l0 hB.r1 ?_
  refine e_iconst 18 hic_0 dX5_copyFrom_17 rfl ?_
  refine e_bipush 20 hbi_10 dX5_copyFrom_18 rfl ?_
  refine e_copy 23 dX5_copyFrom_20 lcp_X5 lnat lsta ln_J10 rfl (hE.k (j := 1) (by decide) (by decide)) (hB.k (j := 1) (by decide) (by decide)) (hE.l (j := 1) (by decide)) (hB.l (j := 1) (by decide)) rfl rfl rfl (by rw [hE.n (j := 1) (by decide) (by decide)]; decide) (by rw [hB.n (j := 1) (by decide) (by decide)]; decide) (Nat.le_of_ble_eq_true rfl) (Nat.le_of_ble_eq_true rfl) ?_
  refine e_aload_n 24 dX5_copyFrom_23 rfl rfl ?_
  refine e_getr 27 dX5_copyFrom_24 lf_X5_15 rfl rfl hE.k0 hE.l0 hE.r2 ?_
  refine e_iconst 28 hic_0 dX5_copyFrom_27 rfl ?_
  refine e_aload_n 29 dX5_copyFrom_28 rfl rfl ?_
  refine e_getr 32 dX5_copyFrom_29 lf_X5_15 rfl rfl hB.k0 hB.l0 hB.r2 ?_
  refine e_iconst 33 hic_0 dX5_copyFrom_32 rfl ?_
  refine e_bipush 35 hbi_10 dX5_copyFrom_33 rfl ?_
  refine e_copy 38 dX5_copyFrom_35 lcp_X5 lnat lsta ln_J10 rfl (hE.k (j := 2) (by decide) (by decide)) (hB.k (j := 2) (by decide) (by decide)) (hE.l (j := 2) (by decide)) (hB.l (j := 2) (by decide)) rfl rfl rfl (by rw [hE.n (j := 2) (by decide) (by decide)]; decide) (by rw [hB.n (j := 2) (by decide) (by decide)]; decide) (Nat.le_of_ble_eq_true rfl) (Nat.le_of_ble_eq_true rfl) ?_
  refine e_aload_n 39 dX5_copyFrom_38 rfl rfl ?_
  refine e_getr 42 dX5_copyFrom_39 lf_X5_18 rfl rfl hE.k0 hE.l0 hE.r3 ?_
  refine e_iconst 43 hic_0 dX5_copyFrom_42 rfl ?_
  refine e_aload_n 44 dX5_copyFrom_43 rfl rfl ?_
  refine e_getr 47 dX5_copyFrom_44 lf_X5_18 rfl rfl hB.k0 hB.l0 hB.r3 ?_
  refine e_iconst 48 hic_0 dX5_copyFrom_47 rfl ?_
  refine e_bipush 50 hbi_10 dX5_copyFrom_48 rfl ?_
  refine e_copy 53 dX5_copyFrom_50 lcp_X5 lnat lsta ln_J10 rfl (hE.k (j := 3) (by decide) (by decide)) (hB.k (j := 3) (by decide) (by decide)) (hE.l (j := 3) (by decide)) (hB.l (j := 3) (by decide)) rfl rfl rfl (by rw [hE.n (j := 3) (by decide) (by decide)]; decide) (by rw [hB.n (j := 3) (by decide) (by decide)]; decide) (Nat.le_of_ble_eq_true rfl) (Nat.le_of_ble_eq_true rfl) ?_
  refine e_aload_n 54 dX5_copyFrom_53 rfl rfl ?_
  refine e_getr 57 dX5_copyFrom_54 lf_X5_21 rfl rfl hE.k0 hE.l0 hE.r4 ?_
  refine e_iconst 58 hic_0 dX5_copyFrom_57 rfl ?_
  refine e_aload_n 59 dX5_copyFrom_58 rfl rfl ?_
  refine e_getr 62 dX5_copyFrom_59 lf_X5_21 rfl rfl hB.k0 hB.l0 hB.r4 ?_
  refine e_iconst 63 hic_0 dX5_copyFrom_62 rfl ?_
  refine e_bipush 65 hbi_10 dX5_copyFrom_63 rfl ?_
  refine e_copy 68 dX5_copyFrom_65 lcp_X5 lnat lsta ln_J10 rfl (hE.k (j := 4) (by decide) (by decide)) (hB.k (j := 4) (by decide) (by decide)) (hE.l (j := 4) (by decide)) (hB.l (j := 4) (by decide)) rfl rfl rfl (by rw [hE.n (j := 4) (by decide) (by decide)]; decide) (by rw [hB.n (j := 4) (by decide) (by decide)]; decide) (Nat.le_of_ble_eq_true rfl) (Nat.le_of_ble_eq_true rfl) ?_
  refine e_vreturn dX5_copyFrom_68 rfl ?_
  refine ⟨rfl, fun q hq => ?_, ⟨?_, fun i hi => ?_⟩, rfl, rfl⟩
  · rw [zu_n _ _ (by omega), zu_n _ _ (by omega), zu_n _ _ (by omega), zu_n _ _ (by omega), zp_r _ _ _ (by omega)]
  · rw [zu_n _ _ (by omega), zu_n _ _ (by omega), zu_n _ _ (by omega), zu_n _ _ (by omega), zp_s]
  · have h4 := hSg.2 i hi
    have hi9 : i < 10 := by omega
    refine ⟨?_, ?_, ?_, ?_⟩
    · rw [zu_n _ _ (by omega), zu_n _ _ (by omega), zu_n _ _ (by omega), zu_s, va_cpy_all hi9, zp_r _ _ _ (by omega)]; exact h4.1
    · rw [zu_n _ _ (by omega), zu_n _ _ (by omega), zu_s, va_cpy_all hi9, zu_n _ _ (by omega), zp_r _ _ _ (by omega)]; exact h4.2.1
    · rw [zu_n _ _ (by omega), zu_s, va_cpy_all hi9, zu_n _ _ (by omega), zu_n _ _ (by omega), zp_r _ _ _ (by omega)]; exact h4.2.2.1
    · rw [zu_s, va_cpy_all hi9, zu_n _ _ (by omega), zu_n _ _ (by omega), zu_n _ _ (by omega), zp_r _ _ _ (by omega)]; exact h4.2.2.2

