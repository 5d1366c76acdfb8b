theorem zsum_a2 (f g : Nat → Nat) : ∀ (k a : Nat), zsum (fun x => f x + g x) a k = zsum f a k + zsum g a k
  | 0, _ => rfl
  | k + 1, a => by
    show f a + g a + zsum (fun x => f x + g x) (a + 1) k = f a + zsum f (a + 1) k + (g a + zsum g (a + 1) k)
    rw [zsum_a2 f g k (a + 1)]
    omega
theorem zsum_0 : ∀ (k a : Nat), zsum (fun _ => 0) a k = 0
  | 0, _ => rfl
  | k + 1, a => by
    show 0 + zsum (fun _ => 0) (a + 1) k = 0
    rw [zsum_0 k (a + 1)]
theorem zsum_swap (g : Nat → Nat → Nat) (a k : Nat) : ∀ (n p : Nat), zsum (fun p => zsum (fun x => g x p) a k) p n = zsum (fun x => zsum (fun p => g x p) p n) a k
  | 0, p => (zsum_0 k a).symm
  | n + 1, p => by
    show zsum (fun x => g x p) a k + zsum (fun p => zsum (fun x => g x p) a k) (p + 1) n = zsum (fun x => g x p + zsum (fun p => g x p) (p + 1) n) a k
    rw [zsum_swap g a k n (p + 1), zsum_a2]
set_option maxHeartbeats 4000000 in
set_option maxRecDepth 100000 in
theorem m_X8_weights (G : zG) (d : Nat) (Q : zQ) {D E : Nat} {Λ : zLd} {m : zMo} {mi : zFi} {ml : zFl} {mr : zFr} (hr : zRf mr D E) (hd : zYd mi Λ) (hW : zLandW Λ) (hs : zYs (mi 225) Λ m) (hmw : zMoW Λ m) {on nt : Int32} {a b : Nat} (ha : 10 ≤ a) (hb : b ≤ 69) {p : Nat} (hp : p < Λ 0 0) : ∀ (k x s : Nat), a ≤ x → x + k = b + 1 → zE G (zRm (d + 2) 238 238) (zQm G 238 238 Q) yX8_weights.cls yX8_weights.name cX8_weights 9 (some .long) 238 46 [.ref 224, .int on, .int nt, .int (nI a), .int (nI b), .long (lN (s + zsum (fun x => zWa Λ m on nt x p) x k)), zx, .int (nI p), .int (nI (b + 1))] [] 238 mi ml mr → zE G (zRm (d + 2) 238 238) (zQm G 238 238 Q) yX8_weights.cls yX8_weights.name cX8_weights 9 (some .long) 238 18 [.ref 224, .int on, .int nt, .int (nI a), .int (nI b), .long (lN s), zx, .int (nI p), .int (nI x)] [] 238 mi ml mr := by
  intro k
  induction k with
  | zero =>
    intro x s hx h hQ
    have hP3 := hW.1.1
    refine e_iload 20 dX8_weights_18 rfl rfl ?_
    refine e_iload 22 dX8_weights_20 rfl rfl ?_
    refine e_icmp_gtN 46 25 dX8_weights_22 (by decide) rfl (by omega) (by omega) (fun h22 => ?_) (fun h22 => ?_)
    · have e : x = b + 1 := by omega
      subst e
      exact hQ
    · exact absurd h22 (by omega)
  | succ k ih =>
    intro x s hx h hQ
    have hP3 := hW.1.1
    rw [show s + zsum (fun x => zWa Λ m on nt x p) x (k + 1) = s + zWa Λ m on nt x p + zsum (fun x => zWa Λ m on nt x p) (x + 1) k from by show s + (zWa Λ m on nt x p + _) = _; rw [Nat.add_assoc]] at hQ
    refine e_iload 20 dX8_weights_18 rfl rfl ?_
    refine e_iload 22 dX8_weights_20 rfl rfl ?_
    refine e_icmp_gtN 46 25 dX8_weights_22 (by decide) rfl (by omega) (by omega) (fun h22 => ?_) (fun h22 => ?_)
    · exact absurd h22 (by omega)
    · refine e_lload 27 dX8_weights_25 rfl rfl ?_
      refine e_aload_n 28 dX8_weights_27 rfl rfl ?_
      refine e_iload_n 29 dX8_weights_28 rfl rfl ?_
      refine e_iload_n 30 dX8_weights_29 rfl rfl ?_
      refine e_iload 32 dX8_weights_30 rfl rfl ?_
      refine e_iload 34 dX8_weights_32 rfl rfl ?_
      refine c_Vql 37 (ci := 8) dX8_weights_34 (k_X8_weight G hr hd hW (by omega) (by omega) hp (fun w hw => (hs.2.2.2 w hw).1 p hp x (by omega) (by omega)) (fun w hw => (hmw.2.2 w hw).1.1 p hp x (by omega) (by omega))) lm_X8_212 zi_yX8_weight zs_yX8_weight rfl rfl (by decide) rfl rfl rfl (Nat.le_of_ble_eq_true rfl) (Nat.le_of_ble_eq_true rfl) (Nat.le_of_ble_eq_true rfl) (by exact Nat.le_refl _) (by exact Nat.le_refl _) ?_
      refine e_ladd 38 dX8_weights_37 rfl ?_
      rw [lN_add]
      refine e_lstore 40 dX8_weights_38 rfl (by decide) (zst2_5 rfl) ?_
      refine e_iinc 43 dX8_weights_40 rfl (by decide) rfl (z_inc hii_1) (zst1_8 rfl) ?_
      refine e_goto 18 dX8_weights_43 (by decide) ?_
      exact ih (x + 1) _ (by omega) (by omega) hQ
set_option maxHeartbeats 4000000 in
set_option maxRecDepth 100000 in
theorem l_X8_weights (G : zG) (d : Nat) (Q : zQ) {D E : Nat} {Λ : zLd} {m : zMo} {mi : zFi} {ml : zFl} {mr : zFr} (hr : zRf mr D E) (hd : zYd mi Λ) (hW : zLandW Λ) (hs : zYs (mi 225) Λ m) (hmw : zMoW Λ m) {on nt : Int32} {a b : Nat} (ha : 10 ≤ a) (hb : b ≤ 69) (hab : a ≤ b + 1) : ∀ (k p s : Nat) (v8 : Value), p + k = Λ 0 0 → Q (some (.long (lN (s + zsum (fun p => zsum (fun x => zWa Λ m on nt x p) a (b + 1 - a)) p k)))) mi ml mr → zE G (zRm (d + 2) 238 238) (zQm G 238 238 Q) yX8_weights.cls yX8_weights.name cX8_weights 9 (some .long) 238 6 [.ref 224, .int on, .int nt, .int (nI a), .int (nI b), .long (lN s), zx, .int (nI p), v8] [] 238 mi ml mr := by
  intro k
  induction k with
  | zero =>
    intro p s v8 h hQ
    have hP3 := hW.1.1
    refine e_iload 8 dX8_weights_6 rfl rfl ?_
    refine e_aload_n 9 dX8_weights_8 rfl rfl ?_
    refine e_geti 12 dX8_weights_9 lf_X8_138 rfl rfl rfl (by decide) hd.1.1 ?_
    refine e_icmp_geN 52 15 dX8_weights_12 (by decide) rfl (by omega) (by omega) (fun h12 => ?_) (fun h12 => ?_)
    · refine e_lload 54 dX8_weights_52 rfl rfl ?_
      refine e_lreturn dX8_weights_54 rfl ?_
      exact hQ
    · exact absurd h12 (by omega)
  | succ k ih =>
    intro p s v8 h hQ
    have hP3 := hW.1.1
    rw [show s + zsum (fun p => zsum (fun x => zWa Λ m on nt x p) a (b + 1 - a)) p (k + 1) = s + zsum (fun x => zWa Λ m on nt x p) a (b + 1 - a) + zsum (fun p => zsum (fun x => zWa Λ m on nt x p) a (b + 1 - a)) (p + 1) k from by show s + (_ + _) = _; rw [Nat.add_assoc]] at hQ
    refine e_iload 8 dX8_weights_6 rfl rfl ?_
    refine e_aload_n 9 dX8_weights_8 rfl rfl ?_
    refine e_geti 12 dX8_weights_9 lf_X8_138 rfl rfl rfl (by decide) hd.1.1 ?_
    refine e_icmp_geN 52 15 dX8_weights_12 (by decide) rfl (by omega) (by omega) (fun h12 => ?_) (fun h12 => ?_)
    · exact absurd h12 (by omega)
    · refine e_iload_n 16 dX8_weights_15 rfl rfl ?_
      refine e_istore 18 dX8_weights_16 rfl (by decide) (zst1_8 rfl) ?_
      refine m_X8_weights G d Q hr hd hW hs hmw ha hb h12 (b + 1 - a) a s (Nat.le_refl _) (by omega) ?_
      refine e_iinc 49 dX8_weights_46 rfl (by decide) rfl (z_inc hii_1) (zst1_7 rfl) ?_
      refine e_goto 6 dX8_weights_49 (by decide) ?_
      exact ih (p + 1) _ _ (by omega) hQ
set_option maxHeartbeats 4000000 in
set_option maxRecDepth 100000 in
theorem k_X8_weights (G : zG) {D E : Nat} {Λ : zLd} {m : zMo} {mi : zFi} {ml : zFl} {mr : zFr} (hr : zRf mr D E) (hd : zYd mi Λ) (hW : zLandW Λ) (hs : zYs (mi 225) Λ m) (hmw : zMoW Λ m) {on nt : Int32} {a b : Nat} (ha : 10 ≤ a) (hb : b ≤ 69) (hab : a ≤ b + 1) : zMet G 2 yX8_weights cX8_weights 9 (some .long) [.ref 224, .int on, .int nt, .int (nI a), .int (nI b)] 238 mi ml mr 238 (zPq (some (.long (lN (zWs9 Λ m on nt a b)))) mi ml mr) := by
  refine z_intro ([.ref 224, .int on, .int nt, .int (nI a), .int (nI b), zx, zx, zx, zx]) (by decide) rfl (Nat.le_of_ble_eq_true rfl) ?_
  refine e_lconst 1 (v := lN 0) rfl dX8_weights_0 rfl ?_
  refine e_lstore 3 dX8_weights_1 rfl (by decide) (zst2_5 rfl) ?_
  refine e_iconst 4 hic_0 dX8_weights_3 rfl ?_
  refine e_istore 6 dX8_weights_4 rfl (by decide) (zst1_7 rfl) ?_
  exact l_X8_weights G 0 _ hr hd hW hs hmw ha hb hab (Λ 0 0) 0 0 _ (by omega) ⟨by rw [Nat.zero_add, zsum_swap (fun x p => zWa Λ m on nt x p)]; rfl, rfl, rfl, rfl⟩

