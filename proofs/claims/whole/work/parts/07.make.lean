/-! ===== BEGIN new T[n][m]: the outer array a place, the inner ones among the pooled ===== -/
/-- f, but v at every address of l -/
def vr_up {α : Type} (f : Nat → α) (l : List Nat) (v : α) : Nat → α := fun a => if a ∈ l then v else f a
theorem vr_up_in {α : Type} {f : Nat → α} {l : List Nat} {v : α} {a : Nat} (h : a ∈ l) : vr_up f l v a = v := if_pos h
theorem vr_up_ne {α : Type} {f : Nat → α} {l : List Nat} {v : α} {a : Nat} (h : a ∉ l) : vr_up f l v a = f a := if_neg h
theorem vr_rows {L l : List Nat} {f : Nat → va_E} {e : va_E} (h : ∀ a, a ∈ l → a ∉ L) : va_pl L f ++ l.map (fun a => (a, e)) = va_pl (L ++ l) (vr_up f l e) := by
  unfold va_pl
  rw [List.map_append]
  congr 1
  · apply List.map_congr_left
    intro a ha
    rw [vr_up_ne (fun q => h a q ha)]
  · apply List.map_congr_left
    intro a ha
    rw [vr_up_in ha]
theorem vr_lay {X rows : va_W} {x : Nat × va_E} {pl : va_W} {D : va_G} {cl : List vw_C} {H : Heap} (hP : va_P D cl (((X ++ pl) ++ [x]) ++ rows) H) : va_P D cl ((X ++ [x]) ++ (pl ++ rows)) H := by
  rw [List.append_assoc (X ++ pl)] at hP
  have h := va_P.swap hP
  rw [← List.append_assoc X] at h
  have h2 := va_P.swap h
  rw [List.append_assoc (X ++ [x])] at h2
  exact h2
theorem vr_layD {X rows : va_W} {x : Nat × va_E} {pl : va_W} {A : Nat → Prop} (hD : va_D A (((X ++ pl) ++ [x]) ++ rows)) : va_D A ((X ++ [x]) ++ (pl ++ rows)) := by
  rw [List.append_assoc (X ++ pl)] at hD
  have h := va_D.swap hD
  rw [← List.append_assoc X] at h
  have h2 := va_D.swap h
  rw [List.append_assoc (X ++ [x])] at h2
  exact h2
theorem vr_outer (c : ClassId) (N h0 : Nat) : ∀ i : Nat, Jvm.Free.Multi.outerC c N h0 i = arrV c N (fun j => va_rf (if j < i then some (h0 + 1 + j) else none))
  | 0 => by
    show ({ cls := c, slots := Array.replicate N .null, vm := .none } : Cell) = _
    rw [arrV_new]
    refine congrArg (arrV c N) (funext fun j => ?_)
    simp [va_rf]
  | i + 1 => by
    show (Jvm.Free.Multi.outerC c N h0 i).setSlot i (.ref (h0 + 1 + i)) = _
    rw [vr_outer c N h0 i, arrV_store]
    refine congrArg (arrV c N) (funext fun j => ?_)
    by_cases e : j = i
    · subst e
      simp [updV, va_rf]
    · by_cases h : j < i
      · simp [updV, e, h, Nat.lt_succ_of_lt h]
      · simp [updV, e, h, show ¬ j < i + 1 by omega]
section VGM
variable {p : Program} {l : Launch} {e : Env} {R : Room} {s : State} {m : MethodId} {args : Array Value} {below : List Frame} {meth : Method} {c : Code} {H : Heap} {locs : List Loc} {cells slots : Nat} {Q : State → Prop}
variable {cc : ByteArray} {pc : Nat} {ls : Array Slot} {rest : List Value} {D : va_G} {cl : List vw_C} {A : Nat → Prop} {a : Nat} {tys : List (ClassId × FieldType)} {ws : va_W} {H0 : Heap}
theorem va_mna2 {X : va_W} {L : List Nat} {f : Nat → va_E} {cc : ByteArray} (hexec : p.tables.exec = Jvm.exec) (hb : c.code = cc) {own : String} {index : Nat} {ty : FieldType} {cy : ClassId} (hown : s.vm.findClass own = some m.cls) (hclink : (Cond.classLink own index ("[" ++ (FieldType.array ty).toString)).before args s = true) (hover : (Cond.arrayOver (.array ty)).before args s = true) (harr : (Cond.arrayClass ty).before args s = true) (hcy : s.vm.findClass (FieldType.array ty).toString = some cy)
    (hK : va_K D cl tys s) (hP : va_P D cl (X ++ va_pl L f) H) (hD : va_D A (X ++ va_pl L f)) (hS : va_S A H0 H locs) (hA : ∀ q, H0.size ≤ q → A q) {n k : Int32} {N' K' : Nat} {z : vp_A} (hn : ¬ n < 0) (hk : ¬ k < 0) (hN : n.toNatClampNeg = N') (hM : k.toNatClampNeg = K')
    (hb1 : N' * 4 ≤ 536870912) (hb2 : K' * componentBytes ty ≤ 536870912) (hb3 : K' ≤ 536870912) (hdf : fits ty (defaultValue ty) = true) (hdd : (defaultValue ty).isDefault = true) (hcells : cells + (1 + N') ≤ R.cells) (hslots : slots + (N' + N' * K') ≤ R.slots) (hz : ∀ c : ClassId, Jvm.Free.Multi.innerC c K' (defaultValue ty) = vp_cell c z) (hdg : decode cc pc = .ok (.multianewarray index 2, 4))
    (kk : ∀ (q : Nat) (r : Nat → Nat) (cA : ClassId) (H1 : Heap), q = H.size → (∀ i : Nat, r i = H.size + 1 + i) → (∀ i j : Nat, i < N' → j < N' → r i = r j → i = j) → (∀ i : Nat, i < N' → r i ∉ L) → va_K D cl (tys ++ [(cA, .array ty)]) s →
      va_P D cl ((X ++ [(q, .inl (cA, N', .inr (.inr (.inr (.inr (fun i => if i < N' then some (r i) else none))))))]) ++ va_pl (L ++ (List.range N').map r) (vr_up f ((List.range N').map r) (.inl (cy, z)))) H1 → va_D A ((X ++ [(q, .inl (cA, N', .inr (.inr (.inr (.inr (fun i => if i < N' then some (r i) else none))))))]) ++ va_pl (L ++ (List.range N').map r) (vr_up f ((List.range N').map r) (.inl (cy, z)))) → va_S A H0 H1 locs →
      W p l e R s m args below meth c H1 locs (cells + 1 + N') (slots + N' + N' * K') Q (F0 m (pc + 4) ls (.ref q :: rest))) : W p l e R s m args below meth c H locs cells slots Q (F0 m pc ls (.int k :: .int n :: rest)) := by
  subst hN
  subst hM
  intro T hT Xs
  obtain ⟨vm₁, cA, comp, -, fA, fC, hO, -, X', step⟩ := Xs.multianewarray2F hexec hown hclink hover harr (g := F0 m pc ls (.int k :: .int n :: rest)) rfl (by rw [hb]; exact hdg) rfl hn hk hb1 hb2 hb3 hdf hdd hcells hslots
  have ec : some cy = some comp := hcy.symm.trans fC
  cases ec
  generalize hF : Jvm.Free.Multi.fill (T.setVm vm₁) cA cy n.toNatClampNeg k.toNatClampNeg (defaultValue ty) n.toNatClampNeg = F at X' step
  have hTh : (T.setVm vm₁).heap = H := hT
  obtain ⟨f1, f2, -, -⟩ := Jvm.Free.Multi.fill_facts (T.setVm vm₁) cA cy n.toNatClampNeg k.toNatClampNeg (defaultValue ty) n.toNatClampNeg
  rw [hF, hTh] at f1 f2
  have hold : ∀ x : Nat, x < H.size → F.heap[x]? = H[x]? := fun x hx => by
    have := Jvm.Free.Multi.fill_old (T.setVm vm₁) cA cy n.toNatClampNeg k.toNatClampNeg (defaultValue ty) (a := x) (by rw [hTh]; exact hx) n.toNatClampNeg
    rw [hF, hTh] at this
    exact this
  have hrow : ∀ j : Nat, j < n.toNatClampNeg → F.heap[H.size + 1 + j]? = some (vp_cell cy z) := fun j hj => by
    have := Jvm.Free.Multi.fill_inner (T.setVm vm₁) cA cy n.toNatClampNeg k.toNatClampNeg (defaultValue ty) n.toNatClampNeg j hj
    rw [hF, hTh, hz] at this
    exact this
  have hout : Jvm.Free.Multi.outerC cA n.toNatClampNeg H.size n.toNatClampNeg = vp_cell cA (n.toNatClampNeg, .inr (.inr (.inr (.inr (fun i => if i < n.toNatClampNeg then some (H.size + 1 + i) else none))))) := by
    rw [vp_cell_q]
    exact vr_outer cA n.toNatClampNeg H.size n.toNatClampNeg
  rw [hout] at f2
  have hlt : ∀ a, a ∈ L → a < H.size := fun a ha => by
    obtain ⟨k9, hk9⟩ := va_pl_get (X := X) (f := f) ha
    exact (hP k9 _ hk9).lt
  have hnl : ∀ i : Nat, i < n.toNatClampNeg → H.size + 1 + i ∉ L := fun i _ h => by
    have := hlt _ h
    omega
  have hnm : ∀ a, a ∈ (List.range n.toNatClampNeg).map (fun i => H.size + 1 + i) → a ∉ L := fun a ha h => by
    obtain ⟨i, -, rfl⟩ := List.mem_map.mp ha
    have := hlt _ h
    omega
  have hP0 : va_P D cl (X ++ va_pl L f) F.heap := hP.kept (fun k9 x hx => hold x.1 ((hP k9 x hx).lt))
  have hP1 : va_P D cl ((X ++ va_pl L f) ++ [(H.size, .inl (cA, n.toNatClampNeg, .inr (.inr (.inr (.inr (fun i => if i < n.toNatClampNeg then some (H.size + 1 + i) else none))))))]) F.heap := hP0.app (fun k9 x hx => by
    have h0 : k9 < 1 := (List.getElem?_eq_some_iff.mp hx).1
    rw [show k9 = 0 by omega] at hx
    cases hx
    exact f2)
  have hP2 : va_P D cl (((X ++ va_pl L f) ++ [(H.size, .inl (cA, n.toNatClampNeg, .inr (.inr (.inr (.inr (fun i => if i < n.toNatClampNeg then some (H.size + 1 + i) else none))))))]) ++ ((List.range n.toNatClampNeg).map (fun i => H.size + 1 + i)).map (fun a => (a, .inl (cy, z)))) F.heap := hP1.app (fun k9 x hx => by
    obtain ⟨a, ha, rfl⟩ := List.mem_map.mp (List.mem_of_getElem? hx)
    obtain ⟨i, hi, rfl⟩ := List.mem_map.mp ha
    exact hrow i (List.mem_range.mp hi))
  have hD2 : va_D A (((X ++ va_pl L f) ++ [(H.size, .inl (cA, n.toNatClampNeg, .inr (.inr (.inr (.inr (fun i => if i < n.toNatClampNeg then some (H.size + 1 + i) else none))))))]) ++ ((List.range n.toNatClampNeg).map (fun i => H.size + 1 + i)).map (fun a => (a, .inl (cy, z)))) := by
    have hD1 := hD.push (e := .inl (cA, n.toNatClampNeg, .inr (.inr (.inr (.inr (fun i => if i < n.toNatClampNeg then some (H.size + 1 + i) else none)))))) hP rfl (hA _ hS.1)
    generalize hW1 : (X ++ va_pl L f) ++ [(H.size, .inl (cA, n.toNatClampNeg, .inr (.inr (.inr (.inr (fun i => if i < n.toNatClampNeg then some (H.size + 1 + i) else none))))))] = W1 at hD1 hP1 ⊢
    have hle : ∀ (k9 : Nat) (x : Nat × va_E), W1[k9]? = some x → x.1 ≤ H.size := fun k9 x hx => by
      rw [← hW1] at hx
      by_cases hl : k9 < (X ++ va_pl L f).length
      · rw [List.getElem?_append_left hl] at hx
        exact Nat.le_of_lt ((hP k9 x hx).lt)
      · rw [List.getElem?_append_right (by omega)] at hx
        have h0 : k9 - (X ++ va_pl L f).length < 1 := (List.getElem?_eq_some_iff.mp hx).1
        rw [show k9 - (X ++ va_pl L f).length = 0 by omega] at hx
        cases hx
        exact Nat.le_refl _
    have hr : ∀ (k9 : Nat) (x : Nat × va_E), (((List.range n.toNatClampNeg).map (fun i => H.size + 1 + i)).map (fun a => ((a, .inl (cy, z)) : Nat × va_E)))[k9]? = some x → x.1 = H.size + 1 + k9 := fun k9 x hx => by
      rw [List.getElem?_map, List.getElem?_map] at hx
      by_cases h9 : k9 < n.toNatClampNeg
      · rw [List.getElem?_range h9] at hx
        cases hx
        rfl
      · have hn0 : (List.range n.toNatClampNeg)[k9]? = none := List.getElem?_eq_none (by rw [List.length_range]; omega)
        rw [hn0] at hx
        cases hx
    refine ⟨fun i j x y hi hj hxy => ?_, fun k9 x hx => ?_⟩
    · by_cases h1 : i < W1.length <;> by_cases h2 : j < W1.length
      · rw [List.getElem?_append_left h1] at hi
        rw [List.getElem?_append_left h2] at hj
        exact hD1.1 i j x y hi hj hxy
      · rw [List.getElem?_append_left h1] at hi
        rw [List.getElem?_append_right (by omega)] at hj
        have := hle _ _ hi
        have := hr _ _ hj
        omega
      · rw [List.getElem?_append_right (by omega)] at hi
        rw [List.getElem?_append_left h2] at hj
        have := hle _ _ hj
        have := hr _ _ hi
        omega
      · rw [List.getElem?_append_right (by omega)] at hi hj
        have := hr _ _ hi
        have := hr _ _ hj
        omega
    · by_cases h1 : k9 < W1.length
      · rw [List.getElem?_append_left h1] at hx
        exact hD1.2 k9 x hx
      · rw [List.getElem?_append_right (by omega)] at hx
        have := hr _ _ hx
        exact hA _ (by have := hS.1; omega)
  have hAr : ArrOfT s cA (.array ty) := fun N9 z9 => by
    obtain ⟨-, k9, hk9, cm9, hkk9⟩ := (hO 0 0 0).1
    exact ⟨(fun q hq => by cases hq), k9, hk9, cm9, hkk9⟩
  have hK2 : va_K D cl (tys ++ [(cA, .array ty)]) s := ⟨hK.1, fun k9 x hx => by
    by_cases hl : k9 < tys.length
    · rw [List.getElem?_append_left hl] at hx
      exact hK.2 k9 x hx
    · rw [List.getElem?_append_right (by omega)] at hx
      have h0 : k9 - tys.length < 1 := (List.getElem?_eq_some_iff.mp hx).1
      rw [show k9 - tys.length = 0 by omega] at hx
      cases hx
      exact ⟨hAr, fA⟩⟩
  obtain ⟨t, a1, b1⟩ := kk H.size (fun i => H.size + 1 + i) cA F.heap rfl (fun _ => rfl) (fun i j _ _ h => by have h9 : H.size + 1 + i = H.size + 1 + j := h; omega) hnl hK2 (by rw [← vr_rows hnm]; exact vr_lay hP2) (by rw [← vr_rows hnm]; exact vr_layD hD2) ⟨by rw [f1]; have := hS.1; omega, fun x h1 h2 => (hold x (Nat.lt_of_lt_of_le h1 hS.1)).trans (hS.2.1 x h1 h2), hS.2.2⟩ F rfl X'
  refine ⟨t, step t ?_, b1⟩
  have e : T.heap.size = H.size := by rw [hT]
  rw [e]
  exact a1
end VGM
/-! ===== END ===== -/
/-! MAKING CELLS -/
theorem zRA_inj {U : State} {cA cB : ClassId} {ty : FieldType} (h1 : va_RA U cA ty) (h2 : va_RA U cB ty) : cA = cB := by
  cases ty with
  | object C =>
    obtain ⟨_, _, _, _, _, h1⟩ := h1
    obtain ⟨_, _, _, _, _, h2⟩ := h2
    exact Option.some.inj (h1.symm.trans h2)
  | _ => exact Option.some.inj (h1.symm.trans h2)
theorem zCy {D : va_G} {cl : List vw_C} {tys : List (ClassId × FieldType)} {U : State} {k : Nat} {c cA : ClassId} {ty : FieldType} (h : va_K D cl (tys ++ [(cA, ty)]) U) (hk : tys[k]? = some (c, ty)) : cA = c := by
  have h1 := (h.2 tys.length (cA, ty) (by rw [List.getElem?_append_right (Nat.le_refl _), Nat.sub_self]; rfl)).2
  have hl := (List.getElem?_eq_some_iff.mp hk).1
  have h2 := (h.2 k (c, ty) (by rw [List.getElem?_append_left hl]; exact hk)).2
  exact zRA_inj h1 h2
/-- how large the heap is -/
theorem zSize {G : zG} {n0 n : Nat} {mi : zFi} {ml : zFl} {mr : zFr} {own mn : String} {cc : ByteArray} {nL : Nat} {ret : Option FieldType} {p : Program} {e : Env} {R : Room} {s : State} {m : MethodId} {args : Array Value} {below : List Frame} {meth : Method} {c : Code} {H : Heap} {locs : List Loc} {T : State} {cells slots : Nat}
    (hC : zCx G own mn cc nL ret n0 p s m args meth c) (hR : zRl G n mi ml mr s H locs) (hn : n0 ≤ n) (hn1 : n ≤ 1000) (hT : T.heap = H) (hc : cells = n - n0) (X : Stand p G.1 e R s m args below meth c T locs cells slots) : H.size = G.2.2.2.2.1 + n := by
  obtain ⟨-, -, -, -, -, -, -, -, hsz, had, -⟩ := hC
  have h1 := X.heapSize
  rw [hT, hsz, hc] at h1
  have h2 := hR.1.1
  rw [hsz] at h2
  rcases Nat.eq_zero_or_pos n with h0 | h0
  · omega
  · have h3 := (hR.2.1 (n - 1) _ (zWs_get G mi ml mr (show n - 1 < n by omega))).lt
    have h4 := had (n - 1) (by omega)
    dsimp only at h3
    omega
theorem zFv_fresh {n : Nat} {mi : zFi} {ml : zFl} {mr : zFr} (h : zFresh n mi ml mr) (ad : Nat → Nat) {c k : Nat} {ty : FieldType} (hd : defaultValue ty = zFv (fun a => a) (zTyc ty) 0 0 none) (hk : k < zNf c) (hty : zTy c k = ty) : defaultValue ty = vp_V (zFs ad c (mi n) (ml n) (mr n)) k := by
  obtain ⟨h1, h2, h3⟩ := h n (Nat.le_refl n)
  rw [hd]
  unfold vp_V
  rw [List.getD_eq_getElem?_getD, zFs_get hk, h1, h2, h3, hty]
  rfl
theorem zFresh_next {n k : Nat} {mi : zFi} {ml : zFl} {mr : zFr} (h : zFresh n mi ml mr) : zFresh (n + k) mi ml mr := fun r hr => h r (by omega)
section ZMAKE
variable {G : zG} {R : Room} {QQ : zQQ} {own mn : String} {cc : ByteArray} {nL : Nat} {ret : Option FieldType} {n0 pc : Nat} {L st : List Value} {n : Nat} {mi : zFi} {ml : zFl} {mr : zFr}
/-- the new cell's address -/
theorem zNewAd {p : Program} {e : Env} {s : State} {m : MethodId} {args : Array Value} {below : List Frame} {meth : Method} {c : Code} {H1 : Heap} {locs : List Loc} {T : State} {cells slots q : Nat} {x : va_E} (hC : zCx G own mn cc nL ret n0 p s m args meth c) (hn : n0 ≤ n) (hn1 : n < 1000)
    (hP : va_P G.2.1 vwCl (zWs G n mi ml mr ++ [(q, x)]) H1) (hD : va_D (zA G) (zWs G n mi ml mr ++ [(q, x)])) (hT : T.heap = H1) (hc : cells = n + 1 - n0) (X : Stand p G.1 e R s m args below meth c T locs cells slots) : q = zad G n := by
  obtain ⟨-, -, -, -, -, -, -, -, hsz, had, -⟩ := hC
  have hlen := zWs_len G n mi ml mr
  have hq : (zWs G n mi ml mr ++ [(q, x)])[n]? = some (q, x) := by rw [List.getElem?_append_right (by omega), hlen, Nat.sub_self]; rfl
  have h1 := X.heapSize
  rw [hT, hsz, hc] at h1
  have h2 := (hP n _ hq).lt
  have h3 : G.2.2.2.2.1 ≤ q := hD.2 n _ hq
  dsimp only at h2
  rw [had n hn1]
  by_cases hlt : q < G.2.2.2.2.1 + n
  · have hi : q - G.2.2.2.2.1 < n := by omega
    have hg : (zWs G n mi ml mr ++ [(q, x)])[q - G.2.2.2.2.1]? = some (zad G (q - G.2.2.2.2.1), zEnt G (q - G.2.2.2.2.1) (mi (q - G.2.2.2.2.1)) (ml (q - G.2.2.2.2.1)) (mr (q - G.2.2.2.2.1))) := by
      rw [List.getElem?_append_left (by omega)]
      exact zWs_get G mi ml mr hi
    have := hD.1 n (q - G.2.2.2.2.1) _ _ hq hg (by dsimp only; rw [had _ (by omega)]; omega)
    omega
  · omega
theorem e_new (pc' : Nat) {idx ci : Nat} {C : String} {T : u_T} {N : Nat} (hd : decode cc pc = .ok (.new idx, 3)) (hcls : zCls ci C T N) (hw1 : Cond.classLink own idx C ∈ zT) (hw2 : Cond.instantiable C N ∈ zT) (hw3 : Cond.initialized C ∈ zT) (hp : pc + 3 = pc') (hk : zKD n = ci) (hn1 : n < 1000) (hc : n + 1 - n0 ≤ R.cells) (hs : zSl (n + 1) - zSl n0 ≤ R.slots)
    (kk : zE G R QQ own mn cc nL ret n0 pc' L (.ref n :: st) (n + 1) mi ml mr) : zE G R QQ own mn cc nL ret n0 pc L st n mi ml mr := by
  intro p e s m args below meth c H locs ls hC hR hL hn
  subst hp
  have hlt := hcls.lt
  obtain ⟨c1, c2, c3, c4, c5, c6, c7⟩ := hcls
  subst c2
  have hC0 := hC
  obtain ⟨hx, hb, hrt, hml, hown, hts, hlk, hmn, hsz, had, hns, hout⟩ := hC
  have hsl : zSl (n + 1) = zSl n + zNf ci := by show zSl n + zSz n = _; unfold zSz; rw [hk, if_pos hlt]
  have hle := zSl_le hn
  have e1 : n - n0 + 1 = n + 1 - n0 := by omega
  have e2 : zSl n - zSl n0 + zNf ci = zSl (n + 1) - zSl n0 := by omega
  refine va_new (D := G.2.1) (cl := vwCl) (tys := zTys G) (ci := ci) (fs := zFs (zad G) ci (mi n) (ml n) (mr n)) hx hb hts c3 (zTy ci) c4 hown (hts _ hw1) (hts _ hw2) (hts _ hw3) hR.2.2.2.1 hR.2.1 hR.2.2.1 hR.1 (fun q hq => by show _ ≤ q; omega) c1 (fun j hj => zFv_fresh hR.2.2.2.2 _ (c7 j hj) hj rfl) (by omega) (by omega) hd (fun q H1 hP hD hS => ?_)
  rw [e1, e2]
  intro T0 hT0 X
  have hq := zNewAd hC0 hn hn1 hP hD hT0 rfl X
  subst hq
  rw [← zEnt_obj (G := G) hk hlt, ← zWs_push] at hP hD
  exact kk p e s m args below meth c H1 locs ls hC0 ⟨hS, hP, hD, hR.2.2.2.1, zFresh_next hR.2.2.2.2⟩ hL (by omega) T0 hT0 X
theorem e_newarr (pc' : Nat) (kd : Nat) (ty : FieldType) {atype : ArrayType} {i : Int32} (hd : decode cc pc = .ok (.newarray atype, 2)) (hat : newarray.typeOf atype = ty) (htys : ∀ G : zG, (zTys G)[kd - 16]? = some (G.2.2.1 (kd - 16), ty)) (hdef : defaultValue ty = .int 0) (hbt : componentBytes ty ≤ 4) (hw : Cond.arrayClass ty ∈ zT) (hp : pc + 2 = pc') (hk1 : 16 ≤ kd) (hk2 : kd < 19) (hk : zKD n = kd) (hi : i = nI (zLN n)) (hn1 : n < 1000) (hc : n + 1 - n0 ≤ R.cells) (hs : zSl (n + 1) - zSl n0 ≤ R.slots)
    (kk : zE G R QQ own mn cc nL ret n0 pc' L (.ref n :: st) (n + 1) mi ml mr) : zE G R QQ own mn cc nL ret n0 pc L (.int i :: st) n mi ml mr := by
  intro p e s m args below meth c H locs ls hC hR hL hn
  subst hp
  subst hi
  have hb9 := zLN_le n
  have hC0 := hC
  obtain ⟨hx, hb, hrt, hml, hown, hts, hlk, hmn, hsz, had, hns, hout⟩ := hC
  have hsl : zSl (n + 1) = zSl n + zLN n := by show zSl n + zSz n = _; unfold zSz; rw [hk, if_neg (by omega)]
  have hle := zSl_le hn
  have e1 : n - n0 + 1 = n + 1 - n0 := by omega
  have e2 : zSl n - zSl n0 + zLN n = zSl (n + 1) - zSl n0 := by omega
  have hfr := hR.2.2.2.2 n (Nat.le_refl n)
  have hz : mi n = fun _ => 0 := funext hfr.1
  refine va_newa (D := G.2.1) (cl := vwCl) (tys := zTys G) (a0 := (zLN n, .inl (mi n))) (N' := zLN n) hx hb (by rw [hat]; exact hts _ hw) hat hR.2.2.2.1 hR.2.1 hR.2.2.1 hR.1 (fun q hq => by show _ ≤ q; omega) (fun cA => by rw [hz, hdef]; rfl) (nI_pos (by omega)) (nI_clamp (by omega)) (by have := Nat.mul_le_mul hb9 hbt; omega) (by omega) (by omega) hd (fun q cA H1 hK hP hD hS => ?_)
  have hcy := zCy hK (htys G)
  subst hcy
  rw [e1, e2]
  intro T0 hT0 X
  have hq := zNewAd hC0 hn hn1 hP hD hT0 rfl X
  subst hq
  rw [← zEnt_int (G := G) (fl := ml n) (fr := mr n) hk hk1 hk2, ← zWs_push] at hP hD
  exact kk p e s m args below meth c H1 locs ls hC0 ⟨hS, hP, hD, hR.2.2.2.1, zFresh_next hR.2.2.2.2⟩ hL (by omega) T0 hT0 X
theorem e_newq (pc' : Nat) (kd : Nat) (C : String) {idx : Nat} {i : Int32} (hd : decode cc pc = .ok (.anewarray idx, 3)) (htys : ∀ G : zG, (zTys G)[kd - 16]? = some (G.2.2.1 (kd - 16), .object C)) (hw : Cond.classLink own idx C ∈ zT) (hC9 : C = RX2 ∨ C = RX3) (hp : pc + 3 = pc') (hk1 : 19 ≤ kd) (hk : zKD n = kd) (hi : i = nI (zLN n)) (hn1 : n < 1000) (hc : n + 1 - n0 ≤ R.cells) (hs : zSl (n + 1) - zSl n0 ≤ R.slots)
    (kk : zE G R QQ own mn cc nL ret n0 pc' L (.ref n :: st) (n + 1) mi ml mr) : zE G R QQ own mn cc nL ret n0 pc L (.int i :: st) n mi ml mr := by
  intro p e s m args below meth c H locs ls hC hR hL hn
  subst hp
  subst hi
  have hb9 := zLN_le n
  have hC0 := hC
  obtain ⟨hx, hb, hrt, hml, hown, hts, hlk, hmn, hsz, had, hns, hout⟩ := hC
  have hsl : zSl (n + 1) = zSl n + zLN n := by show zSl n + zSz n = _; unfold zSz; rw [hk, if_neg (by omega)]
  have hle := zSl_le hn
  have e1 : n - n0 + 1 = n + 1 - n0 := by omega
  have e2 : zSl n - zSl n0 + zLN n = zSl (n + 1) - zSl n0 := by omega
  have hfr := hR.2.2.2.2 n (Nat.le_refl n)
  have hz : (fun j => (mr n j).map (zad G)) = fun _ => none := funext fun j => by rw [hfr.2.2 j]; rfl
  refine va_newq (D := G.2.1) (cl := vwCl) (tys := zTys G) (N' := zLN n) hx hb hown (hts _ hw) (by rcases hC9 with q9 | q9 <;> rw [q9] <;> first | exact hout.2.2.2.2.2.2.1 | exact hout.2.2.2.2.2.2.2.1) hR.2.2.2.1 hR.2.1 hR.2.2.1 hR.1 (fun q hq => by show _ ≤ q; omega) (nI_pos (by omega)) (nI_clamp (by omega)) (by omega) (by omega) (by omega) hd (fun q cA H1 hK hP hD hS => ?_)
  have hcy := zCy hK (htys G)
  subst hcy
  rw [e1, e2]
  intro T0 hT0 X
  have hq := zNewAd hC0 hn hn1 hP hD hT0 rfl X
  subst hq
  rw [← hz, ← zEnt_ref (G := G) (fi := mi n) (fl := ml n) hk hk1, ← zWs_push] at hP hD
  exact kk p e s m args below meth c H1 locs ls hC0 ⟨hS, hP, hD, hR.2.2.2.1, zFresh_next hR.2.2.2.2⟩ hL (by omega) T0 hT0 X
/-- new int[N][K]: the outer array, then its N rows -/
theorem e_multi (pc' : Nat) (N K : Nat) {idx : Nat} {i j : Int32} (hd : decode cc pc = .ok (.multianewarray idx 2, 4)) (hw1 : Cond.classLink own idx ("[" ++ (FieldType.array .int).toString) ∈ zT) (hw3 : Cond.arrayClass .int ∈ zT) (hp : pc + 4 = pc') (hk : zKD n = 21) (hN : zLN n = N) (hi : i = nI K) (hj : j = nI N) (hN2 : N ≤ 1000) (hK2 : K ≤ 5900) (hrow : ∀ q, q < N → zKD (n + 1 + q) = 16 ∧ zLN (n + 1 + q) = K) (hn1 : n + 1 + N ≤ 1000) (hc : n + 1 + N - n0 ≤ R.cells) (hs : zSl (n + 1 + N) - zSl n0 ≤ R.slots)
    (kk : zE G R QQ own mn cc nL ret n0 pc' L (.ref n :: st) (n + 1 + N) mi ml (zu mr n (fun q => if q < N then some (n + 1 + q) else none))) : zE G R QQ own mn cc nL ret n0 pc L (.int i :: .int j :: st) n mi ml mr := by
  intro p e s m args below meth c H locs ls hC hR hL hn
  subst hp
  subst hi
  subst hj
  have hC0 := hC
  obtain ⟨hx, hb, hrt, hml, hown, hts, hlk, hmn, hsz, had, hns, hout⟩ := hC
  have hsl : ∀ q, q ≤ N → zSl (n + 1 + q) = zSl n + N + q * K := by
    intro q
    induction q with
    | zero =>
      intro _
      show zSl n + zSz n = _
      unfold zSz
      rw [hk, if_neg (by omega), hN]
      omega
    | succ q ih =>
      intro hq
      show zSl (n + 1 + q) + zSz (n + 1 + q) = _
      rw [ih (by omega)]
      unfold zSz
      rw [(hrow q (by omega)).1, if_neg (by omega), (hrow q (by omega)).2, Nat.succ_mul]
      omega
  have hsl2 := hsl N (Nat.le_refl N)
  have hle := zSl_le hn
  have e1 : n - n0 + 1 + N = n + 1 + N - n0 := by omega
  have e2 : zSl n - zSl n0 + N + N * K = zSl (n + 1 + N) - zSl n0 := by omega
  have hK9 := hR.2.2.2.1
  have hcy : s.vm.findClass (FieldType.array .int).toString = some (G.2.2.1 0) := (hK9.2 0 _ rfl).2
  have hz0 : ∀ q, n ≤ q → mi q = (fun _ => 0) ∧ ml q = (fun _ => 0) ∧ mr q = fun _ => none := fun q hq => ⟨funext (hR.2.2.2.2 q hq).1, funext (hR.2.2.2.2 q hq).2.1, funext (hR.2.2.2.2 q hq).2.2⟩
  intro T0 hT0 X
  have hH : H.size = G.2.2.2.2.1 + n := zSize hC0 hR hn (by omega) hT0 rfl X
  refine va_mna2 (X := zWs G n mi ml mr) (L := []) (f := fun _ => .inr (0, [])) (D := G.2.1) (cl := vwCl) (tys := zTys G) (ty := .int) (cy := G.2.2.1 0) (N' := N) (K' := K) (z := (K, .inl (fun _ => 0))) hx hb hown (hts _ hw1) (by have h9 := hout.2.2.2.2.2.2.2.2; unfold zAA at h9; exact h9) (hts _ hw3) hcy hK9 (by rw [show va_pl [] (fun _ => (.inr (0, []) : va_E)) = [] from rfl, List.append_nil]; exact hR.2.1) (by rw [show va_pl [] (fun _ => (.inr (0, []) : va_E)) = [] from rfl, List.append_nil]; exact hR.2.2.1) hR.1 (fun q hq => by show _ ≤ q; omega) (nI_pos (by omega)) (nI_pos (by omega)) (nI_clamp (by omega)) (nI_clamp (by omega)) (by omega) (by show K * 4 ≤ _; omega) (by omega) rfl rfl (by omega) (by omega) (fun c => by show ({ cls := c, slots := Array.replicate K (.int 0), vm := .none } : Cell) = _; rw [arrV_new]; rfl) hd (fun q r cA H1 hq hr hinj hnl hK hP hD hS => ?_) T0 hT0 X
  have hcyA := zCy (k := 5) hK rfl
  subst hcyA
  rw [e1, e2]
  have hworld : (zWs G n mi ml mr ++ [(q, .inl (G.2.2.1 5, N, .inr (.inr (.inr (.inr (fun i => if i < N then some (r i) else none))))))]) ++ va_pl ([] ++ (List.range N).map r) (vr_up (fun _ => (.inr (0, []) : va_E)) ((List.range N).map r) (.inl (G.2.2.1 0, (K, .inl (fun _ => 0))))) = zWs G (n + 1 + N) mi ml (zu mr n (fun q => if q < N then some (n + 1 + q) else none)) := by
    apply List.ext_getElem?
    intro x
    have hlen := zWs_len G n mi ml mr
    by_cases h1 : x < n
    · rw [List.getElem?_append_left (by simp; omega), List.getElem?_append_left (by omega), zWs_get G mi ml mr h1, zWs_get G _ _ _ (by omega), zu_n _ _ (by omega)]
    · by_cases h2 : x = n
      · subst h2
        rw [List.getElem?_append_left (by simp; omega), List.getElem?_append_right (by omega), hlen, Nat.sub_self, zWs_get G _ _ _ (by omega), zEnt_ref hk (by decide), zu_s, hN, hq, hH, ← had x (by omega)]
        show some _ = some _
        congr 1
        congr 1
        congr 1
        congr 1
        congr 1
        congr 1
        congr 1
        congr 1
        congr 1
        funext y
        by_cases hy : y < N
        · rw [if_pos hy, if_pos hy, hr y, hH]
          show some _ = some _
          rw [had _ (by omega)]
          congr 1
          omega
        · rw [if_neg hy, if_neg hy]
          rfl
      · by_cases h3 : x < n + 1 + N
        · have hlen2 : (zWs G n mi ml mr ++ [(q, (.inl (G.2.2.1 5, N, .inr (.inr (.inr (.inr (fun i => if i < N then some (r i) else none))))) : va_E))]).length = n + 1 := by simp [hlen]
          rw [List.getElem?_append_right (by omega), hlen2]
          obtain ⟨y, hy⟩ : ∃ y, x = n + 1 + y := ⟨x - (n + 1), by omega⟩
          subst hy
          rw [show n + 1 + y - (n + 1) = y by omega]
          have hyN : y < N := by omega
          unfold va_pl
          rw [List.getElem?_map, List.nil_append, List.getElem?_map, List.getElem?_range hyN, zWs_get G _ _ _ h3, zEnt_int (hrow y hyN).1 (by decide) (by decide), (hrow y hyN).2]
          show some (r y, vr_up _ _ _ (r y)) = _
          rw [vr_up_in (List.mem_map.mpr ⟨y, List.mem_range.mpr hyN, rfl⟩), (hz0 (n + 1 + y) (by omega)).1, hr y, hH, had _ (by omega)]
          have e9 : G.2.2.2.2.1 + n + 1 + y = G.2.2.2.2.1 + (n + 1 + y) := by omega
          rw [e9]
        · rw [List.getElem?_eq_none (by simp [va_pl, hlen]; omega), List.getElem?_eq_none (by rw [zWs_len]; omega)]
  rw [hworld] at hP hD
  have hqa : q = zad G n := by rw [hq, hH, had n (by omega)]
  rw [hqa]
  refine kk p e s m args below meth c H1 locs ls hC0 ⟨hS, hP, hD, hK9, fun q hq => ?_⟩ hL (by omega)
  obtain ⟨g1, g2, g3⟩ := hR.2.2.2.2 q (by omega)
  exact ⟨g1, g2, fun k => by rw [zu_n _ _ (by omega)]; exact g3 k⟩
end ZMAKE
