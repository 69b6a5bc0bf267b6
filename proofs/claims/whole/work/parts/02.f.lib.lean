abbrev cJ_bitCount : ByteArray := prog_8_method_49_code
def yJ_bitCount : MethodName := ⟨"java/lang/Integer", "bitCount", "(I)I"⟩
abbrev mJ_bitCount : kx_Y := (yJ_bitCount, cJ_bitCount, 1, some .int)
theorem dJ_bitCount_0 : decode cJ_bitCount 0 = .ok (.iload_n 0, 1) := by decide +kernel
theorem dJ_bitCount_1 : decode cJ_bitCount 1 = .ok (.iload_n 0, 1) := by decide +kernel
theorem dJ_bitCount_2 : decode cJ_bitCount 2 = .ok (.iconst 1, 1) := by decide +kernel
theorem dJ_bitCount_3 : decode cJ_bitCount 3 = .ok (.iushr, 1) := by decide +kernel
theorem dJ_bitCount_4 : decode cJ_bitCount 4 = .ok (.ldc_w 265, 3) := by decide +kernel
theorem dJ_bitCount_7 : decode cJ_bitCount 7 = .ok (.iand, 1) := by decide +kernel
theorem dJ_bitCount_8 : decode cJ_bitCount 8 = .ok (.isub, 1) := by decide +kernel
theorem dJ_bitCount_9 : decode cJ_bitCount 9 = .ok (.istore_n 0, 1) := by decide +kernel
theorem dJ_bitCount_10 : decode cJ_bitCount 10 = .ok (.iload_n 0, 1) := by decide +kernel
theorem dJ_bitCount_11 : decode cJ_bitCount 11 = .ok (.ldc_w 266, 3) := by decide +kernel
theorem dJ_bitCount_14 : decode cJ_bitCount 14 = .ok (.iand, 1) := by decide +kernel
theorem dJ_bitCount_15 : decode cJ_bitCount 15 = .ok (.iload_n 0, 1) := by decide +kernel
theorem dJ_bitCount_16 : decode cJ_bitCount 16 = .ok (.iconst 2, 1) := by decide +kernel
theorem dJ_bitCount_17 : decode cJ_bitCount 17 = .ok (.iushr, 1) := by decide +kernel
theorem dJ_bitCount_18 : decode cJ_bitCount 18 = .ok (.ldc_w 266, 3) := by decide +kernel
theorem dJ_bitCount_21 : decode cJ_bitCount 21 = .ok (.iand, 1) := by decide +kernel
theorem dJ_bitCount_22 : decode cJ_bitCount 22 = .ok (.iadd, 1) := by decide +kernel
theorem dJ_bitCount_23 : decode cJ_bitCount 23 = .ok (.istore_n 0, 1) := by decide +kernel
theorem dJ_bitCount_24 : decode cJ_bitCount 24 = .ok (.iload_n 0, 1) := by decide +kernel
theorem dJ_bitCount_25 : decode cJ_bitCount 25 = .ok (.iload_n 0, 1) := by decide +kernel
theorem dJ_bitCount_26 : decode cJ_bitCount 26 = .ok (.iconst 4, 1) := by decide +kernel
theorem dJ_bitCount_27 : decode cJ_bitCount 27 = .ok (.iushr, 1) := by decide +kernel
theorem dJ_bitCount_28 : decode cJ_bitCount 28 = .ok (.iadd, 1) := by decide +kernel
theorem dJ_bitCount_29 : decode cJ_bitCount 29 = .ok (.ldc_w 267, 3) := by decide +kernel
theorem dJ_bitCount_32 : decode cJ_bitCount 32 = .ok (.iand, 1) := by decide +kernel
theorem dJ_bitCount_33 : decode cJ_bitCount 33 = .ok (.istore_n 0, 1) := by decide +kernel
theorem dJ_bitCount_34 : decode cJ_bitCount 34 = .ok (.iload_n 0, 1) := by decide +kernel
theorem dJ_bitCount_35 : decode cJ_bitCount 35 = .ok (.iload_n 0, 1) := by decide +kernel
theorem dJ_bitCount_36 : decode cJ_bitCount 36 = .ok (.bipush 8, 2) := by decide +kernel
theorem dJ_bitCount_38 : decode cJ_bitCount 38 = .ok (.iushr, 1) := by decide +kernel
theorem dJ_bitCount_39 : decode cJ_bitCount 39 = .ok (.iadd, 1) := by decide +kernel
theorem dJ_bitCount_40 : decode cJ_bitCount 40 = .ok (.istore_n 0, 1) := by decide +kernel
theorem dJ_bitCount_41 : decode cJ_bitCount 41 = .ok (.iload_n 0, 1) := by decide +kernel
theorem dJ_bitCount_42 : decode cJ_bitCount 42 = .ok (.iload_n 0, 1) := by decide +kernel
theorem dJ_bitCount_43 : decode cJ_bitCount 43 = .ok (.bipush 16, 2) := by decide +kernel
theorem dJ_bitCount_45 : decode cJ_bitCount 45 = .ok (.iushr, 1) := by decide +kernel
theorem dJ_bitCount_46 : decode cJ_bitCount 46 = .ok (.iadd, 1) := by decide +kernel
theorem dJ_bitCount_47 : decode cJ_bitCount 47 = .ok (.istore_n 0, 1) := by decide +kernel
theorem dJ_bitCount_48 : decode cJ_bitCount 48 = .ok (.iload_n 0, 1) := by decide +kernel
theorem dJ_bitCount_49 : decode cJ_bitCount 49 = .ok (.bipush 63, 2) := by decide +kernel
theorem dJ_bitCount_51 : decode cJ_bitCount 51 = .ok (.iand, 1) := by decide +kernel
theorem dJ_bitCount_52 : decode cJ_bitCount 52 = .ok (.ireturn, 1) := by decide +kernel
theorem wc_J_bitCount : Cond.code mJ_bitCount.1 mJ_bitCount.2.1 mJ_bitCount.2.2.1 mJ_bitCount.2.2.2 ∈ kx_tbl := kx_in (List.mem_of_getElem? (i := 334) (by decide +kernel)) (by decide +kernel)
theorem wt_J_bitCount : Cond.static yJ_bitCount ∈ kx_tbl := kx_in (List.mem_of_getElem? (i := 333) (by decide +kernel)) (by decide +kernel)
theorem wi_J_bitCount : Cond.initialized yJ_bitCount.cls ∈ kx_tbl := kx_in (List.mem_of_getElem? (i := 42) (by decide +kernel)) (by decide +kernel)
theorem lk_X4_127 : kx_lS RX4 127 mJ_bitCount 1 := ⟨⟨wc_J_bitCount, wi_J_bitCount, by decide +kernel, by decide +kernel, by decide +kernel, by decide⟩, kx_in (List.mem_of_getElem? (i := 332) (by decide +kernel)) (by decide +kernel), wt_J_bitCount⟩
abbrev cJ_floorMod : ByteArray := prog_9_method_50_code
def yJ_floorMod : MethodName := ⟨"java/lang/Math", "floorMod", "(II)I"⟩
abbrev mJ_floorMod : kx_Y := (yJ_floorMod, cJ_floorMod, 3, some .int)
theorem dJ_floorMod_0 : decode cJ_floorMod 0 = .ok (.iload_n 0, 1) := by decide +kernel
theorem dJ_floorMod_1 : decode cJ_floorMod 1 = .ok (.iload_n 1, 1) := by decide +kernel
theorem dJ_floorMod_2 : decode cJ_floorMod 2 = .ok (.irem, 1) := by decide +kernel
theorem dJ_floorMod_3 : decode cJ_floorMod 3 = .ok (.istore_n 2, 1) := by decide +kernel
theorem dJ_floorMod_4 : decode cJ_floorMod 4 = .ok (.iload_n 0, 1) := by decide +kernel
theorem dJ_floorMod_5 : decode cJ_floorMod 5 = .ok (.iload_n 1, 1) := by decide +kernel
theorem dJ_floorMod_6 : decode cJ_floorMod 6 = .ok (.ixor, 1) := by decide +kernel
theorem dJ_floorMod_7 : decode cJ_floorMod 7 = .ok (.ifCond .ge 11, 3) := by decide +kernel
theorem dJ_floorMod_10 : decode cJ_floorMod 10 = .ok (.iload_n 2, 1) := by decide +kernel
theorem dJ_floorMod_11 : decode cJ_floorMod 11 = .ok (.ifCond .eq 7, 3) := by decide +kernel
theorem dJ_floorMod_14 : decode cJ_floorMod 14 = .ok (.iload_n 2, 1) := by decide +kernel
theorem dJ_floorMod_15 : decode cJ_floorMod 15 = .ok (.iload_n 1, 1) := by decide +kernel
theorem dJ_floorMod_16 : decode cJ_floorMod 16 = .ok (.iadd, 1) := by decide +kernel
theorem dJ_floorMod_17 : decode cJ_floorMod 17 = .ok (.ireturn, 1) := by decide +kernel
theorem dJ_floorMod_18 : decode cJ_floorMod 18 = .ok (.iload_n 2, 1) := by decide +kernel
theorem dJ_floorMod_19 : decode cJ_floorMod 19 = .ok (.ireturn, 1) := by decide +kernel
theorem wc_J_floorMod : Cond.code mJ_floorMod.1 mJ_floorMod.2.1 mJ_floorMod.2.2.1 mJ_floorMod.2.2.2 ∈ kx_tbl := kx_in (List.mem_of_getElem? (i := 326) (by decide +kernel)) (by decide +kernel)
theorem wt_J_floorMod : Cond.static yJ_floorMod ∈ kx_tbl := kx_in (List.mem_of_getElem? (i := 325) (by decide +kernel)) (by decide +kernel)
theorem wi_J_floorMod : Cond.initialized yJ_floorMod.cls ∈ kx_tbl := kx_in (List.mem_of_getElem? (i := 41) (by decide +kernel)) (by decide +kernel)
theorem lk_X0_33 : kx_lS RX0 33 mJ_floorMod 2 := ⟨⟨wc_J_floorMod, wi_J_floorMod, by decide +kernel, by decide +kernel, by decide +kernel, by decide⟩, kx_in (List.mem_of_getElem? (i := 324) (by decide +kernel)) (by decide +kernel), wt_J_floorMod⟩
theorem fk_265 : Cond.constant "java/lang/Integer" 265 1431655765 ∈ kx_tbl := kx_in (List.mem_of_getElem? (i := 335) (by decide +kernel)) (by decide +kernel)
theorem fk_266 : Cond.constant "java/lang/Integer" 266 858993459 ∈ kx_tbl := kx_in (List.mem_of_getElem? (i := 336) (by decide +kernel)) (by decide +kernel)
theorem fk_267 : Cond.constant "java/lang/Integer" 267 252645135 ∈ kx_tbl := kx_in (List.mem_of_getElem? (i := 337) (by decide +kernel)) (by decide +kernel)
def bcI (x : Int32) : Int32 :=
  let i1 := x - ((x.toUInt32 >>> ((1 : Int32).toUInt32 &&& Int32.toUInt32 31)).toInt32 &&& 1431655765)
  let i2 := (i1 &&& 858993459) + ((i1.toUInt32 >>> ((2 : Int32).toUInt32 &&& Int32.toUInt32 31)).toInt32 &&& 858993459)
  let i3 := (i2 + (i2.toUInt32 >>> ((4 : Int32).toUInt32 &&& Int32.toUInt32 31)).toInt32) &&& 252645135
  let i4 := i3 + (i3.toUInt32 >>> ((8 : Int32).toUInt32 &&& Int32.toUInt32 31)).toInt32
  let i5 := i4 + (i4.toUInt32 >>> ((16 : Int32).toUInt32 &&& Int32.toUInt32 31)).toInt32
  i5 &&& 63
set_option maxRecDepth 20000 in
theorem fn_bitCount {G : kx_G} {d N : Nat} {h : kx_H} {x : Int32} : kx_Fn mJ_bitCount d 0 0 G [.int x] N h (some (.int (bcI x)), N, h) := by
  refine kx_Fn_of rfl (Nat.le_of_ble_eq_true rfl) rfl ?_ kx_self
  refine ko_iload_n (i := 0) dJ_bitCount_0 rfl rfl ?_
  refine ko_iload_n (i := 0) dJ_bitCount_1 rfl rfl ?_
  refine ko_iconst (v := 1) dJ_bitCount_2 (by decide) ?_
  refine ko_iushr dJ_bitCount_3 ?_
  refine ko_ldcw fk_265 dJ_bitCount_4 ?_
  refine ko_iand dJ_bitCount_7 ?_
  refine ko_isub dJ_bitCount_8 ?_
  refine ko_istore_n (i := 0) (lv' := [(0, _)]) dJ_bitCount_9 rfl (by decide) rfl rfl rfl ?_
  refine ko_iload_n (i := 0) dJ_bitCount_10 rfl rfl ?_
  refine ko_ldcw fk_266 dJ_bitCount_11 ?_
  refine ko_iand dJ_bitCount_14 ?_
  refine ko_iload_n (i := 0) dJ_bitCount_15 rfl rfl ?_
  refine ko_iconst (v := 2) dJ_bitCount_16 (by decide) ?_
  refine ko_iushr dJ_bitCount_17 ?_
  refine ko_ldcw fk_266 dJ_bitCount_18 ?_
  refine ko_iand dJ_bitCount_21 ?_
  refine ko_iadd dJ_bitCount_22 ?_
  refine ko_istore_n (i := 0) (lv' := [(0, _)]) dJ_bitCount_23 rfl (by decide) rfl rfl rfl ?_
  refine ko_iload_n (i := 0) dJ_bitCount_24 rfl rfl ?_
  refine ko_iload_n (i := 0) dJ_bitCount_25 rfl rfl ?_
  refine ko_iconst (v := 4) dJ_bitCount_26 (by decide) ?_
  refine ko_iushr dJ_bitCount_27 ?_
  refine ko_iadd dJ_bitCount_28 ?_
  refine ko_ldcw fk_267 dJ_bitCount_29 ?_
  refine ko_iand dJ_bitCount_32 ?_
  refine ko_istore_n (i := 0) (lv' := [(0, _)]) dJ_bitCount_33 rfl (by decide) rfl rfl rfl ?_
  refine ko_iload_n (i := 0) dJ_bitCount_34 rfl rfl ?_
  refine ko_iload_n (i := 0) dJ_bitCount_35 rfl rfl ?_
  refine ko_bipush (v := 8) dJ_bitCount_36 (by decide) ?_
  refine ko_iushr dJ_bitCount_38 ?_
  refine ko_iadd dJ_bitCount_39 ?_
  refine ko_istore_n (i := 0) (lv' := [(0, _)]) dJ_bitCount_40 rfl (by decide) rfl rfl rfl ?_
  refine ko_iload_n (i := 0) dJ_bitCount_41 rfl rfl ?_
  refine ko_iload_n (i := 0) dJ_bitCount_42 rfl rfl ?_
  refine ko_bipush (v := 16) dJ_bitCount_43 (by decide) ?_
  refine ko_iushr dJ_bitCount_45 ?_
  refine ko_iadd dJ_bitCount_46 ?_
  refine ko_istore_n (i := 0) (lv' := [(0, _)]) dJ_bitCount_47 rfl (by decide) rfl rfl rfl ?_
  refine ko_iload_n (i := 0) dJ_bitCount_48 rfl rfl ?_
  refine ko_bipush (v := 63) dJ_bitCount_49 (by decide) ?_
  refine ko_iand dJ_bitCount_51 ?_
  refine ko_iret dJ_bitCount_52 rfl (Nat.le_of_ble_eq_true rfl) (Nat.le_of_ble_eq_true rfl) ?_
  rfl
theorem wt_min : Cond.static Lib.Math.min.name ∈ kx_tbl := kx_in (List.mem_of_getElem? (i := 374) (by decide +kernel)) (by decide +kernel)
theorem wk_min : Cond.code Lib.Math.min.name Lib.Math.min.code 2 (some .int) ∈ kx_tbl := kx_in (List.mem_of_getElem? (i := 375) (by decide +kernel)) (by decide +kernel)
theorem lm_X2_94 : Cond.methodLink RX2 94 Lib.Math.min.name ∈ kx_tbl := kx_in (List.mem_of_getElem? (i := 373) (by decide +kernel)) (by decide +kernel)
theorem wt_max : Cond.static Lib.Math.max.name ∈ kx_tbl := kx_in (List.mem_of_getElem? (i := 377) (by decide +kernel)) (by decide +kernel)
theorem wk_max : Cond.code Lib.Math.max.name Lib.Math.max.code 2 (some .int) ∈ kx_tbl := kx_in (List.mem_of_getElem? (i := 378) (by decide +kernel)) (by decide +kernel)
theorem lm_X2_99 : Cond.methodLink RX2 99 Lib.Math.max.name ∈ kx_tbl := kx_in (List.mem_of_getElem? (i := 376) (by decide +kernel)) (by decide +kernel)
theorem wi_math : Cond.initialized "java/lang/Math" ∈ kx_tbl := kx_in (List.mem_of_getElem? (i := 41) (by decide +kernel)) (by decide +kernel)
section KC
variable {Y : kx_Y} {d kc ks : Nat} {G : kx_G} {cs ss pc : Nat} {lv : List (Nat × Value)} {st : List Value} {N : Nat} {h : kx_H} {res : kx_R}
theorem kx_arr_ext {cA : ClassId} {L : Nat} {f g : Nat → Int32} (e : ∀ j, j < L → f j = g j) : vp_cell cA (L, .inl f) = vp_cell cA (L, .inl g) := by
  rw [vp_cell_i, vp_cell_i]
  unfold arrV
  congr 2
  funext j
  show Value.int (f j.val) = Value.int (g j.val)
  rw [e j.val j.isLt]
/-- an array told by another function, alike within its length -/
theorem ko_arr {a k L : Nat} {f : Nat → Int32} (g : Nat → Int32) (he : h a = some (.inl (k, L, .inl f))) (hfg : ∀ j, j < L → f j = g j) (K : kx_Ok Y d kc ks G cs ss pc lv st N (kx_up h a (.inl (k, L, .inl g))) res) : kx_Ok Y d kc ks G cs ss pc lv st N h res := by
  intro p l e R s m args below meth c D κ A Z H locs ls hC hW hF
  obtain ⟨w1, w2, w3, w4, w5⟩ := hW
  refine K p l e R s m args below meth c D κ A Z H locs ls hC ⟨w1, w2.put ?_ (fun _ _ => rfl), fun b e' hb => ?_, w4, w5⟩ hF
  · show H[a]? = some (vp_cell _ _)
    have h0 : H[a]? = some (vp_cell (κ k) (L, .inl f)) := w2 a _ he
    rw [h0]
    exact congrArg some (kx_arr_ext hfg)
  · by_cases hba : b = a
    · subst hba; exact w3 b _ he
    · simp only [kx_up, if_neg hba] at hb; exact w3 b e' hb
/-- the same heap, told otherwise -/
theorem ko_h {h' : kx_H} (e : h = h') (K : kx_Ok Y d kc ks G cs ss pc lv st N h' res) : kx_Ok Y d kc ks G cs ss pc lv st N h res := e ▸ K
theorem ko_lv {lv' : List (Nat × Value)} (e : lv = lv') (K : kx_Ok Y d kc ks G cs ss pc lv' st N h res) : kx_Ok Y d kc ks G cs ss pc lv st N h res := e ▸ K
theorem ko_st {st' : List Value} (e : st = st') (K : kx_Ok Y d kc ks G cs ss pc lv st' N h res) : kx_Ok Y d kc ks G cs ss pc lv st N h res := e ▸ K
/-- a whole array copied onto another of its length -/
theorem ko_copy {a0 a1 L index : Nat} {f g : Nat → Int32} {n : Int32} (hl : Cond.methodLink Y.1.cls index arraycopyName ∈ kx_tbl) (hdg : decode Y.2.1 pc = .ok (.invokestatic index, 3)) (h0 : h a0 = some (.inl (0, L, .inl f))) (h1 : h a1 = some (.inl (0, L, .inl g))) (hn : ¬ n < 0) (hL : n.toNatClampNeg = L) (hd : 1 ≤ d) (hst : (st.map fun v => v.category).sum ≤ 8) (K : kx_Ok Y d kc ks G cs ss (pc + 3) lv st N (kx_up h a1 (.inl (0, L, .inl f))) res) : kx_Ok Y d kc ks G cs ss pc lv (.int n :: .int 0 :: .ref a1 :: .int 0 :: .ref a0 :: st) N h res := by
  intro p l e R s m args below meth c D κ A Z H locs ls hC hW hF
  have hC' := hC
  obtain ⟨hx, hb, hr, hml, hown, hts, hlocks, hini, ⟨r1, r2, r3, r4⟩, hK, hSt, hA, hX⟩ := hC'
  have nn : ∀ z : Int32, ¬ z < 0 → z.toInt = (z.toNatClampNeg : Int) := by
    intro z hz
    have hz0 : (0 : Int) ≤ z.toInt := by
      have := Int32.not_lt.mp hz
      simpa using Int32.le_iff_toInt_le.mp this
    show z.toInt = ((z.toInt.toNat : Nat) : Int)
    omega
  intro T hT X
  have hc0 : H[a0]? = some (vp_cell (κ 0) (L, .inl f)) := hW.2.1 a0 _ h0
  have hc1 : H[a1]? = some (vp_cell (κ 0) (L, .inl g)) := hW.2.1 a1 _ h1
  obtain ⟨-, k0, hk0, cm0, hkk0⟩ := (hK.2 0 _ rfl).1 L (fun j => .int (f j))
  obtain ⟨-, k1, hk1, cm1, hkk1⟩ := (hK.2 0 _ rfl).1 L (fun j => .int (g j))
  have z0 : (0 : Int32).toNatClampNeg = 0 := rfl
  have h4 : (0 : Int32).toNatClampNeg + n.toNatClampNeg ≤ L := by rw [z0]; omega
  obtain ⟨vm', X', step⟩ := X.arraycopy hx hown (hts _ hl) (hts _ wx_nat) (hts _ wx_sta) (hts _ wi_sys) (src := a0) (dst := a1) (cs := vp_cell (κ 0) (L, .inl f)) (cd := vp_cell (κ 0) (L, .inl g)) (srcPos := 0) (destPos := 0) (n := n) (by rw [hT]; exact hc0) (by rw [hT]; exact hc1)
    (fun _ h => by cases h) (fun _ h => by cases h) (fun h => by cases h) (fun h => by cases h) hk0 hk1 hkk0 hkk1 rfl (by decide) (by decide) hn
    (by rw [nn 0 (by decide), nn n hn]; show ¬ _ > ((arrV (κ 0) L (fun j => .int (f j))).slots.size : Int); rw [arrV_size]; omega)
    (by rw [nn 0 (by decide), nn n hn]; show ¬ _ > ((arrV (κ 0) L (fun j => .int (g j))).slots.size : Int); rw [arrV_size]; omega)
    (fun vm₁ _ i hi => by
      have e : (vp_cell (κ 0) (L, .inl f)).slots.getD ((0 : Int32).toNatClampNeg + i) .null = .int (f ((0 : Int32).toNatClampNeg + i)) := by
        show (arrV (κ 0) L (fun j => .int (f j))).slots.getD _ _ = _
        rw [Array.getD_eq_getD_getElem?, arrV_read _ _ (by omega)]
        rfl
      refine ⟨?_, ?_⟩
      · rw [e]
        rfl
      · rw [e]
        exact trivial)
    (g := F0 m pc ls (.int n :: .int 0 :: .ref a1 :: .int 0 :: .ref a0 :: st)) rfl (by rw [hml]; exact hW.2.2.2.2.1) (rest := st) rfl (by rw [hb]; exact hdg) (Nat.le_trans hd r1) (by
      have hw : nativeFrameWords "java/lang/System" "arraycopy" 5 ≤ 21 := by decide +kernel
      show 2 * 0 + _ + _ ≤ _
      omega)
  have e1 : copied (vp_cell (κ 0) (L, .inl f)) (vp_cell (κ 0) (L, .inl g)) 0 0 n = vp_cell (κ 0) (L, .inl f) := by
    refine (va_copied (fun z => .int z) (κ 0) (κ 0) f g h4).trans ?_
    show vp_cell (κ 0) (L, .inl (va_cpy f g _ _ _)) = _
    refine kx_arr_ext (fun j hj => ?_)
    unfold va_cpy
    rw [z0, if_pos ⟨Nat.zero_le _, by omega⟩]
    congr 1
    omega
  rw [e1] at X' step
  have hl1 : a1 < H.size := (Array.getElem?_eq_some_iff.mp hc1).1
  have hheap : ((T.setVm vm').setCell a1 (vp_cell (κ 0) (L, .inl f))).heap = H.setIfInBounds a1 (vp_cell (κ 0) (L, .inl f)) := by rw [← hT]; rfl
  have oq : ∀ q : Nat, q ≠ a1 → (H.setIfInBounds a1 (vp_cell (κ 0) (L, .inl f)))[q]? = H[q]? := fun q hq => by simp [Array.getElem?_setIfInBounds, Ne.symm hq]
  obtain ⟨w1, w2, w3, w4, w5⟩ := hW
  obtain ⟨t, g1, g2⟩ := K p l e R s m args below meth c D κ A Z _ _ ls hC ⟨by simp; exact w1, w2.put (e := .inl (0, L, .inl f)) (show (H.setIfInBounds a1 _)[a1]? = some _ by simp [Array.getElem?_setIfInBounds, hl1]) oq, fun b e' hb => by
      by_cases hba : b = a1
      · subst hba; exact w3 b _ h1
      · simp only [kx_up, if_neg hba] at hb; exact w3 b e' hb, ⟨by simp; exact w4.1, fun q g1 g2 => by
      rw [oq q (fun e => g2 (by rw [e]; exact w3 a1 _ h1))]
      exact w4.2.1 q g1 g2, fun q hq => by
      rcases List.mem_append.mp hq with h | h
      · exact w4.2.2 q h
      · obtain ⟨z, -, hz⟩ := List.mem_map.mp h
        rw [← hz]
        exact w3 a1 _ h1⟩, w5⟩ hF _ hheap X'
  exact ⟨t, step t g1, g2⟩
theorem ko_mmin {index : Nat} {x y : Int32} (hl : Cond.methodLink Y.1.cls index Lib.Math.min.name ∈ kx_tbl) (hdg : decode Y.2.1 pc = .ok (.invokestatic index, 3)) (hd : 1 ≤ d) (h1 : cs ≤ kc) (h2 : ss ≤ ks) (hst : (st.map fun v => v.category).sum ≤ 8) (K : kx_Ok Y d kc ks G cs ss (pc + 3) lv (.int (if y < x then y else x) :: st) N h res) : kx_Ok Y d kc ks G cs ss pc lv (.int y :: .int x :: st) N h res := by
  intro p l e R s m args below meth c D κ A Z H locs ls hC hW hF
  have hC' := hC
  obtain ⟨hx, hb, hr, hml, hown, hts, hlocks, hini, ⟨r1, r2, r3, r4⟩, hK, hSt, hA, hX⟩ := hC'
  exact va_mmin hx hb (by rw [hml]; exact hW.2.2.2.2.1.symm) hown (hts _ hl) (hts _ wt_min) (hts _ wi_math) (hts _ wk_min) (Nat.le_trans hd r1) (by omega) (Nat.le_trans h1 r3) (Nat.le_trans h2 r4) hdg (K p l e R s m args below meth c D κ A Z H locs ls hC hW hF)
theorem ko_mmax {index : Nat} {x y : Int32} (hl : Cond.methodLink Y.1.cls index Lib.Math.max.name ∈ kx_tbl) (hdg : decode Y.2.1 pc = .ok (.invokestatic index, 3)) (hd : 1 ≤ d) (h1 : cs ≤ kc) (h2 : ss ≤ ks) (hst : (st.map fun v => v.category).sum ≤ 8) (K : kx_Ok Y d kc ks G cs ss (pc + 3) lv (.int (if x < y then y else x) :: st) N h res) : kx_Ok Y d kc ks G cs ss pc lv (.int y :: .int x :: st) N h res := by
  intro p l e R s m args below meth c D κ A Z H locs ls hC hW hF
  have hC' := hC
  obtain ⟨hx, hb, hr, hml, hown, hts, hlocks, hini, ⟨r1, r2, r3, r4⟩, hK, hSt, hA, hX⟩ := hC'
  exact va_mmax hx hb (by rw [hml]; exact hW.2.2.2.2.1.symm) hown (hts _ hl) (hts _ wt_max) (hts _ wi_math) (hts _ wk_max) (Nat.le_trans hd r1) (by omega) (Nat.le_trans h1 r3) (Nat.le_trans h2 r4) hdg (K p l e R s m args below meth c D κ A Z H locs ls hC hW hF)
end KC
