/-! ===== the reference's reading of a text: the land; fault, land ===== -/
def prR (T : Nat → Int32) (n : Int32) (v : PU) (p : Int32) : Int32 × PU := if ltI T n p = 80 then rpR T n v p else rkR T n v p
theorem rp_5 {T : Nat → Int32} {n p : Int32} {v : PU} (e : pN v = nI 5) : rpR T n v p = (p, v) := by
  unfold rpR
  rw [e, if_pos (show ¬ nI 5 < 5 by decide)]
theorem rk_n {T : Nat → Int32} {n p : Int32} {v : PU} (h : ¬ ltI T n p = 75) : rkR T n v p = (p, v) := by
  unfold rkR
  rw [if_pos h]
theorem rk_i {T : Nat → Int32} {n p : Int32} {v : PU} (h : iplB v = false) : rkR T n v p = (p, v) := by
  unfold rkR
  rw [h]
  split
  · rfl
  · rw [if_pos rfl]
set_option maxRecDepth 20000 in
theorem rT_0 {G : kx_G} {d N m q r : Nat} {h : kx_H} {o : MO} {T rp rk : Nat → Int32} {res : kx_R} (t1 : h (m + 1) = some (ka 48 T)) (hq : q < 48) (K : kx_Ok mX5_readPart d 0 0 G 0 0 20 [(0, .ref m), (1, .int (T q))] [] N (rH h m o rp rk (nI (q + 1)) (nI r)) res) : kx_Ok mX5_readPart d 0 0 G 0 0 0 [(0, .ref m)] [] N (rH h m o rp rk (nI q) (nI r)) res := by
  refine ko_aload_n (i := 0) dX5_readPart_0 rfl rfl ?_
  refine ko_get fl_X5_7 dX5_readPart_1 rH_o rfl ?_
  refine ko_aload_n (i := 0) dX5_readPart_4 rfl rfl ?_
  refine ko_get fl_X5_57 dX5_readPart_5 rH_o rfl ?_
  refine ko_iald dX5_readPart_8 ((rH_q (by omega) (by omega) (by omega)).trans t1) (vp_in_nI hq (by omega)) ?_
  rw [nI_clamp (by omega)]
  refine ko_istore_n (i := 1) (lv' := [(0, _), (1, _)]) dX5_readPart_9 rfl (by decide) rfl rfl rfl ?_
  refine ko_aload_n (i := 0) dX5_readPart_10 rfl rfl ?_
  refine ko_dup dX5_readPart_11 rfl ?_
  refine ko_get fl_X5_57 dX5_readPart_12 rH_o rfl ?_
  refine ko_iconst (v := 1) dX5_readPart_15 (by decide) ?_
  refine ko_iadd dX5_readPart_16 ?_
  rw [nI_1]
  refine ko_put fl_X5_57 dX5_readPart_17 rH_o rfl rfl (Nat.le_of_ble_eq_true rfl) ?_
  refine ko_h (rH_m _ _) ?_
  exact K
set_option maxRecDepth 20000 in
theorem rT_P {G : kx_G} {d N m q r : Nat} {h : kx_H} {o : MO} {t : Int32} {rp rk : Nat → Int32} {res : kx_R} {b : Bool} {X : kx_H} (h80 : t = 80) (hr : r < 5) (hd : 4 ≤ d) (hf : kx_Fn mX5_readPerson (d - 1) 0 0 G [.ref m] N (rH h m o rp rk (nI (q + 1)) (nI r)) (some (.int (kb b)), N, X)) (he : res = (some (.int (kb b)), N, X)) : kx_Ok mX5_readPart d 0 0 G 0 0 20 [(0, .ref m), (1, .int t)] [] N (rH h m o rp rk (nI (q + 1)) (nI r)) res := by
  refine ko_iload_n (i := 1) dX5_readPart_20 rfl rfl ?_
  refine ko_bipush (v := 80) dX5_readPart_21 (by decide) ?_
  refine ko_icmp_ne (tgt := 39) dX5_readPart_23 (by decide) (fun c_23 => ?_) (fun c_23 => ?_)
  · exact absurd h80 c_23
  · refine ko_aload_n (i := 0) dX5_readPart_26 rfl rfl ?_
    refine ko_get fl_X5_60 dX5_readPart_27 rH_o rfl ?_
    refine ko_iconst (v := 5) dX5_readPart_30 (by decide) ?_
    refine ko_icmp_ge (tgt := 39) dX5_readPart_31 (by decide) (fun c_31 => ?_) (fun c_31 => ?_)
    · exact absurd (show nI 5 ≤ nI r from c_31) (nI_ge (by omega) (by omega))
    · refine ko_aload_n (i := 0) dX5_readPart_34 rfl rfl ?_
      refine ko_callVr lk_X5_75 dX5_readPart_35 hf rfl rfl rH_o rfl rfl (by omega) (by omega) (by omega) (Nat.le_of_ble_eq_true rfl) ?_
      refine ko_zret dX5_readPart_38 rfl (kb_z _) (Nat.le_of_ble_eq_true rfl) (Nat.le_of_ble_eq_true rfl) ?_
      exact he
set_option maxRecDepth 20000 in
theorem rT_K {G : kx_G} {d N m q r : Nat} {h : kx_H} {o : MO} {t : Int32} {rp rk : Nat → Int32} {res : kx_R} {b : Bool} {v : PU} {X : kx_H} (h75 : t = 75) (hd9 : rdR rp rk r v) (hip : iplB v = true) (hd : 4 ≤ d) (hf : kx_Fn mX5_readKin (d - 1) 0 0 G [.ref m] N (rH h m o rp rk (nI (q + 1)) (nI r)) (some (.int (kb b)), N, X)) (he : res = (some (.int (kb b)), N, X)) : kx_Ok mX5_readPart d 0 0 G 0 0 20 [(0, .ref m), (1, .int t)] [] N (rH h m o rp rk (nI (q + 1)) (nI r)) res := by
  refine ko_iload_n (i := 1) dX5_readPart_20 rfl rfl ?_
  refine ko_bipush (v := 80) dX5_readPart_21 (by decide) ?_
  refine ko_icmp_ne (tgt := 39) dX5_readPart_23 (by decide) (fun c_23 => ?_) (fun c_23 => ?_)
  · refine ko_iload_n (i := 1) dX5_readPart_39 rfl rfl ?_
    refine ko_bipush (v := 75) dX5_readPart_40 (by decide) ?_
    refine ko_icmp_ne (tgt := 57) dX5_readPart_42 (by decide) (fun c_42 => ?_) (fun c_42 => ?_)
    · exact absurd h75 c_42
    · refine ko_aload_n (i := 0) dX5_readPart_45 rfl rfl ?_
      refine ko_callVr lk_X5_78 dX5_readPart_46 (fn_arePairs (d := d - 1) hd9 (by omega)) rfl rfl rH_o rfl rfl (by omega) (by omega) (by omega) (Nat.le_of_ble_eq_true rfl) ?_
      first | refine ko_ifb_eq (tgt := 57) dX5_readPart_49 (by decide) (fun c_49 => ?_) (fun c_49 => ?_) | refine ko_if_eq (tgt := 57) dX5_readPart_49 (by decide) (fun c_49 => ?_) (fun c_49 => ?_)
      · exact absurd (hip.symm.trans c_49) (by decide)
      · refine ko_aload_n (i := 0) dX5_readPart_52 rfl rfl ?_
        refine ko_callVr lk_X5_81 dX5_readPart_53 hf rfl rfl rH_o rfl rfl (by omega) (by omega) (by omega) (Nat.le_of_ble_eq_true rfl) ?_
        refine ko_zret dX5_readPart_56 rfl (kb_z _) (Nat.le_of_ble_eq_true rfl) (Nat.le_of_ble_eq_true rfl) ?_
        exact he
  · exact absurd (h75.symm.trans c_23) (by decide)
set_option maxRecDepth 20000 in
theorem rT_n {G : kx_G} {d N m q r : Nat} {h : kx_H} {o : MO} {t : Int32} {rp rk : Nat → Int32} {res : kx_R} {v : PU} (hd9 : rdR rp rk r v) (hno : (t = 80 ∧ r = 5) ∨ (¬ t = 80 ∧ ¬ t = 75) ∨ (t = 75 ∧ iplB v = false)) (hd : 4 ≤ d) (he : res = (some (.int 0), N, (rH h m o rp rk (nI q) (nI r)))) : kx_Ok mX5_readPart d 0 0 G 0 0 20 [(0, .ref m), (1, .int t)] [] N (rH h m o rp rk (nI (q + 1)) (nI r)) res := by
  refine ko_iload_n (i := 1) dX5_readPart_20 rfl rfl ?_
  refine ko_bipush (v := 80) dX5_readPart_21 (by decide) ?_
  refine ko_icmp_ne (tgt := 39) dX5_readPart_23 (by decide) (fun c_23 => ?_) (fun c_23 => ?_)
  · refine ko_iload_n (i := 1) dX5_readPart_39 rfl rfl ?_
    refine ko_bipush (v := 75) dX5_readPart_40 (by decide) ?_
    refine ko_icmp_ne (tgt := 57) dX5_readPart_42 (by decide) (fun c_42 => ?_) (fun c_42 => ?_)
    · refine ko_aload_n (i := 0) dX5_readPart_57 rfl rfl ?_
      refine ko_dup dX5_readPart_58 rfl ?_
      refine ko_get fl_X5_57 dX5_readPart_59 rH_o rfl ?_
      refine ko_iconst (v := 1) dX5_readPart_62 (by decide) ?_
      refine ko_isub dX5_readPart_63 ?_
      rw [nI_pred]
      refine ko_put fl_X5_57 dX5_readPart_64 rH_o rfl rfl (Nat.le_of_ble_eq_true rfl) ?_
      refine ko_h (rH_m _ _) ?_
      refine ko_iconst (v := 0) dX5_readPart_67 (by decide) ?_
      refine ko_zret dX5_readPart_68 rfl rfl (Nat.le_of_ble_eq_true rfl) (Nat.le_of_ble_eq_true rfl) ?_
      exact he
    · refine ko_aload_n (i := 0) dX5_readPart_45 rfl rfl ?_
      refine ko_callVr lk_X5_78 dX5_readPart_46 (fn_arePairs (d := d - 1) hd9 (by omega)) rfl rfl rH_o rfl rfl (by omega) (by omega) (by omega) (Nat.le_of_ble_eq_true rfl) ?_
      first | refine ko_ifb_eq (tgt := 57) dX5_readPart_49 (by decide) (fun c_49 => ?_) (fun c_49 => ?_) | refine ko_if_eq (tgt := 57) dX5_readPart_49 (by decide) (fun c_49 => ?_) (fun c_49 => ?_)
      · refine ko_aload_n (i := 0) dX5_readPart_57 rfl rfl ?_
        refine ko_dup dX5_readPart_58 rfl ?_
        refine ko_get fl_X5_57 dX5_readPart_59 rH_o rfl ?_
        refine ko_iconst (v := 1) dX5_readPart_62 (by decide) ?_
        refine ko_isub dX5_readPart_63 ?_
        rw [nI_pred]
        refine ko_put fl_X5_57 dX5_readPart_64 rH_o rfl rfl (Nat.le_of_ble_eq_true rfl) ?_
        refine ko_h (rH_m _ _) ?_
        refine ko_iconst (v := 0) dX5_readPart_67 (by decide) ?_
        refine ko_zret dX5_readPart_68 rfl rfl (Nat.le_of_ble_eq_true rfl) (Nat.le_of_ble_eq_true rfl) ?_
        exact he
      · exfalso
        rcases hno with ⟨z, -⟩ | ⟨-, z⟩ | ⟨-, z⟩
        · exact absurd (z.symm.trans c_42) (by decide)
        · exact z c_42
        · exact absurd (z.symm.trans c_49) (by decide)
  · refine ko_aload_n (i := 0) dX5_readPart_26 rfl rfl ?_
    refine ko_get fl_X5_60 dX5_readPart_27 rH_o rfl ?_
    refine ko_iconst (v := 5) dX5_readPart_30 (by decide) ?_
    refine ko_icmp_ge (tgt := 39) dX5_readPart_31 (by decide) (fun c_31 => ?_) (fun c_31 => ?_)
    · refine ko_iload_n (i := 1) dX5_readPart_39 rfl rfl ?_
      refine ko_bipush (v := 75) dX5_readPart_40 (by decide) ?_
      refine ko_icmp_ne (tgt := 57) dX5_readPart_42 (by decide) (fun c_42 => ?_) (fun c_42 => ?_)
      · refine ko_aload_n (i := 0) dX5_readPart_57 rfl rfl ?_
        refine ko_dup dX5_readPart_58 rfl ?_
        refine ko_get fl_X5_57 dX5_readPart_59 rH_o rfl ?_
        refine ko_iconst (v := 1) dX5_readPart_62 (by decide) ?_
        refine ko_isub dX5_readPart_63 ?_
        rw [nI_pred]
        refine ko_put fl_X5_57 dX5_readPart_64 rH_o rfl rfl (Nat.le_of_ble_eq_true rfl) ?_
        refine ko_h (rH_m _ _) ?_
        refine ko_iconst (v := 0) dX5_readPart_67 (by decide) ?_
        refine ko_zret dX5_readPart_68 rfl rfl (Nat.le_of_ble_eq_true rfl) (Nat.le_of_ble_eq_true rfl) ?_
        exact he
      · refine ko_aload_n (i := 0) dX5_readPart_45 rfl rfl ?_
        refine ko_callVr lk_X5_78 dX5_readPart_46 (fn_arePairs (d := d - 1) hd9 (by omega)) rfl rfl rH_o rfl rfl (by omega) (by omega) (by omega) (Nat.le_of_ble_eq_true rfl) ?_
        first | refine ko_ifb_eq (tgt := 57) dX5_readPart_49 (by decide) (fun c_49 => ?_) (fun c_49 => ?_) | refine ko_if_eq (tgt := 57) dX5_readPart_49 (by decide) (fun c_49 => ?_) (fun c_49 => ?_)
        · refine ko_aload_n (i := 0) dX5_readPart_57 rfl rfl ?_
          refine ko_dup dX5_readPart_58 rfl ?_
          refine ko_get fl_X5_57 dX5_readPart_59 rH_o rfl ?_
          refine ko_iconst (v := 1) dX5_readPart_62 (by decide) ?_
          refine ko_isub dX5_readPart_63 ?_
          rw [nI_pred]
          refine ko_put fl_X5_57 dX5_readPart_64 rH_o rfl rfl (Nat.le_of_ble_eq_true rfl) ?_
          refine ko_h (rH_m _ _) ?_
          refine ko_iconst (v := 0) dX5_readPart_67 (by decide) ?_
          refine ko_zret dX5_readPart_68 rfl rfl (Nat.le_of_ble_eq_true rfl) (Nat.le_of_ble_eq_true rfl) ?_
          exact he
        · exfalso
          rcases hno with ⟨z, -⟩ | ⟨-, z⟩ | ⟨-, z⟩
          · exact absurd (z.symm.trans c_42) (by decide)
          · exact z c_42
          · exact absurd (z.symm.trans c_49) (by decide)
    · exfalso
      rcases hno with ⟨-, z⟩ | ⟨z, -⟩ | ⟨z, -⟩
      · exact c_31 (show nI 5 ≤ nI r from by rw [z]; exact nI_le (Nat.le_refl 5) (by omega))
      · exact z c_23
      · exact absurd (z.symm.trans c_23) (by decide)
theorem fn_mreadPart {G : kx_G} {d N m L q r : Nat} {h : kx_H} {o : MO} {T rp rk : Nat → Int32} {v : PU} (t1 : h (m + 1) = some (ka 48 T)) (r1 : mTs o = nI L) (hL : L ≤ 48) (hd9 : rdR rp rk r v) (hq : q < L) (hd : 4 ≤ d) : ∃ (b : Bool) (rp' rk' : Nat → Int32) (pl' r' : Nat), kx_Fn mX5_readPart d 0 0 G [.ref m] N (rH h m o rp rk (nI q) (nI r)) (some (.int (kb b)), N, (rH h m o rp' rk' (nI pl') (nI r'))) ∧ (b = true → (prR T (nI L) v (nI q)).1 = -9 ∧ rdR rp' rk' r' (prR T (nI L) v (nI q)).2 ∧ pl' = q + (if ltI T (nI L) (nI q) = 80 then 4 else 3) ∧ pl' ≤ L) ∧ (b = false → (prR T (nI L) v (nI q)).1 = nI pl' ∧ pl' < 1000) := by
  have hr5 := hd9.1.2.1
  have el := lt_T (T := T) hq hL
  have fin0 : ∀ {rp' rk' : Nat → Int32} {pl' r' : Int32} {b : Bool}, kx_Ok mX5_readPart d 0 0 G 0 0 20 [(0, .ref m), (1, .int (T q))] [] N (rH h m o rp rk (nI (q + 1)) (nI r)) (some (.int (kb b)), N, (rH h m o rp' rk' pl' r')) → kx_Fn mX5_readPart d 0 0 G [.ref m] N (rH h m o rp rk (nI q) (nI r)) (some (.int (kb b)), N, (rH h m o rp' rk' pl' r')) := fun K => kx_Fn_of rfl (Nat.le_of_ble_eq_true rfl) rfl (rT_0 t1 (by omega) K) rH_dom
  unfold prR
  by_cases h80 : T q = 80
  · rw [el, if_pos h80, if_pos h80]
    rcases Nat.lt_or_ge r 5 with hr | hr
    · obtain ⟨b, rp', rk', pl', r', hf, p1, p2⟩ := fn_mreadPerson (G := G) (N := N) (d := d - 1) (h := h) t1 r1 hL hd9 hr hq (by omega)
      exact ⟨b, rp', rk', pl', r', fin0 (rT_P h80 hr hd hf rfl), p1, p2⟩
    · have hr9 : r = 5 := by omega
      rw [rp_5 (by rw [hd9.1.1, hr9])]
      exact ⟨false, rp, rk, q, r, fin0 (rT_n hd9 (Or.inl ⟨h80, hr9⟩) hd rfl), fun z => absurd z (by decide), fun _ => ⟨rfl, by omega⟩⟩
  · rw [el, if_neg h80, if_neg h80]
    by_cases h75 : T q = 75
    · cases hip : iplB v with
      | true =>
        obtain ⟨b, rp', rk', pl', r', hf, p1, p2⟩ := fn_mreadKin (G := G) (N := N) (d := d - 1) (h := h) t1 r1 hL hd9 (by rw [el]; exact h75) hip hq (by omega)
        exact ⟨b, rp', rk', pl', r', fin0 (rT_K h75 hd9 hip hd hf rfl), p1, p2⟩
      | false =>
        rw [rk_i hip]
        exact ⟨false, rp, rk, q, r, fin0 (rT_n hd9 (Or.inr (Or.inr ⟨h75, hip⟩)) hd rfl), fun z => absurd z (by decide), fun _ => ⟨rfl, by omega⟩⟩
    · rw [rk_n (by rw [el]; exact h75)]
      exact ⟨false, rp, rk, q, r, fin0 (rT_n hd9 (Or.inr (Or.inl ⟨h80, h75⟩)) hd rfl), fun z => absurd z (by decide), fun _ => ⟨rfl, by omega⟩⟩
theorem rl_s {T : Nat → Int32} {n : Int32} {k : Nat} {p : Int32} {u : PU} (h : ¬ n ≤ p) : rl T n (k + 1) p u = if (prR T n u p).1 = -9 then rl T n k (if ltI T n p = 80 then p + 4 else p + 3) (prR T n u p).2 else prR T n u p := by
  rw [rl, if_neg h]
  unfold prR
  by_cases h1 : ltI T n p = 80
  · rw [if_pos h1, if_pos h1, if_pos h1]
  · rw [if_neg h1, if_neg h1, if_neg h1]
theorem rl_e {T : Nat → Int32} {n : Int32} {k : Nat} {p : Int32} {u : PU} (h : n ≤ p) : rl T n k p u = (-9, u) := by
  cases k with
  | zero => rfl
  | succ k => rw [rl, if_pos h]
set_option maxRecDepth 20000 in
theorem rL_e {G : kx_G} {d N m L pl r : Nat} {h : kx_H} {o : MO} {rp rk : Nat → Int32} {res : kx_R} (r1 : mTs o = nI L) (hpl : L ≤ pl) (hp9 : pl < 1000) (he : res = (some (.int (-9)), N, (rH h m o rp rk (nI pl) (nI r)))) : kx_Ok mX5_readLand d 0 0 G 0 0 35 [(0, .ref m)] [] N (rH h m o rp rk (nI pl) (nI r)) res := by
  refine ko_aload_n (i := 0) dX5_readLand_35 rfl rfl ?_
  refine ko_get fl_X5_57 dX5_readLand_36 rH_o rfl ?_
  refine ko_aload_n (i := 0) dX5_readLand_39 rfl rfl ?_
  refine ko_get fl_X5_54 dX5_readLand_40 rH_o rfl ?_
  refine ko_st (st' := [.int (nI L), .int (nI pl)]) (congrArg (fun z => [Value.int z, .int (nI pl)]) r1) ?_
  refine ko_icmp_ge (tgt := 58) dX5_readLand_43 (by decide) (fun c_43 => ?_) (fun c_43 => ?_)
  · refine ko_bipush (v := (-9)) dX5_readLand_58 (by decide) ?_
    refine ko_iret dX5_readLand_60 rfl (Nat.le_of_ble_eq_true rfl) (Nat.le_of_ble_eq_true rfl) ?_
    exact he
  · exact absurd (show nI L ≤ nI pl from nI_le hpl (by omega)) c_43
set_option maxRecDepth 20000 in
theorem rL_n {G : kx_G} {d N m L q r : Nat} {h : kx_H} {o : MO} {rp rk : Nat → Int32} {res : kx_R} {rp' rk' : Nat → Int32} {pl' r' : Nat} (r1 : mTs o = nI L) (hL : L ≤ 48) (hq : q < L) (hd : 5 ≤ d) (hf : kx_Fn mX5_readPart (d - 1) 0 0 G [.ref m] N (rH h m o rp rk (nI q) (nI r)) (some (.int (kb false)), N, rH h m o rp' rk' (nI pl') (nI r'))) (he : res = (some (.int (nI pl')), N, rH h m o rp' rk' (nI pl') (nI r'))) : kx_Ok mX5_readLand d 0 0 G 0 0 35 [(0, .ref m)] [] N (rH h m o rp rk (nI q) (nI r)) res := by
  refine ko_aload_n (i := 0) dX5_readLand_35 rfl rfl ?_
  refine ko_get fl_X5_57 dX5_readLand_36 rH_o rfl ?_
  refine ko_aload_n (i := 0) dX5_readLand_39 rfl rfl ?_
  refine ko_get fl_X5_54 dX5_readLand_40 rH_o rfl ?_
  refine ko_st (st' := [.int (nI L), .int (nI q)]) (congrArg (fun z => [Value.int z, .int (nI q)]) r1) ?_
  refine ko_icmp_ge (tgt := 58) dX5_readLand_43 (by decide) (fun c_43 => ?_) (fun c_43 => ?_)
  · exact absurd (show nI L ≤ nI q from c_43) (nI_ge hq (by omega))
  · refine ko_aload_n (i := 0) dX5_readLand_46 rfl rfl ?_
    refine ko_callVr lk_X5_83 dX5_readLand_47 hf rfl rfl rH_o rfl rfl (by omega) (by omega) (by omega) (Nat.le_of_ble_eq_true rfl) ?_
    refine ko_ifb_ne (tgt := 35) dX5_readLand_50 (by decide) (fun c_50 => ?_) (fun c_50 => ?_)
    · exact absurd c_50 (by decide)
    · refine ko_aload_n (i := 0) dX5_readLand_53 rfl rfl ?_
      refine ko_get fl_X5_57 dX5_readLand_54 rH_o rfl ?_
      refine ko_iret dX5_readLand_57 rfl (Nat.le_of_ble_eq_true rfl) (Nat.le_of_ble_eq_true rfl) ?_
      exact he
set_option maxRecDepth 20000 in
theorem rL_y {G : kx_G} {d N m L q r : Nat} {h : kx_H} {o : MO} {rp rk : Nat → Int32} {res : kx_R} {rp' rk' : Nat → Int32} {pl' r' : Nat} (r1 : mTs o = nI L) (hL : L ≤ 48) (hq : q < L) (hd : 5 ≤ d) (hf : kx_Fn mX5_readPart (d - 1) 0 0 G [.ref m] N (rH h m o rp rk (nI q) (nI r)) (some (.int (kb true)), N, rH h m o rp' rk' (nI pl') (nI r'))) (K : kx_Ok mX5_readLand d 0 0 G 0 0 35 [(0, .ref m)] [] N (rH h m o rp' rk' (nI pl') (nI r')) res) : kx_Ok mX5_readLand d 0 0 G 0 0 35 [(0, .ref m)] [] N (rH h m o rp rk (nI q) (nI r)) res := by
  refine ko_aload_n (i := 0) dX5_readLand_35 rfl rfl ?_
  refine ko_get fl_X5_57 dX5_readLand_36 rH_o rfl ?_
  refine ko_aload_n (i := 0) dX5_readLand_39 rfl rfl ?_
  refine ko_get fl_X5_54 dX5_readLand_40 rH_o rfl ?_
  refine ko_st (st' := [.int (nI L), .int (nI q)]) (congrArg (fun z => [Value.int z, .int (nI q)]) r1) ?_
  refine ko_icmp_ge (tgt := 58) dX5_readLand_43 (by decide) (fun c_43 => ?_) (fun c_43 => ?_)
  · exact absurd (show nI L ≤ nI q from c_43) (nI_ge hq (by omega))
  · refine ko_aload_n (i := 0) dX5_readLand_46 rfl rfl ?_
    refine ko_callVr lk_X5_83 dX5_readLand_47 hf rfl rfl rH_o rfl rfl (by omega) (by omega) (by omega) (Nat.le_of_ble_eq_true rfl) ?_
    refine ko_ifb_ne (tgt := 35) dX5_readLand_50 (by decide) (fun c_50 => ?_) (fun c_50 => ?_)
    · exact K
    · exact absurd c_50 (by decide)
theorem fn_mloop {G : kx_G} {d N m L : Nat} {h : kx_H} {o : MO} {T : Nat → Int32} (t1 : h (m + 1) = some (ka 48 T)) (r1 : mTs o = nI L) (hL : L ≤ 48) (hd : 5 ≤ d) : ∀ (k q r : Nat) (rp rk : Nat → Int32) (v : PU), rdR rp rk r v → q ≤ L → L ≤ q + k → ∃ (rp' rk' : Nat → Int32) (pl' r' : Nat), kx_Ok mX5_readLand d 0 0 G 0 0 35 [(0, .ref m)] [] N (rH h m o rp rk (nI q) (nI r)) (some (.int (rl T (nI L) k (nI q) v).1), N, rH h m o rp' rk' (nI pl') (nI r')) ∧ ((rl T (nI L) k (nI q) v).1 = -9 → rdR rp' rk' r' (rl T (nI L) k (nI q) v).2) := by
  intro k
  induction k with
  | zero =>
    intro q r rp rk v hd9 hq hk
    exact ⟨rp, rk, q, r, rL_e r1 (by omega) (by omega) rfl, fun _ => hd9⟩
  | succ k ih =>
    intro q r rp rk v hd9 hq hk
    rcases Nat.lt_or_ge q L with hl | hl
    · rw [rl_s (nI_ge hl (by omega))]
      obtain ⟨b, rp', rk', pl', r', hf, p1, p2⟩ := fn_mreadPart (G := G) (N := N) (d := d - 1) (h := h) t1 r1 hL hd9 hl (by omega)
      cases b with
      | false =>
        obtain ⟨e1, e2⟩ := p2 rfl
        rw [e1, if_neg (fun z => nI_pos (n := pl') (by omega) (by rw [z]; decide)), e1]
        exact ⟨rp', rk', pl', r', rL_n r1 hL hl hd hf rfl, fun z => absurd (show nI pl' < 0 by rw [z]; decide) (nI_pos (by omega))⟩
      | true =>
        obtain ⟨e1, e2, e3, e4⟩ := p1 rfl
        have ep : (if ltI T (nI L) (nI q) = 80 then nI q + 4 else nI q + 3) = nI pl' := by
          rw [e3]
          split
          · exact nI_add q 4
          · exact nI_add q 3
        have h3 : q + 1 ≤ pl' := by
          rw [e3]
          split <;> omega
        rw [e1, if_pos rfl, ep]
        obtain ⟨rp2, rk2, pl2, r2, K, p3⟩ := ih pl' r' rp' rk' _ e2 e4 (by omega)
        exact ⟨rp2, rk2, pl2, r2, rL_y r1 hL hl hd hf K, p3⟩
    · rw [rl_e (nI_le hl (by omega))]
      exact ⟨rp, rk, q, r, rL_e r1 hl (by omega) rfl, fun _ => hd9⟩
theorem rI_0 {h : kx_H} {m : Nat} {o : MO} {rp rk : Nat → Int32} (m0 : h m = some (kmo m o)) (m3 : h (m + 3) = some (ka 15 rp)) (m4 : h (m + 4) = some (ka 5 rk)) (pl r : Int32) : kx_up h m (rmo m o pl r) = rH h m o rp rk pl r := by
  unfold rH
  rw [ku_same m3, ku_same m4]
set_option maxRecDepth 20000 in
theorem rI_e {G : kx_G} {d N m L : Nat} {h : kx_H} {o : MO} {T rp rk : Nat → Int32} {res : kx_R} (t1 : h (m + 1) = some (ka 48 T)) (r1 : mTs o = nI L) (hL : L ≤ 48) (m0 : h m = some (kmo m o)) (m3 : h (m + 3) = some (ka 15 rp)) (m4 : h (m + 4) = some (ka 5 rk)) (hE : L = 0 ∨ ¬ T 0 = 84) (he : res = (some (.int 0), N, rH h m o rp rk (nI 0) (nI 0))) : kx_Ok mX5_readLand d 0 0 G 0 0 0 [(0, .ref m)] [] N h res := by
  refine ko_aload_n (i := 0) dX5_readLand_0 rfl rfl ?_
  refine ko_iconst (v := 0) dX5_readLand_1 (by decide) ?_
  refine ko_put fl_X5_57 dX5_readLand_2 m0 rfl rfl (Nat.le_of_ble_eq_true rfl) ?_
  refine ko_h (rI_0 m0 m3 m4 0 (mRp o)) ?_
  refine ko_aload_n (i := 0) dX5_readLand_5 rfl rfl ?_
  refine ko_iconst (v := 0) dX5_readLand_6 (by decide) ?_
  refine ko_put fl_X5_60 dX5_readLand_7 rH_o rfl rfl (Nat.le_of_ble_eq_true rfl) ?_
  refine ko_h (rH_m _ _) ?_
  refine ko_aload_n (i := 0) dX5_readLand_10 rfl rfl ?_
  refine ko_get fl_X5_54 dX5_readLand_11 rH_o rfl ?_
  refine ko_st (st' := [.int (nI L)]) (congrArg (fun z => [Value.int z]) r1) ?_
  refine ko_if_eq (tgt := 28) dX5_readLand_14 (by decide) (fun c_14 => ?_) (fun c_14 => ?_)
  · refine ko_iconst (v := 0) dX5_readLand_28 (by decide) ?_
    refine ko_iret dX5_readLand_29 rfl (Nat.le_of_ble_eq_true rfl) (Nat.le_of_ble_eq_true rfl) ?_
    exact he
  · refine ko_aload_n (i := 0) dX5_readLand_17 rfl rfl ?_
    refine ko_get fl_X5_7 dX5_readLand_18 rH_o rfl ?_
    refine ko_iconst (v := 0) dX5_readLand_21 (by decide) ?_
    refine ko_iald dX5_readLand_22 ((rH_q (by omega) (by omega) (by omega)).trans t1) (vp_in_nI (n := 0) (by omega) (by omega)) ?_
    rw [show (0 : Int32).toNatClampNeg = 0 from rfl]
    refine ko_bipush (v := 84) dX5_readLand_23 (by decide) ?_
    refine ko_icmp_eq (tgt := 30) dX5_readLand_25 (by decide) (fun c_25 => ?_) (fun c_25 => ?_)
    · exfalso
      rcases hE with z | z
      · subst z; exact c_14 rfl
      · exact z c_25
    · refine ko_iconst (v := 0) dX5_readLand_28 (by decide) ?_
      refine ko_iret dX5_readLand_29 rfl (Nat.le_of_ble_eq_true rfl) (Nat.le_of_ble_eq_true rfl) ?_
      exact he
set_option maxRecDepth 20000 in
theorem rI_g {G : kx_G} {d N m L : Nat} {h : kx_H} {o : MO} {T rp rk : Nat → Int32} {res : kx_R} (t1 : h (m + 1) = some (ka 48 T)) (r1 : mTs o = nI L) (hL : L ≤ 48) (m0 : h m = some (kmo m o)) (m3 : h (m + 3) = some (ka 15 rp)) (m4 : h (m + 4) = some (ka 5 rk)) (h1 : 0 < L) (h84 : T 0 = 84) (K : kx_Ok mX5_readLand d 0 0 G 0 0 35 [(0, .ref m)] [] N (rH h m o rp rk (nI 1) (nI 0)) res) : kx_Ok mX5_readLand d 0 0 G 0 0 0 [(0, .ref m)] [] N h res := by
  refine ko_aload_n (i := 0) dX5_readLand_0 rfl rfl ?_
  refine ko_iconst (v := 0) dX5_readLand_1 (by decide) ?_
  refine ko_put fl_X5_57 dX5_readLand_2 m0 rfl rfl (Nat.le_of_ble_eq_true rfl) ?_
  refine ko_h (rI_0 m0 m3 m4 0 (mRp o)) ?_
  refine ko_aload_n (i := 0) dX5_readLand_5 rfl rfl ?_
  refine ko_iconst (v := 0) dX5_readLand_6 (by decide) ?_
  refine ko_put fl_X5_60 dX5_readLand_7 rH_o rfl rfl (Nat.le_of_ble_eq_true rfl) ?_
  refine ko_h (rH_m _ _) ?_
  refine ko_aload_n (i := 0) dX5_readLand_10 rfl rfl ?_
  refine ko_get fl_X5_54 dX5_readLand_11 rH_o rfl ?_
  refine ko_st (st' := [.int (nI L)]) (congrArg (fun z => [Value.int z]) r1) ?_
  refine ko_if_eq (tgt := 28) dX5_readLand_14 (by decide) (fun c_14 => ?_) (fun c_14 => ?_)
  · exfalso
    first
      | exact c_25 h84
      | (have := (nI_eq (a := L) (b := 0) (by omega) (by omega)).mp c_14
         omega)
  · refine ko_aload_n (i := 0) dX5_readLand_17 rfl rfl ?_
    refine ko_get fl_X5_7 dX5_readLand_18 rH_o rfl ?_
    refine ko_iconst (v := 0) dX5_readLand_21 (by decide) ?_
    refine ko_iald dX5_readLand_22 ((rH_q (by omega) (by omega) (by omega)).trans t1) (vp_in_nI (n := 0) (by omega) (by omega)) ?_
    rw [show (0 : Int32).toNatClampNeg = 0 from rfl]
    refine ko_bipush (v := 84) dX5_readLand_23 (by decide) ?_
    refine ko_icmp_eq (tgt := 30) dX5_readLand_25 (by decide) (fun c_25 => ?_) (fun c_25 => ?_)
    · refine ko_aload_n (i := 0) dX5_readLand_30 rfl rfl ?_
      refine ko_iconst (v := 1) dX5_readLand_31 (by decide) ?_
      refine ko_put fl_X5_57 dX5_readLand_32 rH_o rfl rfl (Nat.le_of_ble_eq_true rfl) ?_
      refine ko_h (rH_m _ _) ?_
      exact K
    · exfalso
      first
        | exact c_25 h84
        | (have := (nI_eq (a := L) (b := 0) (by omega) (by omega)).mp c_14
           omega)
theorem rH_dom0 {h : kx_H} {m N : Nat} {o : MO} {rp rk rp' rk' : Nat → Int32} {pl' r' : Int32} (m0 : h m = some (kmo m o)) (m3 : h (m + 3) = some (ka 15 rp)) (m4 : h (m + 4) = some (ka 5 rk)) : ∀ q e, rH h m o rp' rk' pl' r' q = some e → kx_dom h N q := by
  intro q e he
  by_cases h0 : q = m
  · subst h0; exact kx_self _ _ m0
  · by_cases h3 : q = m + 3
    · subst h3; exact kx_self _ _ m3
    · by_cases h4 : q = m + 4
      · subst h4; exact kx_self _ _ m4
      · rw [rH_q h0 h3 h4] at he
        exact kx_self _ _ he
theorem fn_mreadLand {G : kx_G} {d N m L : Nat} {h : kx_H} {o : MO} {T rp rk : Nat → Int32} (t1 : h (m + 1) = some (ka 48 T)) (r1 : mTs o = nI L) (hL : L ≤ 48) (m0 : h m = some (kmo m o)) (m3 : h (m + 3) = some (ka 15 rp)) (m4 : h (m + 4) = some (ka 5 rk)) (hd : 5 ≤ d) : ∃ (rp' rk' : Nat → Int32) (pl' r' : Nat), kx_Fn mX5_readLand d 0 0 G [.ref m] N h (some (.int (rlR T (nI L)).1), N, rH h m o rp' rk' (nI pl') (nI r')) ∧ ((rlR T (nI L)).1 = -9 → rdR rp' rk' r' (rlR T (nI L)).2) := by
  by_cases hE : L = 0 ∨ ¬ T 0 = 84
  · have e : rlR T (nI L) = (0, pZ) := by
      unfold rlR
      refine if_pos (fun z => ?_)
      rcases hE with y | y
      · subst y
        rw [show (0 : Int32) = nI 0 from rfl, lt_no (Nat.le_refl 0) (by omega)] at z
        exact absurd z (by decide)
      · rcases Nat.eq_zero_or_pos L with x | x
        · subst x
          rw [show (0 : Int32) = nI 0 from rfl, lt_no (Nat.le_refl 0) (by omega)] at z
          exact absurd z (by decide)
        · rw [show (0 : Int32) = nI 0 from rfl, lt_T x hL] at z
          exact y z
    rw [e]
    exact ⟨rp, rk, 0, 0, kx_Fn_of rfl (Nat.le_of_ble_eq_true rfl) rfl (rI_e t1 r1 hL m0 m3 m4 hE rfl) (rH_dom0 m0 m3 m4), fun z => absurd z (by decide)⟩
  · have h1 : 0 < L := Nat.pos_of_ne_zero (fun z => hE (Or.inl z))
    have h84 : T 0 = 84 := Classical.not_not.mp (fun z => hE (Or.inr z))
    have e : rlR T (nI L) = rl T (nI L) 48 (nI 1) pZ := by
      unfold rlR
      rw [show (0 : Int32) = nI 0 from rfl, lt_T h1 hL]
      exact if_neg (fun z => z h84)
    rw [e]
    obtain ⟨rp', rk', pl', r', K, p⟩ := fn_mloop (G := G) (N := N) (h := h) t1 r1 hL hd 48 1 0 rp rk pZ (rd_0 rp rk) h1 (by omega)
    exact ⟨rp', rk', pl', r', kx_Fn_of rfl (Nat.le_of_ble_eq_true rfl) rfl (rI_g t1 r1 hL m0 m3 m4 h1 h84 K) (rH_dom0 m0 m3 m4), p⟩
