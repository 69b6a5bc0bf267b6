/-! ===== Service: the search of ways ===== -/
abbrev SU : Type := Int32 × Int32 × Int32 × Int32
abbrev kso (s : SU) : va_E := .inr (3, [.int s.1, .int s.2.1, .int s.2.2.1, .int s.2.2.2])
theorem ku_ku (h : kx_H) (a : Nat) (e e' : va_E) : kx_up (kx_up h a e) a e' = kx_up h a e' := by
  funext q
  unfold kx_up
  by_cases hq : q = a
  · rw [if_pos hq, if_pos hq]
  · rw [if_neg hq, if_neg hq, if_neg hq]
theorem ku_same {h : kx_H} {a : Nat} {e : va_E} (he : h a = some e) : kx_up h a e = h := by
  funext q
  unfold kx_up
  by_cases hq : q = a
  · rw [if_pos hq, hq, he]
  · rw [if_neg hq]
theorem ku_dom {h : kx_H} {a N : Nat} {e0 e : va_E} (he : h a = some e0) : ∀ q x, kx_up h a e q = some x → kx_dom h N q := by
  intro q x hx
  by_cases hq : q = a
  · subst hq; exact kx_self _ _ he
  · rw [ku_n hq] at hx; exact kx_self _ _ hx
theorem kP_up {h : kx_H} {a b : Nat} {u : PU} {e : va_E} (hP : kP h a u) (hb : b < a ∨ a + 5 < b) : kP (kx_up h b e) a u := by
  obtain ⟨e0, e1, e2, e3, e4, e5⟩ := hP
  exact ⟨by rw [ku_n (by omega)]; exact e0, by rw [ku_n (by omega)]; exact e1, by rw [ku_n (by omega)]; exact e2, by rw [ku_n (by omega)]; exact e3, by rw [ku_n (by omega)]; exact e4, by rw [ku_n (by omega)]; exact e5⟩
def cmU (s : SU) (g c t : Int32) : SU := if s.2.1 < g then (s.1, g, c, t) else if ¬ g = s.2.1 then s else if s.2.2.1 ≤ c then s else (s.1, g, c, t)
def gvF (rec : Int32 → Int32 → Int32 → Int32 → SU → SU) (u : PU) (w f g c t : Int32) : Nat → SU → SU
  | 0, s => s
  | i + 1, s => if hbI f (nI i) = true then if fitI u (nI i) w = true then rec (f &&& (1 <<< (nI i &&& 31) ^^^ (-1))) (g + 1) (c + ozI u (nI i)) (t * 10 + nI i + 1) (gvF rec u w f g c t i s) else gvF rec u w f g c t i s else gvF rec u w f g c t i s
def gv (u : PU) : Nat → Int32 → Int32 → Int32 → Int32 → SU → SU
  | 0, f, g, c, t, s => cmU s g c t
  | k + 1, f, g, c, t, s => if hbI s.1 (nI (4 - k)) = true then gvF (gv u k) u (nI (4 - k)) f g c t 5 (gv u k f g c (t * 10) s) else gv u k f g c t s
def seU (u : PU) (op fr : Int32) : SU := gv u 5 fr 0 0 0 (op, -1, 0, 0)
set_option maxRecDepth 20000 in
theorem fn_compare {G : kx_G} {d N b : Nat} {h : kx_H} {s : SU} {g c t : Int32} : kx_Fn mX3_compare d 0 0 G [.ref b, .int g, .int c, .int t] N (kx_up h b (kso s)) (none, N, kx_up h b (kso (cmU s g c t))) := by
  refine kx_Fn_of rfl (Nat.le_of_ble_eq_true rfl) rfl ?_ (fun q x hx => by rw [← ku_ku h b (kso s)] at hx; exact ku_dom ku_s q x hx)
  refine ko_iload_n (i := 1) dX3_compare_0 rfl rfl ?_
  refine ko_aload_n (i := 0) dX3_compare_1 rfl rfl ?_
  refine ko_get fl_X3_15 dX3_compare_2 ku_s rfl ?_
  refine ko_icmp_gt (tgt := 24) dX3_compare_5 (by decide) (fun c_5 => ?_) (fun c_5 => ?_)
  · refine ko_aload_n (i := 0) dX3_compare_24 rfl rfl ?_
    refine ko_iload_n (i := 1) dX3_compare_25 rfl rfl ?_
    refine ko_put fl_X3_15 dX3_compare_26 ku_s rfl rfl (Nat.le_of_ble_eq_true rfl) ?_
    refine ko_h (ku_ku _ _ _ _) ?_
    refine ko_aload_n (i := 0) dX3_compare_29 rfl rfl ?_
    refine ko_iload_n (i := 2) dX3_compare_30 rfl rfl ?_
    refine ko_put fl_X3_18 dX3_compare_31 ku_s rfl rfl (Nat.le_of_ble_eq_true rfl) ?_
    refine ko_h (ku_ku _ _ _ _) ?_
    refine ko_aload_n (i := 0) dX3_compare_34 rfl rfl ?_
    refine ko_iload_n (i := 3) dX3_compare_35 rfl rfl ?_
    refine ko_put fl_X3_21 dX3_compare_36 ku_s rfl rfl (Nat.le_of_ble_eq_true rfl) ?_
    refine ko_h (ku_ku _ _ _ _) ?_
    refine ko_vret dX3_compare_39 rfl (Nat.le_of_ble_eq_true rfl) (Nat.le_of_ble_eq_true rfl) ?_
    simp [cmU, c_5]
  · refine ko_iload_n (i := 1) dX3_compare_8 rfl rfl ?_
    refine ko_aload_n (i := 0) dX3_compare_9 rfl rfl ?_
    refine ko_get fl_X3_15 dX3_compare_10 ku_s rfl ?_
    refine ko_icmp_ne (tgt := 39) dX3_compare_13 (by decide) (fun c_13 => ?_) (fun c_13 => ?_)
    · refine ko_vret dX3_compare_39 rfl (Nat.le_of_ble_eq_true rfl) (Nat.le_of_ble_eq_true rfl) ?_
      simp [cmU, c_5, c_13]
    · refine ko_iload_n (i := 2) dX3_compare_16 rfl rfl ?_
      refine ko_aload_n (i := 0) dX3_compare_17 rfl rfl ?_
      refine ko_get fl_X3_18 dX3_compare_18 ku_s rfl ?_
      refine ko_icmp_ge (tgt := 39) dX3_compare_21 (by decide) (fun c_21 => ?_) (fun c_21 => ?_)
      · refine ko_vret dX3_compare_39 rfl (Nat.le_of_ble_eq_true rfl) (Nat.le_of_ble_eq_true rfl) ?_
        simp [cmU, c_5, c_13, c_21]
      · refine ko_aload_n (i := 0) dX3_compare_24 rfl rfl ?_
        refine ko_iload_n (i := 1) dX3_compare_25 rfl rfl ?_
        refine ko_put fl_X3_15 dX3_compare_26 ku_s rfl rfl (Nat.le_of_ble_eq_true rfl) ?_
        refine ko_h (ku_ku _ _ _ _) ?_
        refine ko_aload_n (i := 0) dX3_compare_29 rfl rfl ?_
        refine ko_iload_n (i := 2) dX3_compare_30 rfl rfl ?_
        refine ko_put fl_X3_18 dX3_compare_31 ku_s rfl rfl (Nat.le_of_ble_eq_true rfl) ?_
        refine ko_h (ku_ku _ _ _ _) ?_
        refine ko_aload_n (i := 0) dX3_compare_34 rfl rfl ?_
        refine ko_iload_n (i := 3) dX3_compare_35 rfl rfl ?_
        refine ko_put fl_X3_21 dX3_compare_36 ku_s rfl rfl (Nat.le_of_ble_eq_true rfl) ?_
        refine ko_h (ku_ku _ _ _ _) ?_
        refine ko_vret dX3_compare_39 rfl (Nat.le_of_ble_eq_true rfl) (Nat.le_of_ble_eq_true rfl) ?_
        simp [cmU, c_5, c_13, c_21]
set_option maxRecDepth 20000 in
theorem fn_give {G : kx_G} {N a b : Nat} {h : kx_H} {u : PU} (hP : kP h a u) (hab : b < a ∨ a + 5 < b) : ∀ (k w d : Nat) (s : SU) (f g c t : Int32), w + k = 5 → k + 3 ≤ d → kx_Fn mX3_give d 0 0 G [.ref b, .ref a, .int f, .int (nI w), .int g, .int c, .int t] N (kx_up h b (kso s)) (none, N, kx_up h b (kso (gv u k f g c t s))) := by
  intro k
  induction k with
  | zero =>
    intro w d s f g c t hw hd
    obtain rfl : w = 5 := by omega
    refine kx_Fn_of rfl (Nat.le_of_ble_eq_true rfl) rfl ?_ (fun q x hx => by rw [← ku_ku h b (kso s)] at hx; exact ku_dom ku_s q x hx)
    refine ko_iload_n (i := 3) dX3_give_0 rfl rfl ?_
    refine ko_iconst (v := 5) dX3_give_1 (by decide) ?_
    refine ko_icmp_lt (tgt := 16) dX3_give_2 (by decide) (fun c_2 => ?_) (fun c_2 => ?_)
    · exact absurd c_2 (by decide)
    · refine ko_aload_n (i := 0) dX3_give_5 rfl rfl ?_
      refine ko_iload (i := 4) dX3_give_6 rfl ?_
      refine ko_iload (i := 5) dX3_give_8 rfl ?_
      refine ko_iload (i := 6) dX3_give_10 rfl ?_
      refine ko_callVv lk_X3_28 dX3_give_12 (fn_compare (d := d - 1)) rfl rfl ku_s rfl rfl (by omega) (by omega) (by omega) (Nat.le_of_ble_eq_true rfl) ?_
      refine ko_vret dX3_give_15 rfl (Nat.le_of_ble_eq_true rfl) (Nat.le_of_ble_eq_true rfl) ?_
      rfl
  | succ k ihg =>
    intro w d s f g c t hw hd
    have e4 : 4 - k = w := by omega
    refine kx_Fn_of rfl (Nat.le_of_ble_eq_true rfl) rfl ?_ (fun q x hx => by rw [← ku_ku h b (kso s)] at hx; exact ku_dom ku_s q x hx)
    unfold gv
    rw [e4]
    have LOOP : ∀ (kk i : Nat), kk + i = 5 → kx_Ok mX3_give d 0 0 G 0 0 64 [(0, .ref b), (1, .ref a), (2, .int f), (3, .int (nI w)), (4, .int g), (5, .int c), (6, .int t), (7, .int (nI i))] [] N (kx_up h b (kso (gvF (gv u k) u (nI w) f g c t i (gv u k f g c (t * 10) s)))) (none, N, kx_up h b (kso (gvF (gv u k) u (nI w) f g c t 5 (gv u k f g c (t * 10) s)))) := by
      intro kk
      induction kk with
      | zero =>
        intro i hi
        obtain rfl : i = 5 := by omega
        refine ko_iload (i := 7) dX3_give_64 rfl ?_
        refine ko_iconst (v := 5) dX3_give_66 (by decide) ?_
        refine ko_icmp_ge (tgt := 142) dX3_give_67 (by decide) (fun c_67 => ?_) (fun c_67 => ?_)
        · refine ko_vret dX3_give_142 rfl (Nat.le_of_ble_eq_true rfl) (Nat.le_of_ble_eq_true rfl) ?_
          rfl
        · exact absurd (show (5 : Int32) ≤ nI 5 by decide) c_67
      | succ kk ih =>
        intro i hi
        refine ko_iload (i := 7) dX3_give_64 rfl ?_
        refine ko_iconst (v := 5) dX3_give_66 (by decide) ?_
        refine ko_icmp_ge (tgt := 142) dX3_give_67 (by decide) (fun c_67 => ?_) (fun c_67 => ?_)
        · exact absurd (show nI 5 ≤ nI i from c_67) (nI_ge (by omega) (by omega))
        · refine ko_iload_n (i := 2) dX3_give_70 rfl rfl ?_
          refine ko_iload (i := 7) dX3_give_71 rfl ?_
          refine ko_callSNr lk_X3_32 dX3_give_73 (fn_hasBit (d := d - 1)) rfl rfl (by omega) (by omega) (by omega) (Nat.le_of_ble_eq_true rfl) ?_
          first | refine ko_ifb_eq (tgt := 136) dX3_give_76 (by decide) (fun c_76 => ?_) (fun c_76 => ?_) | refine ko_if_eq (tgt := 136) dX3_give_76 (by decide) (fun c_76 => ?_) (fun c_76 => ?_)
          · refine ko_inc1 (i := 7) (lv' := [(0, _), (1, _), (2, _), (3, _), (4, _), (5, _), (6, _), (7, _)]) dX3_give_136 rfl (by decide) rfl rfl rfl ?_
            refine ko_goto (tgt := 64) dX3_give_139 (by decide) ?_
            refine ko_h (h' := kx_up h b (kso (gvF (gv u k) u (nI w) f g c t (i + 1) (gv u k f g c (t * 10) s)))) ?_ ?_
            · simp only [gvF, c_67, c_76, if_true, Bool.false_eq_true, if_false]
            · refine ko_keep [0, 1, 2, 3, 4, 5, 6, 7] (lv' := [(0, .ref b), (1, .ref a), (2, .int f), (3, .int (nI w)), (4, .int g), (5, .int c), (6, .int t), (7, .int (nI i + 1))]) rfl (ko_lv ?_ (ih (i + 1) (by omega)))
              rw [nI_succ i]
          · refine ko_aload_n (i := 1) dX3_give_79 rfl rfl ?_
            refine ko_iload (i := 7) dX3_give_80 rfl ?_
            refine ko_iload_n (i := 3) dX3_give_82 rfl rfl ?_
            refine ko_callVr lk_X3_36 dX3_give_83 (fn_isFitFor (d := d - 1) (kP_up hP hab) (by omega)) rfl rfl (kP_up hP hab).1 rfl rfl (by omega) (by omega) (by omega) (Nat.le_of_ble_eq_true rfl) ?_
            first | refine ko_ifb_eq (tgt := 136) dX3_give_86 (by decide) (fun c_86 => ?_) (fun c_86 => ?_) | refine ko_if_eq (tgt := 136) dX3_give_86 (by decide) (fun c_86 => ?_) (fun c_86 => ?_)
            · refine ko_inc1 (i := 7) (lv' := [(0, _), (1, _), (2, _), (3, _), (4, _), (5, _), (6, _), (7, _)]) dX3_give_136 rfl (by decide) rfl rfl rfl ?_
              refine ko_goto (tgt := 64) dX3_give_139 (by decide) ?_
              refine ko_h (h' := kx_up h b (kso (gvF (gv u k) u (nI w) f g c t (i + 1) (gv u k f g c (t * 10) s)))) ?_ ?_
              · simp only [gvF, c_67, c_76, c_86, if_true, Bool.false_eq_true, if_false]
              · refine ko_keep [0, 1, 2, 3, 4, 5, 6, 7] (lv' := [(0, .ref b), (1, .ref a), (2, .int f), (3, .int (nI w)), (4, .int g), (5, .int c), (6, .int t), (7, .int (nI i + 1))]) rfl (ko_lv ?_ (ih (i + 1) (by omega)))
                rw [nI_succ i]
            · refine ko_iload_n (i := 2) dX3_give_89 rfl rfl ?_
              refine ko_iconst (v := 1) dX3_give_90 (by decide) ?_
              refine ko_iload (i := 7) dX3_give_91 rfl ?_
              refine ko_ishl dX3_give_93 ?_
              refine ko_iconst (v := (-1)) dX3_give_94 (by decide) ?_
              refine ko_ixor dX3_give_95 ?_
              refine ko_iand dX3_give_96 ?_
              refine ko_istore (i := 8) (lv' := [(0, _), (1, _), (2, _), (3, _), (4, _), (5, _), (6, _), (7, _), (8, _)]) dX3_give_97 (by decide) rfl rfl rfl ?_
              refine ko_iload (i := 5) dX3_give_99 rfl ?_
              refine ko_aload_n (i := 1) dX3_give_101 rfl rfl ?_
              refine ko_iload (i := 7) dX3_give_102 rfl ?_
              refine ko_callVr lk_X3_41 dX3_give_104 (fn_ounces (d := d - 1) (kP_up hP hab) (by omega)) rfl rfl (kP_up hP hab).1 rfl rfl (by omega) (by omega) (by omega) (Nat.le_of_ble_eq_true rfl) ?_
              refine ko_iadd dX3_give_107 ?_
              refine ko_istore (i := 9) (lv' := [(0, _), (1, _), (2, _), (3, _), (4, _), (5, _), (6, _), (7, _), (8, _), (9, _)]) dX3_give_108 (by decide) rfl rfl rfl ?_
              refine ko_aload_n (i := 0) dX3_give_110 rfl rfl ?_
              refine ko_aload_n (i := 1) dX3_give_111 rfl rfl ?_
              refine ko_iload (i := 8) dX3_give_112 rfl ?_
              refine ko_iload_n (i := 3) dX3_give_114 rfl rfl ?_
              refine ko_iconst (v := 1) dX3_give_115 (by decide) ?_
              refine ko_iadd dX3_give_116 ?_
              rw [← nI_succ w]
              refine ko_iload (i := 4) dX3_give_117 rfl ?_
              refine ko_iconst (v := 1) dX3_give_119 (by decide) ?_
              refine ko_iadd dX3_give_120 ?_
              refine ko_iload (i := 9) dX3_give_121 rfl ?_
              refine ko_iload (i := 6) dX3_give_123 rfl ?_
              refine ko_bipush (v := 10) dX3_give_125 (by decide) ?_
              refine ko_imul dX3_give_127 ?_
              refine ko_iload (i := 7) dX3_give_128 rfl ?_
              refine ko_iadd dX3_give_130 ?_
              refine ko_iconst (v := 1) dX3_give_131 (by decide) ?_
              refine ko_iadd dX3_give_132 ?_
              refine ko_callSv lk_X3_24 dX3_give_133 (ihg (w + 1) (d - 1) _ _ _ _ _ (by omega) (by omega)) rfl rfl (by omega) (by omega) (by omega) (Nat.le_of_ble_eq_true rfl) ?_
              refine ko_inc1 (i := 7) (lv' := [(0, _), (1, _), (2, _), (3, _), (4, _), (5, _), (6, _), (7, _), (8, _), (9, _)]) dX3_give_136 rfl (by decide) rfl rfl rfl ?_
              refine ko_goto (tgt := 64) dX3_give_139 (by decide) ?_
              refine ko_h (h' := kx_up h b (kso (gvF (gv u k) u (nI w) f g c t (i + 1) (gv u k f g c (t * 10) s)))) ?_ ?_
              · simp only [gvF, c_67, c_76, c_86, if_true, Bool.false_eq_true, if_false]
              · refine ko_keep [0, 1, 2, 3, 4, 5, 6, 7] (lv' := [(0, .ref b), (1, .ref a), (2, .int f), (3, .int (nI w)), (4, .int g), (5, .int c), (6, .int t), (7, .int (nI i + 1))]) rfl (ko_lv ?_ (ih (i + 1) (by omega)))
                rw [nI_succ i]
    refine ko_iload_n (i := 3) dX3_give_0 rfl rfl ?_
    refine ko_iconst (v := 5) dX3_give_1 (by decide) ?_
    refine ko_icmp_lt (tgt := 16) dX3_give_2 (by decide) (fun c_2 => ?_) (fun c_2 => ?_)
    · refine ko_aload_n (i := 0) dX3_give_16 rfl rfl ?_
      refine ko_get fl_X3_9 dX3_give_17 ku_s rfl ?_
      refine ko_iload_n (i := 3) dX3_give_20 rfl rfl ?_
      refine ko_callSNr lk_X3_32 dX3_give_21 (fn_hasBit (d := d - 1)) rfl rfl (by omega) (by omega) (by omega) (Nat.le_of_ble_eq_true rfl) ?_
      first | refine ko_ifb_ne (tgt := 43) dX3_give_24 (by decide) (fun c_24 => ?_) (fun c_24 => ?_) | refine ko_if_ne (tgt := 43) dX3_give_24 (by decide) (fun c_24 => ?_) (fun c_24 => ?_)
      · refine ko_aload_n (i := 0) dX3_give_43 rfl rfl ?_
        refine ko_aload_n (i := 1) dX3_give_44 rfl rfl ?_
        refine ko_iload_n (i := 2) dX3_give_45 rfl rfl ?_
        refine ko_iload_n (i := 3) dX3_give_46 rfl rfl ?_
        refine ko_iconst (v := 1) dX3_give_47 (by decide) ?_
        refine ko_iadd dX3_give_48 ?_
        rw [← nI_succ w]
        refine ko_iload (i := 4) dX3_give_49 rfl ?_
        refine ko_iload (i := 5) dX3_give_51 rfl ?_
        refine ko_iload (i := 6) dX3_give_53 rfl ?_
        refine ko_bipush (v := 10) dX3_give_55 (by decide) ?_
        refine ko_imul dX3_give_57 ?_
        refine ko_callSv lk_X3_24 dX3_give_58 (ihg (w + 1) (d - 1) _ _ _ _ _ (by omega) (by omega)) rfl rfl (by omega) (by omega) (by omega) (Nat.le_of_ble_eq_true rfl) ?_
        refine ko_iconst (v := 0) dX3_give_61 (by decide) ?_
        refine ko_istore (i := 7) (lv' := [(0, _), (1, _), (2, _), (3, _), (4, _), (5, _), (6, _), (7, _)]) dX3_give_62 (by decide) rfl rfl rfl ?_
        rw [c_24]
        exact LOOP 5 0 rfl
      · refine ko_aload_n (i := 0) dX3_give_27 rfl rfl ?_
        refine ko_aload_n (i := 1) dX3_give_28 rfl rfl ?_
        refine ko_iload_n (i := 2) dX3_give_29 rfl rfl ?_
        refine ko_iload_n (i := 3) dX3_give_30 rfl rfl ?_
        refine ko_iconst (v := 1) dX3_give_31 (by decide) ?_
        refine ko_iadd dX3_give_32 ?_
        rw [← nI_succ w]
        refine ko_iload (i := 4) dX3_give_33 rfl ?_
        refine ko_iload (i := 5) dX3_give_35 rfl ?_
        refine ko_iload (i := 6) dX3_give_37 rfl ?_
        refine ko_callSv lk_X3_24 dX3_give_39 (ihg (w + 1) (d - 1) _ _ _ _ _ (by omega) (by omega)) rfl rfl (by omega) (by omega) (by omega) (Nat.le_of_ble_eq_true rfl) ?_
        refine ko_vret dX3_give_42 rfl (Nat.le_of_ble_eq_true rfl) (Nat.le_of_ble_eq_true rfl) ?_
        rw [c_24]
        rfl
    · exact absurd (show nI w < nI 5 from nI_lt (by omega) (by omega)) c_2
theorem fn_give5 {G : kx_G} {N d a b : Nat} {h : kx_H} {u : PU} {s S : SU} {f : Int32} (hP : kP h a u) (hab : b < a ∨ a + 5 < b) (hd : 8 ≤ d) (hS : gv u 5 f 0 0 0 s = S) : kx_Fn mX3_give d 0 0 G [.ref b, .ref a, .int f, .int 0, .int 0, .int 0, .int 0] N (kx_up h b (kso s)) (none, N, kx_up h b (kso S)) := by
  subst hS
  have e := fn_give (G := G) (N := N) hP hab 5 0 d s f 0 0 0 rfl hd
  rw [nI_0] at e
  exact e
set_option maxRecDepth 20000 in
theorem fn_search {G : kx_G} {d N a b : Nat} {h : kx_H} {u : PU} {s : SU} {op fr : Int32} (hP : kP h a u) (hb : h b = some (kso s)) (hab : b < a ∨ a + 5 < b) (hd : 9 ≤ d) : kx_Fn mX3_search d 0 0 G [.ref b, .ref a, .int op, .int fr] N h (some (.int (seU u op fr).2.1), N, kx_up h b (kso (seU u op fr))) := by
  refine kx_Fn_of rfl (Nat.le_of_ble_eq_true rfl) rfl ?_ (ku_dom hb)
  unfold seU
  generalize hS : gv u 5 fr 0 0 0 (op, -1, 0, 0) = S
  refine ko_h (ku_same hb).symm ?_
  refine ko_aload_n (i := 0) dX3_search_0 rfl rfl ?_
  refine ko_iload_n (i := 2) dX3_search_1 rfl rfl ?_
  refine ko_put fl_X3_9 dX3_search_2 ku_s rfl rfl (Nat.le_of_ble_eq_true rfl) ?_
  refine ko_h (ku_ku _ _ _ _) ?_
  refine ko_aload_n (i := 0) dX3_search_5 rfl rfl ?_
  refine ko_iconst (v := (-1)) dX3_search_6 (by decide) ?_
  refine ko_put fl_X3_15 dX3_search_7 ku_s rfl rfl (Nat.le_of_ble_eq_true rfl) ?_
  refine ko_h (ku_ku _ _ _ _) ?_
  refine ko_aload_n (i := 0) dX3_search_10 rfl rfl ?_
  refine ko_iconst (v := 0) dX3_search_11 (by decide) ?_
  refine ko_put fl_X3_18 dX3_search_12 ku_s rfl rfl (Nat.le_of_ble_eq_true rfl) ?_
  refine ko_h (ku_ku _ _ _ _) ?_
  refine ko_aload_n (i := 0) dX3_search_15 rfl rfl ?_
  refine ko_iconst (v := 0) dX3_search_16 (by decide) ?_
  refine ko_put fl_X3_21 dX3_search_17 ku_s rfl rfl (Nat.le_of_ble_eq_true rfl) ?_
  refine ko_h (ku_ku _ _ _ _) ?_
  refine ko_aload_n (i := 0) dX3_search_20 rfl rfl ?_
  refine ko_aload_n (i := 1) dX3_search_21 rfl rfl ?_
  refine ko_iload_n (i := 3) dX3_search_22 rfl rfl ?_
  refine ko_iconst (v := 0) dX3_search_23 (by decide) ?_
  refine ko_iconst (v := 0) dX3_search_24 (by decide) ?_
  refine ko_iconst (v := 0) dX3_search_25 (by decide) ?_
  refine ko_iconst (v := 0) dX3_search_26 (by decide) ?_
  refine ko_callSv lk_X3_24 dX3_search_27 (fn_give5 (d := d - 1) (s := (op, -1, 0, 0)) hP hab (by omega) hS) rfl rfl (by omega) (by omega) (by omega) (Nat.le_of_ble_eq_true rfl) ?_
  refine ko_aload_n (i := 0) dX3_search_30 rfl rfl ?_
  refine ko_get fl_X3_15 dX3_search_31 ku_s rfl ?_
  refine ko_iret dX3_search_34 rfl (Nat.le_of_ble_eq_true rfl) (Nat.le_of_ble_eq_true rfl) ?_
  rfl
set_option maxRecDepth 20000 in
theorem fn_sInit {G : kx_G} {d N b : Nat} {h : kx_H} (hd : 1 ≤ d) : kx_Fn mX3_init d 0 0 G [.ref b] N h (none, N, h) := by
  refine kx_Fn_of rfl (Nat.le_of_ble_eq_true rfl) rfl ?_ (kx_self)
  refine ko_aload_n (i := 0) dX3_init_0 rfl rfl ?_
  refine ko_objInit wo_X3 dX3_init_1 hd (Nat.le_of_ble_eq_true rfl) ?_
  refine ko_vret dX3_init_4 rfl (Nat.le_of_ble_eq_true rfl) (Nat.le_of_ble_eq_true rfl) ?_
  rfl
