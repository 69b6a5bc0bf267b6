/-! ===== Acts ===== -/
theorem ko_cs {Y : kx_Y} {d kc ks : Nat} {G : kx_G} {cs cs' ss ss' pc : Nat} {lv : List (Nat × Value)} {st : List Value} {N N' : Nat} {h : kx_H} {res : kx_R} (e1 : cs = cs') (e2 : ss = ss') (e3 : N = N') (K : kx_Ok Y d kc ks G cs' ss' pc lv st N' h res) : kx_Ok Y d kc ks G cs ss pc lv st N h res := by subst e1; subst e2; subst e3; exact K
abbrev kao (c F C : Nat) : va_E := .inr (0, [.ref (c + 1), .int (nI F), .int (nI C)])
abbrev kr (L : Nat) (f : Nat → Option Nat) : va_E := .inl (2, L, .inr (.inr (.inr (.inr f))))
def kA (h : kx_H) (c F C : Nat) (B : Nat → PU) : Prop := h c = some (kao c F C) ∧ (∃ f : Nat → Option Nat, h (c + 1) = some (kr 14 f) ∧ ∀ i, i < 14 → f i = some (c + 2 + 6 * i)) ∧ ∀ i, i < 14 → kP h (c + 2 + 6 * i) (B i)
theorem kP_of {h g : kx_H} {a : Nat} {u : PU} (hP : kP h a u) (e : ∀ q, a ≤ q → q ≤ a + 5 → g q = h q) : kP g a u := by
  obtain ⟨e0, e1, e2, e3, e4, e5⟩ := hP
  exact ⟨by rw [e _ (by omega) (by omega)]; exact e0, by rw [e _ (by omega) (by omega)]; exact e1, by rw [e _ (by omega) (by omega)]; exact e2, by rw [e _ (by omega) (by omega)]; exact e3, by rw [e _ (by omega) (by omega)]; exact e4, by rw [e _ (by omega) (by omega)]; exact e5⟩
theorem kA_of {h g : kx_H} {c F C : Nat} {B : Nat → PU} (hA : kA h c F C B) (e : ∀ q, c ≤ q → q ≤ c + 85 → g q = h q) : kA g c F C B := by
  obtain ⟨a1, ⟨f, a2, a3⟩, a4⟩ := hA
  exact ⟨by rw [e _ (by omega) (by omega)]; exact a1, ⟨f, by rw [e _ (by omega) (by omega)]; exact a2, a3⟩, fun i hi => kP_of (a4 i hi) (fun q g1 g2 => e q (by omega) (by omega))⟩
theorem kA_put {h : kx_H} {c F C : Nat} {B : Nat → PU} (hA : kA h c F C B) (F' C' s : Nat) (hs : s < 14) (v : PU) : kA (kx_up (kp_put h (c + 2 + 6 * s) v) c (kao c F' C')) c F' C' (fun i => if i = s then v else B i) := by
  obtain ⟨a1, ⟨f, a2, a3⟩, a4⟩ := hA
  refine ⟨ku_s, ⟨f, by rw [ku_n (by omega), kp_put_out (by omega)]; exact a2, a3⟩, fun i hi => ?_⟩
  refine kP_up ?_ (by omega)
  by_cases h1 : i = s
  · subst h1
    show kP _ _ (if i = i then v else B i)
    rw [if_pos rfl]; exact kp_put_P _ _ _
  · show kP _ _ (if i = s then v else B i)
    rw [if_neg h1]; exact kp_put_other (a4 i hi) (by omega)
theorem kA_obj {h : kx_H} {c F C : Nat} {B : Nat → PU} (hA : kA h c F C B) (F' C' : Nat) : kA (kx_up h c (kao c F' C')) c F' C' B := by
  obtain ⟨a1, ⟨f, a2, a3⟩, a4⟩ := hA
  exact ⟨ku_s, ⟨f, by rw [ku_n (by omega)]; exact a2, a3⟩, fun i hi => kP_up (a4 i hi) (by omega)⟩
theorem rem14 (n : Nat) (h : n < 2 ^ 31) : nI n - nI n / 14 * 14 = nI (n % 14) := pk_rem (d := 14) h (by omega) (by omega)
theorem kx_dom_of {h g : kx_H} {N : Nat} (e : ∀ q x, g q = some x → h q ≠ none) : ∀ q x, g q = some x → kx_dom h N q := fun q x hx => Or.inl (e q x hx)
-- as kx_Fn_of, of a method of a class that has entries of its own in the machine, but none for this one
set_option maxHeartbeats 1000000 in
theorem kx_FnF_of {Y : kx_Y} {d kc ks : Nat} {G : kx_G} {av : List Value} {lv : List (Nat × Value)} {N : Nat} {h : kx_H} {res : kx_R} (hpl : plainFor Y.1 = true) (hlen : (lg_sl av).length ≤ Y.2.2.1) (hlv : lv_args 0 av = lv) (hok : kx_Ok Y d kc ks G 0 0 0 lv [] N h res) (hdom : ∀ a e, res.2.2 a = some e → kx_dom h N a) : kx_Fn Y d kc ks G av N h res := by
  intro l D κ
  refine va_MetF (cc := Y.2.1) (maxL := Y.2.2.1) (ret := Y.2.2.2) hpl rfl ?_
  intro p e s m args below meth c s₁ B hml hv
  obtain ⟨rfl, hsz, hH, hK, hSt, hX⟩ := hv
  have hts := atoms_spec (ws := kx_ws Y) B.pre
  have hA : ∀ q : Nat, s.heap.size ≤ q → kx_dom h N q := fun q hq => Or.inr (by rw [← hsz]; exact hq)
  have hl := lv_entry av hlen
  rw [lg_entry_eq]
  generalize (lg_sl av ++ List.replicate (Y.2.2.1 - (lg_sl av).length) Slot.unset).toArray = ls at hl ⊢
  rw [hlv] at hl
  have hlocks := B.notSynchronized
  refine hok p l e (kx_rm d kc ks) s m av.toArray below meth c D κ (kx_dom h N) _ s.heap [] ls ⟨B.exec, B.bytes, B.returns, hml, findClass_of_methodNamed B.named, fun w hw => hts w (List.mem_cons_of_mem _ hw), B.notSynchronized, fun hn => (name_of_methodNamed B.named B.method).1.trans hn, ⟨Nat.le_refl _, Nat.le_refl _, Nat.le_refl _, Nat.le_refl _⟩, hK, hSt, hA, hX⟩ ⟨hsz, hH, fun a e' ha => Or.inl (by rw [ha]; exact fun z => by cases z), va_S.rf, hl⟩ ?_
  intro H locs ls pc z1 z2 z3 z4 hdg hfit
  have hq : ∀ t : State, t.heap = H → s.WarmedH t.vm → kx_Q D κ N h res av.toArray s (.returned res.1) t := fun t ht hW => ⟨rfl, by rw [ht]; exact z1, by rw [ht]; exact z2, hdom, z4.F ht⟩
  have hr := B.returns
  obtain ⟨y, cc, mL, rt⟩ := Y
  obtain ⟨rv, N', h'⟩ := res
  cases rt with
  | none =>
    cases rv with
    | none => exact W.vret B.exec B.bytes hr hq z4.2.2 hdg
    | some v => exact hfit.elim
  | some ty =>
    cases ty with
    | int =>
      cases rv with
      | none => exact hfit.elim
      | some v =>
        cases v with
        | int v => exact W.iret B.exec B.bytes hr hq z4.2.2 hdg
        | _ => exact hfit.elim
    | boolean =>
      cases rv with
      | none => exact hfit.elim
      | some v =>
        cases v with
        | int v => exact W.zret B.exec B.bytes hr hfit hq z4.2.2 hdg
        | _ => exact hfit.elim
    | long =>
      cases rv with
      | none => exact hfit.elim
      | some v =>
        cases v with
        | long v => exact W.lret B.exec B.bytes hr hq z4.2.2 hdg
        | _ => exact hfit.elim
    | _ => cases rv <;> exact hfit.elim
theorem xor14 : ∀ n, n < 64 → (0 : Int32) ≤ nI n ^^^ 14 := by decide +kernel
set_option maxRecDepth 20000 in
theorem fn_floorMod {G : kx_G} {d N n : Nat} {h : kx_H} (hn : n < 64) : kx_Fn mJ_floorMod d 0 0 G [.int (nI n), .int 14] N h (some (.int (nI (n % 14))), N, h) := by
  refine kx_FnF_of (by decide +kernel) (Nat.le_of_ble_eq_true rfl) rfl ?_ (kx_self)
  refine ko_iload_n (i := 0) dJ_floorMod_0 rfl rfl ?_
  refine ko_iload_n (i := 1) dJ_floorMod_1 rfl rfl ?_
  refine ko_irem dJ_floorMod_2 (by decide) ?_
  rw [rem14 _ (by omega)]
  refine ko_istore_n (i := 2) (lv' := [(0, _), (1, _), (2, _)]) dJ_floorMod_3 rfl (by decide) rfl rfl rfl ?_
  refine ko_iload_n (i := 0) dJ_floorMod_4 rfl rfl ?_
  refine ko_iload_n (i := 1) dJ_floorMod_5 rfl rfl ?_
  refine ko_ixor dJ_floorMod_6 ?_
  refine ko_if_ge (tgt := 18) dJ_floorMod_7 (by decide) (fun c_7 => ?_) (fun c_7 => ?_)
  · refine ko_iload_n (i := 2) dJ_floorMod_18 rfl rfl ?_
    refine ko_iret dJ_floorMod_19 rfl (Nat.le_of_ble_eq_true rfl) (Nat.le_of_ble_eq_true rfl) ?_
    rfl
  · exact absurd (xor14 _ hn) c_7
set_option maxRecDepth 20000 in
theorem fn_inRing {G : kx_G} {d N n : Nat} {h : kx_H} (hn : n < 64) (hd : 1 ≤ d) : kx_Fn mX0_inRing d 0 0 G [.int (nI n)] N h (some (.int (nI (n % 14))), N, h) := by
  refine kx_Fn_of rfl (Nat.le_of_ble_eq_true rfl) rfl ?_ (kx_self)
  refine ko_iload_n (i := 0) dX0_inRing_0 rfl rfl ?_
  refine ko_bipush (v := 14) dX0_inRing_1 (by decide) ?_
  refine ko_callSr lk_X0_33 dX0_inRing_3 (fn_floorMod (d := d - 1) hn) rfl rfl (by omega) (by omega) (by omega) (Nat.le_of_ble_eq_true rfl) ?_
  refine ko_iret dX0_inRing_6 rfl (Nat.le_of_ble_eq_true rfl) (Nat.le_of_ble_eq_true rfl) ?_
  rfl
set_option maxRecDepth 20000 in
theorem fn_forgetAll {G : kx_G} {d N c F C : Nat} {h : kx_H} (e0 : h c = some (kao c F C)) : kx_Fn mX0_forgetAll d 0 0 G [.ref c] N h (none, N, kx_up h c (kao c 0 0)) := by
  refine kx_Fn_of rfl (Nat.le_of_ble_eq_true rfl) rfl ?_ (ku_dom e0)
  refine ko_h (ku_same e0).symm ?_
  refine ko_aload_n (i := 0) dX0_forgetAll_0 rfl rfl ?_
  refine ko_iconst (v := 0) dX0_forgetAll_1 (by decide) ?_
  refine ko_put fl_X0_18 dX0_forgetAll_2 ku_s rfl rfl (Nat.le_of_ble_eq_true rfl) ?_
  refine ko_h (ku_ku _ _ _ _) ?_
  refine ko_aload_n (i := 0) dX0_forgetAll_5 rfl rfl ?_
  refine ko_iconst (v := 0) dX0_forgetAll_6 (by decide) ?_
  refine ko_put fl_X0_22 dX0_forgetAll_7 ku_s rfl rfl (Nat.le_of_ble_eq_true rfl) ?_
  refine ko_h (ku_ku _ _ _ _) ?_
  refine ko_vret dX0_forgetAll_10 rfl (Nat.le_of_ble_eq_true rfl) (Nat.le_of_ble_eq_true rfl) ?_
  rfl
theorem kp_up_swap {h : kx_H} {a c : Nat} {v : PU} {e : va_E} (hc : c < a ∨ a + 5 < c) : kp_put (kx_up h c e) a v = kx_up (kp_put h a v) c e := by
  refine (kp_ext (h := kx_up h c e) (kP_up (kp_put_P _ _ _) hc) (fun q hq => ?_)).symm
  by_cases h1 : q = c
  · subst h1; rw [ku_s, ku_s]
  · rw [ku_n h1, ku_n h1, kp_put_out hq]
set_option maxRecDepth 20000 in
theorem fn_rememberC {G : kx_G} {d N c b F C : Nat} {h : kx_H} {B : Nat → PU} {v : PU} (hA : kA h c F C B) (hF : F < 14) (hC : C < 14) (hQ : kP h b v) (hb : b + 5 < c ∨ c + 85 < b) (hd : 2 ≤ d) : kx_Fn mX0_remember d 0 0 G [.ref c, .ref b] N h (none, N, kx_up (kp_put h (c + 2 + 6 * ((F + C) % 14)) v) c (kao c F (C + 1))) := by
  refine kx_Fn_of rfl (Nat.le_of_ble_eq_true rfl) rfl ?_ (fun q x hx => by
    have hx : kx_up (kp_put h (c + 2 + 6 * ((F + C) % 14)) v) c (kao c F (C + 1)) q = some x := hx
    by_cases h1 : q = c
    · subst h1; exact kx_self _ _ hA.1
    · rw [ku_n h1] at hx
      exact kp_dom (hA.2.2 (((F + C) % 14)) (by omega)) q x hx)
  obtain ⟨a1, ⟨f, a2, a3⟩, a4⟩ := id hA
  refine ko_h (ku_same a1).symm ?_
  have hs : ((F + C) % 14) < 14 := by omega
  refine ko_aload_n (i := 0) dX0_remember_0 rfl rfl ?_
  refine ko_get fl_X0_22 dX0_remember_1 ku_s rfl ?_
  refine ko_bipush (v := 14) dX0_remember_4 (by decide) ?_
  refine ko_icmp_lt (tgt := 28) dX0_remember_6 (by decide) (fun c_6 => ?_) (fun c_6 => ?_)
  · refine ko_aload_n (i := 0) dX0_remember_28 rfl rfl ?_
    refine ko_get fl_X0_11 dX0_remember_29 ku_s rfl ?_
    refine ko_aload_n (i := 0) dX0_remember_32 rfl rfl ?_
    refine ko_get fl_X0_18 dX0_remember_33 ku_s rfl ?_
    refine ko_aload_n (i := 0) dX0_remember_36 rfl rfl ?_
    refine ko_get fl_X0_22 dX0_remember_37 ku_s rfl ?_
    refine ko_iadd dX0_remember_40 ?_
    rw [nI_add]
    refine ko_callSr lk_X0_25 dX0_remember_41 (fn_inRing (d := d - 1) (by omega) (by omega)) rfl rfl (by omega) (by omega) (by omega) (Nat.le_of_ble_eq_true rfl) ?_
    refine ko_aald dX0_remember_44 (by rw [ku_n (by omega)]; exact a2) (vp_in_nI hs (by omega)) (by rw [nI_clamp (by omega)]; exact a3 _ hs) ?_
    refine ko_aload_n (i := 1) dX0_remember_45 rfl rfl ?_
    refine ko_callVv lk_X0_29 dX0_remember_46 (fn_copyFrom (d := d - 1) (kP_up (a4 _ hs) (by omega)) (kP_up hQ (by omega)) (by omega) (by omega)) rfl rfl (kP_up (a4 _ hs) (by omega)).1 rfl rfl (by omega) (by omega) (by omega) (Nat.le_of_ble_eq_true rfl) ?_
    refine ko_h (h' := kx_up (kp_put h (c + 2 + 6 * ((F + C) % 14)) v) c (kao c F C)) ?_ ?_
    · exact kp_up_swap (by omega)
    refine ko_aload_n (i := 0) dX0_remember_49 rfl rfl ?_
    refine ko_dup dX0_remember_50 rfl ?_
    refine ko_get fl_X0_22 dX0_remember_51 ku_s rfl ?_
    refine ko_iconst (v := 1) dX0_remember_54 (by decide) ?_
    refine ko_iadd dX0_remember_55 ?_
    rw [nI_1]
    refine ko_put fl_X0_22 dX0_remember_56 ku_s rfl rfl (Nat.le_of_ble_eq_true rfl) ?_
    refine ko_h (ku_ku _ _ _ _) ?_
    refine ko_vret dX0_remember_59 rfl (Nat.le_of_ble_eq_true rfl) (Nat.le_of_ble_eq_true rfl) ?_
    rfl
  · exact absurd (show nI C < nI 14 from nI_lt hC (by omega)) c_6
set_option maxRecDepth 20000 in
theorem fn_remember14 {G : kx_G} {d N c b F C : Nat} {h : kx_H} {B : Nat → PU} {v : PU} (hA : kA h c F C B) (hF : F < 14) (hC : C = 14) (hQ : kP h b v) (hb : b + 5 < c ∨ c + 85 < b) (hd : 2 ≤ d) : kx_Fn mX0_remember d 0 0 G [.ref c, .ref b] N h (none, N, kx_up (kp_put h (c + 2 + 6 * ((((F + 1) % 14) + 13) % 14)) v) c (kao c ((F + 1) % 14) 14)) := by
  refine kx_Fn_of rfl (Nat.le_of_ble_eq_true rfl) rfl ?_ (fun q x hx => by
    have hx : kx_up (kp_put h (c + 2 + 6 * ((((F + 1) % 14) + 13) % 14)) v) c (kao c ((F + 1) % 14) 14) q = some x := hx
    by_cases h1 : q = c
    · subst h1; exact kx_self _ _ hA.1
    · rw [ku_n h1] at hx
      exact kp_dom (hA.2.2 (((((F + 1) % 14) + 13) % 14)) (by omega)) q x hx)
  subst hC
  obtain ⟨a1, ⟨f, a2, a3⟩, a4⟩ := id hA
  refine ko_h (ku_same a1).symm ?_
  have hs : ((((F + 1) % 14) + 13) % 14) < 14 := by omega
  refine ko_aload_n (i := 0) dX0_remember_0 rfl rfl ?_
  refine ko_get fl_X0_22 dX0_remember_1 ku_s rfl ?_
  refine ko_bipush (v := 14) dX0_remember_4 (by decide) ?_
  refine ko_icmp_lt (tgt := 28) dX0_remember_6 (by decide) (fun c_6 => ?_) (fun c_6 => ?_)
  · exact absurd c_6 (by decide)
  · refine ko_aload_n (i := 0) dX0_remember_9 rfl rfl ?_
    refine ko_aload_n (i := 0) dX0_remember_10 rfl rfl ?_
    refine ko_get fl_X0_18 dX0_remember_11 ku_s rfl ?_
    refine ko_iconst (v := 1) dX0_remember_14 (by decide) ?_
    refine ko_iadd dX0_remember_15 ?_
    rw [nI_1]
    refine ko_callSr lk_X0_25 dX0_remember_16 (fn_inRing (d := d - 1) (by omega) (by omega)) rfl rfl (by omega) (by omega) (by omega) (Nat.le_of_ble_eq_true rfl) ?_
    refine ko_put fl_X0_18 dX0_remember_19 ku_s rfl rfl (Nat.le_of_ble_eq_true rfl) ?_
    refine ko_h (ku_ku _ _ _ _) ?_
    refine ko_aload_n (i := 0) dX0_remember_22 rfl rfl ?_
    refine ko_bipush (v := 13) dX0_remember_23 (by decide) ?_
    refine ko_put fl_X0_22 dX0_remember_25 ku_s rfl rfl (Nat.le_of_ble_eq_true rfl) ?_
    refine ko_h (ku_ku _ _ _ _) ?_
    refine ko_aload_n (i := 0) dX0_remember_28 rfl rfl ?_
    refine ko_get fl_X0_11 dX0_remember_29 ku_s rfl ?_
    refine ko_aload_n (i := 0) dX0_remember_32 rfl rfl ?_
    refine ko_get fl_X0_18 dX0_remember_33 ku_s rfl ?_
    refine ko_aload_n (i := 0) dX0_remember_36 rfl rfl ?_
    refine ko_get fl_X0_22 dX0_remember_37 ku_s rfl ?_
    refine ko_iadd dX0_remember_40 ?_
    rw [show (13 : Int32) = nI 13 from rfl, nI_add]
    refine ko_callSr lk_X0_25 dX0_remember_41 (fn_inRing (d := d - 1) (by omega) (by omega)) rfl rfl (by omega) (by omega) (by omega) (Nat.le_of_ble_eq_true rfl) ?_
    refine ko_aald dX0_remember_44 (by rw [ku_n (by omega)]; exact a2) (vp_in_nI hs (by omega)) (by rw [nI_clamp (by omega)]; exact a3 _ hs) ?_
    refine ko_aload_n (i := 1) dX0_remember_45 rfl rfl ?_
    refine ko_callVv lk_X0_29 dX0_remember_46 (fn_copyFrom (d := d - 1) (kP_up (a4 _ hs) (by omega)) (kP_up hQ (by omega)) (by omega) (by omega)) rfl rfl (kP_up (a4 _ hs) (by omega)).1 rfl rfl (by omega) (by omega) (by omega) (Nat.le_of_ble_eq_true rfl) ?_
    refine ko_h (h' := kx_up (kp_put h (c + 2 + 6 * ((((F + 1) % 14) + 13) % 14)) v) c (kao c ((F + 1) % 14) 13)) ?_ ?_
    · exact kp_up_swap (by omega)
    refine ko_aload_n (i := 0) dX0_remember_49 rfl rfl ?_
    refine ko_dup dX0_remember_50 rfl ?_
    refine ko_get fl_X0_22 dX0_remember_51 ku_s rfl ?_
    refine ko_iconst (v := 1) dX0_remember_54 (by decide) ?_
    refine ko_iadd dX0_remember_55 ?_
    rw [nI_1]
    refine ko_put fl_X0_22 dX0_remember_56 ku_s rfl rfl (Nat.le_of_ble_eq_true rfl) ?_
    refine ko_h (ku_ku _ _ _ _) ?_
    refine ko_vret dX0_remember_59 rfl (Nat.le_of_ble_eq_true rfl) (Nat.le_of_ble_eq_true rfl) ?_
    rfl
set_option maxRecDepth 20000 in
theorem fn_takeLast {G : kx_G} {d N c b F C : Nat} {h : kx_H} {B : Nat → PU} {v : PU} (hA : kA h c F C B) (hC : 0 < C) (hC2 : C ≤ 14) (hF : F < 14) (hQ : kP h b v) (hb : b + 5 < c ∨ c + 85 < b) (hd : 2 ≤ d) : kx_Fn mX0_takeLast d 0 0 G [.ref c, .ref b] N h (none, N, kp_put (kx_up h c (kao c F (C - 1))) b (B ((F + (C - 1)) % 14))) := by
  refine kx_Fn_of rfl (Nat.le_of_ble_eq_true rfl) rfl ?_ (fun q x hx => by
    have hx : kp_put (kx_up h c (kao c F (C - 1))) b (B ((F + (C - 1)) % 14)) q = some x := hx
    by_cases h1 : q = c
    · subst h1; exact kx_self _ _ hA.1
    · rw [kp_up_swap (by omega), ku_n h1] at hx
      exact kp_dom hQ q x hx)
  obtain ⟨a1, ⟨f, a2, a3⟩, a4⟩ := id hA
  refine ko_h (ku_same a1).symm ?_
  have hs : (F + (C - 1)) % 14 < 14 := by omega
  refine ko_aload_n (i := 0) dX0_takeLast_0 rfl rfl ?_
  refine ko_get fl_X0_22 dX0_takeLast_1 ku_s rfl ?_
  refine ko_if_le (tgt := 38) dX0_takeLast_4 (by decide) (fun c_4 => ?_) (fun c_4 => ?_)
  · exact absurd (show nI C ≤ nI 0 from c_4) (nI_ge (by omega) (by omega))
  · refine ko_aload_n (i := 0) dX0_takeLast_7 rfl rfl ?_
    refine ko_dup dX0_takeLast_8 rfl ?_
    refine ko_get fl_X0_22 dX0_takeLast_9 ku_s rfl ?_
    refine ko_iconst (v := 1) dX0_takeLast_12 (by decide) ?_
    refine ko_isub dX0_takeLast_13 ?_
    rw [show nI C - 1 = nI (C - 1) from pk_sub (b := 1) (by omega)]
    refine ko_put fl_X0_22 dX0_takeLast_14 ku_s rfl rfl (Nat.le_of_ble_eq_true rfl) ?_
    refine ko_h (ku_ku _ _ _ _) ?_
    refine ko_aload_n (i := 1) dX0_takeLast_17 rfl rfl ?_
    refine ko_aload_n (i := 0) dX0_takeLast_18 rfl rfl ?_
    refine ko_get fl_X0_11 dX0_takeLast_19 ku_s rfl ?_
    refine ko_aload_n (i := 0) dX0_takeLast_22 rfl rfl ?_
    refine ko_get fl_X0_18 dX0_takeLast_23 ku_s rfl ?_
    refine ko_aload_n (i := 0) dX0_takeLast_26 rfl rfl ?_
    refine ko_get fl_X0_22 dX0_takeLast_27 ku_s rfl ?_
    refine ko_iadd dX0_takeLast_30 ?_
    rw [nI_add]
    refine ko_callSr lk_X0_25 dX0_takeLast_31 (fn_inRing (d := d - 1) (by omega) (by omega)) rfl rfl (by omega) (by omega) (by omega) (Nat.le_of_ble_eq_true rfl) ?_
    refine ko_aald dX0_takeLast_34 (by rw [ku_n (by omega)]; exact a2) (vp_in_nI hs (by omega)) (by rw [nI_clamp (by omega)]; exact a3 _ hs) ?_
    refine ko_callVv lk_X0_29 dX0_takeLast_35 (fn_copyFrom (d := d - 1) (kP_up hQ (by omega)) (kP_up (a4 _ hs) (by omega)) (by omega) (by omega)) rfl rfl (kP_up hQ (by omega)).1 rfl rfl (by omega) (by omega) (by omega) (Nat.le_of_ble_eq_true rfl) ?_
    refine ko_vret dX0_takeLast_38 rfl (Nat.le_of_ble_eq_true rfl) (Nat.le_of_ble_eq_true rfl) ?_
    rfl
def acF (c i : Nat) : Nat → Option Nat := fun j => if j < i then some (c + 2 + 6 * j) else none
def acH (h : kx_H) (c : Nat) : Nat → kx_H
  | 0 => kx_up (kx_up h (c + 1) (kr 14 (acF c 0))) c (kao c 0 0)
  | i + 1 => kx_up (kp_put (acH h c i) (c + 2 + 6 * i) pZ) (c + 1) (kr 14 (acF c (i + 1)))
theorem acF_s (c i : Nat) : va_up (acF c i) i (some (c + 2 + 6 * i)) = acF c (i + 1) := by
  funext j
  unfold va_up acF
  by_cases h1 : j = i
  · rw [if_pos h1, if_pos (by omega), h1]
  · rw [if_neg h1]
    by_cases h2 : j < i
    · rw [if_pos h2, if_pos (by omega)]
    · rw [if_neg h2, if_neg (by omega)]
theorem acH_a (h : kx_H) (c : Nat) : ∀ i, acH h c i (c + 1) = some (kr 14 (acF c i))
  | 0 => by unfold acH; rw [ku_n (by omega), ku_s]
  | i + 1 => by unfold acH; rw [ku_s]
theorem acH_c (h : kx_H) (c : Nat) : ∀ i, acH h c i c = some (kao c 0 0)
  | 0 => by unfold acH; rw [ku_s]
  | i + 1 => by unfold acH; rw [ku_n (by omega), kp_put_out (by omega)]; exact acH_c h c i
theorem acH_out (h : kx_H) (c : Nat) : ∀ i q, (q < c ∨ c + 1 + 6 * i < q) → acH h c i q = h q
  | 0, q, hq => by unfold acH; rw [ku_n (by omega), ku_n (by omega)]
  | i + 1, q, hq => by unfold acH; rw [ku_n (by omega), kp_put_out (by omega)]; exact acH_out h c i q (by omega)
theorem acH_P (h : kx_H) (c : Nat) : ∀ i j, j < i → kP (acH h c i) (c + 2 + 6 * j) pZ
  | i + 1, j, hj => by
    unfold acH
    refine kP_up ?_ (by omega)
    by_cases h1 : j = i
    · subst h1; exact kp_put_P _ _ _
    · exact kp_put_other (acH_P h c i j (by omega)) (by omega)
theorem acH_A (h : kx_H) (c : Nat) : kA (acH h c 14) c 0 0 (fun _ => pZ) := ⟨acH_c h c 14, ⟨_, acH_a h c 14, fun i hi => if_pos hi⟩, fun i hi => acH_P h c 14 i hi⟩
theorem kp_put_up {h : kx_H} {a : Nat} {u : PU} {e : va_E} : kp_put (kx_up h a e) a u = kp_put h a u := kp_ext (kp_put_P _ _ _) (fun q hq => by rw [kp_put_out hq, ku_n (by omega)])
abbrev kab : va_E := .inr (0, [.null, .int 0, .int 0])
set_option maxRecDepth 20000 in
theorem fn_aInit {G : kx_G} {d c : Nat} {h : kx_H} (e0 : h c = some kab) (hd : 2 ≤ d) : kx_Fn mX0_init d 85 770 G [.ref c] (c + 1) h (none, c + 86, acH h c 14) := by
  refine kx_Fn_of rfl (Nat.le_of_ble_eq_true rfl) rfl ?_ (fun q x hx => by
    by_cases h1 : q < c
    · have hx : acH h c 14 q = some x := hx
      rw [acH_out _ _ _ _ (Or.inl h1)] at hx
      exact kx_self _ _ hx
    · by_cases h2 : q = c
      · subst h2; exact kx_self _ _ e0
      · exact Or.inr (by omega))
  have LOOP : ∀ (k i : Nat), k + i = 14 → kx_Ok mX0_init d 85 770 G (1 + 6 * i) (14 + 54 * i) 15 [(0, .ref c), (1, .int (nI i))] [] (c + 2 + 6 * i) (acH h c i) (none, c + 86, acH h c 14) := by
    intro k
    induction k with
    | zero =>
      intro i hi
      obtain rfl : i = 14 := by omega
      refine ko_iload_n (i := 1) dX0_init_15 rfl rfl ?_
      refine ko_bipush (v := 14) dX0_init_16 (by decide) ?_
      refine ko_icmp_ge (tgt := 40) dX0_init_18 (by decide) (fun c_18 => ?_) (fun c_18 => ?_)
      · refine ko_vret dX0_init_40 rfl (by omega) (by omega) ?_
        rfl
      · exact absurd (show (14 : Int32) ≤ nI 14 by decide) c_18
    | succ k ih =>
      intro i hi
      refine ko_iload_n (i := 1) dX0_init_15 rfl rfl ?_
      refine ko_bipush (v := 14) dX0_init_16 (by decide) ?_
      refine ko_icmp_ge (tgt := 40) dX0_init_18 (by decide) (fun c_18 => ?_) (fun c_18 => ?_)
      · exact absurd (show nI 14 ≤ nI i from c_18) (nI_ge (by omega) (by omega))
      · refine ko_aload_n (i := 0) dX0_init_21 rfl rfl ?_
        refine ko_get fl_X0_11 dX0_init_22 (acH_c _ _ _) rfl ?_
        refine ko_iload_n (i := 1) dX0_init_25 rfl rfl ?_
        refine ko_new (fs := [.null, .null, .null, .null, .null, .int 0, .int 0, .int 0, .int 0]) kc_2 wl_X0_9 wn_RX2 wi_RX2 (by decide +kernel) dX0_init_26 (by omega) (by omega) ?_
        refine ko_dup dX0_init_29 rfl ?_
        refine ko_callINv lk_X0_17 rfl dX0_init_30 (fn_pInit (d := d - 1) ku_s (by omega)) rfl rfl (by omega) (by omega) (by omega) (Nat.le_of_ble_eq_true rfl) ?_
        rw [kp_put_up]
        refine ko_aast dX0_init_33 (by rw [kp_put_out (by omega)]; exact acH_a _ _ _) (kp_put_P _ _ _).1 (vp_in_nI (by omega) (by omega)) ?_
        rw [nI_clamp (by omega), acF_s]
        refine ko_inc1 (i := 1) (lv' := [(0, _), (1, _)]) dX0_init_34 rfl (by decide) rfl rfl rfl ?_
        refine ko_goto (tgt := 15) dX0_init_37 (by decide) ?_
        refine ko_cs (cs' := 1 + 6 * (i + 1)) (ss' := 14 + 54 * (i + 1)) (N' := c + 2 + 6 * (i + 1)) (by omega) (by omega) (by omega) ?_
        exact ko_lv (by simp [nI_succ]) (ih (i + 1) (by omega))
  refine ko_aload_n (i := 0) dX0_init_0 rfl rfl ?_
  refine ko_objInit wo_X0 dX0_init_1 (by omega) (Nat.le_of_ble_eq_true rfl) ?_
  refine ko_aload_n (i := 0) dX0_init_4 rfl rfl ?_
  refine ko_bipush (v := 14) dX0_init_5 (by decide) ?_
  refine ko_newq (L := 14) wl_X0_9 dX0_init_7 (by decide) rfl (by decide) (Nat.le_of_ble_eq_true rfl) (Nat.le_of_ble_eq_true rfl) ?_
  refine ko_putF fl_X0_11 rfl rfl dX0_init_10 (by rw [ku_n (by omega)]; exact e0) rfl rfl (Nat.le_of_ble_eq_true rfl) ?_
  refine ko_iconst (v := 0) dX0_init_13 (by decide) ?_
  refine ko_istore_n (i := 1) (lv' := [(0, _), (1, _)]) dX0_init_14 rfl (by decide) rfl rfl rfl ?_
  exact ko_cs rfl rfl rfl (ko_h rfl (LOOP 14 0 rfl))
abbrev klb : va_E := .inr (1, [.null, .null, .int 0])
def liH (h : kx_H) (l : Nat) : kx_H := kx_up (kp_put (kx_up h (l + 1) (kl_a (fun _ => 0))) (l + 2) pZ) l (klo l 0)
set_option maxRecDepth 20000 in
theorem fn_lInit {G : kx_G} {d l : Nat} {h : kx_H} (e0 : h l = some klb) (hd : 2 ≤ d) : kx_Fn mX1_init d 7 102 G [.ref l] (l + 1) h (none, l + 8, liH h l) := by
  refine kx_Fn_of rfl (Nat.le_of_ble_eq_true rfl) rfl ?_ (fun q x hx => by
    have hx : liH h l q = some x := hx
    unfold liH at hx
    by_cases h1 : q < l
    · rw [ku_n (by omega), kp_put_out (by omega), ku_n (by omega)] at hx
      exact kx_self _ _ hx
    · by_cases h2 : q = l
      · subst h2; exact kx_self _ _ e0
      · exact Or.inr (by omega))
  refine ko_aload_n (i := 0) dX1_init_0 rfl rfl ?_
  refine ko_objInit wo_X1 dX1_init_1 (by omega) (Nat.le_of_ble_eq_true rfl) ?_
  refine ko_aload_n (i := 0) dX1_init_4 rfl rfl ?_
  refine ko_bipush (v := 48) dX1_init_5 (by decide) ?_
  refine ko_newi (L := 48) dX1_init_7 (by decide) rfl (by decide) (Nat.le_of_ble_eq_true rfl) (Nat.le_of_ble_eq_true rfl) wa_int ?_
  refine ko_putF fl_X1_9 rfl rfl dX1_init_9 (by rw [ku_n (by omega)]; exact e0) rfl rfl (Nat.le_of_ble_eq_true rfl) ?_
  refine ko_aload_n (i := 0) dX1_init_12 rfl rfl ?_
  refine ko_new (fs := [.null, .null, .null, .null, .null, .int 0, .int 0, .int 0, .int 0]) kc_2 wl_X1_15 wn_RX2 wi_RX2 (by decide +kernel) dX1_init_13 (Nat.le_of_ble_eq_true rfl) (Nat.le_of_ble_eq_true rfl) ?_
  refine ko_dup dX1_init_16 rfl ?_
  refine ko_callINv lk_X1_17 rfl dX1_init_17 (fn_pInit (d := d - 1) ku_s (by omega)) rfl rfl (by omega) (by omega) (by omega) (Nat.le_of_ble_eq_true rfl) ?_
  rw [kp_put_up]
  refine ko_putF fl_X1_18 rfl rfl dX1_init_20 (by rw [kp_put_out (by omega), ku_s]) rfl rfl (Nat.le_of_ble_eq_true rfl) ?_
  refine ko_vret dX1_init_23 rfl (Nat.le_of_ble_eq_true rfl) (Nat.le_of_ble_eq_true rfl) ?_
  refine Prod.ext rfl (Prod.ext rfl ?_)
  show liH h l = kx_up (kp_put (kx_up (kx_up h (l + 1) (kl_a (fun _ => 0))) l _) (l + 2) pZ) l (klo l 0)
  rw [kp_up_swap (c := l) (by omega), ku_ku]
  rfl
