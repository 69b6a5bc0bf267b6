/-! ===== rows that read and write the heap; calls ===== -/
section KH
variable {Y : kx_Y} {d kc ks : Nat} {G : kx_G} {cs ss pc : Nat} {lv : List (Nat × Value)} {st : List Value} {N : Nat} {h : kx_H} {res : kx_R}
theorem ko_get {index ci k : Nat} {fin : Bool} {ty : FieldType} {a : Nat} {fs : List Value} {v : Value} (hf : kx_fl Y.1.cls index ci k fin ty) (hdg : decode Y.2.1 pc = .ok (.getfield index, 3)) (he : h a = some (.inr (ci, fs))) (hv : fs[k]? = some v) (K : kx_Ok Y d kc ks G cs ss (pc + 3) lv (v :: st) N h res) : kx_Ok Y d kc ks G cs ss pc lv (.ref a :: st) N h res := by
  intro p l e R s m args below meth c D κ A Z H locs ls hC hW hF
  obtain ⟨C, T, NN, ⟨hc, hin, ty0, hty, hnm⟩, hk, hl, hT, hfin, hp⟩ := hf
  have hC' := hC
  obtain ⟨hx, hb, hr, hml, hown, hts, hlocks, hini, hrm, hK, hSt, hA, hX⟩ := hC'
  exact va_get (D := D) (ci := ci) (v := v) (C := C) (T := T) (N := NN) hx hb hts hin hown hK (hW.2.1.one he) 0 rfl hc k hk (hts _ hl) (by rw [hT]; exact fun _ h9 => h9) hv hdg (K p l e R s m args below meth c D κ A Z H locs ls hC hW hF)
theorem ko_put {index ci k : Nat} {ty : FieldType} {a : Nat} {fs : List Value} {v : Value} (hf : kx_fl Y.1.cls index ci k false ty) (hdg : decode Y.2.1 pc = .ok (.putfield index, 3)) (he : h a = some (.inr (ci, fs))) (hn : narrow ty v = v) (hfit : fits ty v = true) (hl : k < fs.length) (K : kx_Ok Y d kc ks G cs ss (pc + 3) lv st N (kx_up h a (.inr (ci, fs.set k v))) res) : kx_Ok Y d kc ks G cs ss pc lv (v :: .ref a :: st) N h res := by
  intro p l e R s m args below meth c D κ A Z H locs ls hC hW hF
  obtain ⟨C, T, NN, ⟨hc, hin, ty0, hty, hnm⟩, hk, hlk, hT, hfin, hd⟩ := hf
  have hC' := hC
  obtain ⟨hx, hb, hr, hml, hown, hts, hlocks, hini, hrm, hK, hSt, hA, hX⟩ := hC'
  have hap := va_apart (own := Y.1.cls) hts hin ty0 hty hnm hK hc
  obtain ⟨r, h1, cell, q1, q2, q3, q4⟩ := hW.2.1 a _ he
  have hr : r = (C, T, NN) := Option.some.inj (h1.symm.trans hc)
  subst hr
  obtain ⟨hS, hfc, kC, hkC, hkind⟩ := hK.1 ci _ hc
  obtain ⟨cf, kf, fi, f, hi, hsl⟩ := hS k hk
  have hlay := hts _ (hin _ (u_in_lay hk))
  unfold u_lay at hlay
  rw [if_neg (by rw [hfin]; decide)] at hlay
  have hst := (u_facts hfc hkC (u_lays hts hin hk) hi).1
  have h6 := u_store hfc hkC hkind hlay hi hd hn hfit
  have hsame : ∀ x, s.fieldFound? (T k).1 (T k).2.1 (T k).2.2.1 = some x → s.fieldFound? C (T k).2.1 (T k).2.2.1 = some x := by rw [hT]; exact fun _ h9 => h9
  refine W.putK hx hb (f := f) ⟨hown, hts _ hlk, ⟨_, _, _, hsame _ hi⟩, hst⟩ (by rw [q2]; exact h6) q1 q3 (by rw [hsl]; exact k2_hasslot (q4 k hk)) rfl rfl hdg fun H' e1 e2 e3 => ?_
  rw [hsl] at e1 ⊢
  exact K p l e R s m args below meth c D κ A Z H' _ ls hC (hW.put he (e := .inr (ci, fs.set k v)) ⟨_, hc, t_OB.to (V := updV (vp_V fs) k v) ⟨_, e1, q2, q3, t_set q4 hap hk v⟩ (fun j _ => vp_updV_set hl v j)⟩ e2 e3) hF
theorem ko_putF {index ci k : Nat} {ty : FieldType} {a : Nat} {fs : List Value} {v : Value} (hf : kx_fl Y.1.cls index ci k true ty) (hnm0 : Y.1.name = "<init>") (hdec : (vwCl[ci]?).map (fun q => q.1) = some Y.1.cls) (hdg : decode Y.2.1 pc = .ok (.putfield index, 3)) (he : h a = some (.inr (ci, fs))) (hn : narrow ty v = v) (hfit : fits ty v = true) (hl : k < fs.length) (K : kx_Ok Y d kc ks G cs ss (pc + 3) lv st N (kx_up h a (.inr (ci, fs.set k v))) res) : kx_Ok Y d kc ks G cs ss pc lv (v :: .ref a :: st) N h res := by
  intro p l e R s m args below meth c D κ A Z H locs ls hC hW hF
  obtain ⟨C, T, NN, ⟨hc, hin, ty0, hty, hnm⟩, hk, hlk, hT, hfin, hd⟩ := hf
  have hC' := hC
  obtain ⟨hx, hb, hr, hml, hown, hts, hlocks, hini, hrm, hK, hSt, hA, hX⟩ := hC'
  have hap := va_apart (own := Y.1.cls) hts hin ty0 hty hnm hK hc
  obtain ⟨r, h1, cell, q1, q2, q3, q4⟩ := hW.2.1 a _ he
  have hr : r = (C, T, NN) := Option.some.inj (h1.symm.trans hc)
  subst hr
  obtain ⟨hS, hfc, kC, hkC, hkind⟩ := hK.1 ci _ hc
  obtain ⟨cf, kf, fi, f, hi, hsl⟩ := hS k hk
  have hlay := hts _ (hin _ (u_in_lay hk))
  unfold u_lay at hlay
  rw [if_pos hfin] at hlay
  have hst := (u_facts hfc hkC (u_lays hts hin hk) hi).1
  have hdecl : (T k).1 = Y.1.cls := by
    rw [hT]
    rw [hc] at hdec
    exact Option.some.inj hdec
  have hcf : m.cls = cf := by
    obtain ⟨_, _, c', _, _, _, -, -, hf', -, -, -, hown2, -⟩ := Cond.laysFinal_spec hlay
    have e1 : c' = cf := by have := hi.symm.trans hf'; simp at this; exact this.1.symm
    rw [hdecl] at hown2
    rw [← e1]; exact Option.some.inj (hown.symm.trans hown2)
  have h6 := u_fits hfc hkC hkind (Or.inr hlay) hi hd hn hfit
  have hsame : ∀ x, s.fieldFound? (T k).1 (T k).2.1 (T k).2.2.1 = some x → s.fieldFound? C (T k).2.1 (T k).2.2.1 = some x := by rw [hT]; exact fun _ h9 => h9
  refine W.putFinK hx hb hown (hts _ hlk) (hsame _ hi) hst hcf (hini hnm0) (by rw [q2]; exact h6) q1 q3 (by rw [hsl]; exact k2_hasslot (q4 k hk)) rfl rfl hdg fun H' e1 e2 e3 => ?_
  rw [hsl] at e1 ⊢
  exact K p l e R s m args below meth c D κ A Z H' _ ls hC (hW.put he (e := .inr (ci, fs.set k v)) ⟨_, hc, t_OB.to (V := updV (vp_V fs) k v) ⟨_, e1, q2, q3, t_set q4 hap hk v⟩ (fun j _ => vp_updV_set hl v j)⟩ e2 e3) hF
theorem ko_iald {a L : Nat} {f : Nat → Int32} {i : Int32} (hdg : decode Y.2.1 pc = .ok (.iaload, 1)) (he : h a = some (.inl (0, L, .inl f))) (hin : vp_in i L) (K : kx_Ok Y d kc ks G cs ss (pc + 1) lv (.int (f i.toNatClampNeg) :: st) N h res) : kx_Ok Y d kc ks G cs ss pc lv (.int i :: .ref a :: st) N h res := by
  intro p l e R s m args below meth c D κ A Z H locs ls hC hW hF
  have hC' := hC
  obtain ⟨hx, hb, hr, hml, hown, hts, hlocks, hini, hrm, hK, hSt, hA, hX⟩ := hC'
  exact va_iald hx hb hK (hW.2.1.one he) 0 0 rfl rfl hin hdg (K p l e R s m args below meth c D κ A Z H locs ls hC hW hF)
theorem ko_zald {a L : Nat} {f : Nat → Int32} {i : Int32} (hdg : decode Y.2.1 pc = .ok (.baload, 1)) (he : h a = some (.inl (1, L, .inl f))) (hin : vp_in i L) (K : kx_Ok Y d kc ks G cs ss (pc + 1) lv (.int (f i.toNatClampNeg) :: st) N h res) : kx_Ok Y d kc ks G cs ss pc lv (.int i :: .ref a :: st) N h res := by
  intro p l e R s m args below meth c D κ A Z H locs ls hC hW hF
  have hC' := hC
  obtain ⟨hx, hb, hr, hml, hown, hts, hlocks, hini, hrm, hK, hSt, hA, hX⟩ := hC'
  exact va_zald hx hb hK (hW.2.1.one he) 0 1 rfl rfl hin hdg (K p l e R s m args below meth c D κ A Z H locs ls hC hW hF)
theorem ko_aald {a L : Nat} {f : Nat → Option Nat} {i : Int32} {q : Nat} (hdg : decode Y.2.1 pc = .ok (.aaload, 1)) (he : h a = some (.inl (2, L, .inr (.inr (.inr (.inr f)))))) (hin : vp_in i L) (hq : f i.toNatClampNeg = some q) (K : kx_Ok Y d kc ks G cs ss (pc + 1) lv (.ref q :: st) N h res) : kx_Ok Y d kc ks G cs ss pc lv (.int i :: .ref a :: st) N h res := by
  intro p l e R s m args below meth c D κ A Z H locs ls hC hW hF
  have hC' := hC
  obtain ⟨hx, hb, hr, hml, hown, hts, hlocks, hini, hrm, hK, hSt, hA, hX⟩ := hC'
  refine va_aldq hx hb hK (hW.2.1.one he) 0 2 rfl rfl hin hdg ?_
  rw [hq]
  exact K p l e R s m args below meth c D κ A Z H locs ls hC hW hF
theorem ko_iast {a L : Nat} {f : Nat → Int32} {i x : Int32} (hdg : decode Y.2.1 pc = .ok (.iastore, 1)) (he : h a = some (.inl (0, L, .inl f))) (hin : vp_in i L) (K : kx_Ok Y d kc ks G cs ss (pc + 1) lv st N (kx_up h a (.inl (0, L, .inl (upd f i.toNatClampNeg x)))) res) : kx_Ok Y d kc ks G cs ss pc lv (.int x :: .int i :: .ref a :: st) N h res := by
  intro p l e R s m args below meth c D κ A Z H locs ls hC hW hF
  have hC' := hC
  obtain ⟨hx, hb, hr, hml, hown, hts, hlocks, hini, hrm, hK, hSt, hA, hX⟩ := hC'
  refine W.iast hx hb (hW.2.1 a _ he) ((hK.2 0 _ rfl).1 L (fun j => .int (f j))) (fun q => by cases q) (by show ¬ (i < 0 ∨ (arrV _ _ _).slots.size ≤ _); rw [arrV_size]; exact hin) rfl rfl hdg fun H1 e1 z oq => ?_
  refine K p l e R s m args below meth c D κ A Z H1 _ ls hC (hW.put he (e := .inl (0, L, .inl (upd f i.toNatClampNeg x))) ?_ z oq) hF
  show H1[a]? = some (vp_cell _ _)
  rw [e1]
  rw [vp_cell_i, vp_cell_i, arrV_store]
  congr 2
  funext q
  by_cases hq : q = i.toNatClampNeg
  · subst hq
    simp [updV, upd]
  · simp [updV, upd, hq]
theorem ko_zast {a L : Nat} {f : Nat → Int32} {i x : Int32} (hdg : decode Y.2.1 pc = .ok (.bastore, 1)) (he : h a = some (.inl (1, L, .inl f))) (hin : vp_in i L) (K : kx_Ok Y d kc ks G cs ss (pc + 1) lv st N (kx_up h a (.inl (1, L, .inl (upd f i.toNatClampNeg (vp_nar .boolean x))))) res) : kx_Ok Y d kc ks G cs ss pc lv (.int x :: .int i :: .ref a :: st) N h res := by
  intro p l e R s m args below meth c D κ A Z H locs ls hC hW hF
  have hC' := hC
  obtain ⟨hx, hb, hr, hml, hown, hts, hlocks, hini, hrm, hK, hSt, hA, hX⟩ := hC'
  refine W.zast hx hb (hW.2.1 a _ he) ((hK.2 1 _ rfl).1 L (fun j => .int (f j))) (fun q => by cases q) (by show ¬ (i < 0 ∨ (arrV _ _ _).slots.size ≤ _); rw [arrV_size]; exact hin) rfl rfl hdg fun H1 e1 z oq => ?_
  refine K p l e R s m args below meth c D κ A Z H1 _ ls hC (hW.put he (e := .inl (1, L, .inl (upd f i.toNatClampNeg (vp_nar .boolean x)))) ?_ z oq) hF
  show H1[a]? = some (vp_cell _ _)
  rw [e1]
  rw [vp_cell_i, vp_cell_i, arrV_store]
  congr 2
  funext q
  by_cases hq : q = i.toNatClampNeg
  · subst hq
    simp [updV, upd, vp_nar]
    try rfl
  · simp [updV, upd, hq]
theorem ko_aast {a L v : Nat} {vs : List Value} {f : Nat → Option Nat} {i : Int32} (hdg : decode Y.2.1 pc = .ok (.aastore, 1)) (he : h a = some (.inl (2, L, .inr (.inr (.inr (.inr f)))))) (hv : h v = some (.inr (2, vs))) (hin : vp_in i L) (K : kx_Ok Y d kc ks G cs ss (pc + 1) lv st N (kx_up h a (.inl (2, L, .inr (.inr (.inr (.inr (va_up f i.toNatClampNeg (some v)))))))) res) : kx_Ok Y d kc ks G cs ss pc lv (.ref v :: .int i :: .ref a :: st) N h res := by
  intro p l e R s m args below meth c D κ A Z H locs ls hC hW hF
  have hC' := hC
  obtain ⟨hx, hb, hr, hml, hown, hts, hlocks, hini, hrm, hK, hSt, hA, hX⟩ := hC'
  have hlt : i.toNatClampNeg < L := Nat.not_le.mp fun q => hin (Or.inr q)
  have h0 : ¬ i < 0 := fun q => hin (Or.inl q)
  have hc : vwCl[2]? = some (RX2, TX2, 9) := rfl
  obtain ⟨r', hr', cellV, g1, g2, g3, -⟩ := hW.2.1 v _ hv
  have hcls := (hK.1 2 _ hc).2
  obtain ⟨kA, comp, k1, k2, k3, -⟩ := (hK.2 2 _ rfl).2
  have hcomp : comp = D.1 2 := Option.some.inj (k3.symm.trans hcls.1)
  subst hcomp
  obtain ⟨kC, hkC, -⟩ := hcls.2
  refine W.aast hx hb (hW.2.1 a _ he) (fun q h => by cases h) (fun h => by cases h) k1 k2 rfl hkC ⟨h0, by show _ < (arrV _ _ _).slots.size; rw [arrV_size]; exact hlt⟩ g1 (fun q h => by rw [g3] at h; cases h) (by rw [g2]; exact hkC) (by rw [g2]; exact va_assign hcls) rfl rfl hdg fun H1 e1 z oq => ?_
  refine K p l e R s m args below meth c D κ A Z H1 _ ls hC (hW.put he (e := .inl (2, L, .inr (.inr (.inr (.inr (va_up f i.toNatClampNeg (some v))))))) ?_ z oq) hF
  show H1[a]? = some (vp_cell _ _)
  rw [e1]
  rw [vp_cell_q, vp_cell_q, arrV_store]
  congr 2
  funext q
  by_cases hq : q = i.toNatClampNeg
  · subst hq
    simp [updV, va_up, va_rf]
  · simp [updV, va_up, hq]
/-- arrays that nobody writes, apart from the worlds -/
theorem ko_rald {a L : Nat} {f : Nat → Int32} {i : Int32} (hdg : decode Y.2.1 pc = .ok (.iaload, 1)) (he : G.2 a = some (L, f)) (hin : vp_in i L) (K : kx_Ok Y d kc ks G cs ss (pc + 1) lv (.int (f i.toNatClampNeg) :: st) N h res) : kx_Ok Y d kc ks G cs ss pc lv (.int i :: .ref a :: st) N h res := by
  intro p l e R s m args below meth c D κ A Z H locs ls hC hW hF
  have hC' := hC
  obtain ⟨hx, hb, hr, hml, hown, hts, hlocks, hini, hrm, hK, hSt, hA, hX⟩ := hC'
  exact va_ti hx hb (hSt.2 a L f he) hW.2.2.2.1 hin rfl hdg (K p l e R s m args below meth c D κ A Z H locs ls hC hW hF)
theorem ko_rlen {a L : Nat} {f : Nat → Int32} (hdg : decode Y.2.1 pc = .ok (.arraylength, 1)) (he : G.2 a = some (L, f)) (K : kx_Ok Y d kc ks G cs ss (pc + 1) lv (.int (nI L) :: st) N h res) : kx_Ok Y d kc ks G cs ss pc lv (.ref a :: st) N h res := by
  intro p l e R s m args below meth c D κ A Z H locs ls hC hW hF
  have hC' := hC
  obtain ⟨hx, hb, hr, hml, hown, hts, hlocks, hini, hrm, hK, hSt, hA, hX⟩ := hC'
  exact va_tlen hx hb (hSt.2 a L f he) hW.2.2.2.1 rfl hdg (K p l e R s m args below meth c D κ A Z H locs ls hC hW hF)
theorem ko_gets {index : Nat} (hl : Cond.fieldLink Y.1.cls index "BorrowedTears" "FACTORIALS" "[I" ∈ kx_tbl) (hdg : decode Y.2.1 pc = .ok (.getstatic index, 3)) (K : kx_Ok Y d kc ks G cs ss (pc + 3) lv (.ref G.1 :: st) N h res) : kx_Ok Y d kc ks G cs ss pc lv st N h res := by
  intro p l e R s m args below meth c D κ A Z H locs ls hC hW hF
  have hC' := hC
  obtain ⟨hx, hb, hr, hml, hown, hts, hlocks, hini, hrm, hK, hSt, hA, hX⟩ := hC'
  exact va_gets hx hb hSt.1 hW.2.2.2.1 hown (hts _ hl) (fun _ h9 => h9) hdg (K p l e R s m args below meth c D κ A Z H locs ls hC hW hF)
/-- a new cell stands behind all that there was -/
theorem kx_Wd.new {D : va_G} {κ : Nat → ClassId} {A : Nat → Prop} {s : State} {H H1 : Heap} {locs : List Loc} {ls : Array Slot} (w : kx_Wd Y D κ A s H locs ls lv N h) (hA : ∀ q : Nat, s.heap.size ≤ q → A q) {e : va_E} (h1 : va_at D vwCl (H.size, kx_re κ e) H1) (z : H1.size = H.size + 1) (oq : ∀ q : Nat, q < H.size → H1[q]? = H[q]?) : kx_Wd Y D κ A s H1 locs ls lv (N + 1) (kx_up h N e) := by
  obtain ⟨w1, w2, w3, w4, w5⟩ := w
  subst w1
  refine ⟨z, fun b e' hb => ?_, fun b e' hb => ?_, ⟨by rw [z]; exact Nat.le_succ_of_le w4.1, fun q g1 g2 => (oq q (Nat.lt_of_lt_of_le g1 w4.1)).trans (w4.2.1 q g1 g2), w4.2.2⟩, w5⟩
  · by_cases hba : b = H.size
    · subst hba; simp only [kx_up, if_true] at hb; cases hb; exact h1
    · simp only [kx_up, if_neg hba] at hb; exact (w2 b e' hb).kept (oq b (w2.lt hb))
  · by_cases hba : b = H.size
    · subst hba; exact hA _ w4.1
    · simp only [kx_up, if_neg hba] at hb; exact w3 b e' hb
theorem ko_new {index ci NN : Nat} {C : String} {T : u_T} {fs : List Value} (hcl : kx_cls ci C T NN) (hlk : Cond.classLink Y.1.cls index C ∈ kx_tbl) (hinst : Cond.instantiable C NN ∈ kx_tbl) (hinit : Cond.initialized C ∈ kx_tbl) (hfs : ∀ j, j < NN → (parseFieldDescriptor (T j).2.2.1).map defaultValue = some (vp_V fs j)) (hdg : decode Y.2.1 pc = .ok (.new index, 3)) (h1 : cs + 1 ≤ kc) (h2 : ss + NN ≤ ks) (K : kx_Ok Y d kc ks G (cs + 1) (ss + NN) (pc + 3) lv (.ref N :: st) (N + 1) (kx_up h N (.inr (ci, fs))) res) : kx_Ok Y d kc ks G cs ss pc lv st N h res := by
  intro p l e R s m args below meth c D κ A Z H locs ls hC hW hF
  obtain ⟨hc, hin, ty0, hty, hnm⟩ := hcl
  have hC' := hC
  obtain ⟨hx, hb, hr, hml, hown, hts, hlocks, hini, ⟨r1, r2, r3, r4⟩, hK, hSt, hA, hX⟩ := hC'
  have hKn := hK.1 ci _ hc
  refine W.newcK hx hb hown (hts _ hlk) (hts _ hinst) (hts _ hinit) rfl hdg (Nat.le_trans h1 r3) (Nat.le_trans h2 r4) hKn.2.1 hW.1 fun H1 kC hkC e1 z1 o1 => ?_
  refine K p l e R s m args below meth c D κ A Z H1 locs ls hC (hW.new hA (e := .inr (ci, fs)) ?_ (by rw [hW.1]; exact z1) (by rw [hW.1]; exact o1)) hF
  refine ⟨_, hc, (u_born (fun k => ty0 k) hts hin hKn hkC (by rw [hW.1]; exact e1) hty).to (fun j hj => ?_)⟩
  have := hfs j hj
  rw [hty j hj] at this
  exact Option.some.inj this
theorem ko_newi {n : Int32} {L : Nat} (hdg : decode Y.2.1 pc = .ok (.newarray .int, 2)) (hn : ¬ n < 0) (hL : n.toNatClampNeg = L) (hB : L ≤ 1000) (h1 : cs + 1 ≤ kc) (h2 : ss + L ≤ ks) (ha : Cond.arrayClass .int ∈ kx_tbl) (K : kx_Ok Y d kc ks G (cs + 1) (ss + L) (pc + 2) lv (.ref N :: st) (N + 1) (kx_up h N (.inl (0, L, .inl (fun _ => 0)))) res) : kx_Ok Y d kc ks G cs ss pc lv (.int n :: st) N h res := by
  intro p l e R s m args below meth c D κ A Z H locs ls hC hW hF
  have hC' := hC
  obtain ⟨hx, hb, hr, hml, hown, hts, hlocks, hini, ⟨r1, r2, r3, r4⟩, hK, hSt, hA, hX⟩ := hC'
  refine va_newaK (atype := .int) hx hb (hts _ ha) rfl hdg rfl hn hL (by show L * 4 ≤ _; omega) (Nat.le_trans h1 r3) (Nat.le_trans h2 r4) hW.1 fun H1 cA e1 z1 o1 hAr hNm => ?_
  have hcA : cA = κ 0 := Option.some.inj (hNm.symm.trans (hK.2 0 _ rfl).2)
  subst hcA
  exact K p l e R s m args below meth c D κ A Z H1 locs ls hC (hW.new hA (e := .inl (0, L, .inl (fun _ => 0))) (by show H1[H.size]? = _; rw [hW.1]; exact e1) (by rw [hW.1]; exact z1) (by rw [hW.1]; exact o1)) hF
theorem ko_newz {n : Int32} {L : Nat} (hdg : decode Y.2.1 pc = .ok (.newarray .boolean, 2)) (hn : ¬ n < 0) (hL : n.toNatClampNeg = L) (hB : L ≤ 1000) (h1 : cs + 1 ≤ kc) (h2 : ss + L ≤ ks) (ha : Cond.arrayClass .boolean ∈ kx_tbl) (K : kx_Ok Y d kc ks G (cs + 1) (ss + L) (pc + 2) lv (.ref N :: st) (N + 1) (kx_up h N (.inl (1, L, .inl (fun _ => 0)))) res) : kx_Ok Y d kc ks G cs ss pc lv (.int n :: st) N h res := by
  intro p l e R s m args below meth c D κ A Z H locs ls hC hW hF
  have hC' := hC
  obtain ⟨hx, hb, hr, hml, hown, hts, hlocks, hini, ⟨r1, r2, r3, r4⟩, hK, hSt, hA, hX⟩ := hC'
  refine va_newaK (atype := .boolean) hx hb (hts _ ha) rfl hdg rfl hn hL (by show L * 1 ≤ _; omega) (Nat.le_trans h1 r3) (Nat.le_trans h2 r4) hW.1 fun H1 cA e1 z1 o1 hAr hNm => ?_
  have hcA : cA = κ 1 := Option.some.inj (hNm.symm.trans (hK.2 1 _ rfl).2)
  subst hcA
  exact K p l e R s m args below meth c D κ A Z H1 locs ls hC (hW.new hA (e := .inl (1, L, .inl (fun _ => 0))) (by show H1[H.size]? = _; rw [hW.1]; exact e1) (by rw [hW.1]; exact z1) (by rw [hW.1]; exact o1)) hF
theorem ko_newq {n : Int32} {L index : Nat} (hlk : Cond.classLink Y.1.cls index RX2 ∈ kx_tbl) (hdg : decode Y.2.1 pc = .ok (.anewarray index, 3)) (hn : ¬ n < 0) (hL : n.toNatClampNeg = L) (hB : L ≤ 1000) (h1 : cs + 1 ≤ kc) (h2 : ss + L ≤ ks) (K : kx_Ok Y d kc ks G (cs + 1) (ss + L) (pc + 3) lv (.ref N :: st) (N + 1) (kx_up h N (.inl (2, L, .inr (.inr (.inr (.inr (fun _ => none))))))) res) : kx_Ok Y d kc ks G cs ss pc lv (.int n :: st) N h res := by
  intro p l e R s m args below meth c D κ A Z H locs ls hC hW hF
  have hC' := hC
  obtain ⟨hx, hb, hr, hml, hown, hts, hlocks, hini, ⟨r1, r2, r3, r4⟩, hK, hSt, hA, hX⟩ := hC'
  subst hL
  refine W.anew hx hb hown (hts _ hlk) (va_AO.use hX.1) rfl hdg rfl hn (by omega) (Nat.le_trans h1 r3) (Nat.le_trans h2 r4) fun cA kA comp f1 f2 f3 f4 => ?_
  have hw1 := hW.1
  subst hw1
  obtain ⟨-, -, -, -, -, hfc⟩ := (hK.2 2 _ rfl).2
  have hcA : cA = κ 2 := Option.some.inj (f1.symm.trans hfc)
  subst hcA
  generalize hH1 : H.push ({ cls := κ 2, slots := Array.replicate n.toNatClampNeg .null, vm := .none } : Cell) = H1
  have z1 : H1.size = H.size + 1 := by rw [← hH1, Array.size_push]
  have e1 : H1[H.size]? = some (arrV (κ 2) n.toNatClampNeg (fun _ => .null)) := by rw [← hH1, Array.getElem?_push_size, ← arrV_new]
  have o1 : ∀ q : Nat, q < H.size → H1[q]? = H[q]? := fun q hq => by rw [← hH1, Array.getElem?_push, if_neg (Nat.ne_of_lt hq)]
  exact K p l e R s m args below meth c D κ A Z H1 locs ls hC (hW.new hA (e := .inl (2, n.toNatClampNeg, .inr (.inr (.inr (.inr (fun _ => none)))))) e1 z1 o1) hF
theorem ko_objInit {idx a : Nat} (hl : Cond.methodLink Y.1.cls idx objectInit ∈ kx_tbl) (hdg : decode Y.2.1 pc = .ok (.invokespecial idx, 3)) (hd : 1 ≤ d) (hst : (st.map fun v => v.category).sum ≤ 8) (K : kx_Ok Y d kc ks G cs ss (pc + 3) lv st N h res) : kx_Ok Y d kc ks G cs ss pc lv (.ref a :: st) N h res := by
  intro p l e R s m args below meth c D κ A Z H locs ls hC hW hF
  have hC' := hC
  obtain ⟨hx, hb, hr, hml, hown, hts, hlocks, hini, ⟨r1, r2, r3, r4⟩, hK, hSt, hA, hX⟩ := hC'
  refine W.objInit (idx := idx) hx hb hown (hts _ hl) (hts _ wo_in) (hts _ wo_cd) rfl (by rw [hml]; exact hW.2.2.2.2.1) rfl hdg (Nat.le_trans hd r1) (by show 2 * 0 + _ + 12 ≤ _; omega) ?_
  exact K p l e R s m args below meth c D κ A Z H locs ls hC hW hF
/-- behind a call: the machine's run of the callee, the caller goes on over the new heap -/
theorem kx_after {kc' ks' : Nat} {v : Option Value} {N' : Nat} {h' : kx_H} {st0 : List Value} {p : Program} {l : Launch} {e : Env} {R : Room} {s : State} {m : MethodId} {args : Array Value} {below : List Frame} {meth : Method} {c : Code} {D : va_G} {κ : Nat → ClassId} {A : Nat → Prop} {Z : State → Prop} {H : Heap} {locs : List Loc} {ls : Array Slot} {a : Array Value}
    (hC : kx_C Y d kc ks G D κ A p R s m args meth c) (hW : kx_Wd Y D κ A s H locs ls lv N h) (hF : kx_F Y D κ A kc ks p l e R s m args below meth c Z res) (hr : va_Run p l e R s m args below meth c H locs cs ss kc' ks' (F0 m pc ls st0) st (kx_Q D κ N h (v, N', h') a) (kx_dom h N)) (K : kx_Ok Y d kc ks G (cs + kc') (ss + ks') (pc + 3) lv (v.toList ++ st) N' h' res) : W p l e R s m args below meth c H locs cs ss Z (F0 m pc ls st0) := by
  have hdm : ∀ q, kx_dom h N q → A q := kx_dom_le hW.2.2.1 (fun q hq => hC.2.2.2.2.2.2.2.2.2.2.2.1 q (Nat.le_trans (by rw [← hW.1] at hq; exact hW.2.2.2.1.1) (by rw [← hW.1] at hq; exact hq)))
  intro T hT X
  obtain ⟨w, st₀, t, T', L, h0, X', hL, e1, e2, ⟨hv, hz, hH, hdom, hFr⟩, st⟩ := hr T hT X
  cases hv
  have hS := hW.2.2.2.1
  have hsz : H.size ≤ t.heap.size := by rw [← h0]; exact hFr.1
  obtain ⟨t2, a1, b1⟩ := K p l e R s m args below meth c D κ A Z t.heap (locs ++ L) ls hC ⟨hz, hH, fun b e' hb => hdm b (hdom b e' hb), ⟨Nat.le_trans hS.1 hsz, fun q g1 g2 => by
      rw [hFr.2 q (by rw [h0]; exact Nat.lt_of_lt_of_le g1 hS.1) (fun z => g2 (hdm q z)), h0]
      exact hS.2.1 q g1 g2, fun q hq => by
      rcases List.mem_append.mp hq with g | g
      · exact hS.2.2 q g
      · exact hdm _ (hL q g)⟩, hW.2.2.2.2⟩ hF T' e1 X'
  exact ⟨t2, st t2 a1, b1⟩
theorem kx_blind {D : va_G} {κ : Nat → ClassId} {av : List Value} : FrameBlind (va_Pc av (kx_Pc D κ G N h)) := fun a U g mk q => by
  obtain ⟨q0, q1, q2, q3, q4, q5⟩ := q
  exact ⟨q0, q1, q2, va_K.moved (u := U) (U := U.calling g mk a) (Vm.Alike.refl U.vm) q3, kx_St.moved (u := U) (U := U.calling g mk a) (Vm.Alike.refl U.vm) q4, kx_X.same (s := U) (U := U.calling g mk a) rfl q5⟩
theorem kx_pre {p : Program} {R : Room} {s : State} {m : MethodId} {args : Array Value} {meth : Method} {c : Code} {D : va_G} {κ : Nat → ClassId} {A : Nat → Prop} {H : Heap} {locs : List Loc} {ls : Array Slot}
    (hC : kx_C Y d kc ks G D κ A p R s m args meth c) (hW : kx_Wd Y D κ A s H locs ls lv N h) (av : List Value) : ∀ U : State, U.heap = H → s.WarmedH U.vm → va_Pc av (kx_Pc D κ G N h) av.toArray U := by
  intro U hU hwm
  obtain ⟨hx, hb, hr, hml, hown, hts, hlocks, hini, hrm, hK, hSt, hA, hX⟩ := hC
  have hdm : ∀ q, kx_dom h N q → A q := kx_dom_le hW.2.2.1 (fun q hq => hA q (Nat.le_trans (by rw [← hW.1] at hq; exact hW.2.2.2.1.1) (by rw [← hW.1] at hq; exact hq)))
  refine ⟨rfl, by rw [hU]; exact hW.1, by rw [hU]; exact hW.2.1, va_K.moved hwm.alike hK, ?_, hX.warm hwm⟩
  rw [hU]
  exact ((hSt.kept (fun q g1 g2 => hW.2.2.2.1.2.1 q g1 g2)).moved hwm.alike).narrow hdm
theorem kx_gin {y : kx_Y} (hc : Cond.code y.1 y.2.1 y.2.2.1 y.2.2.2 ∈ kx_tbl) : GoodIn kx_tbl (kx_ws y) := fun w hw => by
  have hm : w ∈ kx_tbl := by
    rcases List.mem_cons.mp hw with e | e
    · rw [e]; exact hc
    · exact e
  exact ⟨hm, kx_good w hm⟩
theorem kx_recv {D : va_G} {κ : Nat → ClassId} {H : Heap} {s : State} {b ci : Nat} {q : vw_C} {fs : List Value} (hK : va_K D vwCl (kx_tys κ) s) (hH : kx_Hold D κ h H) (hc : vwCl[ci]? = some q) (he : h b = some (.inr (ci, fs))) : ∃ cell : Cell, H[b]? = some cell ∧ cell.vm.isStatics = false ∧ s.vm.findClass q.1 = some cell.cls := va_recv hK (hH.one he) (q0 := 0) hc rfl
theorem ko_callV {y : kx_Y} {d' kc' ks' n idx b ci : Nat} {q : vw_C} {fs As : List Value} {v : Option Value} {N' : Nat} {h' : kx_H} {st0 : List Value} (hlk : kx_lV Y.1.cls idx y n) (hdg : decode Y.2.1 pc = .ok (.invokevirtual idx, 3)) (hf : kx_Fn y d' kc' ks' G (.ref b :: As) N h (v, N', h')) (hs : st0 = As.reverse ++ .ref b :: st) (hn : As.length = n) (hb : h b = some (.inr (ci, fs))) (hci : vwCl[ci]? = some q) (hq : q.1 = y.1.cls) (hd : d' + 1 ≤ d) (h1 : cs + kc' ≤ kc) (h2 : ss + ks' ≤ ks) (hst : (st.map fun v => v.category).sum ≤ 8) (K : kx_Ok Y d kc ks G (cs + kc') (ss + ks') (pc + 3) lv (v.toList ++ st) N' h' res) : kx_Ok Y d kc ks G cs ss pc lv st0 N h res := by
  intro p l e R s m args below meth c D κ A Z H locs ls hC hW hF
  obtain ⟨⟨l1, l2, l3, l4, l5, l6⟩, l7, l8, l9⟩ := hlk
  have hC' := hC
  obtain ⟨hx, hbc, hr, hml, hown, hts, hlocks, hini, ⟨r1, r2, r3, r4⟩, hK, hSt, hA, hX⟩ := hC'
  have cw : CallW R s args Y.1.cls y.1.cls idx y.1 y.2.1 y.2.2.1 y.2.2.2 (kx_ws y) (kx_rm d' kc' ks') kc' ks' n := ⟨callB_of n hts (kx_gin l1) rfl rfl rfl (hts _ l2) (hts _ l7) ⟨l3, l4, l5⟩ ⟨Nat.le_trans hd r1, by show 8 + (y.2.2.1 + 11) + 40 * d' ≤ _; omega⟩, hts _ l8, hts _ l9⟩
  exact kx_after hC hW hF (va_runV (As := As) (rest := st) ⟨hx, hbc, hml, hown, hts⟩ (hf l D κ) cw ⟨kx_blind, by rw [← hq]; exact kx_recv hK hW.2.1 hci hb, kx_pre hC hW (.ref b :: As)⟩ rfl hn hW.2.2.2.2.1 hs (lv_room hst) hdg ⟨Nat.le_trans h1 r3, Nat.le_trans h2 r4⟩) K
theorem ko_callVN {y : kx_Y} {d' kc' ks' n idx b ci : Nat} {q : vw_C} {fs As : List Value} {v : Option Value} {N' : Nat} {h' : kx_H} {st0 : List Value} (hlk : kx_lVN Y.1.cls idx y n) (hdg : decode Y.2.1 pc = .ok (.invokevirtual idx, 3)) (hf : kx_Fn y d' kc' ks' G (.ref b :: As) N h (v, N', h')) (hs : st0 = As.reverse ++ .ref b :: st) (hn : As.length = n) (hb : h b = some (.inr (ci, fs))) (hci : vwCl[ci]? = some q) (hq : q.1 = y.1.cls) (hd : d' + 1 ≤ d) (h1 : cs + kc' ≤ kc) (h2 : ss + ks' ≤ ks) (hst : (st.map fun v => v.category).sum ≤ 8) (K : kx_Ok Y d kc ks G (cs + kc') (ss + ks') (pc + 3) lv (v.toList ++ st) N' h' res) : kx_Ok Y d kc ks G cs ss pc lv st0 N h res := by
  intro p l e R s m args below meth c D κ A Z H locs ls hC hW hF
  obtain ⟨⟨l1, l2, l3, l4, l5, l6⟩, ⟨host, l7⟩, l8, l9⟩ := hlk
  have hC' := hC
  obtain ⟨hx, hbc, hr, hml, hown, hts, hlocks, hini, ⟨r1, r2, r3, r4⟩, hK, hSt, hA, hX⟩ := hC'
  have cw : va_CN R s args Y.1.cls idx y.1 host y.2.1 y.2.2.1 y.2.2.2 (kx_ws y) (kx_rm d' kc' ks') kc' ks' n := va_cnB n hts (kx_gin l1) rfl rfl rfl (hX.2 _ l7) (hts _ l2) ⟨l3, l4, l5⟩ ⟨Nat.le_trans hd r1, by show 8 + (y.2.2.1 + 11) + 40 * d' ≤ _; omega⟩
  exact kx_after hC hW hF (va_runVN (As := As) (rest := st) ⟨hx, hbc, hml, hown, hts⟩ (hf l D κ) ⟨cw, hts _ l8, hts _ l9⟩ ⟨kx_blind, by rw [← hq]; exact kx_recv hK hW.2.1 hci hb, kx_pre hC hW (.ref b :: As)⟩ rfl hn hW.2.2.2.2.1 hs (lv_room hst) hdg ⟨Nat.le_trans h1 r3, Nat.le_trans h2 r4⟩) K
theorem ko_callS {y : kx_Y} {d' kc' ks' n idx : Nat} {As : List Value} {v : Option Value} {N' : Nat} {h' : kx_H} {st0 : List Value} (hlk : kx_lS Y.1.cls idx y n) (hdg : decode Y.2.1 pc = .ok (.invokestatic idx, 3)) (hf : kx_Fn y d' kc' ks' G As N h (v, N', h')) (hs : st0 = As.reverse ++ st) (hn : As.length = n) (hd : d' + 1 ≤ d) (h1 : cs + kc' ≤ kc) (h2 : ss + ks' ≤ ks) (hst : (st.map fun v => v.category).sum ≤ 8) (K : kx_Ok Y d kc ks G (cs + kc') (ss + ks') (pc + 3) lv (v.toList ++ st) N' h' res) : kx_Ok Y d kc ks G cs ss pc lv st0 N h res := by
  intro p l e R s m args below meth c D κ A Z H locs ls hC hW hF
  obtain ⟨⟨l1, l2, l3, l4, l5, l6⟩, l7, l8⟩ := hlk
  have hC' := hC
  obtain ⟨hx, hbc, hr, hml, hown, hts, hlocks, hini, ⟨r1, r2, r3, r4⟩, hK, hSt, hA, hX⟩ := hC'
  have cw : CallB R s args Y.1.cls idx y.1 y.2.1 y.2.2.1 y.2.2.2 (kx_ws y) (kx_rm d' kc' ks') kc' ks' n := callB_of n hts (kx_gin l1) rfl rfl rfl (hts _ l2) (hts _ l7) ⟨l3, l4, l5⟩ ⟨Nat.le_trans hd r1, by show 8 + (y.2.2.1 + 11) + 40 * d' ≤ _; omega⟩
  exact kx_after hC hW hF (va_runS (As := As) (rest := st) ⟨hx, hbc, hml, hown, hts⟩ (hf l D κ) ⟨cw, hts _ l8⟩ ⟨kx_blind, kx_pre hC hW As⟩ rfl hn hW.2.2.2.2.1 hs (lv_room hst) hdg ⟨Nat.le_trans h1 r3, Nat.le_trans h2 r4⟩) K
theorem ko_callSN {y : kx_Y} {d' kc' ks' n idx : Nat} {As : List Value} {v : Option Value} {N' : Nat} {h' : kx_H} {st0 : List Value} (hlk : kx_lSN Y.1.cls idx y n) (hdg : decode Y.2.1 pc = .ok (.invokestatic idx, 3)) (hf : kx_Fn y d' kc' ks' G As N h (v, N', h')) (hs : st0 = As.reverse ++ st) (hn : As.length = n) (hd : d' + 1 ≤ d) (h1 : cs + kc' ≤ kc) (h2 : ss + ks' ≤ ks) (hst : (st.map fun v => v.category).sum ≤ 8) (K : kx_Ok Y d kc ks G (cs + kc') (ss + ks') (pc + 3) lv (v.toList ++ st) N' h' res) : kx_Ok Y d kc ks G cs ss pc lv st0 N h res := by
  intro p l e R s m args below meth c D κ A Z H locs ls hC hW hF
  obtain ⟨⟨l1, l2, l3, l4, l5, l6⟩, ⟨host, l7⟩, l8⟩ := hlk
  have hC' := hC
  obtain ⟨hx, hbc, hr, hml, hown, hts, hlocks, hini, ⟨r1, r2, r3, r4⟩, hK, hSt, hA, hX⟩ := hC'
  have cw : va_CN R s args Y.1.cls idx y.1 host y.2.1 y.2.2.1 y.2.2.2 (kx_ws y) (kx_rm d' kc' ks') kc' ks' n := va_cnB n hts (kx_gin l1) rfl rfl rfl (hX.2 _ l7) (hts _ l2) ⟨l3, l4, l5⟩ ⟨Nat.le_trans hd r1, by show 8 + (y.2.2.1 + 11) + 40 * d' ≤ _; omega⟩
  exact kx_after hC hW hF (va_runSN (As := As) (rest := st) ⟨hx, hbc, hml, hown, hts⟩ (hf l D κ) ⟨cw, hts _ l8, trivial⟩ ⟨kx_blind, kx_pre hC hW As⟩ rfl hn hW.2.2.2.2.1 hs (lv_room hst) hdg ⟨Nat.le_trans h1 r3, Nat.le_trans h2 r4⟩) K
theorem ko_callI {y : kx_Y} {d' kc' ks' n idx b : Nat} {As : List Value} {v : Option Value} {N' : Nat} {h' : kx_H} {st0 : List Value} (hlk : kx_lI Y.1.cls idx y n) (hret : y.2.2.2 = none) (hdg : decode Y.2.1 pc = .ok (.invokespecial idx, 3)) (hf : kx_Fn y d' kc' ks' G (.ref b :: As) N h (v, N', h')) (hs : st0 = As.reverse ++ .ref b :: st) (hn : As.length = n) (hd : d' + 1 ≤ d) (h1 : cs + kc' ≤ kc) (h2 : ss + ks' ≤ ks) (hst : (st.map fun v => v.category).sum ≤ 8) (K : kx_Ok Y d kc ks G (cs + kc') (ss + ks') (pc + 3) lv (v.toList ++ st) N' h' res) : kx_Ok Y d kc ks G cs ss pc lv st0 N h res := by
  intro p l e R s m args below meth c D κ A Z H locs ls hC hW hF
  obtain ⟨y1, y2, y3, y4⟩ := y
  cases hret
  obtain ⟨⟨l1, l2, l3, l4, l5, l6⟩, l7, l8, l9⟩ := hlk
  have hC' := hC
  obtain ⟨hx, hbc, hr, hml, hown, hts, hlocks, hini, ⟨r1, r2, r3, r4⟩, hK, hSt, hA, hX⟩ := hC'
  have hl6 : y3 ≤ 21 := l6
  have cw : CallB R s args Y.1.cls idx y1 y2 y3 none (kx_ws (y1, y2, y3, none)) (kx_rm d' kc' ks') kc' ks' n := callB_of n hts (kx_gin l1) rfl rfl rfl (hts _ l2) (hts _ l7) ⟨l3, l4, l5⟩ ⟨Nat.le_trans hd r1, by show 8 + (y3 + 11) + 40 * d' ≤ _; omega⟩
  exact kx_after hC hW hF (va_runI (As := As) (rest := st) ⟨hx, hbc, hml, hown, hts⟩ (hf l D κ) ⟨cw, l9, hts _ l8⟩ ⟨kx_blind, kx_pre hC hW (.ref b :: As)⟩ rfl hn hW.2.2.2.2.1 hs (lv_room hst) hdg ⟨Nat.le_trans h1 r3, Nat.le_trans h2 r4⟩) K
theorem ko_callIN {y : kx_Y} {d' kc' ks' n idx b : Nat} {As : List Value} {v : Option Value} {N' : Nat} {h' : kx_H} {st0 : List Value} (hlk : kx_lIN Y.1.cls idx y n) (hret : y.2.2.2 = none) (hdg : decode Y.2.1 pc = .ok (.invokespecial idx, 3)) (hf : kx_Fn y d' kc' ks' G (.ref b :: As) N h (v, N', h')) (hs : st0 = As.reverse ++ .ref b :: st) (hn : As.length = n) (hd : d' + 1 ≤ d) (h1 : cs + kc' ≤ kc) (h2 : ss + ks' ≤ ks) (hst : (st.map fun v => v.category).sum ≤ 8) (K : kx_Ok Y d kc ks G (cs + kc') (ss + ks') (pc + 3) lv (v.toList ++ st) N' h' res) : kx_Ok Y d kc ks G cs ss pc lv st0 N h res := by
  intro p l e R s m args below meth c D κ A Z H locs ls hC hW hF
  obtain ⟨y1, y2, y3, y4⟩ := y
  cases hret
  obtain ⟨⟨l1, l2, l3, l4, l5, l6⟩, ⟨host, l7⟩, l8, l9⟩ := hlk
  have hC' := hC
  obtain ⟨hx, hbc, hr, hml, hown, hts, hlocks, hini, ⟨r1, r2, r3, r4⟩, hK, hSt, hA, hX⟩ := hC'
  have hl6 : y3 ≤ 21 := l6
  have cw : va_CN R s args Y.1.cls idx y1 host y2 y3 none (kx_ws (y1, y2, y3, none)) (kx_rm d' kc' ks') kc' ks' n := va_cnB n hts (kx_gin l1) rfl rfl rfl (hX.2 _ l7) (hts _ l2) ⟨l3, l4, l5⟩ ⟨Nat.le_trans hd r1, by show 8 + (y3 + 11) + 40 * d' ≤ _; omega⟩
  exact kx_after hC hW hF (va_runIN (As := As) (rest := st) ⟨hx, hbc, hml, hown, hts⟩ (hf l D κ) ⟨cw, l9, hts _ l8⟩ ⟨kx_blind, kx_pre hC hW (.ref b :: As)⟩ rfl hn hW.2.2.2.2.1 hs (lv_room hst) hdg ⟨Nat.le_trans h1 r3, Nat.le_trans h2 r4⟩) K
end KH
