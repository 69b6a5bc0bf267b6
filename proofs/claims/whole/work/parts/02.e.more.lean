/-! ===== further rows: answers of calls put on the stack, truth values, a loop's step ===== -/
def kb (b : Bool) : Int32 := bif b then 1 else 0
theorem kb_0 {b : Bool} (h : kb b = 0) : b = false := by cases b with
  | false => rfl
  | true => exact absurd h (by decide)
theorem kb_1 {b : Bool} (h : ¬ kb b = 0) : b = true := by cases b with
  | true => rfl
  | false => exact absurd rfl h
theorem kb_z (b : Bool) : narrow .boolean (.int (kb b)) = .int (kb b) := by cases b <;> rfl
theorem kx_self {h : kx_H} {N : Nat} : ∀ a e, h a = some e → kx_dom h N a := fun a e he => Or.inl (by rw [he]; exact fun z => by cases z)
section KM
variable {Y : kx_Y} {d kc ks : Nat} {G : kx_G} {cs ss pc : Nat} {lv : List (Nat × Value)} {st : List Value} {N : Nat} {h : kx_H} {res : kx_R}
theorem ko_ifb_eq {b : Bool} {off : Int} {tgt : Nat} (hdg : decode Y.2.1 pc = .ok (.ifCond .eq off, 3)) (ht : (pc : Int) + off = (tgt : Int)) (kt : b = false → kx_Ok Y d kc ks G cs ss tgt lv st N h res) (kf : b = true → kx_Ok Y d kc ks G cs ss (pc + 3) lv st N h res) : kx_Ok Y d kc ks G cs ss pc lv (.int (kb b) :: st) N h res := ko_if_eq hdg ht (fun z => kt (kb_0 z)) (fun z => kf (kb_1 z))
theorem ko_ifb_ne {b : Bool} {off : Int} {tgt : Nat} (hdg : decode Y.2.1 pc = .ok (.ifCond .ne off, 3)) (ht : (pc : Int) + off = (tgt : Int)) (kt : b = true → kx_Ok Y d kc ks G cs ss tgt lv st N h res) (kf : b = false → kx_Ok Y d kc ks G cs ss (pc + 3) lv st N h res) : kx_Ok Y d kc ks G cs ss pc lv (.int (kb b) :: st) N h res := ko_if_ne hdg ht (fun z => kt (kb_1 z)) (fun z => kf (kb_0 z))
theorem ko_inc1 {i : Nat} {x : Int32} {lv' : List (Nat × Value)} (hdg : decode Y.2.1 pc = .ok (.iinc i 1, 3)) (hx : kx_lk lv i = some (.int x)) (hb : i < Y.2.2.1) (hs : kx_nl lv i = true) (ho : kx_on lv = true) (he : kx_set lv i (.int (x + 1)) = lv') (k : kx_Ok Y d kc ks G cs ss (pc + 3) lv' st N h res) : kx_Ok Y d kc ks G cs ss pc lv st N h res := ko_iinc hdg hx (show x + Int32.ofInt 1 = x + 1 from rfl) hb hs ho he k
theorem ko_callVr {y : kx_Y} {d' kc' ks' n idx b ci : Nat} {q : vw_C} {fs As : List Value} {v : Value} {N' : Nat} {h' : kx_H} {st0 : List Value} (hlk : kx_lV Y.1.cls idx y n) (hdg : decode Y.2.1 pc = .ok (.invokevirtual idx, 3)) (hf : kx_Fn y d' kc' ks' G (.ref b :: As) N h (some v, N', h')) (hs : st0 = As.reverse ++ .ref b :: st) (hn : As.length = n) (hb : h b = some (.inr (ci, fs))) (hci : vwCl[ci]? = some q) (hq : q.1 = y.1.cls) (hd : d' + 1 ≤ d) (h1 : cs + kc' ≤ kc) (h2 : ss + ks' ≤ ks) (hst : (st.map fun v => v.category).sum ≤ 8) (K : kx_Ok Y d kc ks G (cs + kc') (ss + ks') (pc + 3) lv (v :: st) N' h' res) : kx_Ok Y d kc ks G cs ss pc lv st0 N h res := ko_callV hlk hdg hf hs hn hb hci hq hd h1 h2 hst K
theorem ko_callVv {y : kx_Y} {d' kc' ks' n idx b ci : Nat} {q : vw_C} {fs As : List Value} {N' : Nat} {h' : kx_H} {st0 : List Value} (hlk : kx_lV Y.1.cls idx y n) (hdg : decode Y.2.1 pc = .ok (.invokevirtual idx, 3)) (hf : kx_Fn y d' kc' ks' G (.ref b :: As) N h (none, N', h')) (hs : st0 = As.reverse ++ .ref b :: st) (hn : As.length = n) (hb : h b = some (.inr (ci, fs))) (hci : vwCl[ci]? = some q) (hq : q.1 = y.1.cls) (hd : d' + 1 ≤ d) (h1 : cs + kc' ≤ kc) (h2 : ss + ks' ≤ ks) (hst : (st.map fun v => v.category).sum ≤ 8) (K : kx_Ok Y d kc ks G (cs + kc') (ss + ks') (pc + 3) lv st N' h' res) : kx_Ok Y d kc ks G cs ss pc lv st0 N h res := ko_callV hlk hdg hf hs hn hb hci hq hd h1 h2 hst K
theorem ko_callSr {y : kx_Y} {d' kc' ks' n idx : Nat} {As : List Value} {v : Value} {N' : Nat} {h' : kx_H} {st0 : List Value} (hlk : kx_lS Y.1.cls idx y n) (hdg : decode Y.2.1 pc = .ok (.invokestatic idx, 3)) (hf : kx_Fn y d' kc' ks' G As N h (some v, N', h')) (hs : st0 = As.reverse ++ st) (hn : As.length = n) (hd : d' + 1 ≤ d) (h1 : cs + kc' ≤ kc) (h2 : ss + ks' ≤ ks) (hst : (st.map fun v => v.category).sum ≤ 8) (K : kx_Ok Y d kc ks G (cs + kc') (ss + ks') (pc + 3) lv (v :: st) N' h' res) : kx_Ok Y d kc ks G cs ss pc lv st0 N h res := ko_callS hlk hdg hf hs hn hd h1 h2 hst K
theorem ko_callSv {y : kx_Y} {d' kc' ks' n idx : Nat} {As : List Value} {N' : Nat} {h' : kx_H} {st0 : List Value} (hlk : kx_lS Y.1.cls idx y n) (hdg : decode Y.2.1 pc = .ok (.invokestatic idx, 3)) (hf : kx_Fn y d' kc' ks' G As N h (none, N', h')) (hs : st0 = As.reverse ++ st) (hn : As.length = n) (hd : d' + 1 ≤ d) (h1 : cs + kc' ≤ kc) (h2 : ss + ks' ≤ ks) (hst : (st.map fun v => v.category).sum ≤ 8) (K : kx_Ok Y d kc ks G (cs + kc') (ss + ks') (pc + 3) lv st N' h' res) : kx_Ok Y d kc ks G cs ss pc lv st0 N h res := ko_callS hlk hdg hf hs hn hd h1 h2 hst K
theorem ko_callSNr {y : kx_Y} {d' kc' ks' n idx : Nat} {As : List Value} {v : Value} {N' : Nat} {h' : kx_H} {st0 : List Value} (hlk : kx_lSN Y.1.cls idx y n) (hdg : decode Y.2.1 pc = .ok (.invokestatic idx, 3)) (hf : kx_Fn y d' kc' ks' G As N h (some v, N', h')) (hs : st0 = As.reverse ++ st) (hn : As.length = n) (hd : d' + 1 ≤ d) (h1 : cs + kc' ≤ kc) (h2 : ss + ks' ≤ ks) (hst : (st.map fun v => v.category).sum ≤ 8) (K : kx_Ok Y d kc ks G (cs + kc') (ss + ks') (pc + 3) lv (v :: st) N' h' res) : kx_Ok Y d kc ks G cs ss pc lv st0 N h res := ko_callSN hlk hdg hf hs hn hd h1 h2 hst K
theorem ko_callIv {y : kx_Y} {d' kc' ks' n idx b : Nat} {As : List Value} {N' : Nat} {h' : kx_H} {st0 : List Value} (hlk : kx_lI Y.1.cls idx y n) (hret : y.2.2.2 = none) (hdg : decode Y.2.1 pc = .ok (.invokespecial idx, 3)) (hf : kx_Fn y d' kc' ks' G (.ref b :: As) N h (none, N', h')) (hs : st0 = As.reverse ++ .ref b :: st) (hn : As.length = n) (hd : d' + 1 ≤ d) (h1 : cs + kc' ≤ kc) (h2 : ss + ks' ≤ ks) (hst : (st.map fun v => v.category).sum ≤ 8) (K : kx_Ok Y d kc ks G (cs + kc') (ss + ks') (pc + 3) lv st N' h' res) : kx_Ok Y d kc ks G cs ss pc lv st0 N h res := ko_callI hlk hret hdg hf hs hn hd h1 h2 hst K
theorem ko_callINv {y : kx_Y} {d' kc' ks' n idx b : Nat} {As : List Value} {N' : Nat} {h' : kx_H} {st0 : List Value} (hlk : kx_lIN Y.1.cls idx y n) (hret : y.2.2.2 = none) (hdg : decode Y.2.1 pc = .ok (.invokespecial idx, 3)) (hf : kx_Fn y d' kc' ks' G (.ref b :: As) N h (none, N', h')) (hs : st0 = As.reverse ++ .ref b :: st) (hn : As.length = n) (hd : d' + 1 ≤ d) (h1 : cs + kc' ≤ kc) (h2 : ss + ks' ≤ ks) (hst : (st.map fun v => v.category).sum ≤ 8) (K : kx_Ok Y d kc ks G (cs + kc') (ss + ks') (pc + 3) lv st N' h' res) : kx_Ok Y d kc ks G cs ss pc lv st0 N h res := ko_callIN hlk hret hdg hf hs hn hd h1 h2 hst K
end KM
/-! ===== one standing (People): its cells, its value ===== -/
abbrev PU : Type := (Nat → Int32) × (Nat → Int32) × (Nat → Int32) × (Nat → Int32) × (Nat → Int32) × Int32 × Int32 × Int32 × Int32
abbrev pSo (u : PU) : Nat → Int32 := u.1
abbrev pAg (u : PU) : Nat → Int32 := u.2.1
abbrev pKd (u : PU) : Nat → Int32 := u.2.2.1
abbrev pKn (u : PU) : Nat → Int32 := u.2.2.2.1
abbrev pOw (u : PU) : Nat → Int32 := u.2.2.2.2.1
abbrev pN (u : PU) : Int32 := u.2.2.2.2.2.1
abbrev pOp (u : PU) : Int32 := u.2.2.2.2.2.2.1
abbrev pOn (u : PU) : Int32 := u.2.2.2.2.2.2.2.1
abbrev pWk (u : PU) : Int32 := u.2.2.2.2.2.2.2.2
abbrev kp_o (a : Nat) (u : PU) : va_E := .inr (2, [.ref (a + 1), .ref (a + 2), .ref (a + 3), .ref (a + 4), .ref (a + 5), .int (pN u), .int (pOp u), .int (pOn u), .int (pWk u)])
abbrev kp_a (L : Nat) (f : Nat → Int32) : va_E := .inl (0, L, .inl f)
def kP (h : kx_H) (a : Nat) (u : PU) : Prop := h a = some (kp_o a u) ∧ h (a + 1) = some (kp_a 5 (pSo u)) ∧ h (a + 2) = some (kp_a 5 (pAg u)) ∧ h (a + 3) = some (kp_a 5 (pKd u)) ∧ h (a + 4) = some (kp_a 5 (pKn u)) ∧ h (a + 5) = some (kp_a 25 (pOw u))
def kp_put (h : kx_H) (a : Nat) (u : PU) : kx_H := fun q => if q = a then some (kp_o a u) else if q = a + 1 then some (kp_a 5 (pSo u)) else if q = a + 2 then some (kp_a 5 (pAg u)) else if q = a + 3 then some (kp_a 5 (pKd u)) else if q = a + 4 then some (kp_a 5 (pKn u)) else if q = a + 5 then some (kp_a 25 (pOw u)) else h q
theorem kp_put_P (h : kx_H) (a : Nat) (u : PU) : kP (kp_put h a u) a u := by
  unfold kP kp_put
  refine ⟨?_, ?_, ?_, ?_, ?_, ?_⟩
  · rw [if_pos rfl]
  · rw [if_neg (by omega), if_pos rfl]
  · rw [if_neg (by omega), if_neg (by omega), if_pos rfl]
  · rw [if_neg (by omega), if_neg (by omega), if_neg (by omega), if_pos rfl]
  · rw [if_neg (by omega), if_neg (by omega), if_neg (by omega), if_neg (by omega), if_pos rfl]
  · rw [if_neg (by omega), if_neg (by omega), if_neg (by omega), if_neg (by omega), if_neg (by omega), if_pos rfl]
theorem kp_put_out {h : kx_H} {a q : Nat} {u : PU} (hq : q < a ∨ a + 5 < q) : kp_put h a u q = h q := by
  unfold kp_put
  rw [if_neg (by omega), if_neg (by omega), if_neg (by omega), if_neg (by omega), if_neg (by omega), if_neg (by omega)]
theorem kp_ext {h g : kx_H} {a : Nat} {u : PU} (h1 : kP g a u) (h2 : ∀ q, (q < a ∨ a + 5 < q) → g q = h q) : g = kp_put h a u := by
  funext q
  obtain ⟨e0, e1, e2, e3, e4, e5⟩ := h1
  unfold kp_put
  by_cases q0 : q = a
  · rw [if_pos q0, q0]; exact e0
  by_cases q1 : q = a + 1
  · rw [if_neg q0, if_pos q1, q1]; exact e1
  by_cases q2 : q = a + 2
  · rw [if_neg q0, if_neg q1, if_pos q2, q2]; exact e2
  by_cases q3 : q = a + 3
  · rw [if_neg q0, if_neg q1, if_neg q2, if_pos q3, q3]; exact e3
  by_cases q4 : q = a + 4
  · rw [if_neg q0, if_neg q1, if_neg q2, if_neg q3, if_pos q4, q4]; exact e4
  by_cases q5 : q = a + 5
  · rw [if_neg q0, if_neg q1, if_neg q2, if_neg q3, if_neg q4, if_pos q5, q5]; exact e5
  rw [if_neg q0, if_neg q1, if_neg q2, if_neg q3, if_neg q4, if_neg q5]
  exact h2 q (by omega)
theorem kp_put_put (h : kx_H) (a : Nat) (u v : PU) : kp_put (kp_put h a u) a v = kp_put h a v := kp_ext (kp_put_P _ _ _) (fun q hq => by rw [kp_put_out hq, kp_put_out hq])
theorem kp_put_same {h : kx_H} {a : Nat} {u : PU} (hP : kP h a u) : kp_put h a u = h := (kp_ext hP (fun _ _ => rfl)).symm
theorem kp_dom {h : kx_H} {a N : Nat} {u v : PU} (hP : kP h a u) : ∀ q e, kp_put h a v q = some e → kx_dom h N q := by
  intro q e he
  obtain ⟨e0, e1, e2, e3, e4, e5⟩ := hP
  by_cases hq : q < a ∨ a + 5 < q
  · rw [kp_put_out hq] at he
    exact kx_self q e he
  · have : q = a ∨ q = a + 1 ∨ q = a + 2 ∨ q = a + 3 ∨ q = a + 4 ∨ q = a + 5 := by omega
    rcases this with rfl | rfl | rfl | rfl | rfl | rfl
    · exact kx_self _ _ e0
    · exact kx_self _ _ e1
    · exact kx_self _ _ e2
    · exact kx_self _ _ e3
    · exact kx_self _ _ e4
    · exact kx_self _ _ e5
theorem kp_up {h : kx_H} {a b : Nat} {u v : PU} {e : va_E} (hP : kP h a u) (hb : a ≤ b ∧ b ≤ a + 5) (hn : kP (kx_up h b e) a v) : kx_up h b e = kp_put h a v := kp_ext hn (fun q hq => by
  unfold kx_up
  rw [if_neg (by omega)])
theorem kp_up_o {h : kx_H} {a : Nat} {u v : PU} (hP : kP h a u) (hv : (pSo v, pAg v, pKd v, pKn v, pOw v) = (pSo u, pAg u, pKd u, pKn u, pOw u)) : kx_up h a (kp_o a v) = kp_put h a v := by
  obtain ⟨e0, e1, e2, e3, e4, e5⟩ := hP
  obtain ⟨v1, v2, v3, v4, v5, v6⟩ := v
  cases hv
  exact kp_up ⟨e0, e1, e2, e3, e4, e5⟩ ⟨Nat.le_refl _, by omega⟩ ⟨by unfold kx_up; rw [if_pos rfl], by unfold kx_up; rw [if_neg (by omega)]; exact e1, by unfold kx_up; rw [if_neg (by omega)]; exact e2, by unfold kx_up; rw [if_neg (by omega)]; exact e3, by unfold kx_up; rw [if_neg (by omega)]; exact e4, by unfold kx_up; rw [if_neg (by omega)]; exact e5⟩
theorem kp_up_1 {h : kx_H} {a : Nat} {u : PU} (hP : kP h a u) (f : Nat → Int32) : kx_up h (a + 1) (kp_a 5 f) = kp_put h a (f, u.2) := by
  obtain ⟨e0, e1, e2, e3, e4, e5⟩ := hP
  exact kp_up ⟨e0, e1, e2, e3, e4, e5⟩ (by omega) ⟨by unfold kx_up; rw [if_neg (by omega)]; exact e0, by unfold kx_up; rw [if_pos rfl], by unfold kx_up; rw [if_neg (by omega)]; exact e2, by unfold kx_up; rw [if_neg (by omega)]; exact e3, by unfold kx_up; rw [if_neg (by omega)]; exact e4, by unfold kx_up; rw [if_neg (by omega)]; exact e5⟩
theorem kp_up_2 {h : kx_H} {a : Nat} {u : PU} (hP : kP h a u) (f : Nat → Int32) : kx_up h (a + 2) (kp_a 5 f) = kp_put h a (u.1, f, u.2.2) := by
  obtain ⟨e0, e1, e2, e3, e4, e5⟩ := hP
  exact kp_up ⟨e0, e1, e2, e3, e4, e5⟩ (by omega) ⟨by unfold kx_up; rw [if_neg (by omega)]; exact e0, by unfold kx_up; rw [if_neg (by omega)]; exact e1, by unfold kx_up; rw [if_pos rfl], by unfold kx_up; rw [if_neg (by omega)]; exact e3, by unfold kx_up; rw [if_neg (by omega)]; exact e4, by unfold kx_up; rw [if_neg (by omega)]; exact e5⟩
theorem kp_up_3 {h : kx_H} {a : Nat} {u : PU} (hP : kP h a u) (f : Nat → Int32) : kx_up h (a + 3) (kp_a 5 f) = kp_put h a (u.1, u.2.1, f, u.2.2.2) := by
  obtain ⟨e0, e1, e2, e3, e4, e5⟩ := hP
  exact kp_up ⟨e0, e1, e2, e3, e4, e5⟩ (by omega) ⟨by unfold kx_up; rw [if_neg (by omega)]; exact e0, by unfold kx_up; rw [if_neg (by omega)]; exact e1, by unfold kx_up; rw [if_neg (by omega)]; exact e2, by unfold kx_up; rw [if_pos rfl], by unfold kx_up; rw [if_neg (by omega)]; exact e4, by unfold kx_up; rw [if_neg (by omega)]; exact e5⟩
theorem kp_up_4 {h : kx_H} {a : Nat} {u : PU} (hP : kP h a u) (f : Nat → Int32) : kx_up h (a + 4) (kp_a 5 f) = kp_put h a (u.1, u.2.1, u.2.2.1, f, u.2.2.2.2) := by
  obtain ⟨e0, e1, e2, e3, e4, e5⟩ := hP
  exact kp_up ⟨e0, e1, e2, e3, e4, e5⟩ (by omega) ⟨by unfold kx_up; rw [if_neg (by omega)]; exact e0, by unfold kx_up; rw [if_neg (by omega)]; exact e1, by unfold kx_up; rw [if_neg (by omega)]; exact e2, by unfold kx_up; rw [if_neg (by omega)]; exact e3, by unfold kx_up; rw [if_pos rfl], by unfold kx_up; rw [if_neg (by omega)]; exact e5⟩
theorem kp_up_5 {h : kx_H} {a : Nat} {u : PU} (hP : kP h a u) (f : Nat → Int32) : kx_up h (a + 5) (kp_a 25 f) = kp_put h a (u.1, u.2.1, u.2.2.1, u.2.2.2.1, f, u.2.2.2.2.2) := by
  obtain ⟨e0, e1, e2, e3, e4, e5⟩ := hP
  exact kp_up ⟨e0, e1, e2, e3, e4, e5⟩ (by omega) ⟨by unfold kx_up; rw [if_neg (by omega)]; exact e0, by unfold kx_up; rw [if_neg (by omega)]; exact e1, by unfold kx_up; rw [if_neg (by omega)]; exact e2, by unfold kx_up; rw [if_neg (by omega)]; exact e3, by unfold kx_up; rw [if_neg (by omega)]; exact e4, by unfold kx_up; rw [if_pos rfl]⟩
