/-! ===== the object and the reference side by side, call by call ===== -/
def kI (g : kx_H) (x m : Nat) (T : Nat → Int32) (L : Nat) (u : PU) (n C : Nat) (Ac K : Nat → PU) (kf : Nat → Int32) (sd : Int64) : Prop :=
  kS g x T L u C Ac K kf sd ∧ kM g m T L u n C Ac K kf sd ∧ WF u n ∧ (∀ i, i < C → WF (Ac i) n ∧ pKd (Ac i) = pKd u) ∧ (∀ i, i < 2 → ¬ kf i = 0 → WF (K i) n ∧ pKd (K i) = pKd u)
def kJ (g : kx_H) (x m : Nat) : Prop := ∃ (T : Nat → Int32) (L : Nat) (u : PU) (n C : Nat) (Ac K : Nat → PU) (kf : Nat → Int32) (sd : Int64), kI g x m T L u n C Ac K kf sd
/-- both answer alike, and stand together behind it -/
def kB (Y4 Y5 : kx_Y) (G : kx_G) (d N x m : Nat) (g : kx_H) (As : List Value) : Prop := ∃ (r : Int32) (g1 g2 : kx_H), kx_Fn Y4 d 0 0 G (.ref x :: As) N g (some (.int r), N, g1) ∧ kx_Fn Y5 d 0 0 G (.ref m :: As) N g1 (some (.int r), N, g2) ∧ kJ g2 x m ∧ (∀ q, q < x → g2 q = g q) ∧ g1 m = g m
section KB
variable {Y4 Y5 : kx_Y} {G : kx_G} {d N x m : Nat} {g : kx_H} {As : List Value} {T : Nat → Int32} {L : Nat} {u : PU} {n C : Nat} {Ac K : Nat → PU} {kf : Nat → Int32} {sd : Int64}
theorem kS_C (hS : kS g x T L u C Ac K kf sd) : C ≤ 14 ∧ L ≤ 48 := by
  obtain ⟨told, trial, F, B, s, f, -, -, -, hC, -, hL⟩ := hS
  exact ⟨hC, hL⟩
theorem jb_rr {r : Int32} (hI : kI g x m T L u n C Ac K kf sd) (h1 : kx_Fn Y4 d 0 0 G (.ref x :: As) N g (some (.int r), N, g)) (h2 : kx_Fn Y5 d 0 0 G (.ref m :: As) N g (some (.int r), N, g)) : kB Y4 Y5 G d N x m g As := ⟨r, g, g, h1, h2, ⟨_, _, _, _, _, _, _, _, _, hI⟩, fun _ _ => rfl, rfl⟩
theorem jb_cc {r : Int32} {T' : Nat → Int32} {L' : Nat} {u' : PU} {n' C' : Nat} {Ac' K' : Nat → PU} {kf' : Nat → Int32} {sd' : Int64} (hm : x + 121 < m) (hI : kI g x m T L u n C Ac K kf sd)
    (h1 : ∃ g1, kx_Fn Y4 d 0 0 G (.ref x :: As) N g (some (.int r), N, g1) ∧ kS g1 x T' L' u' C' Ac' K' kf' sd' ∧ kFr g g1 x 121)
    (h2 : ∀ g1, kM g1 m T L u n C Ac K kf sd → ∃ g2, kx_Fn Y5 d 0 0 G (.ref m :: As) N g1 (some (.int r), N, g2) ∧ kM g2 m T' L' u' n' C' Ac' K' kf' sd' ∧ kFr g1 g2 m 10)
    (hw : WF u' n') (hA : ∀ i, i < C' → WF (Ac' i) n' ∧ pKd (Ac' i) = pKd u') (hK : ∀ i, i < 2 → ¬ kf' i = 0 → WF (K' i) n' ∧ pKd (K' i) = pKd u') : kB Y4 Y5 G d N x m g As := by
  obtain ⟨g1, f1, s1, fr1⟩ := h1
  obtain ⟨g2, f2, m2, fr2⟩ := h2 g1 (kM_frame hI.2.1 (fun q q1 q2 => fr1 q (by omega)))
  exact ⟨r, g1, g2, f1, f2, ⟨_, _, _, _, _, _, _, _, _, kS_frame s1 (fun q q1 q2 => fr2 q (by omega)), m2, hw, hA, hK⟩, fun q hq => (fr2 q (by omega)).trans (fr1 q (by omega)), fr1 m (by omega)⟩
/-- the same standing behind it -/
theorem jb_ss {r : Int32} (hm : x + 121 < m) (hI : kI g x m T L u n C Ac K kf sd)
    (h1 : ∃ g1, kx_Fn Y4 d 0 0 G (.ref x :: As) N g (some (.int r), N, g1) ∧ kS g1 x T L u C Ac K kf sd ∧ kFr g g1 x 121)
    (h2 : ∀ g1, kM g1 m T L u n C Ac K kf sd → ∃ g2, kx_Fn Y5 d 0 0 G (.ref m :: As) N g1 (some (.int r), N, g2) ∧ kM g2 m T L u n C Ac K kf sd ∧ kFr g1 g2 m 10) : kB Y4 Y5 G d N x m g As := jb_cc hm hI h1 h2 hI.2.2.1 hI.2.2.2.1 hI.2.2.2.2
theorem jb_rs {r : Int32} (hm : x + 121 < m) (hI : kI g x m T L u n C Ac K kf sd)
    (h1 : kx_Fn Y4 d 0 0 G (.ref x :: As) N g (some (.int r), N, g))
    (h2 : ∀ g1, kM g1 m T L u n C Ac K kf sd → ∃ g2, kx_Fn Y5 d 0 0 G (.ref m :: As) N g1 (some (.int r), N, g2) ∧ kM g2 m T L u n C Ac K kf sd ∧ kFr g1 g2 m 10) : kB Y4 Y5 G d N x m g As := jb_ss hm hI ⟨g, h1, hI.1, kFr.rf⟩ h2
theorem rm_inv {P : PU → Prop} {v : PU} (hC : C ≤ 14) (hA : ∀ i, i < C → P (Ac i)) (hv : P v) : ∀ i, i < rmC C → P (rmA C Ac v i) := fun i hi => by
  unfold rmC at hi
  unfold rmA
  by_cases h14 : C = 14
  · rw [if_pos h14] at hi ⊢
    show P (if i = 13 then v else Ac (i + 1))
    split
    · exact hv
    · exact hA (i + 1) (by omega)
  · rw [if_neg h14] at hi ⊢
    show P (if i = C then v else Ac i)
    split
    · exact hv
    · exact hA i (by omega)
theorem hd5 {P : Prop} (h : P) : P := h
end KB
set_option maxRecDepth 20000 in
theorem j_about {G : kx_G} {d N x m : Nat} {g : kx_H} {w : Int32} (hm : x + 121 < m) (hd : 20 ≤ d)  (hJ : kJ g x m) : kB mX4_about mX5_about G d N x m g [.int w] := by
  obtain ⟨T, L, u, n, C, Ac, K, kf, sd, hI⟩ := hJ
  obtain ⟨hS, hM, hw, hA, hK⟩ := id hI
  obtain ⟨hC14, hL48⟩ := kS_C hS
  have hn5 := hw.2.1
  exact jb_rr hI (x_about hS hd) (y_about hM hw hd)
set_option maxRecDepth 20000 in
theorem j_person {G : kx_G} {d N x m : Nat} {g : kx_H} {p w : Int32} (hm : x + 121 < m) (hd : 20 ≤ d)  (hJ : kJ g x m) : kB mX4_person mX5_person G d N x m g [.int p, .int w] := by
  obtain ⟨T, L, u, n, C, Ac, K, kf, sd, hI⟩ := hJ
  obtain ⟨hS, hM, hw, hA, hK⟩ := id hI
  obtain ⟨hC14, hL48⟩ := kS_C hS
  have hn5 := hw.2.1
  exact jb_rr hI (x_person hS hd) (y_person hM hw hd)
set_option maxRecDepth 20000 in
theorem j_owes {G : kx_G} {d N x m : Nat} {g : kx_H} {p q : Int32} (hm : x + 121 < m) (hd : 20 ≤ d)  (hJ : kJ g x m) : kB mX4_owes mX5_owes G d N x m g [.int p, .int q] := by
  obtain ⟨T, L, u, n, C, Ac, K, kf, sd, hI⟩ := hJ
  obtain ⟨hS, hM, hw, hA, hK⟩ := id hI
  obtain ⟨hC14, hL48⟩ := kS_C hS
  have hn5 := hw.2.1
  exact jb_rr hI (x_owes hS hd) (y_owes hM hw hd)
set_option maxRecDepth 20000 in
theorem j_net {G : kx_G} {d N x m : Nat} {g : kx_H} {p : Int32} (hm : x + 121 < m) (hd : 20 ≤ d)  (hJ : kJ g x m) : kB mX4_net mX5_net G d N x m g [.int p] := by
  obtain ⟨T, L, u, n, C, Ac, K, kf, sd, hI⟩ := hJ
  obtain ⟨hS, hM, hw, hA, hK⟩ := id hI
  obtain ⟨hC14, hL48⟩ := kS_C hS
  have hn5 := hw.2.1
  exact jb_rr hI (x_net hS hw.1 hn5 hd) (y_net hM hw hd)
set_option maxRecDepth 20000 in
theorem j_ring {G : kx_G} {d N x m : Nat} {g : kx_H}  (hm : x + 121 < m) (hd : 20 ≤ d)  (hJ : kJ g x m) : kB mX4_ring mX5_ring G d N x m g [] := by
  obtain ⟨T, L, u, n, C, Ac, K, kf, sd, hI⟩ := hJ
  obtain ⟨hS, hM, hw, hA, hK⟩ := id hI
  obtain ⟨hC14, hL48⟩ := kS_C hS
  have hn5 := hw.2.1
  exact jb_rr hI (x_ring hS hw.1 hn5 hd) (y_ring hM hw hd)
set_option maxRecDepth 20000 in
theorem j_whose {G : kx_G} {d N x m : Nat} {g : kx_H} {w : Int32} (hm : x + 121 < m) (hd : 20 ≤ d)  (hJ : kJ g x m) : kB mX4_whose mX5_whose G d N x m g [.int w] := by
  obtain ⟨T, L, u, n, C, Ac, K, kf, sd, hI⟩ := hJ
  obtain ⟨hS, hM, hw, hA, hK⟩ := id hI
  obtain ⟨hC14, hL48⟩ := kS_C hS
  have hn5 := hw.2.1
  exact jb_rr hI (x_whose hS hw.1 hn5 hd) (y_whose hM hw hd)
set_option maxRecDepth 20000 in
theorem j_nobody {G : kx_G} {d N x m : Nat} {g : kx_H} {w : Int32} (hm : x + 121 < m) (hd : 20 ≤ d)  (hJ : kJ g x m) : kB mX4_nobody mX5_nobody G d N x m g [.int w] := by
  obtain ⟨T, L, u, n, C, Ac, K, kf, sd, hI⟩ := hJ
  obtain ⟨hS, hM, hw, hA, hK⟩ := id hI
  obtain ⟨hC14, hL48⟩ := kS_C hS
  have hn5 := hw.2.1
  by_cases h0 : w = 0
  · subst h0; exact jb_rr hI (x_nobody hS hd) (y_nobody1 hM hw hd)
  · by_cases h1 : w = 1
    · subst h1; exact jb_rr hI (x_nobody hS hd) (y_nobody2 hM hw hd)
    · refine jb_rr hI (x_nobody hS hd) (y_nobody0 ?_ hM hw hd)
      cases h2 : inI w 0 1 with
      | false => rfl
      | true =>
        rw [inR, Bool.and_eq_true, Bool.not_eq_true', decide_eq_false_iff_not, decide_eq_true_eq] at h2
        obtain ⟨k, hk, rfl⟩ := nI_of2 (M := 1) (n := 1) rfl h2.1 h2.2
        have h3 : k = 0 ∨ k = 1 := by omega
        rcases h3 with rfl | rfl
        · exact absurd rfl h0
        · exact absurd rfl h1
set_option maxRecDepth 20000 in
theorem j_rests {G : kx_G} {d N x m : Nat} {g : kx_H} {p q r w : Int32} (hm : x + 121 < m) (hd : 20 ≤ d)  (hJ : kJ g x m) : kB mX4_rests mX5_rests G d N x m g [.int p, .int q, .int r, .int w] := by
  obtain ⟨T, L, u, n, C, Ac, K, kf, sd, hI⟩ := hJ
  obtain ⟨hS, hM, hw, hA, hK⟩ := id hI
  obtain ⟨hC14, hL48⟩ := kS_C hS
  have hn5 := hw.2.1
  cases ok : rsO u p q r w with
  | false => exact jb_rr hI (x_rests hS hd) (y_rests0 ok hM hw hd)
  | true =>
    have hB : rsB u p q r = true := by
      unfold rsO at ok
      rw [Bool.and_eq_true] at ok
      exact ok.1
    unfold rsB at hB
    rw [Bool.and_eq_true, Bool.and_eq_true, hw.1] at hB
    obtain ⟨i, hi, rfl⟩ := has_of hn5 hB.1
    obtain ⟨j, hj, rfl⟩ := has_of hn5 hB.2.1
    obtain ⟨k, hk, rfl⟩ := has_of hn5 hB.2.2
    exact jb_rs hm hI (x_rests hS hd) (fun g1 hM1 => y_rests1 hi hj hk ok hM1 hw hd)
set_option maxRecDepth 20000 in
theorem j_write {G : kx_G} {d N x m : Nat} {g : kx_H} {c : Int32} (hm : x + 121 < m) (hd : 20 ≤ d)  (hJ : kJ g x m) : kB mX4_write mX5_write G d N x m g [.int c] := by
  obtain ⟨T, L, u, n, C, Ac, K, kf, sd, hI⟩ := hJ
  obtain ⟨hS, hM, hw, hA, hK⟩ := id hI
  obtain ⟨hC14, hL48⟩ := kS_C hS
  have hn5 := hw.2.1
  by_cases h1 : c < 0 ∨ ¬ c ≤ 255
  · exact jb_rr hI (x_write0 h1 hS hd) (y_write0 h1 hM hw hd)
  · have h2 : ¬ c < 0 ∧ c ≤ 255 := ⟨fun z => h1 (Or.inl z), Classical.not_not.mp (fun z => h1 (Or.inr z))⟩
    by_cases h3 : L = 48
    · exact jb_rr hI (x_write2 h2 h3 hS hd) (y_write2 h2 h3 hM hw hd)
    · exact jb_cc hm hI (x_write1 hS ⟨h2.1, h2.2, by omega⟩ hd) (fun g1 hM1 => y_write1 ⟨h2.1, h2.2, by omega⟩ hM1 hw hd) hw hA hK
set_option maxRecDepth 20000 in
theorem j_wipe {G : kx_G} {d N x m : Nat} {g : kx_H}  (hm : x + 121 < m) (hd : 20 ≤ d)  (hJ : kJ g x m) : kB mX4_wipe mX5_wipe G d N x m g [] := by
  obtain ⟨T, L, u, n, C, Ac, K, kf, sd, hI⟩ := hJ
  obtain ⟨hS, hM, hw, hA, hK⟩ := id hI
  obtain ⟨hC14, hL48⟩ := kS_C hS
  have hn5 := hw.2.1
  exact jb_cc hm hI (x_wipe hS hd) (fun g1 hM1 => y_wipe hM1 hw hd) hw hA hK
set_option maxRecDepth 20000 in
theorem j_fault {G : kx_G} {d N x m : Nat} {g : kx_H}  (hm : x + 121 < m) (hd : 20 ≤ d)  (hJ : kJ g x m) : kB mX4_fault mX5_fault G d N x m g [] := by
  obtain ⟨T, L, u, n, C, Ac, K, kf, sd, hI⟩ := hJ
  obtain ⟨hS, hM, hw, hA, hK⟩ := id hI
  obtain ⟨hC14, hL48⟩ := kS_C hS
  have hn5 := hw.2.1
  exact jb_ss hm hI (x_fault hS hd) (fun g1 hM1 => y_fault hM1 hw hd)
set_option maxRecDepth 20000 in
theorem j_land {G : kx_G} {d N x m : Nat} {g : kx_H}  (hm : x + 121 < m) (hd : 20 ≤ d)  (hJ : kJ g x m) : kB mX4_land mX5_land G d N x m g [] := by
  obtain ⟨T, L, u, n, C, Ac, K, kf, sd, hI⟩ := hJ
  obtain ⟨hS, hM, hw, hA, hK⟩ := id hI
  obtain ⟨hC14, hL48⟩ := kS_C hS
  have hn5 := hw.2.1
  obtain ⟨⟨r, v⟩, hr⟩ : ∃ z, rlR T (nI L) = z := ⟨_, rfl⟩
  by_cases h9 : r = -9
  · subst h9
    obtain ⟨g1, f1, s1, fr1⟩ := x_land1 (G := G) (N := N) hr hS hd
    obtain ⟨g2, NN, f2, m2, fr2, hw2⟩ := y_land1 (G := G) (N := N) hr (kM_frame hM (fun q q1 q2 => fr1 q (by omega))) hw hd
    exact ⟨_, g1, g2, f1, f2, ⟨_, _, _, _, _, _, _, _, _, kS_frame s1 (fun q q1 q2 => fr2 q (by omega)), m2, hw2, fun i hi => absurd hi (Nat.not_lt_zero i), fun i hi hz => absurd rfl hz⟩, fun q hq => (fr2 q (by omega)).trans (fr1 q (by omega)), fr1 m (by omega)⟩
  · exact jb_ss hm hI (x_land0 hr hS h9 hd) (fun g1 hM1 => y_land0 hr h9 hM1 hw hd)
set_option maxRecDepth 20000 in
theorem j_funeral {G : kx_G} {d N x m : Nat} {g : kx_H} {p : Int32} (hm : x + 121 < m) (hd : 20 ≤ d)  (hJ : kJ g x m) : kB mX4_funeral mX5_funeral G d N x m g [.int p] := by
  obtain ⟨T, L, u, n, C, Ac, K, kf, sd, hI⟩ := hJ
  obtain ⟨hS, hM, hw, hA, hK⟩ := id hI
  obtain ⟨hC14, hL48⟩ := kS_C hS
  have hn5 := hw.2.1
  cases ok : fuB u p with
  | false => exact jb_rr hI (x_funeral0 ok hS hd) (y_funeral0 ok hM hw hd)
  | true =>
    have ok9 := ok
    unfold fuB at ok9
    rw [Bool.and_eq_true, Bool.not_eq_true', hw.1] at ok9
    obtain ⟨i, hi, rfl⟩ := has_of hn5 ok9.1
    exact jb_cc hm hI (x_funeral1 hS ok hd) (fun g1 hM1 => y_funeral1 hi ok9.2 hM1 hw hd) (WF_br hw hi) (rm_inv (P := fun v => WF v n ∧ pKd v = pKd (brU u (nI i))) hC14 (fun a9 ha9 => ⟨(hA a9 ha9).1, (hA a9 ha9).2.trans (kd_br u (nI i)).symm⟩) ⟨hw, (kd_br u (nI i)).symm⟩) (fun a9 ha9 hz => ⟨(hK a9 ha9 hz).1, (hK a9 ha9 hz).2.trans (kd_br u (nI i)).symm⟩)
set_option maxRecDepth 20000 in
theorem j_weep {G : kx_G} {d N x m : Nat} {g : kx_H} {p q : Int32} (hm : x + 121 < m) (hd : 20 ≤ d)  (hJ : kJ g x m) : kB mX4_weep mX5_weep G d N x m g [.int p, .int q] := by
  obtain ⟨T, L, u, n, C, Ac, K, kf, sd, hI⟩ := hJ
  obtain ⟨hS, hM, hw, hA, hK⟩ := id hI
  obtain ⟨hC14, hL48⟩ := kS_C hS
  have hn5 := hw.2.1
  cases ok : weB u p q with
  | false => exact jb_rr hI (x_weep0 ok hS hd) (y_weep0 ok hM hw hd)
  | true =>
    have ok9 := ok
    unfold weB at ok9
    rw [Bool.and_eq_true, Bool.and_eq_true, hw.1] at ok9
    obtain ⟨i, hi, rfl⟩ := has_of hn5 ok9.1
    obtain ⟨j, hj, rfl⟩ := has_of hn5 ok9.2.1
    exact jb_cc hm hI (x_weep1 hS ok hd) (fun g1 hM1 => y_weep1 hi hj ok9.2.2 hM1 hw hd) (WF_wf hw hi hj) (rm_inv (P := fun v => WF v n ∧ pKd v = pKd (wfU u (nI i) (nI j))) hC14 (fun a9 ha9 => ⟨(hA a9 ha9).1, (hA a9 ha9).2.trans (kd_wf u (nI i) (nI j)).symm⟩) ⟨hw, (kd_wf u (nI i) (nI j)).symm⟩) (fun a9 ha9 hz => ⟨(hK a9 ha9 hz).1, (hK a9 ha9 hz).2.trans (kd_wf u (nI i) (nI j)).symm⟩)
set_option maxRecDepth 20000 in
theorem j_onions {G : kx_G} {d N x m : Nat} {g : kx_H} {p q : Int32} (hm : x + 121 < m) (hd : 20 ≤ d)  (hJ : kJ g x m) : kB mX4_onions mX5_onions G d N x m g [.int p, .int q] := by
  obtain ⟨T, L, u, n, C, Ac, K, kf, sd, hI⟩ := hJ
  obtain ⟨hS, hM, hw, hA, hK⟩ := id hI
  obtain ⟨hC14, hL48⟩ := kS_C hS
  have hn5 := hw.2.1
  cases ok : onB u p q with
  | false => exact jb_rr hI (x_onions0 ok hS hd) (y_onions0 ok hM hw hd)
  | true =>
    have ok9 := ok
    unfold onB at ok9
    rw [Bool.and_eq_true, Bool.and_eq_true, hw.1] at ok9
    obtain ⟨i, hi, rfl⟩ := has_of hn5 ok9.1
    obtain ⟨j, hj, rfl⟩ := has_of hn5 ok9.2.1
    exact jb_cc hm hI (x_onions1 hS ok hd) (fun g1 hM1 => y_onions1 hi hj ok9.2.2 hM1 hw hd) (WF_on hw hi hj) (rm_inv (P := fun v => WF v n ∧ pKd v = pKd (onU u (nI i) (nI j))) hC14 (fun a9 ha9 => ⟨(hA a9 ha9).1, (hA a9 ha9).2.trans (kd_on u (nI i) (nI j)).symm⟩) ⟨hw, (kd_on u (nI i) (nI j)).symm⟩) (fun a9 ha9 hz => ⟨(hK a9 ha9 hz).1, (hK a9 ha9 hz).2.trans (kd_on u (nI i) (nI j)).symm⟩)
set_option maxRecDepth 20000 in
theorem j_week {G : kx_G} {d N x m : Nat} {g : kx_H}  (hm : x + 121 < m) (hd : 20 ≤ d)  (hJ : kJ g x m) : kB mX4_week mX5_week G d N x m g [] := by
  obtain ⟨T, L, u, n, C, Ac, K, kf, sd, hI⟩ := hJ
  obtain ⟨hS, hM, hw, hA, hK⟩ := id hI
  obtain ⟨hC14, hL48⟩ := kS_C hS
  have hn5 := hw.2.1
  exact jb_cc hm hI (x_week hw.1 hn5 hS hd) (fun g1 hM1 => y_week hM1 hw hd) (WF_pw hw) (rm_inv (P := fun v => WF v n ∧ pKd v = pKd (pwU u n)) hC14 (fun a9 ha9 => ⟨(hA a9 ha9).1, (hA a9 ha9).2.trans (kd_pw u n).symm⟩) ⟨hw, (kd_pw u n).symm⟩) (fun a9 ha9 hz => ⟨(hK a9 ha9 hz).1, (hK a9 ha9 hz).2.trans (kd_pw u n).symm⟩)
set_option maxRecDepth 20000 in
theorem j_undo {G : kx_G} {d N x m : Nat} {g : kx_H}  (hm : x + 121 < m) (hd : 20 ≤ d)  (hJ : kJ g x m) : kB mX4_undo mX5_undo G d N x m g [] := by
  obtain ⟨T, L, u, n, C, Ac, K, kf, sd, hI⟩ := hJ
  obtain ⟨hS, hM, hw, hA, hK⟩ := id hI
  obtain ⟨hC14, hL48⟩ := kS_C hS
  have hn5 := hw.2.1
  rcases Nat.eq_zero_or_pos C with h0 | h0
  · exact jb_rr hI (x_undo0 h0 hS hd) (y_undo0 h0 hM hw hd)
  · have h1 := hA (C - 1) (by omega)
    exact jb_cc hm hI (x_undo1 h0 hS hd) (fun g1 hM1 => y_undo1 h0 h1.2 hM1 hw hd) h1.1 (fun i hi => ⟨(hA i (by omega)).1, (hA i (by omega)).2.trans h1.2.symm⟩) (fun i hi hz => ⟨(hK i hi hz).1, (hK i hi hz).2.trans h1.2.symm⟩)
set_option maxRecDepth 20000 in
theorem j_served {G : kx_G} {d N x m : Nat} {g : kx_H} {w : Int32} (hm : x + 121 < m) (hd : 20 ≤ d)  (hJ : kJ g x m) : kB mX4_served mX5_served G d N x m g [.int w] := by
  obtain ⟨T, L, u, n, C, Ac, K, kf, sd, hI⟩ := hJ
  obtain ⟨hS, hM, hw, hA, hK⟩ := id hI
  obtain ⟨hC14, hL48⟩ := kS_C hS
  have hn5 := hw.2.1
  by_cases h1 : w < 0 ∨ ¬ w ≤ 2
  · exact jb_rr hI (x_served0 h1 hS hd) (y_served0 h1 hM hw hd)
  · have h2 : ¬ w < 0 ∧ w ≤ 2 := ⟨fun z => h1 (Or.inl z), Classical.not_not.mp (fun z => h1 (Or.inr z))⟩
    obtain ⟨S, hS9⟩ : ∃ S, seU u (pOp u) (unbI u) = S := ⟨_, rfl⟩
    exact jb_ss hm hI (x_served hS9 hS h2 hd) (fun g1 hM1 => y_served1 hS9 h2 hM1 hw hd)
set_option maxRecDepth 20000 in
theorem j_till {G : kx_G} {d N x m : Nat} {g : kx_H} {p q : Int32} (hm : x + 121 < m) (hd : 20 ≤ d)  (hJ : kJ g x m) : kB mX4_till mX5_till G d N x m g [.int p, .int q] := by
  obtain ⟨T, L, u, n, C, Ac, K, kf, sd, hI⟩ := hJ
  obtain ⟨hS, hM, hw, hA, hK⟩ := id hI
  obtain ⟨hC14, hL48⟩ := kS_C hS
  have hn5 := hw.2.1
  cases ok : (hasI (pN u) p && hasI (pN u) q) with
  | false => exact jb_rr hI (x_till0 ok hS hd) (y_till0 ok hM hw hd)
  | true =>
    have ok9 := ok
    rw [Bool.and_eq_true, hw.1] at ok9
    obtain ⟨i, hi, rfl⟩ := has_of hn5 ok9.1
    obtain ⟨j, hj, rfl⟩ := has_of hn5 ok9.2
    exact jb_ss hm hI (x_till1 ok hw.1 hn5 hS hd) (fun g1 hM1 => y_till1 hi hj hM1 hw hd)
set_option maxRecDepth 20000 in
theorem j_share {G : kx_G} {d N x m : Nat} {g : kx_H} {p : Int32} {up : Bool} (hm : x + 121 < m) (hd : 20 ≤ d) (hG : G.2 G.1 = some (6, fcF)) (hJ : kJ g x m) : kB mX4_share mX5_share G d N x m g [.int p, .int (kb up)] := by
  obtain ⟨T, L, u, n, C, Ac, K, kf, sd, hI⟩ := hJ
  obtain ⟨hS, hM, hw, hA, hK⟩ := id hI
  obtain ⟨hC14, hL48⟩ := kS_C hS
  have hn5 := hw.2.1
  cases ok : hasI (pN u) p with
  | false => exact jb_rr hI (x_share0 ok hS hd) (y_share0 ok hM hw hd)
  | true =>
    have ok9 := ok
    rw [hw.1] at ok9
    obtain ⟨j, hj, rfl⟩ := has_of hn5 ok9
    obtain ⟨Q, hQ⟩ : ∃ Q : Int32 → SU, ∀ fr, seU u (pOp u) fr = Q fr := ⟨fun fr => seU u (pOp u) fr, fun _ => rfl⟩
    cases op : hbI (pOp u) (nI j) with
    | true => exact jb_rs hm hI (x_share1 ok op hS hd) (fun g1 hM1 => y_share1 hj op hQ hM1 hw hd)
    | false =>
      obtain ⟨U, hU0, eU⟩ := U_of hw
      have hU : U < 32 := lt32 hU0 hn5
      have hm3 : unbI u &&& (1 <<< (nI j &&& 31) ^^^ (-1)) = nI (clrN U j) := by rw [eU, clr_eq j (by omega) U hU]
      have hmm : clrN U j < 32 := Nat.lt_of_le_of_lt (clr_le U j) hU
      exact jb_ss hm hI (x_share2 ok op hQ hm3 hmm hG hS hd) (fun g1 hM1 => y_share2 hj op hQ hm3 hmm hM1 hw hd)
set_option maxRecDepth 20000 in
theorem j_weighed {G : kx_G} {d N x m : Nat} {g : kx_H} {p q w : Int32} (hm : x + 121 < m) (hd : 20 ≤ d)  (hJ : kJ g x m) : kB mX4_weighed mX5_weighed G d N x m g [.int p, .int q, .int w] := by
  obtain ⟨T, L, u, n, C, Ac, K, kf, sd, hI⟩ := hJ
  obtain ⟨hS, hM, hw, hA, hK⟩ := id hI
  obtain ⟨hC14, hL48⟩ := kS_C hS
  have hn5 := hw.2.1
  cases ok : wdB u p q w with
  | false => exact jb_rr hI (x_weighed0 ok hS hd) (y_weighed0 ok hM hw hd)
  | true =>
    obtain ⟨k, hk, rfl⟩ := wd_in hw ok
    exact jb_rr hI (x_weighed1 hS hw.1 hn5 hk ok hd) (y_weighed1 hk ok hM hw hd)
set_option maxRecDepth 20000 in
theorem j_chance {G : kx_G} {d N x m : Nat} {g : kx_H} {y : Int32} {up : Bool} (hm : x + 121 < m) (hd : 20 ≤ d)  (hJ : kJ g x m) : kB mX4_chance mX5_chance G d N x m g [.int y, .int (kb up)] := by
  obtain ⟨T, L, u, n, C, Ac, K, kf, sd, hI⟩ := hJ
  obtain ⟨hS, hM, hw, hA, hK⟩ := id hI
  obtain ⟨hC14, hL48⟩ := kS_C hS
  have hn5 := hw.2.1
  by_cases h1 : y < 0 ∨ ¬ y ≤ 10
  · exact jb_rr hI (x_chance0 h1 hS hd) (y_chance0 h1 hM hw hd)
  · have h2 : ¬ y < 0 ∧ y ≤ 10 := ⟨fun z => h1 (Or.inl z), Classical.not_not.mp (fun z => h1 (Or.inr z))⟩
    obtain ⟨k, hk, rfl⟩ := nI_of2 (M := 10) (n := 10) rfl h2.1 h2.2
    obtain ⟨U, hU0, eU⟩ := U_of hw
    obtain ⟨Q, hQ⟩ : ∃ Q : Int32 → SU, ∀ op, seU u op (evI (pN u) &&& (op ^^^ (-1))) = Q op := ⟨fun op => seU u op (evI (pN u) &&& (op ^^^ (-1))), fun _ => rfl⟩
    exact jb_ss hm hI (x_chance1 h2 hQ eU (lt32 hU0 hn5) hS hd) (fun g1 hM1 => y_chance1 hk hQ eU hU0 hM1 hw hd)
set_option maxRecDepth 20000 in
theorem j_years {G : kx_G} {d N x m : Nat} {g : kx_H} {y : Int32} (hm : x + 121 < m) (hd : 20 ≤ d)  (hJ : kJ g x m) : kB mX4_years mX5_years G d N x m g [.int y] := by
  obtain ⟨T, L, u, n, C, Ac, K, kf, sd, hI⟩ := hJ
  obtain ⟨hS, hM, hw, hA, hK⟩ := id hI
  obtain ⟨hC14, hL48⟩ := kS_C hS
  have hn5 := hw.2.1
  by_cases h1 : y < 1 ∨ ¬ y ≤ 20
  · exact jb_rr hI (x_years0 h1 hS hd) (y_years0 h1 hM hw hd)
  · have h2 : ¬ y < 1 ∧ y ≤ 20 := ⟨fun z => h1 (Or.inl z), Classical.not_not.mp (fun z => h1 (Or.inr z))⟩
    obtain ⟨k, hk, rfl⟩ := nI_of2 (x := y) (M := 20) (n := 20) rfl (fun z => h2.1 (by
      rw [Int32.lt_iff_toInt_lt] at z ⊢
      have e0 : (0 : Int32).toInt = 0 := rfl
      have e1 : (1 : Int32).toInt = 1 := rfl
      omega)) h2.2
    have hk1 : 1 ≤ k := by
      rcases Nat.eq_zero_or_pos k with z | z
      · subst z; exact absurd (show nI 0 < 1 by decide) h2.1
      · exact z
    exact jb_cc hm hI (x_years1 ⟨hk1, hk⟩ hw.1 hn5 hS hd) (fun g1 hM1 => y_years1 ⟨hk1, hk⟩ hM1 hw hd) hw hA hK
set_option maxRecDepth 20000 in
theorem j_keep {G : kx_G} {d N x m : Nat} {g : kx_H} {k : Int32} (hm : x + 121 < m) (hd : 20 ≤ d)  (hJ : kJ g x m) : kB mX4_keep mX5_keep G d N x m g [.int k] := by
  obtain ⟨T, L, u, n, C, Ac, K, kf, sd, hI⟩ := hJ
  obtain ⟨hS, hM, hw, hA, hK⟩ := id hI
  obtain ⟨hC14, hL48⟩ := kS_C hS
  have hn5 := hw.2.1
  by_cases h1 : k < 0 ∨ ¬ k < 2
  · exact jb_rr hI (x_keep0 h1 hS hd) (y_keep0 h1 hM hw hd)
  · have h2 : ¬ k < 0 ∧ k < 2 := ⟨fun z => h1 (Or.inl z), Classical.not_not.mp (fun z => h1 (Or.inr z))⟩
    obtain ⟨j, hj, rfl⟩ : ∃ j, j < 2 ∧ k = nI j := by
      obtain ⟨j, hj, e⟩ := nI_of2 (x := k) (M := 1) (n := 1) rfl h2.1 (by
        have h3 := h2.2
        rw [Int32.lt_iff_toInt_lt] at h3
        rw [Int32.le_iff_toInt_le]
        have e2 : (2 : Int32).toInt = 2 := rfl
        have e1 : (1 : Int32).toInt = 1 := rfl
        omega)
      exact ⟨j, by omega, e⟩
    refine jb_cc hm hI (x_keep1 hj hS hd) (fun g1 hM1 => y_keep1 hj hM1 hw hd) hw hA (fun i hi hz => ?_)
    show WF (if i = j then u else K i) n ∧ pKd (if i = j then u else K i) = pKd u
    by_cases h3 : i = j
    · rw [if_pos h3]; exact ⟨hw, rfl⟩
    · rw [if_neg h3]; exact hK i hi (fun z => hz (by rw [pk_un h3]; exact z))
set_option maxRecDepth 20000 in
theorem j_again {G : kx_G} {d N x m : Nat} {g : kx_H} {k : Int32} (hm : x + 121 < m) (hd : 20 ≤ d)  (hJ : kJ g x m) : kB mX4_again mX5_again G d N x m g [.int k] := by
  obtain ⟨T, L, u, n, C, Ac, K, kf, sd, hI⟩ := hJ
  obtain ⟨hS, hM, hw, hA, hK⟩ := id hI
  obtain ⟨hC14, hL48⟩ := kS_C hS
  have hn5 := hw.2.1
  by_cases h1 : k < 0 ∨ ¬ k < 2
  · exact jb_rr hI (x_again0 h1 hS hd) (y_again0 h1 hM hw hd)
  · have h2 : ¬ k < 0 ∧ k < 2 := ⟨fun z => h1 (Or.inl z), Classical.not_not.mp (fun z => h1 (Or.inr z))⟩
    obtain ⟨j, hj, rfl⟩ : ∃ j, j < 2 ∧ k = nI j := by
      obtain ⟨j, hj, e⟩ := nI_of2 (x := k) (M := 1) (n := 1) rfl h2.1 (by
        have h3 := h2.2
        rw [Int32.lt_iff_toInt_lt] at h3
        rw [Int32.le_iff_toInt_le]
        have e2 : (2 : Int32).toInt = 2 := rfl
        have e1 : (1 : Int32).toInt = 1 := rfl
        omega)
      exact ⟨j, by omega, e⟩
    by_cases hz : kf j = 0
    · exact jb_rr hI (x_again2 hj hz hS hd) (y_again2 hj hz hM hw hd)
    · have h3 := hK j hj hz
      exact jb_cc hm hI (x_again1 hj hz hS hd) (fun g1 hM1 => y_again1 hj hz h3.2 hM1 hw hd) h3.1 (fun i hi => absurd hi (Nat.not_lt_zero i)) (fun i hi hz2 => ⟨(hK i hi hz2).1, (hK i hi hz2).2.trans h3.2.symm⟩)
theorem j_seed {G : kx_G} {d N x m : Nat} {g : kx_H} {v : Int64} (hm : x + 121 < m) (hd : 20 ≤ d) (hJ : kJ g x m) : ∃ (r : Int64) (g1 g2 : kx_H), kx_Fn mX4_seed d 0 0 G [.ref x, .long v] N g (some (.long r), N, g1) ∧ kx_Fn mX5_seed d 0 0 G [.ref m, .long v] N g1 (some (.long r), N, g2) ∧ kJ g2 x m ∧ (∀ q, q < x → g2 q = g q) ∧ g1 m = g m := by
  obtain ⟨T, L, u, n, C, Ac, K, kf, sd, hI⟩ := hJ
  obtain ⟨hS, hM, hw, hA, hK⟩ := id hI
  obtain ⟨g1, f1, s1, fr1⟩ := x_seed (G := G) (N := N) (v := v) hS hd
  obtain ⟨g2, f2, m2, fr2⟩ := y_seed (G := G) (N := N) (v := v) (kM_frame hM (fun q q1 q2 => fr1 q (by omega))) hw hd
  exact ⟨sd, g1, g2, f1, f2, ⟨_, _, _, _, _, _, _, _, _, kS_frame s1 (fun q q1 q2 => fr2 q (by omega)), m2, hw, hA, hK⟩, fun q hq => (fr2 q (by omega)).trans (fr1 q (by omega)), fr1 m (by omega)⟩
