/-! ===== the whole object: its cells, what shows of it ===== -/
abbrev kxo (x : Nat) (sd : Int64) : va_E := .inr (4, [.ref (x + 1), .ref (x + 9), .ref (x + 15), .ref (x + 21), .ref (x + 107), .ref (x + 108), .ref (x + 121), .long sd])
abbrev kz (f : Nat → Int32) : va_E := .inl (1, 2, .inl f)
def kSi (h : kx_H) (x : Nat) (T : Nat → Int32) (L : Nat) (u : PU) (C : Nat) (K : Nat → PU) (kf : Nat → Int32) (sd : Int64) (told trial : PU) (F : Nat) (B : Nat → PU) (s : SU) (f : Nat → Option Nat) : Prop :=
  h x = some (kxo x sd) ∧ h (x + 1) = some (klo (x + 1) (nI L)) ∧ h (x + 2) = some (kl_a T) ∧ kP h (x + 3) told ∧ kP h (x + 9) u ∧ kP h (x + 15) trial ∧ kA h (x + 21) F C B ∧ h (x + 107) = some (kr 2 f) ∧ h (x + 108) = some (kz kf) ∧ (∀ i, i < 2 → kP h (x + 109 + 6 * i) (K i)) ∧ h (x + 121) = some (kso s)
def kS (h : kx_H) (x : Nat) (T : Nat → Int32) (L : Nat) (u : PU) (C : Nat) (Ac K : Nat → PU) (kf : Nat → Int32) (sd : Int64) : Prop :=
  ∃ (told trial : PU) (F : Nat) (B : Nat → PU) (s : SU) (f : Nat → Option Nat), kSi h x T L u C K kf sd told trial F B s f ∧ (∀ i, i < 2 → f i = some (x + 109 + 6 * i)) ∧ F < 14 ∧ C ≤ 14 ∧ (∀ i, i < C → B ((F + i) % 14) = Ac i) ∧ L ≤ 48
def kFr (h g : kx_H) (x w : Nat) : Prop := ∀ q, (q < x ∨ x + w < q) → g q = h q
theorem kFr.rf {h : kx_H} {x w : Nat} : kFr h h x w := fun _ _ => rfl
theorem kFr.tr {h g k : kx_H} {x w : Nat} (h1 : kFr h g x w) (h2 : kFr g k x w) : kFr h k x w := fun q hq => (h2 q hq).trans (h1 q hq)
theorem kFr.put {h : kx_H} {x w a : Nat} {v : PU} (ha : x ≤ a ∧ a + 5 ≤ x + w) : kFr h (kp_put h a v) x w := fun q hq => kp_put_out (by omega)
theorem kFr.up {h : kx_H} {x w a : Nat} {e : va_E} (ha : x ≤ a ∧ a ≤ x + w) : kFr h (kx_up h a e) x w := fun q hq => ku_n (by omega)
theorem kSi_all {h : kx_H} {x : Nat} {T : Nat → Int32} {L : Nat} {u : PU} {C : Nat} {K : Nat → PU} {kf : Nat → Int32} {sd : Int64} {told trial : PU} {F : Nat} {B : Nat → PU} {s : SU} {f : Nat → Option Nat} (hS : kSi h x T L u C K kf sd told trial F B s f) : ∀ q, x ≤ q → q ≤ x + 121 → h q ≠ none := by
  obtain ⟨s1, s2, s3, s4, s5, s6, s7, s8, s9, s10, s11⟩ := hS
  have hp : ∀ {a : Nat} {v : PU}, kP h a v → ∀ q, a ≤ q → q ≤ a + 5 → h q ≠ none := by
    intro a v hP q g1 g2
    obtain ⟨e0, e1, e2, e3, e4, e5⟩ := hP
    have : q = a ∨ q = a + 1 ∨ q = a + 2 ∨ q = a + 3 ∨ q = a + 4 ∨ q = a + 5 := by omega
    rcases this with rfl | rfl | rfl | rfl | rfl | rfl
    · rw [e0]; exact fun z => by cases z
    · rw [e1]; exact fun z => by cases z
    · rw [e2]; exact fun z => by cases z
    · rw [e3]; exact fun z => by cases z
    · rw [e4]; exact fun z => by cases z
    · rw [e5]; exact fun z => by cases z
  obtain ⟨a1, ⟨fa, a2, -⟩, a4⟩ := s7
  intro q g1 g2
  by_cases c1 : q ≤ x + 2
  · have : q = x ∨ q = x + 1 ∨ q = x + 2 := by omega
    rcases this with rfl | rfl | rfl
    · rw [s1]; exact fun z => by cases z
    · rw [s2]; exact fun z => by cases z
    · rw [s3]; exact fun z => by cases z
  by_cases c2 : q ≤ x + 8
  · exact hp s4 q (by omega) (by omega)
  by_cases c3 : q ≤ x + 14
  · exact hp s5 q (by omega) (by omega)
  by_cases c4 : q ≤ x + 20
  · exact hp s6 q (by omega) (by omega)
  by_cases c5 : q = x + 21
  · subst c5; rw [a1]; exact fun z => by cases z
  by_cases c6 : q = x + 22
  · subst c6; rw [a2]; exact fun z => by cases z
  by_cases c7 : q ≤ x + 106
  · exact hp (a4 ((q - (x + 23)) / 6) (by omega)) q (by omega) (by omega)
  by_cases c8 : q = x + 107
  · subst c8; rw [s8]; exact fun z => by cases z
  by_cases c9 : q = x + 108
  · subst c9; rw [s9]; exact fun z => by cases z
  by_cases c10 : q ≤ x + 120
  · exact hp (s10 ((q - (x + 109)) / 6) (by omega)) q (by omega) (by omega)
  have c11 : q = x + 121 := by omega
  subst c11; rw [s11]; exact fun z => by cases z
theorem kS_dom {h g : kx_H} {x N : Nat} {T : Nat → Int32} {L : Nat} {u : PU} {C : Nat} {Ac K : Nat → PU} {kf : Nat → Int32} {sd : Int64} (hS : kS h x T L u C Ac K kf sd) (fr : kFr h g x 121) : ∀ q e, g q = some e → kx_dom h N q := by
  obtain ⟨told, trial, F, B, s, f, h1, -⟩ := hS
  intro q e he
  by_cases hq : x ≤ q ∧ q ≤ x + 121
  · exact Or.inl (kSi_all h1 q hq.1 hq.2)
  · rw [fr q (by omega)] at he
    exact kx_self _ _ he
section KSl
variable {h : kx_H} {x : Nat} {T : Nat → Int32} {L : Nat} {u : PU} {C : Nat} {Ac K : Nat → PU} {kf : Nat → Int32} {sd : Int64} {told trial : PU} {F : Nat} {B : Nat → PU} {s : SU} {f : Nat → Option Nat}
theorem kSi_now (hS : kSi h x T L u C K kf sd told trial F B s f) (v : PU) : kSi (kp_put h (x + 9) v) x T L v C K kf sd told trial F B s f := by
  obtain ⟨s1, s2, s3, s4, s5, s6, s7, s8, s9, s10, s11⟩ := hS
  exact ⟨by rw [kp_put_out (by omega)]; exact s1, by rw [kp_put_out (by omega)]; exact s2, by rw [kp_put_out (by omega)]; exact s3, kp_put_other s4 (by omega), kp_put_P _ _ _, kp_put_other s6 (by omega), kA_of s7 (fun q g1 g2 => kp_put_out (by omega)), by rw [kp_put_out (by omega)]; exact s8, by rw [kp_put_out (by omega)]; exact s9, fun i hi => kp_put_other (s10 i hi) (by omega), by rw [kp_put_out (by omega)]; exact s11⟩
theorem kSi_trial (hS : kSi h x T L u C K kf sd told trial F B s f) (v : PU) : kSi (kp_put h (x + 15) v) x T L u C K kf sd told v F B s f := by
  obtain ⟨s1, s2, s3, s4, s5, s6, s7, s8, s9, s10, s11⟩ := hS
  exact ⟨by rw [kp_put_out (by omega)]; exact s1, by rw [kp_put_out (by omega)]; exact s2, by rw [kp_put_out (by omega)]; exact s3, kp_put_other s4 (by omega), kp_put_other s5 (by omega), kp_put_P _ _ _, kA_of s7 (fun q g1 g2 => kp_put_out (by omega)), by rw [kp_put_out (by omega)]; exact s8, by rw [kp_put_out (by omega)]; exact s9, fun i hi => kp_put_other (s10 i hi) (by omega), by rw [kp_put_out (by omega)]; exact s11⟩
theorem kSi_told (hS : kSi h x T L u C K kf sd told trial F B s f) (v : PU) : kSi (kp_put h (x + 3) v) x T L u C K kf sd v trial F B s f := by
  obtain ⟨s1, s2, s3, s4, s5, s6, s7, s8, s9, s10, s11⟩ := hS
  exact ⟨by rw [kp_put_out (by omega)]; exact s1, by rw [kp_put_out (by omega)]; exact s2, by rw [kp_put_out (by omega)]; exact s3, kp_put_P _ _ _, kp_put_other s5 (by omega), kp_put_other s6 (by omega), kA_of s7 (fun q g1 g2 => kp_put_out (by omega)), by rw [kp_put_out (by omega)]; exact s8, by rw [kp_put_out (by omega)]; exact s9, fun i hi => kp_put_other (s10 i hi) (by omega), by rw [kp_put_out (by omega)]; exact s11⟩
theorem kSi_kept (hS : kSi h x T L u C K kf sd told trial F B s f) (j : Nat) (hj : j < 2) (v : PU) : kSi (kp_put h (x + 109 + 6 * j) v) x T L u C (fun i => if i = j then v else K i) kf sd told trial F B s f := by
  obtain ⟨s1, s2, s3, s4, s5, s6, s7, s8, s9, s10, s11⟩ := hS
  refine ⟨by rw [kp_put_out (by omega)]; exact s1, by rw [kp_put_out (by omega)]; exact s2, by rw [kp_put_out (by omega)]; exact s3, kp_put_other s4 (by omega), kp_put_other s5 (by omega), kp_put_other s6 (by omega), kA_of s7 (fun q g1 g2 => kp_put_out (by omega)), by rw [kp_put_out (by omega)]; exact s8, by rw [kp_put_out (by omega)]; exact s9, fun i hi => ?_, by rw [kp_put_out (by omega)]; exact s11⟩
  by_cases h1 : i = j
  · subst h1
    show kP _ _ (if i = i then v else K i)
    rw [if_pos rfl]; exact kp_put_P _ _ _
  · show kP _ _ (if i = j then v else K i)
    rw [if_neg h1]; exact kp_put_other (s10 i hi) (by omega)
theorem kSi_kf (hS : kSi h x T L u C K kf sd told trial F B s f) (g : Nat → Int32) : kSi (kx_up h (x + 108) (kz g)) x T L u C K g sd told trial F B s f := by
  obtain ⟨s1, s2, s3, s4, s5, s6, s7, s8, s9, s10, s11⟩ := hS
  exact ⟨by rw [ku_n (by omega)]; exact s1, by rw [ku_n (by omega)]; exact s2, by rw [ku_n (by omega)]; exact s3, kP_up s4 (by omega), kP_up s5 (by omega), kP_up s6 (by omega), kA_of s7 (fun q g1 g2 => ku_n (by omega)), by rw [ku_n (by omega)]; exact s8, ku_s, fun i hi => kP_up (s10 i hi) (by omega), by rw [ku_n (by omega)]; exact s11⟩
theorem kSi_serv (hS : kSi h x T L u C K kf sd told trial F B s f) (s' : SU) : kSi (kx_up h (x + 121) (kso s')) x T L u C K kf sd told trial F B s' f := by
  obtain ⟨s1, s2, s3, s4, s5, s6, s7, s8, s9, s10, s11⟩ := hS
  exact ⟨by rw [ku_n (by omega)]; exact s1, by rw [ku_n (by omega)]; exact s2, by rw [ku_n (by omega)]; exact s3, kP_up s4 (by omega), kP_up s5 (by omega), kP_up s6 (by omega), kA_of s7 (fun q g1 g2 => ku_n (by omega)), by rw [ku_n (by omega)]; exact s8, by rw [ku_n (by omega)]; exact s9, fun i hi => kP_up (s10 i hi) (by omega), ku_s⟩
theorem kSi_seed (hS : kSi h x T L u C K kf sd told trial F B s f) (z : Int64) : kSi (kx_up h x (kxo x z)) x T L u C K kf z told trial F B s f := by
  obtain ⟨s1, s2, s3, s4, s5, s6, s7, s8, s9, s10, s11⟩ := hS
  exact ⟨ku_s, by rw [ku_n (by omega)]; exact s2, by rw [ku_n (by omega)]; exact s3, kP_up s4 (by omega), kP_up s5 (by omega), kP_up s6 (by omega), kA_of s7 (fun q g1 g2 => ku_n (by omega)), by rw [ku_n (by omega)]; exact s8, by rw [ku_n (by omega)]; exact s9, fun i hi => kP_up (s10 i hi) (by omega), by rw [ku_n (by omega)]; exact s11⟩
theorem kSi_text (hS : kSi h x T L u C K kf sd told trial F B s f) (T' : Nat → Int32) (L' : Nat) : kSi (kx_up (kx_up h (x + 2) (kl_a T')) (x + 1) (klo (x + 1) (nI L'))) x T' L' u C K kf sd told trial F B s f := by
  obtain ⟨s1, s2, s3, s4, s5, s6, s7, s8, s9, s10, s11⟩ := hS
  exact ⟨by rw [ku_n (by omega), ku_n (by omega)]; exact s1, ku_s, by rw [ku_n (by omega), ku_s], kP_up (kP_up s4 (by omega)) (by omega), kP_up (kP_up s5 (by omega)) (by omega), kP_up (kP_up s6 (by omega)) (by omega), kA_of s7 (fun q g1 g2 => by rw [ku_n (by omega), ku_n (by omega)]), by rw [ku_n (by omega), ku_n (by omega)]; exact s8, by rw [ku_n (by omega), ku_n (by omega)]; exact s9, fun i hi => kP_up (kP_up (s10 i hi) (by omega)) (by omega), by rw [ku_n (by omega), ku_n (by omega)]; exact s11⟩
theorem kSi_acts (hS : kSi h x T L u C K kf sd told trial F B s f) {g : kx_H} {F' C' : Nat} {B' : Nat → PU} (hA : kA g (x + 21) F' C' B') (fr : kFr h g (x + 21) 85) : kSi g x T L u C' K kf sd told trial F' B' s f := by
  obtain ⟨s1, s2, s3, s4, s5, s6, s7, s8, s9, s10, s11⟩ := hS
  exact ⟨by rw [fr _ (by omega)]; exact s1, by rw [fr _ (by omega)]; exact s2, by rw [fr _ (by omega)]; exact s3, kP_of s4 (fun q g1 g2 => fr q (by omega)), kP_of s5 (fun q g1 g2 => fr q (by omega)), kP_of s6 (fun q g1 g2 => fr q (by omega)), hA, by rw [fr _ (by omega)]; exact s8, by rw [fr _ (by omega)]; exact s9, fun i hi => kP_of (s10 i hi) (fun q g1 g2 => fr q (by omega)), by rw [fr _ (by omega)]; exact s11⟩
theorem kS_frame {g : kx_H} (hS : kS h x T L u C Ac K kf sd) (e : ∀ q, x ≤ q → q ≤ x + 121 → g q = h q) : kS g x T L u C Ac K kf sd := by
  obtain ⟨told, trial, F, B, s, f, ⟨s1, s2, s3, s4, s5, s6, s7, s8, s9, s10, s11⟩, r⟩ := hS
  exact ⟨told, trial, F, B, s, f, ⟨by rw [e _ (by omega) (by omega)]; exact s1, by rw [e _ (by omega) (by omega)]; exact s2, by rw [e _ (by omega) (by omega)]; exact s3, kP_of s4 (fun q g1 g2 => e q (by omega) (by omega)), kP_of s5 (fun q g1 g2 => e q (by omega) (by omega)), kP_of s6 (fun q g1 g2 => e q (by omega) (by omega)), kA_of s7 (fun q g1 g2 => e q (by omega) (by omega)), by rw [e _ (by omega) (by omega)]; exact s8, by rw [e _ (by omega) (by omega)]; exact s9, fun i hi => kP_of (s10 i hi) (fun q g1 g2 => e q (by omega) (by omega)), by rw [e _ (by omega) (by omega)]; exact s11⟩, r⟩
end KSl
/-! the row of acts, as it shows -/
def rmC (C : Nat) : Nat := if C = 14 then 14 else C + 1
def rmA (C : Nat) (Ac : Nat → PU) (v : PU) : Nat → PU := if C = 14 then (fun i => if i = 13 then v else Ac (i + 1)) else (fun i => if i = C then v else Ac i)
theorem sys_remember {G : kx_G} {d N x : Nat} {h : kx_H} {T : Nat → Int32} {L : Nat} {u : PU} {C : Nat} {Ac K : Nat → PU} {kf : Nat → Int32} {sd : Int64} (hS : kS h x T L u C Ac K kf sd) (hd : 2 ≤ d) : ∃ g, kx_Fn mX0_remember d 0 0 G [.ref (x + 21), .ref (x + 9)] N h (none, N, g) ∧ kS g x T L u (rmC C) (rmA C Ac u) K kf sd ∧ kFr h g x 121 ∧ g x = some (kxo x sd) ∧ kP g (x + 9) u := by
  obtain ⟨told, trial, F, B, s, f, hi, hf, hF, hC, hB, hL⟩ := hS
  obtain ⟨s1, s2, s3, s4, s5, s6, s7, s8, s9, s10, s11⟩ := id hi
  by_cases h14 : C = 14
  · subst h14
    rw [show rmC 14 = 14 from if_pos rfl]
    refine ⟨_, fn_remember14 s7 hF rfl s5 (by omega) hd, ⟨told, trial, (F + 1) % 14, (fun i => if i = ((F + 1) % 14 + 13) % 14 then u else B i), s, f, kSi_acts hi (kA_put s7 ((F + 1) % 14) 14 (((F + 1) % 14 + 13) % 14) (by omega) u) (fun q hq => by rw [ku_n (by omega), kp_put_out (by omega)]), hf, by omega, by omega, fun i hi2 => ?_, hL⟩, fun q hq => by rw [ku_n (by omega), kp_put_out (by omega)], by rw [ku_n (by omega), kp_put_out (by omega)]; exact s1, kP_up (kp_put_other s5 (by omega)) (by omega)⟩
    show (if ((F + 1) % 14 + i) % 14 = ((F + 1) % 14 + 13) % 14 then u else B (((F + 1) % 14 + i) % 14)) = (if 14 = 14 then (fun i => if i = 13 then u else Ac (i + 1)) else (fun i => if i = 14 then u else Ac i)) i
    rw [if_pos (rfl : 14 = 14)]
    show _ = if i = 13 then u else Ac (i + 1)
    by_cases h1 : i = 13
    · rw [if_pos h1, if_pos (by rw [h1])]
    · rw [if_neg h1, if_neg (by omega), show ((F + 1) % 14 + i) % 14 = (F + (i + 1)) % 14 by omega]
      exact hB (i + 1) (by omega)
  · rw [show rmC C = C + 1 from if_neg h14]
    refine ⟨_, fn_rememberC s7 hF (by omega) s5 (by omega) hd, ⟨told, trial, F, (fun i => if i = (F + C) % 14 then u else B i), s, f, kSi_acts hi (kA_put s7 F (C + 1) ((F + C) % 14) (by omega) u) (fun q hq => by rw [ku_n (by omega), kp_put_out (by omega)]), hf, by omega, by omega, fun i hi2 => ?_, hL⟩, fun q hq => by rw [ku_n (by omega), kp_put_out (by omega)], by rw [ku_n (by omega), kp_put_out (by omega)]; exact s1, kP_up (kp_put_other s5 (by omega)) (by omega)⟩
    show (if (F + i) % 14 = (F + C) % 14 then u else B ((F + i) % 14)) = (if C = 14 then (fun i => if i = 13 then u else Ac (i + 1)) else (fun i => if i = C then u else Ac i)) i
    rw [if_neg h14]
    show _ = if i = C then u else Ac i
    by_cases h1 : i = C
    · rw [if_pos h1, if_pos (by rw [h1])]
    · rw [if_neg h1, if_neg (by omega)]
      exact hB i (by omega)
