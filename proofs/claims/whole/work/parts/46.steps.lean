/-! ===== the steps: what the class did and what the reference did is the same ===== -/
theorem eqS {d d' : hDt} (h : eqD d d') : eqD d' d := ⟨h.1.symm, h.2.1.symm, h.2.2.1.symm, h.2.2.2.1.symm, h.2.2.2.2.1.symm, h.2.2.2.2.2.symm⟩
theorem pa_put {G : ah_G} {h : ah_H} {x : Nat} {n pm zh rf c pt : Nat} {f z : Nat → Nat} {g : Nat → Nat → Nat} {gh : Nat → Nat} {D : Nat → hDt} {lat : Option (Nat × (Nat → List Nat))} {u : Int32} : ∀ w h9, (fun v h' => ∃ k, k < 65536 ∧ u = nI k ∧ n < 3000 ∧ v = nI (n + 1) ∧ tp G h' x (n + 1) (gU f n k) pm z g zh gh rf c pt D lat ∧ agr (fun t => ¬ cT t) h h') w h9 → agr (fun t => ¬ cT t) h h9 := by
  intro w h9 z9
  obtain ⟨k9, k1, k2, k3, k4, t0, a0⟩ := z9
  exact a0
theorem pa_about {G : ah_G} {h : ah_H} {x : Nat} {n pm zh rf c pt : Nat} {f z : Nat → Nat} {g : Nat → Nat → Nat} {gh : Nat → Nat} {D : Nat → hDt} {lat : Option (Nat × (Nat → List Nat))} {u : Int32} : ∀ w h9, (fun v h' => ∃ k, k < 8 ∧ u = nI k ∧ v = abV n f pm zh rf c lat k ∧ h' = h) w h9 → agr (fun t => ¬ cT t) h h9 := by
  intro w h9 z9
  obtain ⟨k9, k1, k2, k3, e0⟩ := z9
  exact by rw [e0]; exact agr.rf
theorem pa_make {G : ah_G} {h : ah_H} {x : Nat} {n pm zh rf c pt : Nat} {f z : Nat → Nat} {g : Nat → Nat → Nat} {gh : Nat → Nat} {D : Nat → hDt} {lat : Option (Nat × (Nat → List Nat))} {P : Nat} : ∀ w h9, (fun v h' => P ≠ 0 ∧ v = nI P ∧ ∃ z' g', tp G h' x n f P z' g' zh gh (if 1 < P then (rf + 1) % 256 else rf) c pt D lat ∧ (∀ j, j < P → z' j = pZ f n (outs f n) P j ∧ g' j = pG f n (outs f n) P rf j) ∧ agr (fun t => ¬ cT t) h h') w h9 → agr (fun t => ¬ cT t) h h9 := by
  intro w h9 z9
  obtain ⟨k1, k2, z9, g9, t0, k3, a0⟩ := z9
  exact a0
theorem pa_length {G : ah_G} {h : ah_H} {x : Nat} {n pm zh rf c pt : Nat} {f z : Nat → Nat} {g : Nat → Nat → Nat} {gh : Nat → Nat} {D : Nat → hDt} {lat : Option (Nat × (Nat → List Nat))} {u : Int32} : ∀ w h9, (fun v h' => ∃ j, j < pm ∧ u = nI j ∧ v = nI (z j) ∧ h' = h) w h9 → agr (fun t => ¬ cT t) h h9 := by
  intro w h9 z9
  obtain ⟨j, j1, j2, j3, e0⟩ := z9
  exact by rw [e0]; exact agr.rf
theorem pa_byteOf {G : ah_G} {h : ah_H} {x : Nat} {n pm zh rf c pt : Nat} {f z : Nat → Nat} {g : Nat → Nat → Nat} {gh : Nat → Nat} {D : Nat → hDt} {lat : Option (Nat × (Nat → List Nat))} {u i : Int32} : ∀ w h9, (fun v h' => ∃ j, j < pm ∧ u = nI j ∧ v = rwA (g j) (z j) i ∧ h' = h) w h9 → agr (fun t => ¬ cT t) h h9 := by
  intro w h9 z9
  obtain ⟨j, j1, j2, j3, e0⟩ := z9
  exact by rw [e0]; exact agr.rf
theorem pa_take {G : ah_G} {h : ah_H} {x : Nat} {n pm zh rf c pt : Nat} {f z : Nat → Nat} {g : Nat → Nat → Nat} {gh : Nat → Nat} {D : Nat → hDt} {lat : Option (Nat × (Nat → List Nat))} {u0 u : Int32} : ∀ w h9, (fun v h' => ∃ j s9, j < pm ∧ u = nI j ∧ s9 < 1000 ∧ u0 = nI s9 ∧ ∃ (c' pt' : Nat) (D' : Nat → hDt) (lt : Option (Nat × (Nat → List Nat))), accR c pt D (g j) (z j) s9 v c' pt' D' lt ∧ tp G h' x n f pm z g zh gh rf c' pt' D' (lt.or lat) ∧ agr (fun t => ¬ cT t) h h') w h9 → agr (fun t => ¬ cT t) h h9 := by
  intro w h9 z9
  obtain ⟨j, s9, j1, j2, j3, j4, c9, pt9, D9, lt9, ac, t0, a0⟩ := z9
  exact a0
theorem pa_alter {G : ah_G} {h : ah_H} {x : Nat} {n pm zh rf c pt : Nat} {f z : Nat → Nat} {g : Nat → Nat → Nat} {gh : Nat → Nat} {D : Nat → hDt} {lat : Option (Nat × (Nat → List Nat))} {u i b9 : Int32} : ∀ w h9, (fun v h' => ∃ j k b, j < pm ∧ u = nI j ∧ k < z j ∧ i = nI k ∧ b < 256 ∧ b9 = nI b ∧ v = nI (g j k) ∧ tp G h' x n f pm z (rowU g j k b) zh gh rf c pt D lat ∧ agr (fun t => ¬ cT t) h h') w h9 → agr (fun t => ¬ cT t) h h9 := by
  intro w h9 z9
  obtain ⟨j, k, b, j1, j2, j3, j4, j5, j6, j7, t0, a0⟩ := z9
  exact a0
theorem pa_read {G : ah_G} {h : ah_H} {x : Nat} {n pm zh rf c pt : Nat} {f z : Nat → Nat} {g : Nat → Nat → Nat} {gh : Nat → Nat} {D : Nat → hDt} {lat : Option (Nat × (Nat → List Nat))} {u0 : Int32} : ∀ w h9, (fun v h' => ∃ s9, s9 < 1000 ∧ u0 = nI s9 ∧ ∃ (c' pt' : Nat) (D' : Nat → hDt) (lt : Option (Nat × (Nat → List Nat))), accR c pt D (gh) zh s9 v c' pt' D' lt ∧ tp G h' x n f pm z g 0 (fun _ => 0) rf c' pt' D' (lt.or lat) ∧ agr (fun t => ¬ cT t) h h') w h9 → agr (fun t => ¬ cT t) h h9 := by
  intro w h9 z9
  obtain ⟨s9, j3, j4, c9, pt9, D9, lt9, ac, t0, a0⟩ := z9
  exact a0
theorem pa_heap {G : ah_G} {h : ah_H} {x : Nat} {n pm zh rf c pt : Nat} {f z : Nat → Nat} {g : Nat → Nat → Nat} {gh : Nat → Nat} {D : Nat → hDt} {lat : Option (Nat × (Nat → List Nat))} {u u1 : Int32} : ∀ w h9, (fun v h' => ∃ k, k < 4 ∧ u1 = nI k ∧ v = hpV c D u k ∧ h' = h) w h9 → agr (fun t => ¬ cT t) h h9 := by
  intro w h9 z9
  obtain ⟨k9, k1, k2, k3, e0⟩ := z9
  exact by rw [e0]; exact agr.rf
theorem pa_forget {G : ah_G} {h : ah_H} {x : Nat} {n pm zh rf c pt : Nat} {f z : Nat → Nat} {g : Nat → Nat → Nat} {gh : Nat → Nat} {D : Nat → hDt} {lat : Option (Nat × (Nat → List Nat))} {u0 : Int32} : ∀ w h9, (fun v h' => ∃ s9, s9 < 1000 ∧ u0 = nI s9 ∧ v = nI (c - (drp s9 c (c, D)).1) ∧ tp G h' x n f pm z g zh gh rf ((drp s9 c (c, D)).1) pt ((drp s9 c (c, D)).2) lat ∧ agr (fun t => ¬ cT t) h h') w h9 → agr (fun t => ¬ cT t) h h9 := by
  intro w h9 z9
  obtain ⟨s9, j1, j2, j3, t0, a0⟩ := z9
  exact a0
theorem pa_feed {G : ah_G} {h : ah_H} {x : Nat} {n pm zh rf c pt : Nat} {f z : Nat → Nat} {g : Nat → Nat → Nat} {gh : Nat → Nat} {D : Nat → hDt} {lat : Option (Nat × (Nat → List Nat))} {wv : Int64} {u : Int32} : ∀ w h9, (fun v h' => ∃ k, k < 9 ∧ u = nI k ∧ zh + k ≤ 200 ∧ v = nI (zh + k) ∧ tp G h' x n f pm z g (zh + k) (fdG gh zh wv k) rf c pt D lat ∧ agr (fun t => ¬ cT t) h h') w h9 → agr (fun t => ¬ cT t) h h9 := by
  intro w h9 z9
  obtain ⟨k9, k1, k2, k3, k4, t0, a0⟩ := z9
  exact a0
theorem st_put {G : ah_G} {h h1 h2 : ah_H} {x y o q : Nat} {n pm zh rf c pt lc gv un k0 : Nat} {f z : Nat → Nat} {g : Nat → Nat → Nat} {gh : Nat → Nat} {D : Nat → hDt} {lat : Option (Nat × (Nat → List Nat))} {A : Nat → Nat} {ln bb hh la mp sd rc pr th sm : Nat → Nat} {pc : Nat → Int32} {pu pa ua : Nat → Nat} {fo : Nat → Int64} {r1 r2 : Int32} {u : Int32} (T : tp G h x n f pm z g zh gh rf c pt D lat) (M : md G h y A k0 n rf pm zh lc c pt gv un f ln bb hh la mp sd rc pr th sm pc pu pa ua) (B : tR q n pm zh c pt lc z g gh D lat ln bb hh la mp sd rc pr th sm pc pu pa) (O : h o = some (oC G fo)) (p1 : hpost G o fo (fun v h' => ∃ k, k < 65536 ∧ u = nI k ∧ n < 3000 ∧ v = nI (n + 1) ∧ tp G h' x (n + 1) (gU f n k) pm z g zh gh rf c pt D lat ∧ agr (fun t => ¬ cT t) h h') (fun E h' => ((E = eIA ∧ ¬ inR 65536 u) ∨ (E = eIS ∧ inR 65536 u ∧ n = 3000)) ∧ h' = h) r1 h1) (p2 : (fun v h' => (¬ inR 65536 u ∧ h' = ah_up h1 y (20, .inr (8, mF A 1 n rf pm zh lc c pt gv un))) ∨ (inR 65536 u ∧ n = 3000 ∧ h' = ah_up h1 y (20, .inr (8, mF A 2 n rf pm zh lc c pt gv un))) ∨ (∃ k, k < 65536 ∧ u = nI k ∧ n < 3000 ∧ v = nI (n + 1) ∧ h' = ah_up (ah_up h1 (A 4) (24, .inl (G.2.2.1 0, 3000, .inl (nA (gU f n k))))) y (20, .inr (8, mF A 0 (n + 1) rf pm zh lc c pt gv un)))) r2 h2) : fin G h2 x y o (q + 1) r1 r2 := by
  rcases p1 with ⟨e1, w, h0, ⟨k, hk, eu, hn, ew, t0, a0⟩, eh⟩ | ⟨E, ⟨⟨eE, hno⟩ | ⟨eE, hin, hn⟩, eh⟩, e1⟩
  · obtain ⟨T1, O1, a1⟩ := cls_ok eh t0 a0 O
    have M1 := md_after M a1
    rcases p2 with ⟨m1, -⟩ | ⟨-, m2, -⟩ | ⟨k9, hk9, eu9, -, ev, e2⟩
    · exact absurd ⟨k, hk, eu⟩ m1
    · omega
    · have ek : k9 = k := (nI_eq (by omega) (by omega)).mp (eu9.symm.trans eu)
      subst ek
      obtain ⟨Ma, aa⟩ := M1.up4 rfl
      obtain ⟨M2, a2⟩ := Ma.up e2
      obtain ⟨b1, b2, b⟩ := B
      exact fin_mk T1 O1 (aa.tr a2) M2 ⟨by omega, by omega, b⟩ e1 (by omega) (fun _ => by rw [upL0, ew, ev])
  · subst eE; subst eh; rw [xk_A] at e1
    rcases p2 with ⟨-, e2⟩ | ⟨m1, -⟩ | ⟨k9, hk9, eu9, -⟩
    · obtain ⟨M2, a2⟩ := M.up e2
      exact fin_mk T O a2 M2 B.next e1 (by omega) (fun q => by omega)
    · exact absurd m1 hno
    · exact absurd ⟨k9, hk9, eu9⟩ hno
  · subst eE; subst eh; rw [xk_S] at e1
    rcases p2 with ⟨m1, -⟩ | ⟨-, -, e2⟩ | ⟨k9, -, -, m3, -⟩
    · exact absurd hin m1
    · obtain ⟨M2, a2⟩ := M.up e2
      exact fin_mk T O a2 M2 B.next e1 (by omega) (fun q => by omega)
    · omega
theorem hp_all {c : Nat} {D : Nat → hDt} {mp sd rc pr th sm : Nat → Nat} {pc : Nat → Int32} {pu : Nat → Nat} {e k : Nat} (x : HR c D mp sd rc pr th sm pc pu e) (hc : c ≤ 16) (u : Int32) (hk : k < 4) : hpV c D u k = rwA (hpA sd rc pr th k) c u := by
  rcases (show k = 0 ∨ k = 1 ∨ k = 2 ∨ k = 3 by omega) with rfl | rfl | rfl | rfl
  · exact hp_rwA (v := sd) (w := fun i => d_s (D i)) (by omega) (fun i hi => (x.1 i hi).2.1) u
  · exact hp_rwA (v := rc) (w := fun i => d_r (D i)) (by omega) (fun i hi => (x.1 i hi).2.2.1) u
  · exact hp_rwA (v := pr) (w := fun i => d_n (D i)) (by omega) (fun i hi => (x.1 i hi).2.2.2.1) u
  · exact hp_rwA (v := th) (w := fun i => d_t (D i)) (by omega) (fun i hi => (x.1 i hi).2.2.2.2.1) u
theorem st_about {G : ah_G} {h h1 h2 : ah_H} {x y o q : Nat} {n pm zh rf c pt lc gv un k0 : Nat} {f z : Nat → Nat} {g : Nat → Nat → Nat} {gh : Nat → Nat} {D : Nat → hDt} {lat : Option (Nat × (Nat → List Nat))} {A : Nat → Nat} {ln bb hh la mp sd rc pr th sm : Nat → Nat} {pc : Nat → Int32} {pu pa ua : Nat → Nat} {fo : Nat → Int64} {r1 r2 : Int32} {u : Int32} (T : tp G h x n f pm z g zh gh rf c pt D lat) (M : md G h y A k0 n rf pm zh lc c pt gv un f ln bb hh la mp sd rc pr th sm pc pu pa ua) (B : tR q n pm zh c pt lc z g gh D lat ln bb hh la mp sd rc pr th sm pc pu pa) (O : h o = some (oC G fo)) (p1 : hpost G o fo (fun v h' => ∃ k, k < 8 ∧ u = nI k ∧ v = abV n f pm zh rf c lat k ∧ h' = h) (fun E h' => E = eIA ∧ ¬ inR 8 u ∧ h' = h) r1 h1) (p2 : (fun v h' => (¬ inR 8 u ∧ h' = ah_up h1 y (20, .inr (8, mF A 1 n rf pm zh lc c pt gv un))) ∨ (∃ k, k < 8 ∧ u = nI k ∧ v = abW n f pm zh rf c lc k ∧ h' = ah_up h1 y (20, .inr (8, mF A 0 n rf pm zh lc c pt gv un)))) r2 h2) : fin G h2 x y o (q + 1) r1 r2 := by
  rcases p1 with ⟨e1, w, h0, ⟨k, hk, eu, ew, e0⟩, eh⟩ | ⟨E, ⟨eE, hno, eh⟩, e1⟩
  · subst e0
    obtain ⟨T1, O1, a1⟩ := cls_ok eh T agr.rf O
    have M1 := md_after M a1
    rcases p2 with ⟨m1, -⟩ | ⟨k9, hk9, eu9, ev, e2⟩
    · exact absurd ⟨k, hk, eu⟩ m1
    · obtain ⟨M2, a2⟩ := M1.up e2
      have ek : k9 = k := (nI_eq (by omega) (by omega)).mp (eu9.symm.trans eu)
      subst ek
      have el : latU lat = lc := B.2.2.2.2.2.2.2.2.u
      exact fin_mk T1 O1 a2 M2 B.next e1 (by omega) (fun _ => by rw [upL0, ew, ev, abV_W k9 hk, el])
  · subst eE; subst eh; rw [xk_A] at e1
    rcases p2 with ⟨-, e2⟩ | ⟨k9, hk9, eu9, ev, -⟩
    · obtain ⟨M2, a2⟩ := M.up e2
      exact fin_mk T O a2 M2 B.next e1 (by omega) (fun q => by omega)
    · exact absurd ⟨k9, hk9, eu9⟩ hno
theorem st_length {G : ah_G} {h h1 h2 : ah_H} {x y o q : Nat} {n pm zh rf c pt lc gv un k0 : Nat} {f z : Nat → Nat} {g : Nat → Nat → Nat} {gh : Nat → Nat} {D : Nat → hDt} {lat : Option (Nat × (Nat → List Nat))} {A : Nat → Nat} {ln bb hh la mp sd rc pr th sm : Nat → Nat} {pc : Nat → Int32} {pu pa ua : Nat → Nat} {fo : Nat → Int64} {r1 r2 : Int32} {u : Int32} (T : tp G h x n f pm z g zh gh rf c pt D lat) (M : md G h y A k0 n rf pm zh lc c pt gv un f ln bb hh la mp sd rc pr th sm pc pu pa ua) (B : tR q n pm zh c pt lc z g gh D lat ln bb hh la mp sd rc pr th sm pc pu pa) (O : h o = some (oC G fo)) (p1 : hpost G o fo (fun v h' => ∃ j, j < pm ∧ u = nI j ∧ v = nI (z j) ∧ h' = h) (fun E h' => E = eIA ∧ ¬ inR pm u ∧ h' = h) r1 h1) (p2 : (fun v h' => (¬ inR pm u ∧ h' = ah_up h1 y (20, .inr (8, mF A 1 n rf pm zh lc c pt gv un))) ∨ (∃ j, j < pm ∧ u = nI j ∧ v = nI (ln j) ∧ h' = ah_up h1 y (20, .inr (8, mF A 0 n rf pm zh lc c pt gv un)))) r2 h2) : fin G h2 x y o (q + 1) r1 r2 := by
  rcases p1 with ⟨e1, w, h0, ⟨k, hk, eu, ew, e0⟩, eh⟩ | ⟨E, ⟨eE, hno, eh⟩, e1⟩
  · subst e0
    obtain ⟨T1, O1, a1⟩ := cls_ok eh T agr.rf O
    have M1 := md_after M a1
    rcases p2 with ⟨m1, -⟩ | ⟨k9, hk9, eu9, ev, e2⟩
    · exact absurd ⟨k, hk, eu⟩ m1
    · obtain ⟨M2, a2⟩ := M1.up e2
      have hpm := T.facts.2.2.2.1
      have ek : k9 = k := (nI_eq (by omega) (by omega)).mp (eu9.symm.trans eu)
      subst ek
      exact fin_mk T1 O1 a2 M2 B.next e1 (by omega) (fun _ => by rw [upL0, ew, ev, (B.2.2.1 k9 hk).1])
  · subst eE; subst eh; rw [xk_A] at e1
    rcases p2 with ⟨-, e2⟩ | ⟨k9, hk9, eu9, ev, -⟩
    · obtain ⟨M2, a2⟩ := M.up e2
      exact fin_mk T O a2 M2 B.next e1 (by omega) (fun q => by omega)
    · exact absurd ⟨k9, hk9, eu9⟩ hno
theorem st_byteOf {G : ah_G} {h h1 h2 : ah_H} {x y o q : Nat} {n pm zh rf c pt lc gv un k0 : Nat} {f z : Nat → Nat} {g : Nat → Nat → Nat} {gh : Nat → Nat} {D : Nat → hDt} {lat : Option (Nat × (Nat → List Nat))} {A : Nat → Nat} {ln bb hh la mp sd rc pr th sm : Nat → Nat} {pc : Nat → Int32} {pu pa ua : Nat → Nat} {fo : Nat → Int64} {r1 r2 : Int32} {u i : Int32} (T : tp G h x n f pm z g zh gh rf c pt D lat) (M : md G h y A k0 n rf pm zh lc c pt gv un f ln bb hh la mp sd rc pr th sm pc pu pa ua) (B : tR q n pm zh c pt lc z g gh D lat ln bb hh la mp sd rc pr th sm pc pu pa) (O : h o = some (oC G fo)) (p1 : hpost G o fo (fun v h' => ∃ j, j < pm ∧ u = nI j ∧ v = rwA (g j) (z j) i ∧ h' = h) (fun E h' => E = eIA ∧ ¬ inR pm u ∧ h' = h) r1 h1) (p2 : (fun v h' => (¬ inR pm u ∧ h' = ah_up h1 y (20, .inr (8, mF A 1 n rf pm zh lc c pt gv un))) ∨ (∃ j, j < pm ∧ u = nI j ∧ v = rwA (fun q => bb (142 * j + q)) (ln j) i ∧ h' = ah_up h1 y (20, .inr (8, mF A 0 n rf pm zh lc c pt gv un)))) r2 h2) : fin G h2 x y o (q + 1) r1 r2 := by
  rcases p1 with ⟨e1, w, h0, ⟨k, hk, eu, ew, e0⟩, eh⟩ | ⟨E, ⟨eE, hno, eh⟩, e1⟩
  · subst e0
    obtain ⟨T1, O1, a1⟩ := cls_ok eh T agr.rf O
    have M1 := md_after M a1
    rcases p2 with ⟨m1, -⟩ | ⟨k9, hk9, eu9, ev, e2⟩
    · exact absurd ⟨k, hk, eu⟩ m1
    · obtain ⟨M2, a2⟩ := M1.up e2
      have hpm := T.facts.2.2.2.1
      have ek : k9 = k := (nI_eq (by omega) (by omega)).mp (eu9.symm.trans eu)
      subst ek
      have hz := (T.facts.2.2.2.2.1 k9 hk).1
      obtain ⟨r9, s9⟩ := B.2.2.1 k9 hk
      exact fin_mk T1 O1 a2 M2 B.next e1 (by omega) (fun _ => by rw [upL0, ew, ev, r9, rwA_cg (g := fun q => bb (142 * k9 + q)) (g' := g k9) (by omega) s9])
  · subst eE; subst eh; rw [xk_A] at e1
    rcases p2 with ⟨-, e2⟩ | ⟨k9, hk9, eu9, ev, -⟩
    · obtain ⟨M2, a2⟩ := M.up e2
      exact fin_mk T O a2 M2 B.next e1 (by omega) (fun q => by omega)
    · exact absurd ⟨k9, hk9, eu9⟩ hno
theorem st_heap {G : ah_G} {h h1 h2 : ah_H} {x y o q : Nat} {n pm zh rf c pt lc gv un k0 : Nat} {f z : Nat → Nat} {g : Nat → Nat → Nat} {gh : Nat → Nat} {D : Nat → hDt} {lat : Option (Nat × (Nat → List Nat))} {A : Nat → Nat} {ln bb hh la mp sd rc pr th sm : Nat → Nat} {pc : Nat → Int32} {pu pa ua : Nat → Nat} {fo : Nat → Int64} {r1 r2 : Int32} {u u1 : Int32} (T : tp G h x n f pm z g zh gh rf c pt D lat) (M : md G h y A k0 n rf pm zh lc c pt gv un f ln bb hh la mp sd rc pr th sm pc pu pa ua) (B : tR q n pm zh c pt lc z g gh D lat ln bb hh la mp sd rc pr th sm pc pu pa) (O : h o = some (oC G fo)) (p1 : hpost G o fo (fun v h' => ∃ k, k < 4 ∧ u1 = nI k ∧ v = hpV c D u k ∧ h' = h) (fun E h' => E = eIA ∧ ¬ inR 4 u1 ∧ h' = h) r1 h1) (p2 : (fun v h' => (¬ inR 4 u1 ∧ h' = ah_up h1 y (20, .inr (8, mF A 1 n rf pm zh lc c pt gv un))) ∨ (∃ k, k < 4 ∧ u1 = nI k ∧ v = rwA (hpA sd rc pr th k) c u ∧ h' = ah_up h1 y (20, .inr (8, mF A 0 n rf pm zh lc c pt gv un)))) r2 h2) : fin G h2 x y o (q + 1) r1 r2 := by
  rcases p1 with ⟨e1, w, h0, ⟨k, hk, eu, ew, e0⟩, eh⟩ | ⟨E, ⟨eE, hno, eh⟩, e1⟩
  · subst e0
    obtain ⟨T1, O1, a1⟩ := cls_ok eh T agr.rf O
    have M1 := md_after M a1
    rcases p2 with ⟨m1, -⟩ | ⟨k9, hk9, eu9, ev, e2⟩
    · exact absurd ⟨k, hk, eu⟩ m1
    · obtain ⟨M2, a2⟩ := M1.up e2
      have ek : k9 = k := (nI_eq (by omega) (by omega)).mp (eu9.symm.trans eu)
      subst ek
      have hc := T.facts.2.2.2.2.2.2.2.2.1
      have hh9 := hp_all (k := k9) B.2.2.2.2.2.2.1 hc u hk
      exact fin_mk T1 O1 a2 M2 B.next e1 (by omega) (fun _ => by rw [upL0, ew, ev, hh9])
  · subst eE; subst eh; rw [xk_A] at e1
    rcases p2 with ⟨-, e2⟩ | ⟨k9, hk9, eu9, ev, -⟩
    · obtain ⟨M2, a2⟩ := M.up e2
      exact fin_mk T O a2 M2 B.next e1 (by omega) (fun q => by omega)
    · exact absurd ⟨k9, hk9, eu9⟩ hno
theorem st_make {G : ah_G} {h h1 h2 : ah_H} {x y o q : Nat} {n pm zh rf c pt lc gv un k0 : Nat} {f z : Nat → Nat} {g : Nat → Nat → Nat} {gh : Nat → Nat} {D : Nat → hDt} {lat : Option (Nat × (Nat → List Nat))} {A : Nat → Nat} {ln bb hh la mp sd rc pr th sm : Nat → Nat} {pc : Nat → Int32} {pu pa ua : Nat → Nat} {fo : Nat → Int64} {r1 r2 : Int32} {P : Nat} (hP : P = tParts f n (sumS f 0 n) (outs f n)) (T : tp G h x n f pm z g zh gh rf c pt D lat) (M : md G h y A k0 n rf pm zh lc c pt gv un f ln bb hh la mp sd rc pr th sm pc pu pa ua) (B : tR q n pm zh c pt lc z g gh D lat ln bb hh la mp sd rc pr th sm pc pu pa) (O : h o = some (oC G fo)) (p1 : hpost G o fo (fun v h' => P ≠ 0 ∧ v = nI P ∧ ∃ z' g', tp G h' x n f P z' g' zh gh (if 1 < P then (rf + 1) % 256 else rf) c pt D lat ∧ (∀ j, j < P → z' j = pZ f n (outs f n) P j ∧ g' j = pG f n (outs f n) P rf j) ∧ agr (fun t => ¬ cT t) h h') (fun E h' => E = eUO ∧ P = 0 ∧ h' = h) r1 h1) (p2 : (fun v h' => (P = 0 ∧ h' = ah_up h1 y (20, .inr (8, mF A 1 n rf pm zh lc c pt gv un))) ∨ (P ≠ 0 ∧ v = nI P ∧ ∃ (b2 l2 : Nat → Nat), h' y = some (20, .inr (8, mF A 0 n (if 1 < P then (rf + 1) % 256 else rf) P zh lc c pt gv un)) ∧ h' (A 8) = some (28, .inl (G.2.2.1 0, 36210, .inl (nA b2))) ∧ h' (A 7) = some (27, .inl (G.2.2.1 0, 255, .inl (nA l2))) ∧ agr (fun t => t ≠ 20 ∧ t ≠ 27 ∧ t ≠ 28) h1 h' ∧ mRows f n (outs f n) P rf P l2 b2)) r2 h2) : fin G h2 x y o (q + 1) r1 r2 := by
  rcases p1 with ⟨e1, w, h0, ⟨p0, ew, z9, g9, t0, rows, a0⟩, eh⟩ | ⟨E, ⟨eE, hno, eh⟩, e1⟩
  · obtain ⟨T1, O1, a1⟩ := cls_ok eh t0 a0 O
    have M1 := md_after M a1
    rcases p2 with ⟨m1, -⟩ | ⟨-, ev, b2, l2, gy, g8, g7, ag, mr⟩
    · exact absurd m1 p0
    · obtain ⟨M2, a2⟩ := M1.mk gy g8 g7 (ag.weak (fun t q => by omega))
      obtain ⟨b1, b2, b3, b⟩ := B
      refine fin_mk T1 O1 a2 M2 ⟨by omega, by omega, fun j hj => ?_, b⟩ e1 (by omega) (fun _ => by rw [upL0, ew, ev])
      obtain ⟨r1, r2⟩ := mr j hj
      obtain ⟨s1, s2⟩ := rows j hj
      exact ⟨r1.trans s1.symm, fun i hi => by rw [s2]; exact r2 i (by rw [r1, ← s1]; exact hi)⟩
  · subst eE; subst eh; rw [xk_U] at e1
    rcases p2 with ⟨-, e2⟩ | ⟨m1, -⟩
    · obtain ⟨M2, a2⟩ := M.up e2
      exact fin_mk T O a2 M2 B.next e1 (by omega) (fun q => by omega)
    · exact absurd hno m1
theorem st_alter {G : ah_G} {h h1 h2 : ah_H} {x y o q : Nat} {n pm zh rf c pt lc gv un k0 : Nat} {f z : Nat → Nat} {g : Nat → Nat → Nat} {gh : Nat → Nat} {D : Nat → hDt} {lat : Option (Nat × (Nat → List Nat))} {A : Nat → Nat} {ln bb hh la mp sd rc pr th sm : Nat → Nat} {pc : Nat → Int32} {pu pa ua : Nat → Nat} {fo : Nat → Int64} {r1 r2 : Int32} {u i b9 : Int32} (T : tp G h x n f pm z g zh gh rf c pt D lat) (M : md G h y A k0 n rf pm zh lc c pt gv un f ln bb hh la mp sd rc pr th sm pc pu pa ua) (B : tR q n pm zh c pt lc z g gh D lat ln bb hh la mp sd rc pr th sm pc pu pa) (O : h o = some (oC G fo)) (p1 : hpost G o fo (fun v h' => ∃ j k b, j < pm ∧ u = nI j ∧ k < z j ∧ i = nI k ∧ b < 256 ∧ b9 = nI b ∧ v = nI (g j k) ∧ tp G h' x n f pm z (rowU g j k b) zh gh rf c pt D lat ∧ agr (fun t => ¬ cT t) h h') (fun E h' => E = eIA ∧ ¬ altOk pm z u i b9 ∧ h' = h) r1 h1) (p2 : (fun v h' => (¬ altOk pm ln u i b9 ∧ h' = ah_up h1 y (20, .inr (8, mF A 1 n rf pm zh lc c pt gv un))) ∨ (∃ j k b, j < pm ∧ u = nI j ∧ k < ln j ∧ i = nI k ∧ b < 256 ∧ b9 = nI b ∧ v = nI (bb (142 * j + k)) ∧ h' = ah_up (ah_up h1 y (20, .inr (8, mF A 0 n rf pm zh lc c pt gv un))) (A 8) (28, .inl (G.2.2.1 0, 36210, .inl (nA (gU bb (142 * j + k) b)))))) r2 h2) : fin G h2 x y o (q + 1) r1 r2 := by
  rcases p1 with ⟨e1, w, h0, ⟨j, k, b, hj, eu, hk, ei, hb, eb, ew, t0, a0⟩, eh⟩ | ⟨E, ⟨eE, hno, eh⟩, e1⟩
  · obtain ⟨T1, O1, a1⟩ := cls_ok eh t0 a0 O
    have M1 := md_after M a1
    have hpm := T.facts.2.2.2.1
    have hz := (T.facts.2.2.2.2.1 j hj).1
    obtain ⟨r9, s9⟩ := B.2.2.1 j hj
    rcases p2 with ⟨m1, -⟩ | ⟨j9, k9, b8, hj9, eu9, hk9, ei9, hb9, eb9, ev, e2⟩
    · exact absurd ⟨j, hj, eu, ⟨k, by omega, ei⟩, b, hb, eb⟩ m1
    · have ej : j9 = j := (nI_eq (by omega) (by omega)).mp (eu9.symm.trans eu)
      subst ej
      have ek : k9 = k := (nI_eq (by omega) (by omega)).mp (ei9.symm.trans ei)
      subst ek
      have eb : b8 = b := (nI_eq (by omega) (by omega)).mp (eb9.symm.trans eb)
      subst eb
      obtain ⟨Ma, aa⟩ := M1.up rfl
      obtain ⟨M2, a2⟩ := Ma.up8 e2
      obtain ⟨b1, b2, b3, b⟩ := B
      refine fin_mk T1 O1 (aa.tr a2) M2 ⟨by omega, by omega, fun j hj => ?_, b⟩ e1 (by omega) (fun _ => by rw [upL0, ew, ev, s9 k9 hk])
      obtain ⟨r1, r2⟩ := b3 j hj
      have hz9 := (T.facts.2.2.2.2.1 j hj).1
      refine ⟨r1, fun i hi => ?_⟩
      unfold rowU
      by_cases q : j = j9
      · subst q
        rw [if_pos rfl]
        by_cases q : i = k9
        · subst q; rw [gU_s, gU_s]
        · rw [gU_n q, gU_n (by omega)]; exact r2 i hi
      · rw [if_neg q, gU_n (by omega)]; exact r2 i hi
  · subst eE; subst eh; rw [xk_A] at e1
    rcases p2 with ⟨-, e2⟩ | ⟨j9, k9, b8, hj9, eu9, hk9, ei9, hb9, eb9, -⟩
    · obtain ⟨M2, a2⟩ := M.up e2
      exact fin_mk T O a2 M2 B.next e1 (by omega) (fun q => by omega)
    · exact absurd ⟨j9, hj9, eu9, ⟨k9, by rw [← (B.2.2.1 j9 hj9).1]; exact hk9, ei9⟩, b8, hb9, eb9⟩ hno
theorem st_feed {G : ah_G} {h h1 h2 : ah_H} {x y o q : Nat} {n pm zh rf c pt lc gv un k0 : Nat} {f z : Nat → Nat} {g : Nat → Nat → Nat} {gh : Nat → Nat} {D : Nat → hDt} {lat : Option (Nat × (Nat → List Nat))} {A : Nat → Nat} {ln bb hh la mp sd rc pr th sm : Nat → Nat} {pc : Nat → Int32} {pu pa ua : Nat → Nat} {fo : Nat → Int64} {r1 r2 : Int32} {wv : Int64} {u : Int32} (T : tp G h x n f pm z g zh gh rf c pt D lat) (M : md G h y A k0 n rf pm zh lc c pt gv un f ln bb hh la mp sd rc pr th sm pc pu pa ua) (B : tR q n pm zh c pt lc z g gh D lat ln bb hh la mp sd rc pr th sm pc pu pa) (O : h o = some (oC G fo)) (p1 : hpost G o fo (fun v h' => ∃ k, k < 9 ∧ u = nI k ∧ zh + k ≤ 200 ∧ v = nI (zh + k) ∧ tp G h' x n f pm z g (zh + k) (fdG gh zh wv k) rf c pt D lat ∧ agr (fun t => ¬ cT t) h h') (fun E h' => ((E = eIA ∧ ¬ inR 9 u) ∨ (E = eIS ∧ ∃ k, k < 9 ∧ u = nI k ∧ 200 < zh + k)) ∧ h' = h) r1 h1) (p2 : (fun v h' => (¬ inR 9 u ∧ h' = ah_up h1 y (20, .inr (8, mF A 1 n rf pm zh lc c pt gv un))) ∨ ((∃ k, k < 9 ∧ u = nI k ∧ 200 < zh + k) ∧ h' = ah_up h1 y (20, .inr (8, mF A 2 n rf pm zh lc c pt gv un))) ∨ (∃ k, k < 9 ∧ u = nI k ∧ zh + k ≤ 200 ∧ v = nI (zh + k) ∧ h' y = some (20, .inr (8, mF A 0 n rf pm (zh + k) lc c pt gv un)) ∧ h' (A 10) = some (30, .inl (G.2.2.1 0, 200, .inl (nA (fdG hh zh wv k)))) ∧ agr (fun t => t ≠ 20 ∧ t ≠ 30) h1 h')) r2 h2) : fin G h2 x y o (q + 1) r1 r2 := by
  rcases p1 with ⟨e1, w, h0, ⟨k, hk, eu, hz, ew, t0, a0⟩, eh⟩ | ⟨E, ⟨⟨eE, hno⟩ | ⟨eE, kx, hkx, eux, hzx⟩, eh⟩, e1⟩
  · obtain ⟨T1, O1, a1⟩ := cls_ok eh t0 a0 O
    have M1 := md_after M a1
    rcases p2 with ⟨m1, -⟩ | ⟨⟨k9, hk9, eu9, m1⟩, -⟩ | ⟨k9, hk9, eu9, -, ev, gy, g10, ag⟩
    · exact absurd ⟨k, hk, eu⟩ m1
    · have ek : k9 = k := (nI_eq (by omega) (by omega)).mp (eu9.symm.trans eu)
      omega
    · have ek : k9 = k := (nI_eq (by omega) (by omega)).mp (eu9.symm.trans eu)
      subst ek
      obtain ⟨M2, a2⟩ := M1.fd gy g10 ag
      obtain ⟨b1, b2, b3, b4, b5, b⟩ := B
      exact fin_mk T1 O1 a2 M2 ⟨by omega, by omega, b3, fun i hi => fdG_cg b4 k9 i hi, fun i => fdG_lt b5 k9 i, b⟩ e1 (by omega) (fun _ => by rw [upL0, ew, ev])
  · subst eE; subst eh; rw [xk_A] at e1
    rcases p2 with ⟨-, e2⟩ | ⟨⟨k9, hk9, eu9, m1⟩, -⟩ | ⟨k9, hk9, eu9, -⟩
    · obtain ⟨M2, a2⟩ := M.up e2
      exact fin_mk T O a2 M2 B.next e1 (by omega) (fun q => by omega)
    · exact absurd ⟨k9, hk9, eu9⟩ hno
    · exact absurd ⟨k9, hk9, eu9⟩ hno
  · subst eE; subst eh; rw [xk_S] at e1
    rcases p2 with ⟨m1, -⟩ | ⟨-, e2⟩ | ⟨k9, hk9, eu9, m3, -⟩
    · exact absurd ⟨kx, hkx, eux⟩ m1
    · obtain ⟨M2, a2⟩ := M.up e2
      exact fin_mk T O a2 M2 B.next e1 (by omega) (fun q => by omega)
    · have ek : k9 = kx := (nI_eq (by omega) (by omega)).mp (eu9.symm.trans eux)
      omega
theorem st_forget {G : ah_G} {h h1 h2 : ah_H} {x y o q : Nat} {n pm zh rf c pt lc gv un k0 : Nat} {f z : Nat → Nat} {g : Nat → Nat → Nat} {gh : Nat → Nat} {D : Nat → hDt} {lat : Option (Nat × (Nat → List Nat))} {A : Nat → Nat} {ln bb hh la mp sd rc pr th sm : Nat → Nat} {pc : Nat → Int32} {pu pa ua : Nat → Nat} {fo : Nat → Int64} {r1 r2 : Int32} {u0 : Int32} (T : tp G h x n f pm z g zh gh rf c pt D lat) (M : md G h y A k0 n rf pm zh lc c pt gv un f ln bb hh la mp sd rc pr th sm pc pu pa ua) (B : tR q n pm zh c pt lc z g gh D lat ln bb hh la mp sd rc pr th sm pc pu pa) (O : h o = some (oC G fo)) (p1 : hpost G o fo (fun v h' => ∃ s9, s9 < 1000 ∧ u0 = nI s9 ∧ v = nI (c - (drp s9 c (c, D)).1) ∧ tp G h' x n f pm z g zh gh rf ((drp s9 c (c, D)).1) pt ((drp s9 c (c, D)).2) lat ∧ agr (fun t => ¬ cT t) h h') (fun E h' => E = eIA ∧ ¬ inR 1000 u0 ∧ h' = h) r1 h1) (p2 : (fun v h' => (¬ inR 1000 u0 ∧ h' = ah_up h1 y (20, .inr (8, mF A 1 n rf pm zh lc c pt gv un))) ∨ (∃ s9, s9 < 1000 ∧ u0 = nI s9 ∧ v = nI (c - (drp s9 c (c, D)).1) ∧ ∃ (mp' sd' rc' pr' th' sm' : Nat → Nat), HR (drp s9 c (c, D)).1 (drp s9 c (c, D)).2 mp' sd' rc' pr' th' sm' pc pu (drp s9 c (c, D)).1 ∧ h' y = some (20, .inr (8, mF A 0 n rf pm zh lc ((drp s9 c (c, D)).1) pt gv un)) ∧ h' (A 14) = some (34, .inl (G.2.2.1 0, 16, .inl (nA mp'))) ∧ h' (A 15) = some (35, .inl (G.2.2.1 0, 16, .inl (nA sd'))) ∧ h' (A 16) = some (36, .inl (G.2.2.1 0, 16, .inl (nA rc'))) ∧ h' (A 17) = some (37, .inl (G.2.2.1 0, 16, .inl (nA pr'))) ∧ h' (A 18) = some (38, .inl (G.2.2.1 0, 16, .inl (nA th'))) ∧ h' (A 19) = some (39, .inl (G.2.2.1 0, 16, .inl (nA sm'))) ∧ agr (fun t => t ≠ 20 ∧ ¬ (34 ≤ t ∧ t ≤ 39)) h1 h')) r2 h2) : fin G h2 x y o (q + 1) r1 r2 := by
  rcases p1 with ⟨e1, w, h0, ⟨s9, hs, eu, ew, t0, a0⟩, eh⟩ | ⟨E, ⟨eE, hno, eh⟩, e1⟩
  · obtain ⟨T1, O1, a1⟩ := cls_ok eh t0 a0 O
    have M1 := md_after M a1
    rcases p2 with ⟨m1, -⟩ | ⟨s8, hs8, eu8, ev, mp9, sd9, rc9, pr9, th9, sm9, hr, gy, g14, g15, g16, g17, g18, g19, ag⟩
    · exact absurd ⟨s9, hs, eu⟩ m1
    · have ek : s8 = s9 := (nI_eq (by omega) (by omega)).mp (eu8.symm.trans eu)
      subst ek
      obtain ⟨M2, a2⟩ := M1.fg gy g14 g15 g16 g17 g18 g19 (ag.weak (fun t q => by omega))
      obtain ⟨b1, b2, b3, b4, b5, b6, b7, b8, b9⟩ := B
      exact fin_mk T1 O1 a2 M2 ⟨by omega, by omega, b3, b4, b5, b6, hr, uq_drp s8 c (c, D) (Nat.le_refl c) b8, b9⟩ e1 (by omega) (fun _ => by rw [upL0, ew, ev])
  · subst eE; subst eh; rw [xk_A] at e1
    rcases p2 with ⟨-, e2⟩ | ⟨s8, hs8, eu8, -⟩
    · obtain ⟨M2, a2⟩ := M.up e2
      exact fin_mk T O a2 M2 B.next e1 (by omega) (fun q => by omega)
    · exact absurd ⟨s8, hs8, eu8⟩ hno
theorem st_take {G : ah_G} {h h1 h2 : ah_H} {x y o q : Nat} {n pm zh rf c pt lc gv un k0 : Nat} {f z : Nat → Nat} {g : Nat → Nat → Nat} {gh : Nat → Nat} {D : Nat → hDt} {lat : Option (Nat × (Nat → List Nat))} {A : Nat → Nat} {ln bb hh la mp sd rc pr th sm : Nat → Nat} {pc : Nat → Int32} {pu pa ua : Nat → Nat} {fo : Nat → Int64} {r1 r2 : Int32} {u0 u : Int32} (T : tp G h x n f pm z g zh gh rf c pt D lat) (M : md G h y A k0 n rf pm zh lc c pt gv un f ln bb hh la mp sd rc pr th sm pc pu pa ua) (B : tR q n pm zh c pt lc z g gh D lat ln bb hh la mp sd rc pr th sm pc pu pa) (O : h o = some (oC G fo)) (p1 : hpost G o fo (fun v h' => ∃ j s9, j < pm ∧ u = nI j ∧ s9 < 1000 ∧ u0 = nI s9 ∧ ∃ (c' pt' : Nat) (D' : Nat → hDt) (lt : Option (Nat × (Nat → List Nat))), accR c pt D (g j) (z j) s9 v c' pt' D' lt ∧ tp G h' x n f pm z g zh gh rf c' pt' D' (lt.or lat) ∧ agr (fun t => ¬ cT t) h h') (fun E h' => E = eIA ∧ ¬ (inR 1000 u0 ∧ inR pm u) ∧ h' = h) r1 h1) (p2 : (fun v h' => (¬ (inR 1000 u0 ∧ inR pm u) ∧ h' = ah_up h1 y (20, .inr (8, mF A 1 n rf pm zh lc c pt gv un))) ∨ (∃ j s9, j < pm ∧ u = nI j ∧ s9 < 1000 ∧ u0 = nI s9 ∧ ∃ (c' pt' lc' un' : Nat) (D' : Nat → hDt) (lt : Option (Nat × (Nat → List Nat))) (la' mp' sd' rc' pr' th' sm' : Nat → Nat) (pc' : Nat → Int32) (pu' ua' : Nat → Nat), accR c pt D (cpF pa 0 (fun k => bb (142 * j + k)) (ln j)) (ln j) s9 v c' pt' D' lt ∧ HR c' D' mp' sd' rc' pr' th' sm' pc' pu' c' ∧ (lt = none → lc' = lc ∧ la' = la) ∧ (∀ x, lt = some x → lrel x lc' la') ∧ h' y = some (20, .inr (8, mF A 0 n rf pm zh lc' c' pt' (ln j) un')) ∧ h' (A 12) = some (32, .inl (G.2.2.1 0, 40800, .inl (nA la'))) ∧ h' (A 14) = some (34, .inl (G.2.2.1 0, 16, .inl (nA mp'))) ∧ h' (A 15) = some (35, .inl (G.2.2.1 0, 16, .inl (nA sd'))) ∧ h' (A 16) = some (36, .inl (G.2.2.1 0, 16, .inl (nA rc'))) ∧ h' (A 17) = some (37, .inl (G.2.2.1 0, 16, .inl (nA pr'))) ∧ h' (A 18) = some (38, .inl (G.2.2.1 0, 16, .inl (nA th'))) ∧ h' (A 19) = some (39, .inl (G.2.2.1 0, 16, .inl (nA sm'))) ∧ h' (A 21) = some (41, .inl (G.2.2.1 0, 4080, .inl pc')) ∧ h' (A 22) = some (42, .inl (G.2.2.1 0, 652800, .inl (nA pu'))) ∧ h' (A 26) = some (46, .inl (G.2.2.1 0, 200, .inl (nA ua'))) ∧ h' (A 24) = some (44, .inl (G.2.2.1 0, 200, .inl (nA (cpF pa 0 (fun k => bb (142 * j + k)) (ln j))))) ∧ agr (fun t => t ≠ 20 ∧ t ≠ 32 ∧ ¬ (34 ≤ t ∧ t ≤ 39) ∧ t ≠ 41 ∧ t ≠ 42 ∧ t ≠ 46 ∧ t ≠ 44) h1 h')) r2 h2) : fin G h2 x y o (q + 1) r1 r2 := by
  rcases p1 with ⟨e1, w, h0, ⟨j, s9, hj, eu, hs, eu0, c9, pt9, D9, lt9, ac, t0, a0⟩, eh⟩ | ⟨E, ⟨eE, hno, eh⟩, e1⟩
  · obtain ⟨T1, O1, a1⟩ := cls_ok eh t0 a0 O
    have M1 := md_after M a1
    obtain ⟨-, -, -, hpm, hz, -, -, -, hc, -⟩ := T.facts
    obtain ⟨hz1, hz2⟩ := hz j hj
    obtain ⟨b1, b2, b3, b4, b5, b6, b7, b8, b9⟩ := B
    obtain ⟨r9, r8⟩ := b3 j hj
    rcases p2 with ⟨m1, -⟩ | ⟨j8, s8, hj8, eu8, hs8, eu08, c8, pt8, lc8, un8, D8, lt8, la8, mp8, sd8, rc8, pr8, th8, sm8, pc8, pu8, ua8, ac8, hr, ln0, ln1, gy, g12, g14, g15, g16, g17, g18, g19, g21, g22, g26, g24, ag⟩
    · exact absurd ⟨⟨s9, hs, eu0⟩, j, hj, eu⟩ m1
    · have ej : j8 = j := (nI_eq (by omega) (by omega)).mp (eu8.symm.trans eu)
      subst ej
      have es : s8 = s9 := (nI_eq (by omega) (by omega)).mp (eu08.symm.trans eu0)
      subst es
      rw [r9] at ac8
      have cg : ∀ i, i < z j8 → cpF pa 0 (fun k => bb (142 * j8 + k)) (z j8) i = g j8 i := fun i hi => by
        have := cpF_in (dst := pa) (b := 0) (src := fun k => bb (142 * j8 + k)) hi
        rw [Nat.zero_add] at this
        rw [this]; exact r8 i hi
      obtain ⟨v1, v2, v3, v4, v5⟩ := acc_det ac (acc_cong cg ac8)
      subst v2; subst v3; subst v4
      obtain ⟨M2, a2⟩ := M1.rd gy g12 g14 g15 g16 g17 g18 g19 g21 g22 g26 g24 (ag.weak (fun t q => by omega))
      have hpt := acc_pt ac
      have huq := uq_acc b8 hc ac
      refine fin_mk T1 O1 a2 M2 ⟨by omega, by omega, b3, b4, b5, cpF_lt b6 (fun k hk => ?_), hr.eqD (fun i => eqS (v5 i)), huq, b9.or ln0 ln1⟩ e1 (by omega) (fun _ => by rw [upL0, v1])
      show bb (142 * j8 + k) < 256
      rw [r8 k (by omega)]; exact hz2 k
  · subst eE; subst eh; rw [xk_A] at e1
    rcases p2 with ⟨-, e2⟩ | ⟨j8, s8, hj8, eu8, hs8, eu08, -⟩
    · obtain ⟨M2, a2⟩ := M.up e2
      exact fin_mk T O a2 M2 B.next e1 (by omega) (fun q => by omega)
    · exact absurd ⟨⟨s8, hs8, eu08⟩, j8, hj8, eu8⟩ hno
theorem st_read {G : ah_G} {h h1 h2 : ah_H} {x y o q : Nat} {n pm zh rf c pt lc gv un k0 : Nat} {f z : Nat → Nat} {g : Nat → Nat → Nat} {gh : Nat → Nat} {D : Nat → hDt} {lat : Option (Nat × (Nat → List Nat))} {A : Nat → Nat} {ln bb hh la mp sd rc pr th sm : Nat → Nat} {pc : Nat → Int32} {pu pa ua : Nat → Nat} {fo : Nat → Int64} {r1 r2 : Int32} {u0 : Int32} (T : tp G h x n f pm z g zh gh rf c pt D lat) (M : md G h y A k0 n rf pm zh lc c pt gv un f ln bb hh la mp sd rc pr th sm pc pu pa ua) (B : tR q n pm zh c pt lc z g gh D lat ln bb hh la mp sd rc pr th sm pc pu pa) (O : h o = some (oC G fo)) (p1 : hpost G o fo (fun v h' => ∃ s9, s9 < 1000 ∧ u0 = nI s9 ∧ ∃ (c' pt' : Nat) (D' : Nat → hDt) (lt : Option (Nat × (Nat → List Nat))), accR c pt D (gh) zh s9 v c' pt' D' lt ∧ tp G h' x n f pm z g 0 (fun _ => 0) rf c' pt' D' (lt.or lat) ∧ agr (fun t => ¬ cT t) h h') (fun E h' => E = eIA ∧ ¬ inR 1000 u0 ∧ h' = h) r1 h1) (p2 : (fun v h' => (¬ inR 1000 u0 ∧ h' = ah_up h1 y (20, .inr (8, mF A 1 n rf pm zh lc c pt gv un))) ∨ (∃ s9, s9 < 1000 ∧ u0 = nI s9 ∧ ∃ (c' pt' lc' un' : Nat) (D' : Nat → hDt) (lt : Option (Nat × (Nat → List Nat))) (la' mp' sd' rc' pr' th' sm' : Nat → Nat) (pc' : Nat → Int32) (pu' ua' : Nat → Nat), accR c pt D (cpF pa 0 hh zh) zh s9 v c' pt' D' lt ∧ HR c' D' mp' sd' rc' pr' th' sm' pc' pu' c' ∧ (lt = none → lc' = lc ∧ la' = la) ∧ (∀ x, lt = some x → lrel x lc' la') ∧ h' y = some (20, .inr (8, mF A 0 n rf pm 0 lc' c' pt' zh un')) ∧ h' (A 12) = some (32, .inl (G.2.2.1 0, 40800, .inl (nA la'))) ∧ h' (A 14) = some (34, .inl (G.2.2.1 0, 16, .inl (nA mp'))) ∧ h' (A 15) = some (35, .inl (G.2.2.1 0, 16, .inl (nA sd'))) ∧ h' (A 16) = some (36, .inl (G.2.2.1 0, 16, .inl (nA rc'))) ∧ h' (A 17) = some (37, .inl (G.2.2.1 0, 16, .inl (nA pr'))) ∧ h' (A 18) = some (38, .inl (G.2.2.1 0, 16, .inl (nA th'))) ∧ h' (A 19) = some (39, .inl (G.2.2.1 0, 16, .inl (nA sm'))) ∧ h' (A 21) = some (41, .inl (G.2.2.1 0, 4080, .inl pc')) ∧ h' (A 22) = some (42, .inl (G.2.2.1 0, 652800, .inl (nA pu'))) ∧ h' (A 26) = some (46, .inl (G.2.2.1 0, 200, .inl (nA ua'))) ∧ h' (A 24) = some (44, .inl (G.2.2.1 0, 200, .inl (nA (cpF pa 0 hh zh)))) ∧ agr (fun t => t ≠ 20 ∧ t ≠ 32 ∧ ¬ (34 ≤ t ∧ t ≤ 39) ∧ t ≠ 41 ∧ t ≠ 42 ∧ t ≠ 46 ∧ t ≠ 44) h1 h')) r2 h2) : fin G h2 x y o (q + 1) r1 r2 := by
  rcases p1 with ⟨e1, w, h0, ⟨s9, hs, eu0, c9, pt9, D9, lt9, ac, t0, a0⟩, eh⟩ | ⟨E, ⟨eE, hno, eh⟩, e1⟩
  · obtain ⟨T1, O1, a1⟩ := cls_ok eh t0 a0 O
    have M1 := md_after M a1
    obtain ⟨-, -, -, hpm, hz, -, -, -, hc, -⟩ := T.facts
    obtain ⟨b1, b2, b3, b4, b5, b6, b7, b8, b9⟩ := B
    rcases p2 with ⟨m1, -⟩ | ⟨s8, hs8, eu08, c8, pt8, lc8, un8, D8, lt8, la8, mp8, sd8, rc8, pr8, th8, sm8, pc8, pu8, ua8, ac8, hr, ln0, ln1, gy, g12, g14, g15, g16, g17, g18, g19, g21, g22, g26, g24, ag⟩
    · exact absurd ⟨s9, hs, eu0⟩ m1
    · have es : s8 = s9 := (nI_eq (by omega) (by omega)).mp (eu08.symm.trans eu0)
      subst es
      have cg : ∀ i, i < zh → cpF pa 0 hh zh i = gh i := fun i hi => by
        have := cpF_in (dst := pa) (b := 0) (src := hh) hi
        rw [Nat.zero_add] at this
        rw [this]; exact (b4 i hi).symm
      obtain ⟨v1, v2, v3, v4, v5⟩ := acc_det ac (acc_cong cg ac8)
      subst v2; subst v3; subst v4
      obtain ⟨M2, a2⟩ := M1.rd gy g12 g14 g15 g16 g17 g18 g19 g21 g22 g26 g24 (ag.weak (fun t q => by omega))
      have hpt := acc_pt ac
      have huq := uq_acc b8 hc ac
      exact fin_mk T1 O1 a2 M2 ⟨by omega, by omega, b3, fun i hi => absurd hi (Nat.not_lt_zero i), b5, cpF_lt b6 (fun k _ => b5 k), hr.eqD (fun i => eqS (v5 i)), huq, b9.or ln0 ln1⟩ e1 (by omega) (fun _ => by rw [upL0, v1])
  · subst eE; subst eh; rw [xk_A] at e1
    rcases p2 with ⟨-, e2⟩ | ⟨s8, hs8, eu08, -⟩
    · obtain ⟨M2, a2⟩ := M.up e2
      exact fin_mk T O a2 M2 B.next e1 (by omega) (fun q => by omega)
    · exact absurd ⟨s8, hs8, eu08⟩ hno
theorem st_clear {G : ah_G} {h h1 h2 : ah_H} {x y o q : Nat} {n pm zh rf c pt lc gv un k0 : Nat} {f z : Nat → Nat} {g : Nat → Nat → Nat} {gh : Nat → Nat} {D : Nat → hDt} {lat : Option (Nat × (Nat → List Nat))} {A : Nat → Nat} {ln bb hh la mp sd rc pr th sm : Nat → Nat} {pc : Nat → Int32} {pu pa ua : Nat → Nat} {fo : Nat → Int64} {r1 r2 : Int32} (T : tp G h x n f pm z g zh gh rf c pt D lat) (M : md G h y A k0 n rf pm zh lc c pt gv un f ln bb hh la mp sd rc pr th sm pc pu pa ua) (B : tR q n pm zh c pt lc z g gh D lat ln bb hh la mp sd rc pr th sm pc pu pa) (O : h o = some (oC G fo)) (p1 : (fun v h' => v = nI n ∧ tp G h' x 0 f pm z g zh gh rf c pt D lat ∧ agr (fun t => ¬ cT t) h h') r1 h1) (p2 : (fun v h' => v = nI n ∧ h' = ah_up h1 y (20, .inr (8, mF A 0 0 rf pm zh lc c pt gv un))) r2 h2) : r1 = r2 ∧ tw G h2 x y (q + 1) 0 ∧ h2 o = some (oC G fo) := by
  obtain ⟨v1, T1, a0⟩ := p1
  obtain ⟨v2, e2⟩ := p2
  obtain ⟨M2, a2⟩ := (md_after M (a0.weak (fun t q => q.1))).up e2
  obtain ⟨b1, b2, b⟩ := B
  exact ⟨v1.trans v2.symm, tw_mk T1 (a0 _ _ _ (by unfold cT; omega) O) a2 M2 ⟨by omega, by omega, b⟩⟩
theorem st_unit {G : ah_G} {h h1 h2 : ah_H} {x y o q : Nat} {n pm zh rf c pt lc gv un k0 : Nat} {f z : Nat → Nat} {g : Nat → Nat → Nat} {gh : Nat → Nat} {D : Nat → hDt} {lat : Option (Nat × (Nat → List Nat))} {A : Nat → Nat} {ln bb hh la mp sd rc pr th sm : Nat → Nat} {pc : Nat → Int32} {pu pa ua : Nat → Nat} {fo : Nat → Int64} {r1 r2 : Int32} {u : Int32} (T : tp G h x n f pm z g zh gh rf c pt D lat) (M : md G h y A k0 n rf pm zh lc c pt gv un f ln bb hh la mp sd rc pr th sm pc pu pa ua) (B : tR q n pm zh c pt lc z g gh D lat ln bb hh la mp sd rc pr th sm pc pu pa) (O : h o = some (oC G fo)) (p1 : (fun v h' => v = latA lat u ∧ h' = h) r1 h1) (p2 : (fun v h' => v = rwA la lc u ∧ h' = ah_up h1 y (20, .inr (8, mF A 0 n rf pm zh lc c pt gv un))) r2 h2) : r1 = r2 ∧ tw G h2 x y (q + 1) 0 ∧ h2 o = some (oC G fo) := by
  obtain ⟨v1, e1⟩ := p1
  obtain ⟨v2, e2⟩ := p2
  subst e1
  obtain ⟨M2, a2⟩ := M.up e2
  exact ⟨by rw [v1, v2]; exact B.2.2.2.2.2.2.2.2.a u, tw_mk T O a2 M2 B.next⟩