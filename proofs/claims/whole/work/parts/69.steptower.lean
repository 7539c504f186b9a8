/-! the step of the tower -/
section SF
variable {S S' : Nat → Int → Int} {Tw Tw' : Nat → Nat → Int → Int} {M M' : Nat → Int → Int} {P : Nat → Nat} {B : Int}
theorem st_tower (h : Rel S Tw M P B) (hB : 0 ≤ B) : stepI 86 127 [] S Tw M P B := by
  have h2 := h.le (show B ≤ B + 180 by omega)
  rw [Rel_6] at h2
  obtain ⟨g1, g2, g3, g4, g5, g6⟩ := h2
  obtain ⟨hx1, hx2⟩ := id g1
  have r0 : ∃ R : Nat → Int → Int, rd0 (dgF (S 1 1) (S 2) 1) R := ⟨fun c j => if c = 3 ∧ j = 3 then dgF (S 1 1) (S 2) 1 else if c = 4 then 5 else 0, rfl, rfl, rfl, fun _ _ _ => ⟨rfl, rfl, rfl⟩⟩
  obtain ⟨R, hR⟩ := r0
  unfold stepI
  refine s_X11_tower hx1 (fun z => ⟨_, rfl, ⟨_, _, _, rfl⟩, ?_⟩) (fun z y => ⟨_, rfl, ⟨_, _, _, rfl⟩, ?_⟩) (fun z y S1 T f1 f2 hT f3 => ⟨_, rfl, ⟨_, _, _, rfl⟩, ?_⟩) (fun z y S1 T S4 T2 f1 f2 hT f3 f4 f5 f6 f7 f8 f9 f10 f11 f12 f13 f14 f15 f16 f17 f18 => ⟨_, rfl, ⟨_, _, _, rfl⟩, ?_⟩)
  · exact s_X12_tower (R := R) hx1 hx2 (fun _ => hR) (fun _ M1 h1 => h.fin (fun _ _ _ => rfl) (fun _ _ => rfl) h1 rfl) (fun z2 _ _ _ => absurd z2 z) (fun z2 _ _ _ _ => absurd z2 z) (fun z2 _ _ _ _ => absurd z2 z)
  · exact s_X12_tower (R := R) hx1 hx2 (fun _ => hR) (fun z2 _ _ => absurd z z2) (fun _ _ M1 h1 => h.fin (fun _ _ _ => rfl) (fun _ _ => rfl) h1 rfl) (fun _ y2 _ _ _ => absurd y2 y) (fun _ y2 _ _ _ => absurd y2 y)
  · have hok := prL_ok hx1 11 2 S1 (by decide) (by decide) (rd0_ok y f2)
    rw [← hT] at hok
    refine s_X12_tower (R := S1) hx1 hx2 (fun _ => f2) (fun z2 _ _ => absurd z z2) (fun _ y2 _ _ => absurd y y2) (fun _ _ _ M1 h1 => h.fin (fun c y1 y2 => ?_) (fun _ _ => rfl) h1 rfl) (fun _ _ q => by rw [← hT] at q; exact absurd q f3)
    rw [hok.2.1 c y1, f1 c y1]
  · have hok := prL_ok hx1 11 2 S1 (by decide) (by decide) (rd0_ok y f2)
    rw [← hT] at hok
    refine s_X12_tower (R := S1) hx1 hx2 (fun _ => f2) (fun z2 _ _ => absurd z z2) (fun _ y2 _ _ => absurd y y2) (fun _ _ q => by rw [← hT] at q; exact absurd f3 q) (fun _ _ _ M1 hm => ?_)
    rw [← hT] at hm ⊢
    generalize T.2 = R2 at *
    refine ⟨by rw [f15], S4, T2, M1, P, rfl, ?_⟩
    obtain ⟨m0, ⟨m02, m035⟩, m4, m5, mk, mp, m17, m25, m180, m181⟩ := hm
    obtain ⟨r1, r2, r3, r4, r5⟩ := f4
    have sc : ∀ c, ¬ (3 ≤ c ∧ c ≤ 18) → c ≠ 30 → c ≠ 187 → S4 c = S c := fun c y1 y2 y3 => by rw [f5 c (by omega) y2 y3, hok.2.1 c (by omega), f1 c (by omega)]
    have e5 : S4 13 5 = R2 3 4 := f6
    have dg : ∀ p, 0 ≤ p → p < R2 3 4 → (0 ≤ R2 (7 + p.toNat) 0 ∧ R2 (7 + p.toNat) 0 ≤ R2 3 3 - 1) ∧ (0 ≤ R2 (7 + p.toNat) 1 ∧ R2 (7 + p.toNat) 1 ≤ 3) ∧ (0 ≤ R2 (7 + p.toNat) 2 ∧ R2 (7 + p.toNat) 2 ≤ 9) ∧ (R2 (7 + p.toNat) 2 ≤ R2 (7 + p.toNat) 3 ∧ R2 (7 + p.toNat) 3 ≤ 9) ∧ (1 ≤ R2 (7 + p.toNat) 4 ∧ R2 (7 + p.toNat) 4 ≤ 9) ∧ (1 ≤ R2 (7 + p.toNat) 5 ∧ R2 (7 + p.toNat) 5 ≤ 9) := fun p y1 y2 => by
      have d := r5 p.toNat (by omega)
      exact ⟨d 0 (by decide) (by decide), d 1 (by decide) (by decide), d 2 (by decide) (by decide), d 3 (by decide) (by decide), d 4 (by decide) (by decide), d 5 (by decide) (by decide)⟩
    have hp4 : pOk S4 := by
      refine ⟨by rw [e5]; exact r2.1, by rw [e5]; exact r2.2, fun p y1 y2 => ?_⟩
      rw [e5] at y2
      obtain ⟨k1, k2, k3, k4, k5⟩ := f7 p y1 y2
      obtain ⟨d0, d1, d2, d3, d4, d5⟩ := dg p y1 y2
      rw [k1, k2, k3, k4, k5]
      omega
    rw [Rel_6]
    refine ⟨g1.c (sc 1 (by decide) (by decide) (by decide)) (sc 2 (by decide) (by decide) (by decide)) m02 (m0 1 (by decide) (by decide) (by decide)), ⟨hp4, ?_, fun p y1 y2 => ?_⟩, ⟨⟨⟨?_, ?_, fun k a b => ?_, ?_⟩, fun p a b => ?_, fun p a b => ?_⟩, ⟨?_, ?_, fun k a b => ⟨?_, ?_, ?_⟩, fun p a b => ⟨?_, ?_, ?_⟩⟩⟩, ⟨g4.1, by rw [f8]; decide, by rw [f8, m25], fun i a b => by rw [f8] at b; omega⟩, fun s a b => ?_, g6.c (fun c a b => sc c (by omega) (by omega) (by omega)) m035 (fun c a b => m0 c (by omega) (by omega) (by omega))⟩
    · rw [e5, m5]
    · rw [m5] at y2
      obtain ⟨k1, k2, k3, k4, k5⟩ := f7 p y1 y2
      obtain ⟨⟨-, u1, u2, u3, u4, u5⟩, -⟩ := mp p y1 y2
      rw [k1, k2, k3, k4, k5, u1, u2, u3, u4, u5]
      exact ⟨rfl, rfl, rfl, rfl, rfl⟩
    · rw [f15]; exact r1.1
    · rw [f15]; exact r1.2
    · rw [f13, f14, f12 k a b]
      obtain ⟨-, y1, y2, y3⟩ := r4 k a b
      exact ⟨y1, y2, y3, Int.le_refl 0⟩
    · rw [f12 0 (by decide) (by decide), f12 1 (by decide) (by decide), f12 2 (by decide) (by decide), f12 3 (by decide) (by decide), f12 4 (by decide) (by decide)]
      omega
    · have a5 : p < 5 := by rw [e5] at b; omega
      have d0 := (dg p a (by omega)).1
      have d4 := (dg p a (by omega)).2.2.2.2.1
      have k4 := (f7 p a (by omega)).2.2.2.1
      rw [f17 p a (by omega), (f18 p a a5).1, (f18 p a a5).2, k4]
      omega
    · have d0 := (dg p a (by omega)).1
      rw [f17 p a (by omega), f15]
      omega
    · show M1 0 4 = _; rw [m4, f15]
    · show M1 0 17 = _; rw [m17, f16]
    · show M1 4 k = _; rw [(mk k a b).2.2, f12 k a b]
    · show M1 2 k = _; rw [(mk k a b).1, f13]
    · show M1 3 k = _; rw [(mk k a b).2.1, f14]
    · show M1 5 p = _; rw [(mp p a (by omega)).1.1, f17 p a (by omega)]
    · show M1 11 p = _; rw [(mp p a (by omega)).2.1, (f18 p a (by omega)).1]
    · show M1 12 p = _; rw [(mp p a (by omega)).2.2, (f18 p a (by omega)).2]
    · rcases (show s = 0 ∨ s = 1 by omega) with e | e
      · subst e
        rw [f9, m180]
        exact ⟨Or.inl rfl, rfl, fun q => absurd q (by decide)⟩
      · subst e
        rw [f10, m181]
        exact ⟨Or.inl rfl, rfl, fun q => absurd q (by decide)⟩
end SF
