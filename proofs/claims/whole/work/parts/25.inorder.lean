/-! what has been read is in order -/
def pQ (has : Nat → Bool) (p : pt) : Prop := ptOk p ∧ (p.2.1 = 0 ∨ p.2.1 = 1) ∧ (p.2.2.1 = 0 ∨ p.2.2.1 = 1 ∨ p.2.2.1 = 2) ∧ (p.2.2.1 = 2 → has p.2.2.2.toNatClampNeg = true)
theorem szI_in {c : Int32} (h : ¬ szI c = -1) : vp_in (szI c) 4 := by
  unfold szI at h ⊢
  split at h
  · rename_i z; rw [if_pos z]; exact v4_0
  · rename_i z; rw [if_neg z]
    split at h
    · rename_i z; rw [if_pos z]; exact v4_1
    · rename_i z; rw [if_neg z]
      split at h
      · rename_i z; rw [if_pos z]; exact v4_2
      · rename_i z; rw [if_neg z]
        split at h
        · rename_i z; rw [if_pos z]; exact v4_3
        · exact absurd rfl h
theorem n01 : ¬ (0 : Int32) = 1 := by decide
theorem n02 : ¬ (0 : Int32) = 2 := by decide
theorem n12 : ¬ (1 : Int32) = 2 := by decide
theorem n21 : ¬ (2 : Int32) = 1 := by decide
theorem bI_01 (p : Prop) : bI p = 0 ∨ bI p = 1 := by
  by_cases h : p
  · exact Or.inr (bI_t h)
  · exact Or.inl (bI_f h)
theorem rf_wf {t : Nat → Int32} {L sg a a1 : Int32} {has : Nat → Bool} {p : pt} (h : rf t L has sg a = (a1, some p)) : p.1 = sg ∧ pQ has p := by
  unfold rf at h
  split at h
  · injection h with h1 h2
    by_cases z : nbOk t L (skI t L (tkI t L a 107))
    · rw [cif_t z] at h2
      cases h2
      exact ⟨rfl, ⟨fun q => absurd q n01, fun q => absurd q n02⟩, bI_01 _, Or.inl rfl, fun q => absurd q n02⟩
    · rw [cif_f z] at h2
      cases h2
  · split at h
    · rename_i n1 n2
      injection h with h1 h2
      cases h2
      exact ⟨rfl, ⟨fun _ => szI_in n2, fun q => absurd q n12⟩, bI_01 _, Or.inr (Or.inl rfl), fun q => absurd q n12⟩
    · split at h
      · rename_i n1 n2 n3
        injection h with h1 h2
        cases h2
        exact ⟨rfl, ⟨fun q => absurd q n21, fun _ => vin_rule n3.1⟩, bI_01 _, Or.inr (Or.inr rfl), fun _ => n3.2⟩
      · cases h
theorem rsL_wf {t : Nat → Int32} {L : Int32} {has : Nat → Bool} : ∀ (n : Nat) {pr fc : Nat} {a a1 : Int32} {p0 : pt} {ps ps' : List pt}, rsL t L has n pr fc a (p0 :: ps) = (a1, some ps') → (∀ q ∈ ps, q.1 = 42 ∨ q.1 = 47 ∨ q.1 = 43 ∨ q.1 = 45) → (∀ q ∈ p0 :: ps, pQ has q) → ∃ ps2, ps' = p0 :: ps2 ∧ ps2.length ≤ ps.length + n ∧ (∀ q ∈ ps2, q.1 = 42 ∨ q.1 = 47 ∨ q.1 = 43 ∨ q.1 = 45) ∧ ∀ q ∈ p0 :: ps2, pQ has q
  | 0, pr, fc, a, a1, p0, ps, ps', h, h1, h2 => by
    cases h
    exact ⟨ps, rfl, by omega, h1, h2⟩
  | n + 1, pr, fc, a, a1, p0, ps, ps', h, h1, h2 => by
    rw [rsL_s] at h
    have key : ∀ {pr' fc' : Nat} {a9 : Int32} {p9 : pt}, rf t L has (chI t L (skI t L a)) (skI t L a + 1) = (a9, some p9) → (chI t L (skI t L a) = 42 ∨ chI t L (skI t L a) = 47 ∨ chI t L (skI t L a) = 43 ∨ chI t L (skI t L a) = 45) → rsL t L has n pr' fc' a9 (p0 :: ps ++ [p9]) = (a1, some ps') → ∃ ps2, ps' = p0 :: ps2 ∧ ps2.length ≤ ps.length + (n + 1) ∧ (∀ q ∈ ps2, q.1 = 42 ∨ q.1 = 47 ∨ q.1 = 43 ∨ q.1 = 45) ∧ ∀ q ∈ p0 :: ps2, pQ has q := by
      intro pr' fc' a9 p9 e1 e2 e3
      obtain ⟨f1, f2⟩ := rf_wf e1
      obtain ⟨ps2, g1, g2, g3', g4⟩ := rsL_wf n (ps := ps ++ [p9]) e3 (fun q hq => by
        rcases List.mem_append.mp hq with z | z
        · exact h1 q z
        · rw [List.mem_singleton.mp z, f1]; exact e2) (fun q hq => by
        rcases List.mem_cons.mp hq with z | z
        · rw [z]; exact h2 p0 List.mem_cons_self
        · rcases List.mem_append.mp z with z | z
          · exact h2 q (List.mem_cons_of_mem _ z)
          · rw [List.mem_singleton.mp z]; exact f2)
      exact ⟨ps2, g1, by simp at g2; omega, g3', g4⟩
    split at h
    · rename_i c1
      split at h
      · rename_i a9 p9 e
        exact key e (by rcases c1.1 with z | z <;> simp [z]) h
      · cases h
    · split at h
      · rename_i c0 c1
        split at h
        · rename_i a9 p9 e
          exact key e (by rcases c1.1 with z | z <;> simp [z]) h
        · cases h
      · cases h
        exact ⟨ps, rfl, by omega, h1, h2⟩
theorem rsum_wf {t : Nat → Int32} {L a a1 : Int32} {has : Nat → Bool} {ps : List pt} (h : rsum t L has a = (a1, some ps)) : ptsOk ps ∧ ∀ q ∈ ps, pQ has q := by
  unfold rsum at h
  split at h
  · rename_i a9 p e
    obtain ⟨f1, f2⟩ := rf_wf e
    obtain ⟨ps2, rfl, g2, g3', g4⟩ := rsL_wf 14 (ps := []) h (fun q hq => by cases hq) (fun q hq => by rw [List.mem_singleton.mp hq]; exact f2)
    exact ⟨⟨p, ps2, rfl, f1, by simpa using g2, g3', fun q hq => ⟨(g4 q hq).2.1, (g4 q hq).2.2.1⟩⟩, g4⟩
  · cases h
theorem rr_wf {t : Nat → Int32} {L a a1 c : Int32} {has : Nat → Bool} {ps : List pt} (h : rr t L has a = (a1, some (c, ps))) : ptsOk ps ∧ ∀ q ∈ ps, pQ has q := by
  unfold rr at h
  split at h
  · split at h
    · split at h
      · rename_i a9 ps9 e
        injection h with h1 h2
        split at h2
        · cases h2
          exact rsum_wf e
        · cases h2
      · cases h
    · cases h
  · cases h
theorem wfO_snoc {c : Int32} {ps : List pt} : ∀ {rs : List (Int32 × List pt)} {P : Nat → Prop}, wfO rs P → vp_in c 8 → ¬ (P c.toNatClampNeg ∨ hasL rs c.toNatClampNeg = true) → (∀ p ∈ ps, ptOk p ∧ (p.2.2.1 = 2 → P p.2.2.2.toNatClampNeg ∨ hasL rs p.2.2.2.toNatClampNeg = true)) → wfO (rs ++ [(c, ps)]) P
  | [], P, h, hc, hn, hp => ⟨hc, fun z => hn (Or.inl z), fun p h => ⟨(hp p h).1, fun z => ((hp p h).2 z).elim id (fun z => by simp [hasL] at z)⟩, trivial⟩
  | (c0, ps0) :: rs, P, h, hc, hn, hp => by
    obtain ⟨w1, w0, w2, w3⟩ := h
    have hL : ∀ j, (hasL ((c0, ps0) :: rs) j = true) = (j = c0.toNatClampNeg ∨ hasL rs j = true) := by
      intro j
      simp only [hasL, List.any_cons, Bool.or_eq_true, beq_iff_eq]
      exact propext ⟨fun z => z.imp Eq.symm id, fun z => z.imp Eq.symm id⟩
    refine ⟨w1, w0, w2, wfO_snoc w3 hc (fun z => hn ?_) (fun p h => ⟨(hp p h).1, fun z => ?_⟩)⟩
    · rw [hL]
      rcases z with (z | z) | z
      · exact Or.inl z
      · exact Or.inr (Or.inl z)
      · exact Or.inr (Or.inr z)
    · have := (hp p h).2 z
      rw [hL] at this
      rcases this with z | z | z
      · exact Or.inl (Or.inl z)
      · exact Or.inl (Or.inr z)
      · exact Or.inr z
def rsOk (rs : List (Int32 × List pt)) : Prop := wfO rs (fun _ => False) ∧ ∀ c ps, (c, ps) ∈ rs → ptsOk ps
theorem rsOk_snoc {t : Nat → Int32} {L a a1 : Int32} {rs : List (Int32 × List pt)} {c : Int32 × List pt} (h : rsOk rs) (hr : rr t L (hasL rs) a = (a1, some c)) : rsOk (rs ++ [c]) := by
  obtain ⟨cc, ps⟩ := c
  obtain ⟨w1, w2⟩ := rr_some hr
  obtain ⟨f1, f2⟩ := rr_wf hr
  refine ⟨wfO_snoc h.1 w1 (fun z => z.elim id (fun z => by rw [w2] at z; cases z)) (fun p hp => ⟨(f2 p hp).1, fun z => Or.inr ((f2 p hp).2.2.2 z)⟩), fun c' ps' hm => ?_⟩
  rcases List.mem_append.mp hm with z | z
  · exact h.2 c' ps' z
  · have := List.mem_singleton.mp z
    cases this
    exact f1
theorem rdL_wf {t : Nat → Int32} {L : Int32} {xs : List Int32} : ∀ (n : Nat) {a a1 : Int32} {rs : List (Int32 × List pt)} {q : List Int32 × List (Int32 × List pt)}, rdL t L xs n a rs = (a1, some q) → rsOk rs → q.1 = xs ∧ q.2.length ≤ rs.length + n ∧ rsOk q.2
  | 0, a, a1, rs, q, h, hr => by
    unfold rdL rdF at h
    injection h with h1 h2
    split at h2
    · cases h2; exact ⟨rfl, Nat.le_add_right _ _, hr⟩
    · cases h2
  | n + 1, a, a1, rs, q, h, hr => by
    rw [rdL_s] at h
    split at h
    · unfold rdF at h
      injection h with h1 h2
      split at h2
      · cases h2; exact ⟨rfl, Nat.le_add_right _ _, hr⟩
      · cases h2
    · split at h
      · rename_i a9 c9 e
        obtain ⟨f1, f2, f3⟩ := rdL_wf n h (rsOk_snoc hr e)
        exact ⟨f1, by simp at f2; omega, f3⟩
      · cases h
theorem rtL_wf {t : Nat → Int32} {L : Int32} : ∀ (n : Nat) {a a1 : Int32} {xs ys : List Int32}, rtL t L n a xs = (a1, some ys) → xs.length ≤ ys.length ∧ ys.length ≤ xs.length + n
  | 0, a, a1, xs, ys, h => by
    unfold rtL rtF at h
    injection h with h1 h2
    split at h2
    · cases h2; omega
    · cases h2
  | n + 1, a, a1, xs, ys, h => by
    rw [rtL_s] at h
    split at h
    · by_cases z : nbOk t L (skI t L a + 1)
      · rw [cif_t z] at h
        have := rtL_wf n h
        simp at this
        omega
      · rw [cif_f z] at h
        cases h
    · unfold rtF at h
      injection h with h1 h2
      split at h2
      · cases h2; omega
      · cases h2
theorem rd_wf {t : Nat → Int32} {L a1 d : Int32} {xs : List Int32} {rs : List (Int32 × List pt)} (h : rd t L = (a1, some (xs, rs))) : edOk (d, xs, rs) := by
  unfold rd at h
  split at h
  · rename_i a9 xs9 e
    have hx : 1 ≤ xs9.length ∧ xs9.length ≤ 8 := by
      unfold rtb at e
      split at e
      · by_cases z : nbOk t L (tkI t L 0 91)
        · rw [cif_t z] at e
          have := rtL_wf 7 e
          simp at this
          omega
        · rw [cif_f z] at e
          cases e
      · cases e
    split at h
    · rename_i a8 c8 e8
      obtain ⟨f1, f2, f3⟩ := rdL_wf 7 h (rsOk_snoc (rs := []) ⟨trivial, fun c ps hm => by cases hm⟩ e8)
      dsimp only at f1 f2 f3
      subst f1
      exact ⟨hx.1, hx.2, by show rs.length ≤ 8; simp at f2; omega, f3.1, f3.2⟩
    · cases h
  · cases h
