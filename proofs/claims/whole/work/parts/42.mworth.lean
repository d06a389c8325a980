/-! the reference reckons: its functions, and the worth of a rule -/
def lvO (o : Nat → Int32) (c a : Int32) : Nat → Int32 := if 0 ≤ o c.toNatClampNeg then o else upd o c.toNatClampNeg a
def lvW (o w : Nat → Int32) (c b : Int32) : Nat → Int32 := if 0 ≤ o c.toNatClampNeg then w else upd w c.toNatClampNeg b
def xM (sz v : Nat → Int32) (chg : Int32 → Option Int32) (p : pt) : Int32 := if p.2.2.1 = 1 then sz p.2.2.2.toNatClampNeg else if p.2.2.1 = 2 then (match chg p.2.2.2 with | some x => x | none => v p.2.2.2.toNatClampNeg) else p.2.2.2
def opM (chg : Int32 → Option Int32) (o : Nat → Int32) (p : pt) : Prop := p.2.2.1 = 2 ∧ chg p.2.2.2 = none ∧ 0 ≤ o p.2.2.2.toNatClampNeg
noncomputable def oM (chg : Int32 → Option Int32) (o : Nat → Int32) (c : Int32) (p : pt) : Nat → Int32 := cif (opM chg o p) (lvO o c (o p.2.2.2.toNatClampNeg)) o
noncomputable def wM (chg : Int32 → Option Int32) (o w : Nat → Int32) (c : Int32) (p : pt) : Nat → Int32 := cif (opM chg o p) (lvW o w c (w p.2.2.2.toNatClampNeg)) w
noncomputable def fM (n : Nat) (ns sz : Nat → Int32) (chg : Int32 → Option Int32) (v o w : Nat → Int32) (c : Int32) (p : pt) : Int32 × (Nat → Int32) × (Nat → Int32) :=
  if p.2.1 = 0 ∨ 0 ≤ oM chg o c p c.toNatClampNeg then (xM sz v chg p, oM chg o c p, wM chg o w c p)
  else if 0 ≤ xM sz v chg p ∧ xM sz v chg p ≤ nI n - 1 then (ns (xM sz v chg p).toNatClampNeg, oM chg o c p, wM chg o w c p)
  else (0, lvO (oM chg o c p) c c, lvW (oM chg o c p) (wM chg o w c p) c 1)
def rlM (chg : Int32 → Option Int32) (env : en3) (v o w : Nat → Int32) (x : Int32) : Prop := (∀ y, chg x = some y → env x.toNatClampNeg = (y, -1, 0)) ∧ (chg x = none → o x.toNatClampNeg = (env x.toNatClampNeg).2.1 ∧ ((env x.toNatClampNeg).2.1 = -1 ∨ 0 ≤ (env x.toNatClampNeg).2.1) ∧ ((env x.toNatClampNeg).2.1 = -1 → v x.toNatClampNeg = (env x.toNatClampNeg).1) ∧ (¬ (env x.toNatClampNeg).2.1 = -1 → w x.toNatClampNeg = (env x.toNatClampNeg).2.2))
theorem lvO_p {o : Nat → Int32} {c a : Int32} (h : 0 ≤ o c.toNatClampNeg) : lvO o c a = o := if_pos h
theorem lvO_n {o : Nat → Int32} {c a : Int32} (h : ¬ 0 ≤ o c.toNatClampNeg) : lvO o c a = upd o c.toNatClampNeg a := if_neg h
theorem lvW_p {o w : Nat → Int32} {c a : Int32} (h : 0 ≤ o c.toNatClampNeg) : lvW o w c a = w := if_pos h
theorem lvW_n {o w : Nat → Int32} {c a : Int32} (h : ¬ 0 ≤ o c.toNatClampNeg) : lvW o w c a = upd w c.toNatClampNeg a := if_neg h
theorem lvO_out {o : Nat → Int32} {c a : Int32} {j : Nat} (h : j ≠ c.toNatClampNeg) : lvO o c a j = o j := by
  unfold lvO
  split
  · rfl
  · exact upn h
theorem lvW_out {o w : Nat → Int32} {c a : Int32} {j : Nat} (h : j ≠ c.toNatClampNeg) : lvW o w c a j = w j := by
  unfold lvW
  split
  · rfl
  · exact upn h
theorem n1_lt {x : Int32} (h : x = -1) : ¬ 0 ≤ x := by rw [h]; decide
theorem ge_n1 {x : Int32} (h : 0 ≤ x) : ¬ x = -1 := fun z => n1_lt z h
section RCK
variable {n : Nat} {ns sz : Nat → Int32} {chg : Int32 → Option Int32} {v o w : Nat → Int32} {c : Int32} {p : pt} {env : en3}
theorem oM_out {j : Nat} (h : j ≠ c.toNatClampNeg) : oM chg o c p j = o j := by
  unfold oM
  by_cases h1 : opM chg o p
  · rw [cif_t h1, lvO_out h]
  · rw [cif_f h1]
theorem wM_out {j : Nat} (h : j ≠ c.toNatClampNeg) : wM chg o w c p j = w j := by
  unfold wM
  by_cases h1 : opM chg o p
  · rw [cif_t h1, lvW_out h]
  · rw [cif_f h1]
theorem fM_out {j : Nat} (h : j ≠ c.toNatClampNeg) : (fM n ns sz chg v o w c p).2.1 j = o j ∧ (fM n ns sz chg v o w c p).2.2 j = w j := by
  unfold fM
  split
  · exact ⟨oM_out h, wM_out h⟩
  · split
    · exact ⟨oM_out h, wM_out h⟩
    · exact ⟨(lvO_out h).trans (oM_out h), (lvW_out h).trans (wM_out h)⟩
theorem oM_op (h : 0 ≤ o c.toNatClampNeg) : oM chg o c p = o := by
  unfold oM
  by_cases h1 : opM chg o p
  · rw [cif_t h1, lvO_p h]
  · rw [cif_f h1]
theorem wM_op (h : 0 ≤ o c.toNatClampNeg) : wM chg o w c p = w := by
  unfold wM
  by_cases h1 : opM chg o p
  · rw [cif_t h1, lvW_p h]
  · rw [cif_f h1]
theorem fM_op (h : 0 ≤ o c.toNatClampNeg) : (fM n ns sz chg v o w c p).2.1 = o ∧ (fM n ns sz chg v o w c p).2.2 = w := by
  unfold fM
  rw [oM_op h, wM_op h, if_pos (Or.inr h)]
  exact ⟨rfl, rfl⟩
theorem fM_ev (hr : p.2.2.1 = 2 → rlM chg env v o w p.2.2.2) (ho : o c.toNatClampNeg = -1) (hc : 0 ≤ c) :
    ((evF n ns sz env c p).2.1 = -1 → fM n ns sz chg v o w c p = ((evF n ns sz env c p).1, o, w)) ∧ (¬ (evF n ns sz env c p).2.1 = -1 → 0 ≤ (evF n ns sz env c p).2.1 ∧ (fM n ns sz chg v o w c p).2.1 c.toNatClampNeg = (evF n ns sz env c p).2.1 ∧ (fM n ns sz chg v o w c p).2.2 c.toNatClampNeg = (evF n ns sz env c p).2.2) := by
  have hno := n1_lt ho
  by_cases h2 : p.2.2.1 = 2 ∧ ¬ (env p.2.2.2.toNatClampNeg).2.1 = -1
  · obtain ⟨r1, r2⟩ := hr h2.1
    have hcn : chg p.2.2.2 = none := by
      cases hx : chg p.2.2.2 with
      | none => rfl
      | some y =>
        have := r1 y hx
        rw [this] at h2
        exact absurd rfl h2.2
    obtain ⟨r3, r4, r5, r6⟩ := r2 hcn
    have hge : 0 ≤ (env p.2.2.2.toNatClampNeg).2.1 := r4.resolve_left h2.2
    have hop : opM chg o p := ⟨h2.1, hcn, by rw [r3]; exact hge⟩
    have eF : evF n ns sz env c p = (0, (env p.2.2.2.toNatClampNeg).2.1, (env p.2.2.2.toNatClampNeg).2.2) := if_pos h2
    have eO : oM chg o c p = upd o c.toNatClampNeg (o p.2.2.2.toNatClampNeg) := by rw [oM, cif_t hop, lvO_n hno]
    have eW : wM chg o w c p = upd w c.toNatClampNeg (w p.2.2.2.toNatClampNeg) := by rw [wM, cif_t hop, lvW_n hno]
    have eG : fM n ns sz chg v o w c p = (xM sz v chg p, oM chg o c p, wM chg o w c p) := by
      unfold fM
      rw [if_pos (Or.inr (by rw [eO, ups, r3]; exact hge))]
    rw [eF, eG, eO, eW]
    exact ⟨fun z => absurd z h2.2, fun _ => ⟨hge, ups.trans r3, ups.trans (r6 h2.2)⟩⟩
  · have hnop : ¬ opM chg o p := fun z => by
      obtain ⟨r3, r4, r5, r6⟩ := (hr z.1).2 z.2.1
      have := z.2.2
      rw [r3] at this
      exact h2 ⟨z.1, ge_n1 this⟩
    have eO : oM chg o c p = o := by rw [oM, cif_f hnop]
    have eW : wM chg o w c p = w := by rw [wM, cif_f hnop]
    have eX : xM sz v chg p = evP sz env p := by
      unfold xM evP
      by_cases k1 : p.2.2.1 = 1
      · rw [if_pos k1, if_pos k1]
      · rw [if_neg k1, if_neg k1]
        by_cases k2 : p.2.2.1 = 2
        · rw [if_pos k2, if_pos k2]
          obtain ⟨r1, r2⟩ := hr k2
          cases hx : chg p.2.2.2 with
          | none =>
            obtain ⟨r3, r4, r5, r6⟩ := r2 hx
            exact r5 (Classical.not_not.mp (fun z => h2 ⟨k2, z⟩))
          | some y =>
            rw [r1 y hx]
        · rw [if_neg k2, if_neg k2]
    unfold fM evF
    rw [eO, eW, eX, if_neg h2]
    by_cases k1 : p.2.1 = 0
    · rw [if_pos (Or.inl k1), if_pos k1]
      exact ⟨fun _ => rfl, fun z => absurd rfl z⟩
    · rw [if_neg k1, if_neg (fun z : p.2.1 = 0 ∨ 0 ≤ o c.toNatClampNeg => z.elim k1 hno)]
      by_cases k2 : 0 ≤ evP sz env p ∧ evP sz env p ≤ nI n - 1
      · rw [if_pos k2, if_pos k2]
        exact ⟨fun _ => rfl, fun z => absurd rfl z⟩
      · rw [if_neg k2, if_neg k2, lvO_n hno, lvW_n hno]
        exact ⟨fun z => absurd z (ge_n1 hc), fun _ => ⟨hc, ups, ups⟩⟩
end RCK
abbrev sT : Type := Int32 × Int32 × Int32 × (Nat → Int32) × (Nat → Int32)
noncomputable def stp (n : Nat) (ns sz : Nat → Int32) (chg : Int32 → Option Int32) (v : Nat → Int32) (c : Int32) (p : pt) (a : sT) : sT :=
  if p.1 = 42 then (a.1, a.2.1 * (fM n ns sz chg v a.2.2.2.1 a.2.2.2.2 c p).1, a.2.2.1, (fM n ns sz chg v a.2.2.2.1 a.2.2.2.2 c p).2)
  else if p.1 = 47 then (if (fM n ns sz chg v a.2.2.2.1 a.2.2.2.2 c p).1 = 0 then (a.1, 0, a.2.2.1, lvO (fM n ns sz chg v a.2.2.2.1 a.2.2.2.2 c p).2.1 c c, lvW (fM n ns sz chg v a.2.2.2.1 a.2.2.2.2 c p).2.1 (fM n ns sz chg v a.2.2.2.1 a.2.2.2.2 c p).2.2 c 0) else (a.1, a.2.1 / (fM n ns sz chg v a.2.2.2.1 a.2.2.2.2 c p).1, a.2.2.1, (fM n ns sz chg v a.2.2.2.1 a.2.2.2.2 c p).2))
  else (a.1 + (if a.2.2.1 = 0 then a.2.1 else -a.2.1), (fM n ns sz chg v a.2.2.2.1 a.2.2.2.2 c p).1, (if p.1 = 45 then 1 else 0), (fM n ns sz chg v a.2.2.2.1 a.2.2.2.2 c p).2)
noncomputable def sMs (n : Nat) (ns sz : Nat → Int32) (chg : Int32 → Option Int32) (v : Nat → Int32) (c : Int32) : List pt → sT → sT
  | [], a => a
  | p :: ps, a => sMs n ns sz chg v c ps (stp n ns sz chg v c p a)
theorem sMs_snoc {n : Nat} {ns sz : Nat → Int32} {chg : Int32 → Option Int32} {v : Nat → Int32} {c : Int32} {p : pt} : ∀ {ps : List pt} {a : sT}, sMs n ns sz chg v c (ps ++ [p]) a = stp n ns sz chg v c p (sMs n ns sz chg v c ps a)
  | [], a => rfl
  | q :: ps, a => sMs_snoc (ps := ps)
section RCK2
variable {n : Nat} {ns sz : Nat → Int32} {chg : Int32 → Option Int32} {v : Nat → Int32} {c : Int32} {env : en3}
theorem stp_out {p : pt} {a : sT} {j : Nat} (h : j ≠ c.toNatClampNeg) : (stp n ns sz chg v c p a).2.2.2.1 j = a.2.2.2.1 j ∧ (stp n ns sz chg v c p a).2.2.2.2 j = a.2.2.2.2 j := by
  have hf := fM_out (n := n) (ns := ns) (sz := sz) (chg := chg) (v := v) (o := a.2.2.2.1) (w := a.2.2.2.2) (c := c) (p := p) h
  unfold stp
  split
  · exact hf
  · split
    · split
      · exact ⟨(lvO_out h).trans hf.1, (lvW_out h).trans hf.2⟩
      · exact hf
    · exact hf
theorem sMs_out {j : Nat} (h : j ≠ c.toNatClampNeg) : ∀ {ps : List pt} {a : sT}, (sMs n ns sz chg v c ps a).2.2.2.1 j = a.2.2.2.1 j ∧ (sMs n ns sz chg v c ps a).2.2.2.2 j = a.2.2.2.2 j
  | [], a => ⟨rfl, rfl⟩
  | p :: ps, a => by
    have h1 := sMs_out h (ps := ps) (a := stp n ns sz chg v c p a)
    have h2 := stp_out (n := n) (ns := ns) (sz := sz) (chg := chg) (v := v) h (p := p) (a := a)
    exact ⟨h1.1.trans h2.1, h1.2.trans h2.2⟩
theorem stp_op {p : pt} {a : sT} (h : 0 ≤ a.2.2.2.1 c.toNatClampNeg) : (stp n ns sz chg v c p a).2.2.2.1 = a.2.2.2.1 ∧ (stp n ns sz chg v c p a).2.2.2.2 = a.2.2.2.2 := by
  have hf := fM_op (n := n) (ns := ns) (sz := sz) (chg := chg) (v := v) (o := a.2.2.2.1) (w := a.2.2.2.2) (c := c) (p := p) h
  unfold stp
  split
  · exact hf
  · split
    · split
      · show lvO _ c c = _ ∧ lvW _ _ c 0 = _
        rw [hf.1, hf.2, lvO_p h, lvW_p h]
        exact ⟨rfl, rfl⟩
      · exact hf
    · exact hf
theorem sMs_op : ∀ {ps : List pt} {a : sT}, 0 ≤ a.2.2.2.1 c.toNatClampNeg → (sMs n ns sz chg v c ps a).2.2.2.1 = a.2.2.2.1 ∧ (sMs n ns sz chg v c ps a).2.2.2.2 = a.2.2.2.2
  | [], a, _ => ⟨rfl, rfl⟩
  | p :: ps, a, h => by
    have h2 := stp_op (n := n) (ns := ns) (sz := sz) (chg := chg) (v := v) (p := p) h
    have h1 := sMs_op (ps := ps) (a := stp n ns sz chg v c p a) (by rw [h2.1]; exact h)
    exact ⟨h1.1.trans h2.1, h1.2.trans h2.2⟩
theorem jn_off {sum sg pr off : Int32} (h1 : sg = 45 → off = 1) (h2 : ¬ sg = 45 → off = 0) : sum + (if off = 0 then pr else -pr) = jnI sum sg pr := by
  unfold jnI
  by_cases h : sg = 45
  · rw [if_pos h, h1 h, if_neg (by decide), Int32.sub_eq_add_neg]
  · rw [if_neg h, h2 h, if_pos rfl]
theorem sMs_ev {o w : Nat → Int32} (ho : o c.toNatClampNeg = -1) (hc : 0 ≤ c) : ∀ {ps : List pt} {sum sg pr off : Int32}, (∀ p ∈ ps, p.2.2.1 = 2 → rlM chg env v o w p.2.2.2) → (sg = 45 → off = 1) → (¬ sg = 45 → off = 0) →
    ((evS n ns sz env c ps sum sg pr).2.1 = -1 → (sMs n ns sz chg v c ps (sum, pr, off, o, w)).2.2.2.1 = o ∧ (sMs n ns sz chg v c ps (sum, pr, off, o, w)).1 + (if (sMs n ns sz chg v c ps (sum, pr, off, o, w)).2.2.1 = 0 then (sMs n ns sz chg v c ps (sum, pr, off, o, w)).2.1 else -(sMs n ns sz chg v c ps (sum, pr, off, o, w)).2.1) = (evS n ns sz env c ps sum sg pr).1) ∧
    (¬ (evS n ns sz env c ps sum sg pr).2.1 = -1 → 0 ≤ (evS n ns sz env c ps sum sg pr).2.1 ∧ (sMs n ns sz chg v c ps (sum, pr, off, o, w)).2.2.2.1 c.toNatClampNeg = (evS n ns sz env c ps sum sg pr).2.1 ∧ (sMs n ns sz chg v c ps (sum, pr, off, o, w)).2.2.2.2 c.toNatClampNeg = (evS n ns sz env c ps sum sg pr).2.2)
  | [], sum, sg, pr, off, hr, g1, g2 => ⟨fun _ => ⟨rfl, jn_off g1 g2⟩, fun z => absurd rfl z⟩
  | p :: ps, sum, sg, pr, off, hr, g1, g2 => by
    have hno := n1_lt ho
    obtain ⟨f1, f2⟩ := fM_ev (n := n) (ns := ns) (sz := sz) (p := p) (hr p List.mem_cons_self) ho hc
    have ih := fun sum sg pr off => sMs_ev ho hc (ps := ps) (sum := sum) (sg := sg) (pr := pr) (off := off) (fun q hq => hr q (List.mem_cons_of_mem p hq))
    rw [evS_s]
    show (_ → (sMs n ns sz chg v c ps (stp n ns sz chg v c p (sum, pr, off, o, w))).2.2.2.1 = o ∧ (sMs n ns sz chg v c ps (stp n ns sz chg v c p (sum, pr, off, o, w))).1 + (if (sMs n ns sz chg v c ps (stp n ns sz chg v c p (sum, pr, off, o, w))).2.2.1 = 0 then (sMs n ns sz chg v c ps (stp n ns sz chg v c p (sum, pr, off, o, w))).2.1 else -(sMs n ns sz chg v c ps (stp n ns sz chg v c p (sum, pr, off, o, w))).2.1) = _) ∧ (_ → _ ∧ (sMs n ns sz chg v c ps (stp n ns sz chg v c p (sum, pr, off, o, w))).2.2.2.1 c.toNatClampNeg = _ ∧ (sMs n ns sz chg v c ps (stp n ns sz chg v c p (sum, pr, off, o, w))).2.2.2.2 c.toNatClampNeg = _)
    by_cases hF : (evF n ns sz env c p).2.1 = -1
    · rw [if_neg (fun z => z hF)]
      have eM := f1 hF
      by_cases h42 : p.1 = 42
      · have es : stp n ns sz chg v c p (sum, pr, off, o, w) = (sum, pr * (evF n ns sz env c p).1, off, o, w) := by
          unfold stp
          rw [if_pos h42]
          show (sum, pr * (fM n ns sz chg v o w c p).1, off, (fM n ns sz chg v o w c p).2) = _
          rw [eM]
        rw [es, if_neg (fun z => by rw [h42] at z; exact absurd z.1 (by decide)), if_pos h42]
        exact ih sum sg _ off g1 g2
      · by_cases h47 : p.1 = 47
        · by_cases hf0 : (evF n ns sz env c p).1 = 0
          · have es : stp n ns sz chg v c p (sum, pr, off, o, w) = (sum, 0, off, upd o c.toNatClampNeg c, upd w c.toNatClampNeg 0) := by
              unfold stp
              rw [if_neg h42, if_pos h47]
              show (if (fM n ns sz chg v o w c p).1 = 0 then (sum, 0, off, lvO (fM n ns sz chg v o w c p).2.1 c c, lvW (fM n ns sz chg v o w c p).2.1 (fM n ns sz chg v o w c p).2.2 c 0) else (sum, pr / (fM n ns sz chg v o w c p).1, off, (fM n ns sz chg v o w c p).2)) = _
              rw [eM, if_pos hf0, lvO_n hno, lvW_n hno]
            have hop := sMs_op (n := n) (ns := ns) (sz := sz) (chg := chg) (v := v) (c := c) (ps := ps) (a := stp n ns sz chg v c p (sum, pr, off, o, w)) (by rw [es]; show 0 ≤ upd o c.toNatClampNeg c c.toNatClampNeg; rw [ups]; exact hc)
            rw [if_pos ⟨h47, hf0⟩, hop.1, hop.2, es]
            exact ⟨fun z => absurd z (ge_n1 hc), fun _ => ⟨hc, ups, ups⟩⟩
          · have es : stp n ns sz chg v c p (sum, pr, off, o, w) = (sum, pr / (evF n ns sz env c p).1, off, o, w) := by
              unfold stp
              rw [if_neg h42, if_pos h47]
              show (if (fM n ns sz chg v o w c p).1 = 0 then (sum, 0, off, lvO (fM n ns sz chg v o w c p).2.1 c c, lvW (fM n ns sz chg v o w c p).2.1 (fM n ns sz chg v o w c p).2.2 c 0) else (sum, pr / (fM n ns sz chg v o w c p).1, off, (fM n ns sz chg v o w c p).2)) = _
              rw [eM, if_neg hf0]
            rw [es, if_neg (fun z => hf0 z.2), if_neg h42, if_pos h47]
            exact ih sum sg _ off g1 g2
        · have es : stp n ns sz chg v c p (sum, pr, off, o, w) = (jnI sum sg pr, (evF n ns sz env c p).1, (if p.1 = 45 then 1 else 0), o, w) := by
            unfold stp
            rw [if_neg h42, if_neg h47]
            show (sum + (if off = 0 then pr else -pr), (fM n ns sz chg v o w c p).1, (if p.1 = 45 then 1 else 0), (fM n ns sz chg v o w c p).2) = _
            rw [eM, jn_off g1 g2]
          rw [es, if_neg (fun z => h47 z.1), if_neg h42, if_neg h47]
          exact ih _ p.1 _ _ (fun z => if_pos z) (fun z => if_neg z)
    · rw [if_pos hF]
      obtain ⟨y1, y2, y3⟩ := f2 hF
      have hq : (stp n ns sz chg v c p (sum, pr, off, o, w)).2.2.2.1 = (fM n ns sz chg v o w c p).2.1 ∧ (stp n ns sz chg v c p (sum, pr, off, o, w)).2.2.2.2 = (fM n ns sz chg v o w c p).2.2 := by
        have hge : 0 ≤ (fM n ns sz chg v o w c p).2.1 c.toNatClampNeg := by rw [y2]; exact y1
        unfold stp
        split
        · exact ⟨rfl, rfl⟩
        · split
          · split
            · exact ⟨lvO_p hge, lvW_p hge⟩
            · exact ⟨rfl, rfl⟩
          · exact ⟨rfl, rfl⟩
      have hop := sMs_op (n := n) (ns := ns) (sz := sz) (chg := chg) (v := v) (c := c) (ps := ps) (a := stp n ns sz chg v c p (sum, pr, off, o, w)) (by rw [hq.1, y2]; exact y1)
      rw [hop.1, hop.2, hq.1, hq.2]
      exact ⟨fun z => absurd z hF, fun _ => ⟨y1, y2, y3⟩⟩
end RCK2
/-- the worths after the first m rules -/
def enL (n : Nat) (ns sz : Nat → Int32) (chg : Int32 → Option Int32) : List (Int32 × List pt) → Nat → en3 → en3
  | [], _, env => env
  | _ :: _, 0, env => env
  | (c, ps) :: r, m + 1, env => enL n ns sz chg r m (eup env c.toNatClampNeg (evC n ns sz chg env c ps))
section RCK3
variable {n : Nat} {ns sz : Nat → Int32} {chg : Int32 → Option Int32}
theorem enL_0 {rs : List (Int32 × List pt)} {env : en3} : enL n ns sz chg rs 0 env = env := by cases rs <;> rfl
theorem enL_s : ∀ {rs : List (Int32 × List pt)} {m : Nat} {env : en3} {c : Int32} {ps : List pt}, rs[m]? = some (c, ps) → enL n ns sz chg rs (m + 1) env = eup (enL n ns sz chg rs m env) c.toNatClampNeg (evC n ns sz chg (enL n ns sz chg rs m env) c ps)
  | [], m, env, c, ps, h => by cases h
  | (c', ps') :: r, 0, env, c, ps, h => by
    simp at h
    obtain ⟨rfl, rfl⟩ := h
    show enL n ns sz chg r 0 _ = _
    rw [enL_0]
    rfl
  | (c', ps') :: r, m + 1, env, c, ps, h => by
    exact enL_s (rs := r) (m := m) (by simpa using h)
theorem evL_en {rule : Int32} : ∀ {rs : List (Int32 × List pt)} {r0 : Nat} {env : en3} {ps : List pt}, rs[r0]? = some (rule, ps) → (∀ j c' ps', j < r0 → rs[j]? = some (c', ps') → ¬ c' = rule) → evL n ns sz chg rule rs env = enL n ns sz chg rs (r0 + 1) env
  | [], r0, env, ps, h, _ => by cases h
  | (c', ps') :: r, 0, env, ps, h, _ => by
    simp at h
    obtain ⟨rfl, rfl⟩ := h
    show (if c' = c' then _ else _) = enL n ns sz chg r 0 _
    rw [if_pos rfl, enL_0]
  | (c', ps') :: r, r0 + 1, env, ps, h, hn => by
    have hne : ¬ c' = rule := hn 0 c' ps' (by omega) rfl
    show (if c' = rule then _ else _) = enL n ns sz chg r (r0 + 1) _
    rw [if_neg hne]
    exact evL_en (rs := r) (r0 := r0) (by simpa using h) (fun j c9 ps9 hj hx => hn (j + 1) c9 ps9 (by omega) (by simpa using hx))
end RCK3
theorem wfO_nP : ∀ {rs : List (Int32 × List pt)} {P : Nat → Prop} {i : Nat} {c : Int32} {ps : List pt}, wfO rs P → rs[i]? = some (c, ps) → ¬ P c.toNatClampNeg
  | [], P, i, c, ps, h, hi => by cases hi
  | (c', ps') :: r, P, 0, c, ps, h, hi => by
    simp at hi
    obtain ⟨rfl, rfl⟩ := hi
    exact h.2.1
  | (c', ps') :: r, P, i + 1, c, ps, h, hi => by
    have := wfO_nP h.2.2.2 (i := i) (c := c) (ps := ps) (by simpa using hi)
    exact fun z => this (Or.inl z)
theorem wfO_inj : ∀ {rs : List (Int32 × List pt)} {P : Nat → Prop} {i j : Nat} {c c' : Int32} {ps ps' : List pt}, wfO rs P → rs[i]? = some (c, ps) → rs[j]? = some (c', ps') → i < j → ¬ c.toNatClampNeg = c'.toNatClampNeg
  | [], P, i, j, c, c', ps, ps', h, hi, hj, hl => by cases hi
  | (c0, ps0) :: r, P, 0, j + 1, c, c', ps, ps', h, hi, hj, hl => by
    simp at hi
    obtain ⟨rfl, rfl⟩ := hi
    have := wfO_nP h.2.2.2 (i := j) (c := c') (ps := ps') (by simpa using hj)
    exact fun z => this (Or.inr z.symm)
  | (c0, ps0) :: r, P, i + 1, j + 1, c, c', ps, ps', h, hi, hj, hl => by
    exact wfO_inj h.2.2.2 (i := i) (j := j) (by simpa using hi) (by simpa using hj) (by omega)
theorem wfO_op : ∀ {rs : List (Int32 × List pt)} {P : Nat → Prop} {m : Nat} {c : Int32} {ps : List pt} {p : pt}, wfO rs P → rs[m]? = some (c, ps) → p ∈ ps → p.2.2.1 = 2 → P p.2.2.2.toNatClampNeg ∨ ∃ j c' ps', j < m ∧ rs[j]? = some (c', ps') ∧ c'.toNatClampNeg = p.2.2.2.toNatClampNeg
  | [], P, m, c, ps, p, h, hm, hp, hk => by cases hm
  | (c0, ps0) :: r, P, 0, c, ps, p, h, hm, hp, hk => by
    simp at hm
    obtain ⟨rfl, rfl⟩ := hm
    exact Or.inl ((h.2.2.1 p hp).2 hk)
  | (c0, ps0) :: r, P, m + 1, c, ps, p, h, hm, hp, hk => by
    rcases wfO_op h.2.2.2 (m := m) (by simpa using hm) hp hk with (z | z) | ⟨j, c', ps', h1, h2, h3⟩
    · exact Or.inl z
    · exact Or.inr ⟨0, c0, ps0, by omega, rfl, z.symm⟩
    · exact Or.inr ⟨j + 1, c', ps', by omega, by simpa using h2, h3⟩
/-- what the reference's arrays hold after the first m rules -/
def relM (n : Nat) (ns sz : Nat → Int32) (chg : Int32 → Option Int32) (rs : List (Int32 × List pt)) (m : Nat) (v o w : Nat → Int32) : Prop := ∀ j c ps, j < m → rs[j]? = some (c, ps) → rlM chg (enL n ns sz chg rs m (fun _ => (0, -1, 0))) v o w c
theorem relM_s {n : Nat} {ns ns' sz : Nat → Int32} {chg : Int32 → Option Int32} {rs : List (Int32 × List pt)} {m : Nat} {v o w : Nat → Int32} {c : Int32} {ps : List pt} {F : sT} (hns : ∀ j, j < n → ns j = ns' j) (hn : n ≤ 8) (h : relM n ns sz chg rs m v o w) (hwf : wfO rs (fun _ => False)) (hm : rs[m]? = some (c, ps)) (hF : F = sMs n ns' sz chg v c ps (0, 0, 0, upd o c.toNatClampNeg (-1), w)) :
    relM n ns sz chg rs (m + 1) (upd v c.toNatClampNeg (F.1 + (if F.2.2.1 = 0 then F.2.1 else -F.2.1))) F.2.2.2.1 F.2.2.2.2 := by
  have hvc : vp_in c 8 := (wfO_mem hwf c ps (List.mem_of_getElem? hm)).1
  have hc0 : 0 ≤ c := by
    obtain ⟨i, hi, rfl⟩ := vp_in_of hvc (by omega)
    exact (nI_leI (a := 0) (by omega) (by omega)).mpr (by omega)
  subst hF
  intro j c' ps' hj hx
  rw [enL_s hm]
  by_cases hjm : j = m
  · subst hjm
    rw [hm] at hx
    cases hx
    have e1 : eup (enL n ns sz chg rs j (fun _ => (0, -1, 0))) c.toNatClampNeg (evC n ns sz chg (enL n ns sz chg rs j (fun _ => (0, -1, 0))) c ps) c.toNatClampNeg = evC n ns sz chg (enL n ns sz chg rs j (fun _ => (0, -1, 0))) c ps := if_pos rfl
    refine ⟨fun y hy => ?_, fun hy => ?_⟩
    · rw [e1, evC, hy]
    · rw [e1]
      have e2 : evC n ns sz chg (enL n ns sz chg rs j (fun _ => (0, -1, 0))) c ps = evS n ns' sz (enL n ns sz chg rs j (fun _ => (0, -1, 0))) c ps 0 43 0 := by
        rw [evC, hy]
        exact evS_congr hns hn (fun _ _ _ => eqv.rf)
      rw [e2]
      have hr : ∀ p ∈ ps, p.2.2.1 = 2 → rlM chg (enL n ns sz chg rs j (fun _ => (0, -1, 0))) v (upd o c.toNatClampNeg (-1)) w p.2.2.2 := by
        intro p hp hk
        rcases wfO_op hwf hm hp hk with z | ⟨j1, c1, ps1, k1, k2, k3⟩
        · exact z.elim
        · have hvp : vp_in p.2.2.2 8 := ((wfO_mem hwf c ps (List.mem_of_getElem? hm)).2 p hp).2 hk
          have hv1 : vp_in c1 8 := (wfO_mem hwf c1 ps1 (List.mem_of_getElem? k2)).1
          have he : c1 = p.2.2.2 := vp_inj hv1 hvp k3
          subst he
          have hne : ¬ p.2.2.2.toNatClampNeg = c.toNatClampNeg := wfO_inj hwf k2 hm k1
          obtain ⟨r1, r2⟩ := h j1 _ ps1 k1 k2
          exact ⟨r1, fun z => by rw [upn hne]; exact r2 z⟩
      obtain ⟨y1, y2⟩ := sMs_ev (n := n) (ns := ns') (sz := sz) (o := upd o c.toNatClampNeg (-1)) (w := w) ups hc0 (sum := 0) (sg := 43) (pr := 0) (off := 0) hr (fun z => absurd z (by decide)) (fun _ => rfl)
      by_cases hR : (evS n ns' sz (enL n ns sz chg rs j (fun _ => (0, -1, 0))) c ps 0 43 0).2.1 = -1
      · obtain ⟨z1, z2⟩ := y1 hR
        refine ⟨by rw [z1, ups, hR], Or.inl hR, fun _ => by rw [ups]; exact z2, fun z => absurd hR z⟩
      · obtain ⟨z1, z2, z3⟩ := y2 hR
        exact ⟨z2, Or.inr z1, fun z => absurd z hR, fun _ => z3⟩
  · have hj2 : j < m := by omega
    have hne : ¬ c'.toNatClampNeg = c.toNatClampNeg := wfO_inj hwf hx hm hj2
    have e1 : eup (enL n ns sz chg rs m (fun _ => (0, -1, 0))) c.toNatClampNeg (evC n ns sz chg (enL n ns sz chg rs m (fun _ => (0, -1, 0))) c ps) c'.toNatClampNeg = enL n ns sz chg rs m (fun _ => (0, -1, 0)) c'.toNatClampNeg := if_neg hne
    obtain ⟨q1, q2⟩ := sMs_out (n := n) (ns := ns') (sz := sz) (chg := chg) (v := v) (c := c) (ps := ps) (a := (0, 0, 0, upd o c.toNatClampNeg (-1), w)) hne
    obtain ⟨r1, r2⟩ := h j c' ps' hj2 hx
    refine ⟨fun y hy => e1.trans (r1 y hy), fun hy => ?_⟩
    rw [e1, q1, q2, upn hne]
    show upd o c.toNatClampNeg (-1) c'.toNatClampNeg = _ ∧ _
    rw [upn hne]
    exact r2 hy
