/-! what a rule is worth -/
abbrev en3 : Type := Nat → Int32 × Int32 × Int32
def evP (sz : Nat → Int32) (env : en3) (p : pt) : Int32 := if p.2.2.1 = 1 then sz p.2.2.2.toNatClampNeg else if p.2.2.1 = 2 then (env p.2.2.2.toNatClampNeg).1 else p.2.2.2
def evF (n : Nat) (ns sz : Nat → Int32) (env : en3) (c : Int32) (p : pt) : Int32 × Int32 × Int32 :=
  if p.2.2.1 = 2 ∧ ¬ (env p.2.2.2.toNatClampNeg).2.1 = -1 then (0, (env p.2.2.2.toNatClampNeg).2.1, (env p.2.2.2.toNatClampNeg).2.2)
  else if p.2.1 = 0 then (evP sz env p, -1, 0)
  else if 0 ≤ evP sz env p ∧ evP sz env p ≤ nI n - 1 then (ns (evP sz env p).toNatClampNeg, -1, 0)
  else (0, c, 1)
def evS (n : Nat) (ns sz : Nat → Int32) (env : en3) (c : Int32) : List pt → Int32 → Int32 → Int32 → Int32 × Int32 × Int32
  | [], sum, sg, pr => (jnI sum sg pr, -1, 0)
  | p :: ps, sum, sg, pr =>
    if ¬ (evF n ns sz env c p).2.1 = -1 then (0, (evF n ns sz env c p).2)
    else if p.1 = 47 ∧ (evF n ns sz env c p).1 = 0 then (0, c, 0)
    else if p.1 = 42 then evS n ns sz env c ps sum sg (pr * (evF n ns sz env c p).1)
    else if p.1 = 47 then evS n ns sz env c ps sum sg (pr / (evF n ns sz env c p).1)
    else evS n ns sz env c ps (jnI sum sg pr) p.1 (evF n ns sz env c p).1
theorem evS_s {n : Nat} {ns sz : Nat → Int32} {env : en3} {c : Int32} {p : pt} {ps : List pt} {sum sg pr : Int32} : evS n ns sz env c (p :: ps) sum sg pr =
    if ¬ (evF n ns sz env c p).2.1 = -1 then (0, (evF n ns sz env c p).2)
    else if p.1 = 47 ∧ (evF n ns sz env c p).1 = 0 then (0, c, 0)
    else if p.1 = 42 then evS n ns sz env c ps sum sg (pr * (evF n ns sz env c p).1)
    else if p.1 = 47 then evS n ns sz env c ps sum sg (pr / (evF n ns sz env c p).1)
    else evS n ns sz env c ps (jnI sum sg pr) p.1 (evF n ns sz env c p).1 := rfl
def eup (env : en3) (i : Nat) (v : Int32 × Int32 × Int32) : en3 := fun j => if j = i then v else env j
def evC (n : Nat) (ns sz : Nat → Int32) (chg : Int32 → Option Int32) (env : en3) (c : Int32) (ps : List pt) : Int32 × Int32 × Int32 := match chg c with
  | some x => (x, -1, 0)
  | none => evS n ns sz env c ps 0 43 0
def evL (n : Nat) (ns sz : Nat → Int32) (chg : Int32 → Option Int32) (rule : Int32) : List (Int32 × List pt) → en3 → en3
  | [], env => env
  | (c, ps) :: rs, env => if c = rule then eup env c.toNatClampNeg (evC n ns sz chg env c ps) else evL n ns sz chg rule rs (eup env c.toNatClampNeg (evC n ns sz chg env c ps))
def wfO : List (Int32 × List pt) → (Nat → Prop) → Prop
  | [], _ => True
  | (c, ps) :: rs, P => vp_in c 8 ∧ ¬ P c.toNatClampNeg ∧ (∀ p ∈ ps, ptOk p ∧ (p.2.2.1 = 2 → P p.2.2.2.toNatClampNeg)) ∧ wfO rs (fun i => P i ∨ i = c.toNatClampNeg)
def eqv (a b : Int32 × Int32 × Int32) : Prop := a.1 = b.1 ∧ a.2.1 = b.2.1 ∧ (¬ a.2.1 = -1 → a.2.2 = b.2.2)
theorem eqv.rf {a : Int32 × Int32 × Int32} : eqv a a := ⟨rfl, rfl, fun _ => rfl⟩
theorem in_tabn {x : Int32} {n : Nat} (hn : n ≤ 8) (h : 0 ≤ x ∧ x ≤ nI n - 1) : x.toNatClampNeg < n := by
  obtain ⟨j, hj, rfl⟩ := nI_of (x := x) (Int32.not_lt.mpr h.1)
  cases n with
  | zero =>
    have h2 : nI j ≤ (-1 : Int32) := h.2
    have := Int32.le_iff_toInt_le.mp h2
    rw [nI_toInt hj] at this
    have e : ((-1 : Int32)).toInt = -1 := by decide
    omega
  | succ n =>
    have h2 := h.2
    rw [nI_pred] at h2
    have := (nI_leI hj (by omega)).mp h2
    rw [nI_clamp hj]
    omega
theorem evF_congr {n : Nat} {ns ns' sz : Nat → Int32} {env env' : en3} {c : Int32} {p : pt} (hns : ∀ j, j < n → ns j = ns' j) (hn : n ≤ 8) (h : p.2.2.1 = 2 → eqv (env p.2.2.2.toNatClampNeg) (env' p.2.2.2.toNatClampNeg)) : evF n ns sz env c p = evF n ns' sz env' c p := by
  have hP : evP sz env p = evP sz env' p := by
    unfold evP
    by_cases h1 : p.2.2.1 = 1
    · rw [if_pos h1, if_pos h1]
    · rw [if_neg h1, if_neg h1]
      by_cases h2 : p.2.2.1 = 2
      · rw [if_pos h2, if_pos h2]; exact (h h2).1
      · rw [if_neg h2, if_neg h2]
  unfold evF
  by_cases h2 : p.2.2.1 = 2 ∧ ¬ (env p.2.2.2.toNatClampNeg).2.1 = -1
  · obtain ⟨e1, e2, e3⟩ := h h2.1
    rw [if_pos h2, if_pos ⟨h2.1, by rw [← e2]; exact h2.2⟩, ← e2, e3 h2.2]
  · have h2' : ¬ (p.2.2.1 = 2 ∧ ¬ (env' p.2.2.2.toNatClampNeg).2.1 = -1) := fun z => h2 ⟨z.1, by rw [(h z.1).2.1]; exact z.2⟩
    rw [if_neg h2, if_neg h2', hP]
    by_cases h3 : p.2.1 = 0
    · rw [if_pos h3, if_pos h3]
    · rw [if_neg h3, if_neg h3]
      by_cases h4 : 0 ≤ evP sz env' p ∧ evP sz env' p ≤ nI n - 1
      · rw [if_pos h4, if_pos h4, hns _ (in_tabn hn h4)]
      · rw [if_neg h4, if_neg h4]
theorem evS_congr {n : Nat} {ns ns' sz : Nat → Int32} {env env' : en3} {c : Int32} (hns : ∀ j, j < n → ns j = ns' j) (hn : n ≤ 8) : ∀ {ps : List pt} {sum sg pr : Int32}, (∀ p ∈ ps, p.2.2.1 = 2 → eqv (env p.2.2.2.toNatClampNeg) (env' p.2.2.2.toNatClampNeg)) → evS n ns sz env c ps sum sg pr = evS n ns' sz env' c ps sum sg pr
  | [], sum, sg, pr, h => rfl
  | p :: ps, sum, sg, pr, h => by
    rw [evS_s, evS_s, evF_congr hns hn (h p List.mem_cons_self)]
    have ih := fun sum sg pr => evS_congr (sum := sum) (sg := sg) (pr := pr) (c := c) (sz := sz) hns hn (fun q hq => h q (List.mem_cons_of_mem p hq))
    rw [ih, ih, ih]
def envO (s : r3) : en3 := fun i => (s.1 i, s.2.1 i, s.2.2 i)
theorem upd_self (f : Nat → Int32) (i : Nat) (v : Int32) : upd f i v i = v := by simp [upd]
theorem upd_ne (f : Nat → Int32) {i j : Nat} (v : Int32) (h : j ≠ i) : upd f i v j = f j := by simp [upd, h]
theorem sf_ev {n : Nat} {ns sz vs : Nat → Int32} {c : Int32} (hc : vp_in c 8) : ∀ {ps : List pt} {sum sg pr : Int32} {os ws : Nat → Int32}, os c.toNatClampNeg = -1 →
    sfI (nI n) ns sz vs c ps sum sg pr os ws = ((evS n ns sz (envO (vs, os, ws)) c ps sum sg pr).1, if (evS n ns sz (envO (vs, os, ws)) c ps sum sg pr).2.1 = -1 then (os, ws) else (upd os c.toNatClampNeg (evS n ns sz (envO (vs, os, ws)) c ps sum sg pr).2.1, upd ws c.toNatClampNeg (evS n ns sz (envO (vs, os, ws)) c ps sum sg pr).2.2))
  | [], sum, sg, pr, os, ws, h => by simp [sfI, evS]
  | p :: ps, sum, sg, pr, os, ws, h => by
    have hc1 := rule_n1 hc
    have ih := fun sum sg pr => sf_ev (n := n) (ns := ns) (sz := sz) (vs := vs) hc (ps := ps) (sum := sum) (sg := sg) (pr := pr) (ws := ws) h
    have hpl : plI sz vs p = evP sz (envO (vs, os, ws)) p := rfl
    by_cases h2 : p.2.2.1 = 2 ∧ ¬ os p.2.2.2.toNatClampNeg = -1
    · have e1 : fcI (nI n) ns sz vs c p os ws = (0, upd os c.toNatClampNeg (os p.2.2.2.toNatClampNeg), upd ws c.toNatClampNeg (ws p.2.2.2.toNatClampNeg)) := by rw [fcI, if_pos h2]
      have e2 : evF n ns sz (envO (vs, os, ws)) c p = (0, os p.2.2.2.toNatClampNeg, ws p.2.2.2.toNatClampNeg) := by rw [evF, if_pos (show p.2.2.1 = 2 ∧ ¬ (envO (vs, os, ws) p.2.2.2.toNatClampNeg).2.1 = -1 from h2)]; rfl
      have e3 : mk0 c p (fcI (nI n) ns sz vs c p os ws) = fcI (nI n) ns sz vs c p os ws := by
        rw [mk0, if_neg]
        rw [e1]
        intro z
        exact h2.2 ((upd_self _ _ _).symm.trans z.2.2)
      rw [sfI_s, evS_s, e3, e1, e2, if_pos (fun z => h2.2 ((upd_self _ _ _).symm.trans z)), if_pos h2.2, if_neg h2.2]
    · have nxt : ∀ f, fcI (nI n) ns sz vs c p os ws = (f, os, ws) → evF n ns sz (envO (vs, os, ws)) c p = (f, -1, 0) → sfI (nI n) ns sz vs c (p :: ps) sum sg pr os ws = ((evS n ns sz (envO (vs, os, ws)) c (p :: ps) sum sg pr).1, if (evS n ns sz (envO (vs, os, ws)) c (p :: ps) sum sg pr).2.1 = -1 then (os, ws) else (upd os c.toNatClampNeg (evS n ns sz (envO (vs, os, ws)) c (p :: ps) sum sg pr).2.1, upd ws c.toNatClampNeg (evS n ns sz (envO (vs, os, ws)) c (p :: ps) sum sg pr).2.2)) := fun f e1 e2 => by
        rw [sfI_s, evS_s, e2]
        have hz : ¬ ¬ ((f, (-1 : Int32), (0 : Int32)).2.1 = -1) := fun z => z rfl
        have hz' : ¬ ¬ (os c.toNatClampNeg = -1) := fun z => z h
        by_cases h7 : p.1 = 47 ∧ f = 0
        · have e3 : mk0 c p (fcI (nI n) ns sz vs c p os ws) = (f, upd os c.toNatClampNeg c, upd ws c.toNatClampNeg 0) := by rw [e1, mk0, if_pos ⟨h7.1, h7.2, h⟩]
          rw [e3, if_pos (fun z => hc1 ((upd_self _ _ _).symm.trans z)), if_neg hz, if_pos h7, if_neg hc1]
        · have e3 : mk0 c p (fcI (nI n) ns sz vs c p os ws) = (f, os, ws) := by rw [e1, mk0, if_neg (fun z => h7 ⟨z.1, z.2.1⟩)]
          rw [e3, e1, if_neg hz', if_neg hz, if_neg h7]
          by_cases h42 : p.1 = 42
          · rw [if_pos h42, if_pos h42]; exact ih _ _ _
          · rw [if_neg h42, if_neg h42]
            by_cases h47 : p.1 = 47
            · rw [if_pos h47, if_pos h47]; exact ih _ _ _
            · rw [if_neg h47, if_neg h47]; exact ih _ _ _
      have h2' : ¬ (p.2.2.1 = 2 ∧ ¬ (envO (vs, os, ws) p.2.2.2.toNatClampNeg).2.1 = -1) := h2
      by_cases h3 : p.2.1 = 0
      · exact nxt (plI sz vs p) (by rw [fcI, if_neg h2, if_pos h3]) (by rw [evF, if_neg h2', if_pos h3, hpl])
      · by_cases h4 : 0 ≤ plI sz vs p ∧ plI sz vs p ≤ nI n - 1
        · exact nxt (ns (plI sz vs p).toNatClampNeg) (by rw [fcI, if_neg h2, if_neg h3, if_pos h4]) (by rw [evF, if_neg h2', if_neg h3, ← hpl, if_pos h4])
        · have e1 : fcI (nI n) ns sz vs c p os ws = (0, upd os c.toNatClampNeg c, upd ws c.toNatClampNeg 1) := by rw [fcI, if_neg h2, if_neg h3, if_neg h4]
          have e2 : evF n ns sz (envO (vs, os, ws)) c p = (0, c, 1) := by rw [evF, if_neg h2', if_neg h3, ← hpl, if_neg h4]
          have e3 : mk0 c p (fcI (nI n) ns sz vs c p os ws) = fcI (nI n) ns sz vs c p os ws := by
            rw [mk0, if_neg]
            rw [e1]
            intro z
            exact hc1 ((upd_self _ _ _).symm.trans z.2.2)
          rw [sfI_s, evS_s, e3, e1, e2, if_pos (fun z => hc1 ((upd_self _ _ _).symm.trans z)), if_pos hc1, if_neg hc1]
theorem fo_ev {n : Nat} {ns ns' sz cs nu : Nat → Int32} {cust rule : Int32} {chg : Int32 → Option Int32} (hns : ∀ j, j < n → ns j = ns' j) (hn : n ≤ 8) (hchg : ∀ c, vp_in c 8 → chg c = if cs (cust * 8 + c).toNatClampNeg = -1 then none else some (nu (cs (cust * 8 + c).toNatClampNeg).toNatClampNeg)) :
    ∀ {rs : List (Int32 × List pt)} {s : r3} {env : en3} {P : Nat → Prop}, (∀ i, P i → eqv (envO s i) (env i)) → wfO rs P → (P rule.toNatClampNeg ∨ hasL rs rule.toNatClampNeg = true) → vp_in rule 8 → eqv (envO (foL (nI n) ns sz cs nu cust rule rs s) rule.toNatClampNeg) (evL n ns' sz chg rule rs env rule.toNatClampNeg)
  | [], s, env, P, hP, hw, hr, hv => by
    rcases hr with hr | hr
    · exact hP _ hr
    · simp [hasL] at hr
  | (c, ps) :: rs, s, env, P, hP, hw, hr, hv => by
    obtain ⟨w1, w0, w2, w3⟩ := hw
    have hc1 := rule_n1 w1
    have step : eqv (envO (foS (nI n) ns sz cs nu cust c ps s) c.toNatClampNeg) (evC n ns' sz chg env c ps) ∧ ∀ j, j ≠ c.toNatClampNeg → envO (foS (nI n) ns sz cs nu cust c ps s) j = envO s j := by
      unfold evC
      rw [hchg c w1]
      by_cases hx : cs (cust * 8 + c).toNatClampNeg = -1
      · rw [if_pos hx, foS, if_pos hx]
        have h0 : upd s.2.1 c.toNatClampNeg (-1) c.toNatClampNeg = -1 := upd_self _ _ _
        rw [sf_ev w1 h0]
        have hcg : evS n ns sz (envO (s.1, upd s.2.1 c.toNatClampNeg (-1), s.2.2)) c ps 0 43 0 = evS n ns' sz env c ps 0 43 0 := by
          refine evS_congr hns hn (fun p hp h2 => ?_)
          have hq := (w2 p hp).2 h2
          have hne : p.2.2.2.toNatClampNeg ≠ c.toNatClampNeg := fun z => w0 (by rw [← z]; exact hq)
          have := hP _ hq
          unfold envO at this ⊢
          dsimp only at this ⊢
          rw [upd_ne _ _ hne]
          exact this
        rw [hcg]
        by_cases ho : (evS n ns' sz env c ps 0 43 0).2.1 = -1
        · rw [if_pos ho]
          refine ⟨⟨upd_self _ _ _, (upd_self _ _ _).trans ho.symm, fun z => absurd (upd_self _ _ _) z⟩, fun j hj => ?_⟩
          simp [envO, upd_ne _ _ hj]
        · rw [if_neg ho]
          refine ⟨⟨upd_self _ _ _, upd_self _ _ _, fun z => upd_self _ _ _⟩, fun j hj => ?_⟩
          simp [envO, upd_ne _ _ hj]
      · rw [if_neg hx, foS, if_neg hx]
        refine ⟨⟨upd_self _ _ _, upd_self _ _ _, fun z => absurd (upd_self _ _ _) z⟩, fun j hj => ?_⟩
        simp [envO, upd_ne _ _ hj]
    have hP' : ∀ i, (P i ∨ i = c.toNatClampNeg) → eqv (envO (foS (nI n) ns sz cs nu cust c ps s) i) (eup env c.toNatClampNeg (evC n ns' sz chg env c ps) i) := by
      intro i hi
      by_cases hic : i = c.toNatClampNeg
      · subst hic
        unfold eup
        rw [if_pos rfl]
        exact step.1
      · unfold eup
        rw [if_neg hic, step.2 i hic]
        exact hP i (hi.resolve_right hic)
    rw [foL_s]
    unfold evL
    by_cases hcr : c = rule
    · rw [if_pos hcr, if_pos hcr]
      exact hP' _ (Or.inr (by rw [hcr]))
    · rw [if_neg hcr, if_neg hcr]
      refine fo_ev hns hn hchg hP' w3 ?_ hv
      rcases hr with hr | hr
      · exact Or.inl (Or.inl hr)
      · simp only [hasL, List.any_cons, Bool.or_eq_true, beq_iff_eq] at hr
        rcases hr with hr | hr
        · exact Or.inl (Or.inr hr.symm)
        · exact Or.inr hr
