/-! what both sides answer -/
abbrev spT : Type := Int32 × Int32 × St0
noncomputable def sp_sign (σ : St0) (b : Int64) (n : Int32) : spT := cif (1 ≤ n ∧ n ≤ 8) (cif (200 < nI σ.len + n) (2, 0, σ) (0, nI (σ.len + n.toNatClampNeg), σ.sett (sgT b n.toNatClampNeg σ.t σ.len) (σ.len + n.toNatClampNeg))) (1, 0, σ)
noncomputable def sp_edition (σ : St0) (d : Int32) : spT := cif (σ.en < 6) (cif (0 ≤ d ∧ d ≤ 9999) (match rd σ.t (nI σ.len) with | (a1, none) => (3, 0, σ.sete σ.en σ.ed a1) | (_, some (xs, rs)) => (0, nI σ.en, σ.sete (σ.en + 1) (edN σ d xs rs) (-1))) (2, 0, σ)) (1, 0, σ)
noncomputable def sp_change (σ : St0) (c r k v : Int32) : spT := cif (chA c r) (cif (σ.cn < 20) (cif (chB k v) (0, nI σ.cn, σ.addc c r k v) (3, 0, σ)) (2, 0, σ)) (1, 0, σ)
noncomputable def sp_order (σ : St0) (c d : Int32) : spT := cif (0 ≤ c ∧ c ≤ 9) (cif (0 ≤ d ∧ d ≤ 9999) (0, 0, σ.setx σ.place c d σ.lo σ.lw) (2, 0, σ)) (1, 0, σ)
noncomputable def sp_value (σ : St0) (rule w t l n : Int32) : spT := cif (0 ≤ rule ∧ rule ≤ 7) (cif (chN σ σ.cust rule σ.cn = -1 ∧ ¬ hasE σ (ceN σ σ.en) rule) (2, 0, σ) (cif (szOk w t l n) (cif (chN σ σ.cust rule σ.cn = -1) (cif ((evR σ (ceN σ σ.en).toNatClampNeg rule (sz4 w t l n)).2.1 = -1) (0, (evR σ (ceN σ σ.en).toNatClampNeg rule (sz4 w t l n)).1, σ) (4, 0, σ.setx σ.place σ.cust σ.day (evR σ (ceN σ σ.en).toNatClampNeg rule (sz4 w t l n)).2.1 (evR σ (ceN σ σ.en).toNatClampNeg rule (sz4 w t l n)).2.2)) (0, σ.cv (chN σ σ.cust rule σ.cn).toNatClampNeg, σ)) (3, 0, σ))) (1, 0, σ)
noncomputable def sp_open (σ : St0) (q : Int32) : spT := cif (0 ≤ q ∧ q ≤ 1) (cif (σ.lo = -1) (2, 0, σ) (0, (if q = 0 then σ.lo else σ.lw), σ)) (1, 0, σ)
noncomputable def sp_example (σ : St0) (rule q : Int32) : spT := cif (0 ≤ rule ∧ rule ≤ 7) (cif (chN σ σ.cust rule σ.cn = -1 ∧ ¬ hasE σ (ceN σ σ.en) rule) (2, 0, σ) (cif (0 ≤ q ∧ q ≤ 5) (cif (chN σ σ.cust rule σ.cn = -1) (0, exI σ (ceN σ σ.en).toNatClampNeg rule q.toNatClampNeg, σ) (0, -1, σ)) (3, 0, σ))) (1, 0, σ)
noncomputable def sp_told (σ : St0) (q : Int32) : spT := cif (0 ≤ q ∧ q ≤ 4) (0, toI σ q, σ) (1, 0, σ)
noncomputable def sp_agreed (σ : St0) (rule : Int32) : spT := cif (0 ≤ rule ∧ rule ≤ 7) (0, chN σ σ.cust rule σ.cn, σ) (1, 0, σ)
noncomputable def sp_table (σ : St0) (e i : Int32) : spT := cif (0 ≤ e ∧ e ≤ nI σ.en - 1) (cif (-1 ≤ i ∧ i ≤ nI (σ.ed e.toNatClampNeg).xs.length - 1) (0, taI σ e i, σ) (1, 0, σ)) (1, 0, σ)
def oK (x : Int32) : Prop := x = -1 ∨ vp_in x 8
theorem evF_in {n : Nat} {ns sz : Nat → Int32} {env : en3} {c : Int32} {p : pt} (he : ∀ j, oK (env j).2.1) (hc : vp_in c 8) : oK (evF n ns sz env c p).2.1 := by
  unfold evF
  split
  · exact he _
  · split
    · exact Or.inl rfl
    · split
      · exact Or.inl rfl
      · exact Or.inr hc
theorem evS_in {n : Nat} {ns sz : Nat → Int32} {env : en3} {c : Int32} (he : ∀ j, oK (env j).2.1) (hc : vp_in c 8) : ∀ {ps : List pt} {sum sg pr : Int32}, oK (evS n ns sz env c ps sum sg pr).2.1
  | [], _, _, _ => Or.inl rfl
  | p :: ps, sum, sg, pr => by
    rw [evS_s]
    split
    · exact evF_in (p := p) he hc
    · split
      · exact Or.inr hc
      · split
        · exact evS_in he hc
        · split
          · exact evS_in he hc
          · exact evS_in he hc
theorem evL_in {n : Nat} {ns sz : Nat → Int32} {chg : Int32 → Option Int32} {rule : Int32} : ∀ {rs : List (Int32 × List pt)} {env : en3}, (∀ j, oK (env j).2.1) → (∀ c ps, (c, ps) ∈ rs → vp_in c 8) → ∀ j, oK (evL n ns sz chg rule rs env j).2.1
  | [], env, he, _ => he
  | (c, ps) :: rs, env, he, hr => by
    have hc := hr c ps List.mem_cons_self
    have h1 : oK (evC n ns sz chg env c ps).2.1 := by
      unfold evC
      split
      · exact Or.inl rfl
      · exact evS_in he hc
    have h2 : ∀ j, oK (eup env c.toNatClampNeg (evC n ns sz chg env c ps) j).2.1 := by
      intro j
      unfold eup
      split
      · exact h1
      · exact he j
    intro j
    show oK ((if c = rule then eup env c.toNatClampNeg (evC n ns sz chg env c ps) else evL n ns sz chg rule rs (eup env c.toNatClampNeg (evC n ns sz chg env c ps))) j).2.1
    split
    · exact h2 j
    · exact evL_in h2 (fun c' ps' hm => hr c' ps' (List.mem_cons_of_mem _ hm)) j
theorem evR_in {σ : St0} (hW : Wf σ) {i : Nat} (hi : i < σ.en) {rule : Int32} {sz : Nat → Int32} : oK (evR σ i rule sz).2.1 :=
  evL_in (fun _ => Or.inl rfl) (fun c ps hm => (wfO_mem (hW.2.2.2.2.2 i hi).2.2.2.1 c ps hm).1) _
theorem vin10 {x : Int32} (h : 0 ≤ x ∧ x ≤ 9) : vp_in x 10 := by
  obtain ⟨j, hj, rfl⟩ := nI_of (x := x) (Int32.not_lt.mpr h.1)
  have := (nI_leI (b := 9) hj (by omega)).mp h.2
  exact vp_in_nI (by omega) (by omega)
theorem sg_len {len : Nat} {n : Int32} (hl : len ≤ 200) (h1 : 1 ≤ n ∧ n ≤ 8) (h2 : ¬ 200 < nI len + n) : len + n.toNatClampNeg ≤ 200 := by
  obtain ⟨j, hj, rfl⟩ := nI_of (x := n) (Int32.not_lt.mpr (Int32.le_trans (by decide) h1.1))
  have hj8 : j ≤ 8 := (nI_leI (b := 8) hj (by omega)).mp h1.2
  have z := Int32.not_lt.mp h2
  rw [nI_add] at z
  rw [nI_clamp (by omega)]
  exact (nI_leI (b := 200) (by omega) (by omega)).mp z
theorem wf_sign {σ : St0} (h : Wf σ) (b : Int64) (n : Int32) : Wf (sp_sign σ b n).2.2 := by
  unfold sp_sign
  by_cases h1 : 1 ≤ n ∧ n ≤ 8
  · rw [cif_t h1]
    by_cases h2 : 200 < nI σ.len + n
    · rw [cif_t h2]; exact h
    · rw [cif_f h2]
      exact ⟨sg_len h.1 h1 h2, h.2⟩
  · rw [cif_f h1]; exact h
theorem wf_edition {σ : St0} (h : Wf σ) (d : Int32) : Wf (sp_edition σ d).2.2 := by
  unfold sp_edition
  by_cases h1 : σ.en < 6
  · rw [cif_t h1]
    by_cases h2 : 0 ≤ d ∧ d ≤ 9999
    · rw [cif_t h2]
      cases hr : rd σ.t (nI σ.len) with
      | mk a1 r1 =>
        cases r1 with
        | none => exact ⟨by show 0 ≤ 200; omega, h.2⟩
        | some xr =>
          obtain ⟨xs, rs⟩ := xr
          refine ⟨by show 0 ≤ 200; omega, by show σ.en + 1 ≤ 6; omega, h.2.2.1, h.2.2.2.1, h.2.2.2.2.1, fun i hi => ?_⟩
          show edOk (if i = σ.en then (d, xs, rs) else σ.ed i)
          have hi2 : i < σ.en + 1 := hi
          by_cases hie : i = σ.en
          · rw [if_pos hie]; exact rd_wf hr
          · rw [if_neg hie]; exact h.2.2.2.2.2 i (by omega)
    · rw [cif_f h2]; exact h
  · rw [cif_f h1]; exact h
theorem wf_change {σ : St0} (h : Wf σ) (c r k v : Int32) : Wf (sp_change σ c r k v).2.2 := by
  unfold sp_change
  by_cases h1 : chA c r
  · rw [cif_t h1]
    by_cases h2 : σ.cn < 20
    · rw [cif_t h2]
      by_cases h3 : chB k v
      · rw [cif_t h3]
        exact ⟨h.1, h.2.1, by show σ.cn + 1 ≤ 20; omega, h.2.2.2⟩
      · rw [cif_f h3]; exact h
    · rw [cif_f h2]; exact h
  · rw [cif_f h1]; exact h
theorem wf_order {σ : St0} (h : Wf σ) (c d : Int32) : Wf (sp_order σ c d).2.2 := by
  unfold sp_order
  by_cases h1 : 0 ≤ c ∧ c ≤ 9
  · rw [cif_t h1]
    by_cases h2 : 0 ≤ d ∧ d ≤ 9999
    · rw [cif_t h2]
      exact ⟨h.1, h.2.1, h.2.2.1, vin10 h1, h.2.2.2.2⟩
    · rw [cif_f h2]; exact h
  · rw [cif_f h1]; exact h
theorem wf_value {σ : St0} (h : Wf σ) (rule w t l n : Int32) : Wf (sp_value σ rule w t l n).2.2 := by
  unfold sp_value
  by_cases h1 : 0 ≤ rule ∧ rule ≤ 7
  · rw [cif_t h1]
    by_cases h2 : chN σ σ.cust rule σ.cn = -1 ∧ ¬ hasE σ (ceN σ σ.en) rule
    · rw [cif_t h2]; exact h
    · rw [cif_f h2]
      by_cases h3 : szOk w t l n
      · rw [cif_t h3]
        by_cases h4 : chN σ σ.cust rule σ.cn = -1
        · rw [cif_t h4]
          by_cases h5 : (evR σ (ceN σ σ.en).toNatClampNeg rule (sz4 w t l n)).2.1 = -1
          · rw [cif_t h5]; exact h
          · rw [cif_f h5]
            have hE : hasE σ (ceN σ σ.en) rule := Classical.byContradiction (fun z => h2 ⟨h4, z⟩)
            obtain ⟨i, hi, e8⟩ := hasE_of hE
            have hen := h.2.1
            refine ⟨h.1, h.2.1, h.2.2.1, h.2.2.2.1, ?_, h.2.2.2.2.2⟩
            show oK (evR σ (ceN σ σ.en).toNatClampNeg rule (sz4 w t l n)).2.1
            rw [e8, nI_clamp (by omega)]
            exact evR_in h hi
        · rw [cif_f h4]; exact h
      · rw [cif_f h3]; exact h
  · rw [cif_f h1]; exact h
theorem wf_open {σ : St0} (h : Wf σ) (q : Int32) : Wf (sp_open σ q).2.2 := by
  unfold sp_open
  by_cases h1 : 0 ≤ q ∧ q ≤ 1
  · rw [cif_t h1]
    by_cases h2 : σ.lo = -1
    · rw [cif_t h2]; exact h
    · rw [cif_f h2]; exact h
  · rw [cif_f h1]; exact h
theorem wf_example {σ : St0} (h : Wf σ) (rule q : Int32) : Wf (sp_example σ rule q).2.2 := by
  unfold sp_example
  by_cases h1 : 0 ≤ rule ∧ rule ≤ 7
  · rw [cif_t h1]
    by_cases h2 : chN σ σ.cust rule σ.cn = -1 ∧ ¬ hasE σ (ceN σ σ.en) rule
    · rw [cif_t h2]; exact h
    · rw [cif_f h2]
      by_cases h3 : 0 ≤ q ∧ q ≤ 5
      · rw [cif_t h3]
        by_cases h4 : chN σ σ.cust rule σ.cn = -1
        · rw [cif_t h4]; exact h
        · rw [cif_f h4]; exact h
      · rw [cif_f h3]; exact h
  · rw [cif_f h1]; exact h
theorem wf_told {σ : St0} (h : Wf σ) (q : Int32) : Wf (sp_told σ q).2.2 := by
  unfold sp_told
  by_cases h1 : 0 ≤ q ∧ q ≤ 4
  · rw [cif_t h1]; exact h
  · rw [cif_f h1]; exact h
theorem wf_agreed {σ : St0} (h : Wf σ) (rule : Int32) : Wf (sp_agreed σ rule).2.2 := by
  unfold sp_agreed
  by_cases h1 : 0 ≤ rule ∧ rule ≤ 7
  · rw [cif_t h1]; exact h
  · rw [cif_f h1]; exact h
theorem wf_table {σ : St0} (h : Wf σ) (e i : Int32) : Wf (sp_table σ e i).2.2 := by
  unfold sp_table
  by_cases h1 : 0 ≤ e ∧ e ≤ nI σ.en - 1
  · rw [cif_t h1]
    by_cases h2 : -1 ≤ i ∧ i ≤ nI (σ.ed e.toNatClampNeg).xs.length - 1
    · rw [cif_t h2]; exact h
    · rw [cif_f h2]; exact h
  · rw [cif_f h1]; exact h
theorem mk_M_sign {E : wE} {M : Nat → Nat} {S : Nat → Int32} {B : Nat → Nat → Int32} {σ : St0} {G : gH} (b : Int64) (n : Int32) {KR : Option Value → gH → Prop} {KT : Nat → gH → Prop} (hq : RepQ M E S B G) (hs : stQ σ S B) (hW : Wf σ) (h : ∀ G1, RepM M E (sp_sign σ b n).2.2 (sp_sign σ b n).1 G1 → FrM M G G1 → KR (some (.int (sp_sign σ b n).2.1)) G1) : ct_M_sign E [.ref (M 0), .long b, .int n] G KR KT := by
  refine ⟨M, S, B, σ, b, n, rfl, hq.hm, hq, hs, hW, ?_, ?_, ?_⟩
  · intro h1 G1 g1 g2
    rw [sp_sign, cif_f h1] at h
    exact h G1 g1 g2
  · intro h1 h2 G1 g1 g2
    rw [sp_sign, cif_t h1, cif_t h2] at h
    exact h G1 g1 g2
  · intro h1 h2 G1 g1 g2
    rw [sp_sign, cif_t h1, cif_f h2] at h
    exact h G1 g1 g2
theorem mk_M_edition {E : wE} {M : Nat → Nat} {S : Nat → Int32} {B : Nat → Nat → Int32} {σ : St0} {G : gH} (d : Int32) {KR : Option Value → gH → Prop} {KT : Nat → gH → Prop} (hq : RepQ M E S B G) (hs : stQ σ S B) (hW : Wf σ) (h : ∀ G1, RepM M E (sp_edition σ d).2.2 (sp_edition σ d).1 G1 → FrM M G G1 → KR (some (.int (sp_edition σ d).2.1)) G1) : ct_M_edition E [.ref (M 0), .int d] G KR KT := by
  refine ⟨M, S, B, σ, d, rfl, hq.hm, hq, hs, hW, ?_, ?_, ?_, ?_⟩
  · intro h1 G1 g1 g2
    rw [sp_edition, cif_f h1] at h
    exact h G1 g1 g2
  · intro h1 h2 G1 g1 g2
    rw [sp_edition, cif_t h1, cif_f h2] at h
    exact h G1 g1 g2
  · intro h1 h2 a1 hr G1 g1 g2
    rw [sp_edition, cif_t h1, cif_t h2, hr] at h
    exact h G1 g1 g2
  · intro h1 h2 a1 xs rs hr G1 g1 g2
    rw [sp_edition, cif_t h1, cif_t h2, hr] at h
    exact h G1 g1 g2
theorem mk_M_change {E : wE} {M : Nat → Nat} {S : Nat → Int32} {B : Nat → Nat → Int32} {σ : St0} {G : gH} (c r k v : Int32) {KR : Option Value → gH → Prop} {KT : Nat → gH → Prop} (hq : RepQ M E S B G) (hs : stQ σ S B) (hW : Wf σ) (h : ∀ G1, RepM M E (sp_change σ c r k v).2.2 (sp_change σ c r k v).1 G1 → FrM M G G1 → KR (some (.int (sp_change σ c r k v).2.1)) G1) : ct_M_change E [.ref (M 0), .int c, .int r, .int k, .int v] G KR KT := by
  refine ⟨M, S, B, σ, c, r, k, v, rfl, hq.hm, hq, hs, hW, ?_, ?_, ?_, ?_⟩
  · intro h1 G1 g1 g2
    rw [sp_change, cif_f (p := chA c r) h1] at h
    exact h G1 g1 g2
  · intro h1 h2 G1 g1 g2
    rw [sp_change, cif_t (p := chA c r) h1, cif_f h2] at h
    exact h G1 g1 g2
  · intro h1 h2 h3 G1 g1 g2
    rw [sp_change, cif_t (p := chA c r) h1, cif_t h2, cif_f (p := chB k v) h3] at h
    exact h G1 g1 g2
  · intro h1 h2 h3 G1 g1 g2
    rw [sp_change, cif_t (p := chA c r) h1, cif_t h2, cif_t (p := chB k v) h3] at h
    exact h G1 g1 g2
theorem mk_M_order {E : wE} {M : Nat → Nat} {S : Nat → Int32} {B : Nat → Nat → Int32} {σ : St0} {G : gH} (c d : Int32) {KR : Option Value → gH → Prop} {KT : Nat → gH → Prop} (hq : RepQ M E S B G) (hs : stQ σ S B) (hW : Wf σ) (h : ∀ G1, RepM M E (sp_order σ c d).2.2 (sp_order σ c d).1 G1 → FrM M G G1 → KR none G1) : ct_M_order E [.ref (M 0), .int c, .int d] G KR KT := by
  refine ⟨M, S, B, σ, c, d, rfl, hq.hm, hq, hs, hW, ?_, ?_, ?_⟩
  · intro h1 G1 g1 g2
    rw [sp_order, cif_f h1] at h
    exact h G1 g1 g2
  · intro h1 h2 G1 g1 g2
    rw [sp_order, cif_t h1, cif_f h2] at h
    exact h G1 g1 g2
  · intro h1 h2 G1 g1 g2
    rw [sp_order, cif_t h1, cif_t h2] at h
    exact h G1 g1 g2
theorem mk_M_value {E : wE} {M : Nat → Nat} {S : Nat → Int32} {B : Nat → Nat → Int32} {σ : St0} {G : gH} (rule w t l n : Int32) {KR : Option Value → gH → Prop} {KT : Nat → gH → Prop} (hq : RepQ M E S B G) (hs : stQ σ S B) (hW : Wf σ) (h : ∀ G1, RepM M E (sp_value σ rule w t l n).2.2 (sp_value σ rule w t l n).1 G1 → FrM M G G1 → KR (some (.int (sp_value σ rule w t l n).2.1)) G1) : ct_M_value E [.ref (M 0), .int rule, .int w, .int t, .int l, .int n] G KR KT := by
  refine ⟨M, S, B, σ, rule, w, t, l, n, rfl, hq.hm, hq, hs, hW, ?_, ?_, ?_, ?_, ?_, ?_⟩
  · intro h1 G1 g1 g2
    rw [sp_value, cif_f h1] at h
    exact h G1 g1 g2
  · intro h1 h2 h3 G1 g1 g2
    rw [sp_value, cif_t h1, cif_t ⟨h2, h3⟩] at h
    exact h G1 g1 g2
  · intro h1 h2 h3 G1 g1 g2
    rw [sp_value, cif_t h1, cif_f (fun z => z.2 (h2 z.1)), cif_f h3] at h
    exact h G1 g1 g2
  · intro h1 h2 h3 G1 g1 g2
    rw [sp_value, cif_t h1, cif_f (fun z => h2 z.1), cif_t h3, cif_f h2] at h
    exact h G1 g1 g2
  · intro h1 h2 h3 h4 h5 G1 g1 g2
    rw [sp_value, cif_t h1, cif_f (fun z => z.2 h3), cif_t h4, cif_t h2, cif_t h5] at h
    exact h G1 g1 g2
  · intro h1 h2 h3 h4 h5 G1 g1 g2
    rw [sp_value, cif_t h1, cif_f (fun z => z.2 h3), cif_t h4, cif_t h2, cif_f h5] at h
    exact h G1 g1 g2
theorem mk_M_open {E : wE} {M : Nat → Nat} {S : Nat → Int32} {B : Nat → Nat → Int32} {σ : St0} {G : gH} (q : Int32) {KR : Option Value → gH → Prop} {KT : Nat → gH → Prop} (hq : RepQ M E S B G) (hs : stQ σ S B) (hW : Wf σ) (h : ∀ G1, RepM M E (sp_open σ q).2.2 (sp_open σ q).1 G1 → FrM M G G1 → KR (some (.int (sp_open σ q).2.1)) G1) : ct_M_open E [.ref (M 0), .int q] G KR KT := by
  refine ⟨M, S, B, σ, q, rfl, hq.hm, hq, hs, hW, ?_, ?_, ?_⟩
  · intro h1 G1 g1 g2
    rw [sp_open, cif_f h1] at h
    exact h G1 g1 g2
  · intro h1 h2 G1 g1 g2
    rw [sp_open, cif_t h1, cif_t h2] at h
    exact h G1 g1 g2
  · intro h1 h2 G1 g1 g2
    rw [sp_open, cif_t h1, cif_f h2] at h
    exact h G1 g1 g2
theorem mk_M_example {E : wE} {M : Nat → Nat} {S : Nat → Int32} {B : Nat → Nat → Int32} {σ : St0} {G : gH} (rule q : Int32) {KR : Option Value → gH → Prop} {KT : Nat → gH → Prop} (hq : RepQ M E S B G) (hs : stQ σ S B) (hW : Wf σ) (h : ∀ G1, RepM M E (sp_example σ rule q).2.2 (sp_example σ rule q).1 G1 → FrM M G G1 → KR (some (.int (sp_example σ rule q).2.1)) G1) : ct_M_example E [.ref (M 0), .int rule, .int q] G KR KT := by
  refine ⟨M, S, B, σ, rule, q, rfl, hq.hm, hq, hs, hW, ?_, ?_, ?_, ?_, ?_⟩
  · intro h1 G1 g1 g2
    rw [sp_example, cif_f h1] at h
    exact h G1 g1 g2
  · intro h1 h2 h3 G1 g1 g2
    rw [sp_example, cif_t h1, cif_t ⟨h2, h3⟩] at h
    exact h G1 g1 g2
  · intro h1 h2 h3 G1 g1 g2
    rw [sp_example, cif_t h1, cif_f (fun z => z.2 (h2 z.1)), cif_f h3] at h
    exact h G1 g1 g2
  · intro h1 h2 h3 G1 g1 g2
    rw [sp_example, cif_t h1, cif_f (fun z => h2 z.1), cif_t h3, cif_f h2] at h
    exact h G1 g1 g2
  · intro h1 h2 h3 h4 G1 g1 g2
    rw [sp_example, cif_t h1, cif_f (fun z => z.2 h3), cif_t h4, cif_t h2] at h
    exact h G1 g1 g2
theorem mk_M_told {E : wE} {M : Nat → Nat} {S : Nat → Int32} {B : Nat → Nat → Int32} {σ : St0} {G : gH} (q : Int32) {KR : Option Value → gH → Prop} {KT : Nat → gH → Prop} (hq : RepQ M E S B G) (hs : stQ σ S B) (hW : Wf σ) (h : ∀ G1, RepM M E (sp_told σ q).2.2 (sp_told σ q).1 G1 → FrM M G G1 → KR (some (.int (sp_told σ q).2.1)) G1) : ct_M_told E [.ref (M 0), .int q] G KR KT := by
  refine ⟨M, S, B, σ, q, rfl, hq.hm, hq, hs, hW, ?_, ?_⟩
  · intro h1 G1 g1 g2
    rw [sp_told, cif_f h1] at h
    exact h G1 g1 g2
  · intro h1 G1 g1 g2
    rw [sp_told, cif_t h1] at h
    exact h G1 g1 g2
theorem mk_M_agreed {E : wE} {M : Nat → Nat} {S : Nat → Int32} {B : Nat → Nat → Int32} {σ : St0} {G : gH} (rule : Int32) {KR : Option Value → gH → Prop} {KT : Nat → gH → Prop} (hq : RepQ M E S B G) (hs : stQ σ S B) (hW : Wf σ) (h : ∀ G1, RepM M E (sp_agreed σ rule).2.2 (sp_agreed σ rule).1 G1 → FrM M G G1 → KR (some (.int (sp_agreed σ rule).2.1)) G1) : ct_M_agreed E [.ref (M 0), .int rule] G KR KT := by
  refine ⟨M, S, B, σ, rule, rfl, hq.hm, hq, hs, hW, ?_, ?_⟩
  · intro h1 G1 g1 g2
    rw [sp_agreed, cif_f h1] at h
    exact h G1 g1 g2
  · intro h1 G1 g1 g2
    rw [sp_agreed, cif_t h1] at h
    exact h G1 g1 g2
theorem mk_M_table {E : wE} {M : Nat → Nat} {S : Nat → Int32} {B : Nat → Nat → Int32} {σ : St0} {G : gH} (e i : Int32) {KR : Option Value → gH → Prop} {KT : Nat → gH → Prop} (hq : RepQ M E S B G) (hs : stQ σ S B) (hW : Wf σ) (h : ∀ G1, RepM M E (sp_table σ e i).2.2 (sp_table σ e i).1 G1 → FrM M G G1 → KR (some (.int (sp_table σ e i).2.1)) G1) : ct_M_table E [.ref (M 0), .int e, .int i] G KR KT := by
  refine ⟨M, S, B, σ, e, i, rfl, hq.hm, hq, hs, hW, ?_, ?_, ?_⟩
  · intro h1 G1 g1 g2
    rw [sp_table, cif_f h1] at h
    exact h G1 g1 g2
  · intro h1 h2 G1 g1 g2
    rw [sp_table, cif_t h1, cif_f h2] at h
    exact h G1 g1 g2
  · intro h1 h2 G1 g1 g2
    rw [sp_table, cif_t h1, cif_t h2] at h
    exact h G1 g1 g2
