/-! reckoning over the state -/
def nsX (xs : List Int32) : Nat → Int32 := fun j => (xs[j]?).getD 0
noncomputable def chgS (σ : St0) (c : Int32) : Option Int32 := if chN σ σ.cust c σ.cn = -1 then none else some (σ.cv (chN σ σ.cust c σ.cn).toNatClampNeg)
noncomputable def evR (σ : St0) (i : Nat) (rule : Int32) (sz : Nat → Int32) : Int32 × Int32 × Int32 := evL (σ.ed i).xs.length (nsX (σ.ed i).xs) sz (chgS σ) rule (σ.ed i).rs (fun _ => (0, -1, 0)) rule.toNatClampNeg
theorem wfO_mem : ∀ {rs : List (Int32 × List pt)} {P : Nat → Prop}, wfO rs P → ∀ c ps, (c, ps) ∈ rs → vp_in c 8 ∧ ∀ p ∈ ps, ptOk p
  | [], P, h, c, ps, hm => by cases hm
  | (c0, ps0) :: rs, P, h, c, ps, hm => by
    obtain ⟨w1, w0, w2, w3⟩ := h
    rcases List.mem_cons.mp hm with e | e
    · cases e
      exact ⟨w1, fun p hp => (w2 p hp).1⟩
    · exact wfO_mem w3 c ps e
theorem cs_in {σ : St0} {cs : Nat → Int32} (hcn : σ.cn ≤ 20) (h : ∀ c r, c < 10 → r < 8 → cs (c * 8 + r) = chN σ (nI c) (nI r) σ.cn) : ∀ i, i < 80 → cs i = -1 ∨ vp_in (cs i) 20 := by
  intro i hi
  have e : i = i / 8 * 8 + i % 8 := by omega
  rw [e, h (i / 8) (i % 8) (by omega) (by omega)]
  rcases chN_cases σ (nI (i / 8)) (nI (i % 8)) σ.cn with z | ⟨k, hk, z⟩
  · exact Or.inl z
  · right
    rw [z]
    exact vp_in_nI (by omega) (by omega)
theorem cs_at {σ : St0} {cs : Nat → Int32} (h : ∀ c r, c < 10 → r < 8 → cs (c * 8 + r) = chN σ (nI c) (nI r) σ.cn) {c r : Int32} (hc : vp_in c 10) (hr : vp_in r 8) : cs (c * 8 + r).toNatClampNeg = chN σ c r σ.cn := by
  rw [(ix80 hc hr).2]
  obtain ⟨i, hi, rfl⟩ := vp_in_of hc (by omega)
  obtain ⟨j, hj, rfl⟩ := vp_in_of hr (by omega)
  rw [nI_clamp (by omega), nI_clamp (by omega)]
  exact h i j hi hj
theorem finds_rep {B : aX} {E : wE} {σ : St0} {G : gH} {i : Nat} {rule : Int32} {sz : Nat → Int32} {KR : Option Value → gH → Prop} {KT : Nat → gH → Prop} (h : RepX B E σ G) (hW : Wf σ) (hi : i < σ.en) (hv : vp_in rule 8) (hh : hasL (σ.ed i).rs rule.toNatClampNeg = true) (hs : G B.sa = some (.inl (E.2.2 0, 4, .inl sz))) (hz : ∀ j, 4 ≤ j → sz j = 0)
    (hK : ∀ (G1 : gH) (vs os ws : Nat → Int32), RepX B E σ G1 → FrX B G G1 → G1 B.va = some (.inl (E.2.2 0, 8, .inl vs)) → G1 B.oa = some (.inl (E.2.2 0, 8, .inl os)) → G1 B.wa = some (.inl (E.2.2 0, 8, .inl ws)) → eqv (vs rule.toNatClampNeg, os rule.toNatClampNeg, ws rule.toNatClampNeg) (evR σ i rule sz) → KR (some (.int (bI (¬ (evR σ i rule sz).2.1 = -1)))) G1) :
    ct_K_findsOpen E [.ref B.k0, .ref (B.e i), .ref B.ch, .int σ.cust, .int rule] G KR KT := by
  have hi6 : i < 6 := Nat.lt_of_lt_of_le hi hW.2.1
  obtain ⟨nc, rc, ns, ls, fp, e1, e2, e3, e4, rfl, f2, rfl, f4⟩ := h.edq hi6 hi
  obtain ⟨cs, hca, hcs⟩ := h.hca
  obtain ⟨vs, hva⟩ := h.hva
  obtain ⟨os, hoa⟩ := h.hoa
  obtain ⟨ws, hwa⟩ := h.hwa
  obtain ⟨o0, o1, o2, o3, o4⟩ := hW.2.2.2.2.2 i hi
  obtain ⟨d1, d2, d3, d4, d5, d6⟩ := h.dis.nk i hi6
  refine ⟨B.k0, B.ch, B.sa, B.va, B.oa, B.wa, B.e i, sz, vs, os, ws, .int (σ.ed i).day, (σ.ed i).xs.length, B.na i, B.la i, B.fa i, ns, ls, fp, (σ.ed i).rs, .ref B.ra, B.nu, B.ca, .int (nI σ.cn), σ.cv, cs, σ.cust, rule, rfl, h.hk, hs, hva, hoa, hwa, e1, o1, o2, e2, e3, e4, f4, wfO_mem o3, h.hch, h.hnu, hca, cs_in hW.2.2.1 hcs, hW.2.2.2.1, hv, h.dis.ow, h.dis.vo, h.dis.vw, d1, d2, d3, d4, d5, d6, ?_⟩
  have hq := fo_ev (n := (σ.ed i).xs.length) (ns := ns) (ns' := nsX (σ.ed i).xs) (sz := sz) (cs := cs) (nu := σ.cv) (cust := σ.cust) (rule := rule) (chg := chgS σ) (fun j hj => by
      rw [nsX, List.getElem?_eq_getElem hj]
      exact f2 j _ (List.getElem?_eq_getElem hj)) o1 (fun c hc => by rw [chgS, cs_at hcs hW.2.2.2.1 hc]) (rs := (σ.ed i).rs) (s := (vs, os, ws)) (env := fun _ => (0, -1, 0)) (P := fun _ => False) (fun i z => z.elim) o3 (Or.inr hh) hv
  generalize foL (nI (σ.ed i).xs.length) ns sz cs σ.cv σ.cust rule (σ.ed i).rs (vs, os, ws) = S9 at hq ⊢
  have hq2 : (S9.2.1 rule.toNatClampNeg = -1) = ((evR σ i rule sz).2.1 = -1) := by
    have := hq.2.1
    rw [show S9.2.1 rule.toNatClampNeg = (evR σ i rule sz).2.1 from this]
  rw [hq2]
  have x1 : g3 E G B.va B.oa B.wa S9 B.sa = some (.inl (E.2.2 0, 4, .inl sz)) := (g3_n (ne_cells hs hva (by simp)) (ne_cells hs hoa (by simp)) (ne_cells hs hwa (by simp))).trans hs
  refine hK _ S9.1 S9.2.1 S9.2.2 (h.setk x1 hz (g3_v h.dis.vo h.dis.vw) (g3_o h.dis.ow) g3_w (fun a _ z2 z3 z4 => g3_n z2 z3 z4)) (fun a z1 z2 => g3_n (fun z => z1 (by rw [z]; exact own_va)) (fun z => z1 (by rw [z]; exact own_oa)) (fun z => z1 (by rw [z]; exact own_wa))) (g3_v h.dis.vo h.dis.vw) (g3_o h.dis.ow) g3_w hq
/-! searching for a case -/
def sz4 (w t l n : Int32) : Nat → Int32 := fun j => if j = 0 then w else if j = 1 then t else if j = 2 then l else if j = 3 then n else 0
theorem sz4_of {sz : Nat → Int32} {w t l n : Int32} (h : ∀ j, 4 ≤ j → sz j = 0) : upd (upd (upd (upd sz 0 w) 1 t) 2 l) 3 n = sz4 w t l n := by
  funext j
  unfold sz4 upd
  by_cases h3 : j = 3
  · subst h3; simp
  · by_cases h2 : j = 2
    · subst h2; simp
    · by_cases h1 : j = 1
      · subst h1; simp
      · by_cases h0 : j = 0
        · subst h0; simp
        · simp [h0, h1, h2, h3]; exact h j (by omega)
theorem sz4_hi {w t l n : Int32} : ∀ j, 4 ≤ j → sz4 w t l n j = 0 := by
  intro j hj
  unfold sz4
  rw [if_neg (by omega), if_neg (by omega), if_neg (by omega), if_neg (by omega)]
noncomputable def srI (P : Nat → Prop) (v : Nat → Int32) : Nat → Nat → Int32
  | 0, _ => -1
  | k + 1, c => cif (P c) (v c) (srI P v k (c + 1))
theorem srI_s {P : Nat → Prop} {v : Nat → Int32} {k c : Nat} : srI P v (k + 1) c = cif (P c) (v c) (srI P v k (c + 1)) := rfl
def szC (W c : Nat) : Nat → Int32 := sz4 (nI (c / (W * W * W))) (nI (c / (W * W) % W)) (nI (c / W % W)) (nI (c % W))
def vlC (W c : Nat) : Int32 := nI (c / (W * W * W)) * 1000 + nI (c / (W * W) % W) * 100 + nI (c / W % W) * 10 + nI (c % W)
noncomputable def exI (σ : St0) (i : Nat) (rule : Int32) (m : Nat) : Int32 := srI (fun c => ¬ (evR σ i rule (szC (m + 1) c)).2.1 = -1) (vlC (m + 1)) ((m + 1) * (m + 1) * (m + 1) * (m + 1)) 0
def cW (W w t l n : Nat) : Nat := ((w * W + t) * W + l) * W + n
theorem cW_n (W w t l : Nat) : cW W w t l W = cW W w t (l + 1) 0 := by
  show ((w * W + t) * W + l) * W + W = ((w * W + t) * W + l + 1) * W + 0
  rw [Nat.succ_mul]; rfl
theorem cW_l (W w t : Nat) : cW W w t W 0 = cW W w (t + 1) 0 0 := by
  show ((w * W + t) * W + W) * W + 0 = ((w * W + t + 1) * W + 0) * W + 0
  rw [Nat.succ_mul (w * W + t)]; rfl
theorem cW_t (W w : Nat) : cW W w W 0 0 = cW W (w + 1) 0 0 0 := by
  show ((w * W + W) * W + 0) * W + 0 = (((w + 1) * W + 0) * W + 0) * W + 0
  rw [Nat.succ_mul w]; rfl
theorem stLt {X Y W l : Nat} (h : X < Y) (hl : l < W) : X * W + l < Y * W := by
  have h1 : (X + 1) * W ≤ Y * W := Nat.mul_le_mul_right W h
  rw [Nat.succ_mul] at h1
  omega
theorem cW_lt {W w t l n : Nat} (hw : w < W) (ht : t < W) (hl : l < W) (hn : n < W) : cW W w t l n < W * W * W * W := stLt (stLt (stLt hw ht) hl) hn
theorem cW_end (W : Nat) : cW W W 0 0 0 = W * W * W * W := rfl
theorem cW_dg {W w t l n : Nat} (hW : W ≤ 6) (hw : w < W) (ht : t < W) (hl : l < W) (hn : n < W) : cW W w t l n / (W * W * W) = w ∧ cW W w t l n / (W * W) % W = t ∧ cW W w t l n / W % W = l ∧ cW W w t l n % W = n := by
  have h : W = 1 ∨ W = 2 ∨ W = 3 ∨ W = 4 ∨ W = 5 ∨ W = 6 := by omega
  unfold cW
  rcases h with rfl | rfl | rfl | rfl | rfl | rfl <;> refine ⟨?_, ?_, ?_, ?_⟩ <;> omega
section LOOPM
variable {p : Program} {l : Launch} {e : Env} {R : Room} {s : State} {m : MethodId} {args : Array Value} {below : List Frame} {meth : Method} {c : Code} {Q : State → Prop} {E : wE} {A : Nat → Prop} {own : String} {cc : ByteArray} {nL : Nat}
variable {fl : Nat → Option (Nat × Nat × FieldType × Bool)} {nw : Nat → Option (Nat × Nat × List Value)} {nq : Nat → Option ClassId} {oc : Option Nat} {cs : Nat → Option (Nat × Nat × Nat × Nat × CallT)} {hh : Nat → Nat → Option Nat} {ret : Option FieldType} {mc ms : Nat} {RP : Option Value → gH → Prop} {TP : Nat → gH → Prop}
abbrev HdT : Type := Nat × (List Nat × (Nat → List Value → List Value → gH → Nat → Nat → Prop))
theorem AllL.of {α : Type} {P : α → Prop} : ∀ {L : List α}, (∀ a ∈ L, P a) → AllL P L
  | [], _ => trivial
  | a :: r, h => ⟨h a List.mem_cons_self, AllL.of (fun b hb => h b (List.mem_cons_of_mem _ hb))⟩
theorem loopM (hH : WpH E own cc nL A Q p l e R s m args below meth c fl nw nq oc cs hh ret mc ms RP TP) (heads : List HdT) (fuel : Nat)
    (step : ∀ n : Nat, AllL (fun q : HdT => ∀ vs st G k d, q.2.2 n vs st G k d → wp1 cc (lk (heads.map (fun q => (q.1, (q.2.1, fun vs st G k d => ∃ n', n' < n ∧ q.2.2 n' vs st G k d))))) nL E fl nw nq oc cs hh ret mc ms RP TP fuel q.1 (q.2.1.zip vs) st G k d) heads) :
    ∀ n, AllL (fun q : HdT => ∀ vs st G k d, q.2.2 n vs st G k d → Vj E nL A Q p l e R s m args below meth c q.1 (q.2.1.zip vs) st G k d) heads := by
  intro n
  induction n using Nat.strongRecOn with
  | ind n ih =>
    refine AllL.of (fun q hq vs st G k d hI => ?_)
    refine wp1_sound hH (cutL_ok (L := heads.map (fun q => (q.1, (q.2.1, fun vs st G k d => ∃ n', n' < n ∧ q.2.2 n' vs st G k d)))) (AllL.of ?_)) fuel q.1 _ _ _ _ _ ((step n).mem q hq vs st G k d hI)
    intro q' hq'
    obtain ⟨q0, h0, rfl⟩ := List.mem_map.mp hq'
    rintro vs st G k d ⟨n', hn', hI'⟩
    exact (ih n' hn').mem q0 h0 vs st G k d hI'
end LOOPM
