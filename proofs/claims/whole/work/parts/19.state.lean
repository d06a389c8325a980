/-! the state that both sides hold, and the class's cells -/
abbrev Ed0 : Type := Int32 × List Int32 × List (Int32 × List pt)
def Ed0.day (q : Ed0) : Int32 := q.1
def Ed0.xs (q : Ed0) : List Int32 := q.2.1
def Ed0.rs (q : Ed0) : List (Int32 × List pt) := q.2.2
def St0 : Type := (Nat → Int32) × (Nat) × (Nat) × (Nat → Ed0) × (Nat) × (Nat → Int32) × (Nat → Int32) × (Nat → Int32) × (Nat → Int32) × (Int32) × (Int32) × (Int32) × (Int32) × (Int32)
def St0.t (σ : St0) : Nat → Int32 := σ.1
def St0.len (σ : St0) : Nat := σ.2.1
def St0.en (σ : St0) : Nat := σ.2.2.1
def St0.ed (σ : St0) : Nat → Ed0 := σ.2.2.2.1
def St0.cn (σ : St0) : Nat := σ.2.2.2.2.1
def St0.cc (σ : St0) : Nat → Int32 := σ.2.2.2.2.2.1
def St0.cr (σ : St0) : Nat → Int32 := σ.2.2.2.2.2.2.1
def St0.ck (σ : St0) : Nat → Int32 := σ.2.2.2.2.2.2.2.1
def St0.cv (σ : St0) : Nat → Int32 := σ.2.2.2.2.2.2.2.2.1
def St0.place (σ : St0) : Int32 := σ.2.2.2.2.2.2.2.2.2.1
def St0.cust (σ : St0) : Int32 := σ.2.2.2.2.2.2.2.2.2.2.1
def St0.day (σ : St0) : Int32 := σ.2.2.2.2.2.2.2.2.2.2.2.1
def St0.lo (σ : St0) : Int32 := σ.2.2.2.2.2.2.2.2.2.2.2.2.1
def St0.lw (σ : St0) : Int32 := σ.2.2.2.2.2.2.2.2.2.2.2.2.2
def St0.setx (σ : St0) (pl cu dy lo lw : Int32) : St0 := (σ.t, σ.len, σ.en, σ.ed, σ.cn, σ.cc, σ.cr, σ.ck, σ.cv, pl, cu, dy, lo, lw)
/-- the change that counts, of the first n -/
noncomputable def chN (σ : St0) (c r : Int32) : Nat → Int32
  | 0 => -1
  | n + 1 => if (σ.cc n = c ∧ σ.cr n = r) ∧ (chN σ c r n = -1 ∨ σ.ck (chN σ c r n).toNatClampNeg ≤ σ.ck n) then nI n else chN σ c r n
/-- the edition that counts, of the first n -/
def ceN (σ : St0) : Nat → Int32
  | 0 => -1
  | n + 1 => if (σ.ed n).day ≤ σ.day ∧ (ceN σ n = -1 ∨ (σ.ed (ceN σ n).toNatClampNeg).day ≤ (σ.ed n).day) then nI n else ceN σ n
theorem chN_cases (σ : St0) (c r : Int32) : ∀ n, chN σ c r n = -1 ∨ ∃ i, i < n ∧ chN σ c r n = nI i
  | 0 => Or.inl rfl
  | n + 1 => by
    unfold chN
    split
    · exact Or.inr ⟨n, by omega, rfl⟩
    · rcases chN_cases σ c r n with h | ⟨i, hi, h⟩
      · exact Or.inl h
      · exact Or.inr ⟨i, by omega, h⟩
theorem ceN_cases (σ : St0) : ∀ n, ceN σ n = -1 ∨ ∃ i, i < n ∧ ceN σ n = nI i
  | 0 => Or.inl rfl
  | n + 1 => by
    unfold ceN
    split
    · exact Or.inr ⟨n, by omega, rfl⟩
    · rcases ceN_cases σ n with h | ⟨i, hi, h⟩
      · exact Or.inl h
      · exact Or.inr ⟨i, by omega, h⟩
abbrev aX : Type := (Nat → Nat) × (Nat → Nat → Nat)
def aX.x (B : aX) : Nat := B.1 0
def aX.r (B : aX) : Nat := B.1 1
def aX.ta (B : aX) : Nat := B.1 2
def aX.ea (B : aX) : Nat := B.1 3
def aX.ch (B : aX) : Nat := B.1 4
def aX.k0 (B : aX) : Nat := B.1 5
def aX.ra (B : aX) : Nat := B.1 6
def aX.nu (B : aX) : Nat := B.1 7
def aX.ca (B : aX) : Nat := B.1 8
def aX.sa (B : aX) : Nat := B.1 9
def aX.va (B : aX) : Nat := B.1 10
def aX.oa (B : aX) : Nat := B.1 11
def aX.wa (B : aX) : Nat := B.1 12
def aX.e (B : aX) (i : Nat) : Nat := B.2 0 i
def aX.na (B : aX) (i : Nat) : Nat := B.2 1 i
def aX.la (B : aX) (i : Nat) : Nat := B.2 2 i
def aX.fa (B : aX) (i : Nat) : Nat := B.2 3 i
def aX.own (B : aX) (a : Nat) : Prop := (∃ k, k < 13 ∧ a = B.1 k) ∨ ∃ k i, k < 4 ∧ i < 6 ∧ a = B.2 k i
def disX (B : aX) : Prop := (B.va ≠ B.oa ∧ B.va ≠ B.wa ∧ B.oa ≠ B.wa ∧ B.ra ≠ B.nu) ∧
  (∀ i j, i < 6 → j < 6 → i ≠ j → B.e i ≠ B.e j ∧ B.na i ≠ B.na j ∧ B.la i ≠ B.la j ∧ B.fa i ≠ B.fa j) ∧
  (∀ i j, i < 6 → j < 6 → B.na i ≠ B.la j) ∧
  (∀ i, i < 6 → B.na i ≠ B.va ∧ B.na i ≠ B.oa ∧ B.na i ≠ B.wa ∧ B.la i ≠ B.va ∧ B.la i ≠ B.oa ∧ B.la i ≠ B.wa)
theorem disX.vo {B : aX} (h : disX B) : B.va ≠ B.oa := h.1.1
theorem disX.vw {B : aX} (h : disX B) : B.va ≠ B.wa := h.1.2.1
theorem disX.ow {B : aX} (h : disX B) : B.oa ≠ B.wa := h.1.2.2.1
theorem disX.rn {B : aX} (h : disX B) : B.ra ≠ B.nu := h.1.2.2.2
theorem disX.ee {B : aX} (h : disX B) : ∀ i j, i < 6 → j < 6 → i ≠ j → B.e i ≠ B.e j ∧ B.na i ≠ B.na j ∧ B.la i ≠ B.la j ∧ B.fa i ≠ B.fa j := h.2.1
theorem disX.nl {B : aX} (h : disX B) : ∀ i j, i < 6 → j < 6 → B.na i ≠ B.la j := h.2.2.1
theorem disX.nk {B : aX} (h : disX B) : ∀ i, i < 6 → B.na i ≠ B.va ∧ B.na i ≠ B.oa ∧ B.na i ≠ B.wa ∧ B.la i ≠ B.va ∧ B.la i ≠ B.oa ∧ B.la i ≠ B.wa := h.2.2.2
theorem own_x {B : aX} : B.own B.x := Or.inl ⟨0, by decide, rfl⟩
theorem own_r {B : aX} : B.own B.r := Or.inl ⟨1, by decide, rfl⟩
theorem own_ta {B : aX} : B.own B.ta := Or.inl ⟨2, by decide, rfl⟩
theorem own_ea {B : aX} : B.own B.ea := Or.inl ⟨3, by decide, rfl⟩
theorem own_ch {B : aX} : B.own B.ch := Or.inl ⟨4, by decide, rfl⟩
theorem own_k0 {B : aX} : B.own B.k0 := Or.inl ⟨5, by decide, rfl⟩
theorem own_ra {B : aX} : B.own B.ra := Or.inl ⟨6, by decide, rfl⟩
theorem own_nu {B : aX} : B.own B.nu := Or.inl ⟨7, by decide, rfl⟩
theorem own_ca {B : aX} : B.own B.ca := Or.inl ⟨8, by decide, rfl⟩
theorem own_sa {B : aX} : B.own B.sa := Or.inl ⟨9, by decide, rfl⟩
theorem own_va {B : aX} : B.own B.va := Or.inl ⟨10, by decide, rfl⟩
theorem own_oa {B : aX} : B.own B.oa := Or.inl ⟨11, by decide, rfl⟩
theorem own_wa {B : aX} : B.own B.wa := Or.inl ⟨12, by decide, rfl⟩
/-- an edition's cells -/
def edR (E : wE) (G : gH) (e na la fa : Nat) (d : Option Ed0) : Prop :=
  ∃ (dy nc rc : Int32) (ns ls : Nat → Int32) (fp : Nat → Option Nat), G e = some (.inr (4, [.int dy, .int nc, .int rc, .ref na, .ref la, .ref fa])) ∧ G na = some (.inl (E.2.2 0, 8, .inl ns)) ∧ G la = some (.inl (E.2.2 0, 8, .inl ls)) ∧ G fa = some (.inl (E.2.2 3, 8, .inr (.inr (.inr (.inr fp))))) ∧ (∀ j, 8 ≤ j → fp j = none) ∧
    ∀ q, d = some q → dy = q.day ∧ nc = nI q.xs.length ∧ (∀ j x, q.xs[j]? = some x → ns j = x) ∧ rc = nI q.rs.length ∧ rulesR G ls fp q.rs
def RepX (B : aX) (E : wE) (σ : St0) (G : gH) : Prop :=
  (G B.x = some (.inr (0, [.ref B.r, .ref B.ea, .ref B.ch, .ref B.k0, .int (nI σ.en), .int σ.place, .int σ.cust, .int σ.day, .int σ.lo, .int σ.lw]))) ∧
  (∃ (a nm : Int32) (f l1 : Value), G B.r = some (.inr (1, [.ref B.ta, .int (nI σ.len), .int a, .int nm, f, l1]))) ∧
  (G B.ta = some (.inl (E.2.2 0, 200, .inl σ.t))) ∧
  (G B.ea = some (.inl (E.2.2 2, 6, .inr (.inr (.inr (.inr fun i => if i < 6 then some (B.e i) else none)))))) ∧
  (G B.ch = some (.inr (2, [.ref B.ra, .ref B.nu, .ref B.ca, .int (nI σ.cn)]))) ∧
  (G B.ra = some (.inl (E.2.2 0, 20, .inl σ.ck))) ∧
  (G B.nu = some (.inl (E.2.2 0, 20, .inl σ.cv))) ∧
  (∃ cs : Nat → Int32, G B.ca = some (.inl (E.2.2 0, 80, .inl cs)) ∧ ∀ c r, c < 10 → r < 8 → cs (c * 8 + r) = chN σ (nI c) (nI r) σ.cn) ∧
  (G B.k0 = some (.inr (3, [.ref B.sa, .ref B.va, .ref B.oa, .ref B.wa]))) ∧
  (∃ sz : Nat → Int32, G B.sa = some (.inl (E.2.2 0, 4, .inl sz)) ∧ ∀ j, 4 ≤ j → sz j = 0) ∧
  (∃ vs : Nat → Int32, G B.va = some (.inl (E.2.2 0, 8, .inl vs))) ∧
  (∃ os : Nat → Int32, G B.oa = some (.inl (E.2.2 0, 8, .inl os))) ∧
  (∃ ws : Nat → Int32, G B.wa = some (.inl (E.2.2 0, 8, .inl ws))) ∧
  (∀ i, i < 6 → edR E G (B.e i) (B.na i) (B.la i) (B.fa i) (if i < σ.en then some (σ.ed i) else none)) ∧
  (disX B)
theorem RepX.hx {B : aX} {E : wE} {σ : St0} {G : gH} (h : RepX B E σ G) : G B.x = some (.inr (0, [.ref B.r, .ref B.ea, .ref B.ch, .ref B.k0, .int (nI σ.en), .int σ.place, .int σ.cust, .int σ.day, .int σ.lo, .int σ.lw])) := h.1
theorem RepX.hr {B : aX} {E : wE} {σ : St0} {G : gH} (h : RepX B E σ G) : ∃ (a nm : Int32) (f l1 : Value), G B.r = some (.inr (1, [.ref B.ta, .int (nI σ.len), .int a, .int nm, f, l1])) := h.2.1
theorem RepX.hta {B : aX} {E : wE} {σ : St0} {G : gH} (h : RepX B E σ G) : G B.ta = some (.inl (E.2.2 0, 200, .inl σ.t)) := h.2.2.1
theorem RepX.hea {B : aX} {E : wE} {σ : St0} {G : gH} (h : RepX B E σ G) : G B.ea = some (.inl (E.2.2 2, 6, .inr (.inr (.inr (.inr fun i => if i < 6 then some (B.e i) else none))))) := h.2.2.2.1
theorem RepX.hch {B : aX} {E : wE} {σ : St0} {G : gH} (h : RepX B E σ G) : G B.ch = some (.inr (2, [.ref B.ra, .ref B.nu, .ref B.ca, .int (nI σ.cn)])) := h.2.2.2.2.1
theorem RepX.hra {B : aX} {E : wE} {σ : St0} {G : gH} (h : RepX B E σ G) : G B.ra = some (.inl (E.2.2 0, 20, .inl σ.ck)) := h.2.2.2.2.2.1
theorem RepX.hnu {B : aX} {E : wE} {σ : St0} {G : gH} (h : RepX B E σ G) : G B.nu = some (.inl (E.2.2 0, 20, .inl σ.cv)) := h.2.2.2.2.2.2.1
theorem RepX.hca {B : aX} {E : wE} {σ : St0} {G : gH} (h : RepX B E σ G) : ∃ cs : Nat → Int32, G B.ca = some (.inl (E.2.2 0, 80, .inl cs)) ∧ ∀ c r, c < 10 → r < 8 → cs (c * 8 + r) = chN σ (nI c) (nI r) σ.cn := h.2.2.2.2.2.2.2.1
theorem RepX.hk {B : aX} {E : wE} {σ : St0} {G : gH} (h : RepX B E σ G) : G B.k0 = some (.inr (3, [.ref B.sa, .ref B.va, .ref B.oa, .ref B.wa])) := h.2.2.2.2.2.2.2.2.1
theorem RepX.hsa {B : aX} {E : wE} {σ : St0} {G : gH} (h : RepX B E σ G) : ∃ sz : Nat → Int32, G B.sa = some (.inl (E.2.2 0, 4, .inl sz)) ∧ ∀ j, 4 ≤ j → sz j = 0 := h.2.2.2.2.2.2.2.2.2.1
theorem RepX.hva {B : aX} {E : wE} {σ : St0} {G : gH} (h : RepX B E σ G) : ∃ vs : Nat → Int32, G B.va = some (.inl (E.2.2 0, 8, .inl vs)) := h.2.2.2.2.2.2.2.2.2.2.1
theorem RepX.hoa {B : aX} {E : wE} {σ : St0} {G : gH} (h : RepX B E σ G) : ∃ os : Nat → Int32, G B.oa = some (.inl (E.2.2 0, 8, .inl os)) := h.2.2.2.2.2.2.2.2.2.2.2.1
theorem RepX.hwa {B : aX} {E : wE} {σ : St0} {G : gH} (h : RepX B E σ G) : ∃ ws : Nat → Int32, G B.wa = some (.inl (E.2.2 0, 8, .inl ws)) := h.2.2.2.2.2.2.2.2.2.2.2.2.1
theorem RepX.hed {B : aX} {E : wE} {σ : St0} {G : gH} (h : RepX B E σ G) : ∀ i, i < 6 → edR E G (B.e i) (B.na i) (B.la i) (B.fa i) (if i < σ.en then some (σ.ed i) else none) := h.2.2.2.2.2.2.2.2.2.2.2.2.2.1
theorem RepX.dis {B : aX} {E : wE} {σ : St0} {G : gH} (h : RepX B E σ G) : disX B := h.2.2.2.2.2.2.2.2.2.2.2.2.2.2
theorem edR_frame {E : wE} {G G1 : gH} {e na la fa : Nat} {d : Option Ed0} (h : edR E G e na la fa d) (h1 : G1 e = G e) (h2 : G1 na = G na) (h3 : G1 la = G la) (h4 : G1 fa = G fa) (hp : ∀ a fs, G a = some (.inr (5, fs)) → G1 a = G a) : edR E G1 e na la fa d := by
  obtain ⟨dy, nc, rc, ns, ls, fp, e1, e2, e3, e4, e5, e6⟩ := h
  refine ⟨dy, nc, rc, ns, ls, fp, h1.trans e1, h2.trans e2, h3.trans e3, h4.trans e4, e5, fun q hq => ?_⟩
  obtain ⟨f1, f2, f3, f4, f5⟩ := e6 q hq
  exact ⟨f1, f2, f3, f4, rulesR_frame f5 hp⟩
theorem own_e {B : aX} {i : Nat} (h : i < 6) : B.own (B.e i) ∧ B.own (B.na i) ∧ B.own (B.la i) ∧ B.own (B.fa i) :=
  ⟨Or.inr ⟨0, i, by decide, h, rfl⟩, Or.inr ⟨1, i, by decide, h, rfl⟩, Or.inr ⟨2, i, by decide, h, rfl⟩, Or.inr ⟨3, i, by decide, h, rfl⟩⟩
theorem RepX.frame {B : aX} {E : wE} {σ : St0} {G G1 : gH} (h : RepX B E σ G) (hf : ∀ a, B.own a → G1 a = G a) (hp : ∀ a fs, G a = some (.inr (5, fs)) → G1 a = G a) : RepX B E σ G1 := by
  obtain ⟨a, nm, f, l1, hr⟩ := h.hr
  obtain ⟨cs, hca, hcs⟩ := h.hca
  obtain ⟨sz, hsa, hsz⟩ := h.hsa
  obtain ⟨vs, hva⟩ := h.hva
  obtain ⟨os, hoa⟩ := h.hoa
  obtain ⟨ws, hwa⟩ := h.hwa
  have k : ∀ {a X}, B.own a → G a = some X → G1 a = some X := fun o z => (hf _ o).trans z
  exact ⟨k own_x h.hx, ⟨a, nm, f, l1, k own_r hr⟩, k own_ta h.hta, k own_ea h.hea, k own_ch h.hch, k own_ra h.hra, k own_nu h.hnu, ⟨cs, k own_ca hca, hcs⟩, k own_k0 h.hk, ⟨sz, k own_sa hsa, hsz⟩, ⟨vs, k own_va hva⟩, ⟨os, k own_oa hoa⟩, ⟨ws, k own_wa hwa⟩, fun i hi => edR_frame (h.hed i hi) (hf _ (own_e hi).1) (hf _ (own_e hi).2.1) (hf _ (own_e hi).2.2.1) (hf _ (own_e hi).2.2.2) hp, h.dis⟩
/-- what lies outside the class's cells stays -/
def FrX (B : aX) (G G1 : gH) : Prop := ∀ a, ¬ B.own a → (G a).isSome = true → G1 a = G a
theorem FrX.rf {B : aX} {G : gH} : FrX B G G := fun _ _ _ => rfl
theorem FrX.set {B : aX} {G G1 : gH} {a : Nat} {X : va_E} (h : FrX B G G1) (ha : B.own a) : FrX B G (gset G1 a X) := fun b h1 h2 => by
  rw [gset_ne _ _ (fun z => h1 (by rw [z]; exact ha))]
  exact h b h1 h2
theorem FrX.trans {B : aX} {G G1 G2 : gH} (h : FrX B G G1) (h2 : FrX B G1 G2) : FrX B G G2 := fun b z1 z2 => by
  have := h b z1 z2
  rw [h2 b z1 (by rw [this]; exact z2), this]
/-- the class's own numbers change -/
theorem RepX.setx {B : aX} {E : wE} {σ : St0} {G : gH} (h : RepX B E σ G) (pl cu dy lo lw : Int32) : RepX B E (σ.setx pl cu dy lo lw) (gset G B.x (.inr (0, [.ref B.r, .ref B.ea, .ref B.ch, .ref B.k0, .int (nI σ.en), .int pl, .int cu, .int dy, .int lo, .int lw]))) := by
  obtain ⟨a, nm, f, l1, hr⟩ := h.hr
  obtain ⟨cs, hca, hcs⟩ := h.hca
  obtain ⟨sz, hsa, hsz⟩ := h.hsa
  obtain ⟨vs, hva⟩ := h.hva
  obtain ⟨os, hoa⟩ := h.hoa
  obtain ⟨ws, hwa⟩ := h.hwa
  have k : ∀ {a X}, G a = some X → X ≠ (.inr (0, [.ref B.r, .ref B.ea, .ref B.ch, .ref B.k0, .int (nI σ.en), .int σ.place, .int σ.cust, .int σ.day, .int σ.lo, .int σ.lw])) → gset G B.x (.inr (0, [.ref B.r, .ref B.ea, .ref B.ch, .ref B.k0, .int (nI σ.en), .int pl, .int cu, .int dy, .int lo, .int lw])) a = some X := fun z n => by
    rw [gset_ne _ _ (ne_cells z h.hx n)]; exact z
  have chE : ∀ c r n, chN (σ.setx pl cu dy lo lw) c r n = chN σ c r n := by
    intro c r n
    induction n with
    | zero => rfl
    | succ n ih => simp only [chN, ih]; rfl
  refine ⟨gset_self _ _ _, ⟨a, nm, f, l1, k hr (by simp)⟩, k h.hta (by simp), k h.hea (by simp), k h.hch (by simp), k h.hra (by simp), k h.hnu (by simp), ⟨cs, k hca (by simp), fun c r h1 h2 => by rw [chE]; exact hcs c r h1 h2⟩, k h.hk (by simp), ⟨sz, k hsa (by simp), hsz⟩, ⟨vs, k hva (by simp)⟩, ⟨os, k hoa (by simp)⟩, ⟨ws, k hwa (by simp)⟩, fun i hi => ?_, h.dis⟩
  have h0 := h.hed i hi
  obtain ⟨dy', nc, rc, ns, ls, fp, e1, e2, e3, e4, e5, e6⟩ := h0
  exact edR_frame (h.hed i hi) ((k e1 (by simp)).trans e1.symm) ((k e2 (by simp)).trans e2.symm) ((k e3 (by simp)).trans e3.symm) ((k e4 (by simp)).trans e4.symm) (fun a fs ha => (k ha (by simp)).trans ha.symm)
/-- the reckoner's arrays change -/
theorem RepX.setk {B : aX} {E : wE} {σ : St0} {G G1 : gH} {sz vs os ws : Nat → Int32} (h : RepX B E σ G) (h1 : G1 B.sa = some (.inl (E.2.2 0, 4, .inl sz))) (hz : ∀ j, 4 ≤ j → sz j = 0) (h2 : G1 B.va = some (.inl (E.2.2 0, 8, .inl vs))) (h3 : G1 B.oa = some (.inl (E.2.2 0, 8, .inl os))) (h4 : G1 B.wa = some (.inl (E.2.2 0, 8, .inl ws))) (hf : ∀ a, a ≠ B.sa → a ≠ B.va → a ≠ B.oa → a ≠ B.wa → G1 a = G a) : RepX B E σ G1 := by
  obtain ⟨a, nm, f, l1, hr⟩ := h.hr
  obtain ⟨cs, hca, hcs⟩ := h.hca
  obtain ⟨sz0, hsa, hsz⟩ := h.hsa
  obtain ⟨vs0, hva⟩ := h.hva
  obtain ⟨os0, hoa⟩ := h.hoa
  obtain ⟨ws0, hwa⟩ := h.hwa
  have k : ∀ {a X}, G a = some X → (∀ f, X ≠ .inl (E.2.2 0, 4, .inl f)) → (∀ f, X ≠ .inl (E.2.2 0, 8, .inl f)) → G1 a = some X := fun z n1 n2 => by
    rw [hf _ (ne_cells z hsa (n1 _)) (ne_cells z hva (n2 _)) (ne_cells z hoa (n2 _)) (ne_cells z hwa (n2 _))]; exact z
  refine ⟨k h.hx (by simp) (by simp), ⟨a, nm, f, l1, k hr (by simp) (by simp)⟩, k h.hta (by simp) (by simp), k h.hea (by simp) (by simp), k h.hch (by simp) (by simp), k h.hra (by simp) (by simp), k h.hnu (by simp) (by simp), ⟨cs, k hca (by simp) (by simp), hcs⟩, k h.hk (by simp) (by simp), ⟨sz, h1, hz⟩, ⟨vs, h2⟩, ⟨os, h3⟩, ⟨ws, h4⟩, fun i hi => ?_, h.dis⟩
  obtain ⟨dy', nc, rc, ns, ls, fp, e1, e2, e3, e4, e5, e6⟩ := h.hed i hi
  obtain ⟨d1, d2, d3, d4, d5, d6⟩ := h.dis.nk i hi
  exact edR_frame (h.hed i hi) ((k e1 (by simp) (by simp)).trans e1.symm) (hf _ (ne_cells e2 hsa (by simp)) d1 d2 d3) (hf _ (ne_cells e3 hsa (by simp)) d4 d5 d6) ((k e4 (by simp) (by simp)).trans e4.symm) (fun a fs ha => (k ha (by simp) (by simp)).trans ha.symm)
