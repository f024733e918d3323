/-! the pure relation, part 11: the kept slots, the parser; groups carried along frames -/
def KLx (top len left right H V x y wrap skip le font depth : Int32) (A1 A2 B : Nat → Int32) : Prop :=
  (B 0 = x ∧ B 1 = y ∧ B 2 = left ∧ B 3 = right ∧ B 4 = top ∧ B 5 = len ∧ B 6 = H ∧ B 7 = V ∧ B 8 = wrap ∧ B 9 = skip ∧ B 10 = le ∧ B 11 = font ∧ B 12 = depth) ∧ (∀ i : Nat, (i : Int) < depth.toInt → B (13 + 2 * i) = A1 i ∧ B (14 + 2 * i) = A2 i) ∧ bd top 0 130000 ∧ bd len 0 130000 ∧ bd H 0 1966080 ∧ bd V 0 130000 ∧ bd wrap 0 1 ∧ bd skip 0 1 ∧ bd le 0 3 ∧ bd font 0 1 ∧ bd depth 0 20
theorem KLx.c {top len left right H V x y wrap skip le font depth : Int32} {A1 A2 B C1 C2 C : Nat → Int32} (h : KLx top len left right H V x y wrap skip le font depth A1 A2 B) (hB : ∀ i : Nat, i < 53 → C i = B i) (h1 : ∀ i : Nat, i < 20 → C1 i = A1 i) (h2 : ∀ i : Nat, i < 20 → C2 i = A2 i) : KLx top len left right H V x y wrap skip le font depth C1 C2 C := by
  obtain ⟨⟨b0, b1, b2, b3, b4, b5, b6, b7, b8, b9, b10, b11, b12⟩, hs, k1, k2, k3, k4, k5, k6, k7, k8, k9⟩ := h
  refine ⟨⟨(hB 0 (by decide)).trans b0, (hB 1 (by decide)).trans b1, (hB 2 (by decide)).trans b2, (hB 3 (by decide)).trans b3, (hB 4 (by decide)).trans b4, (hB 5 (by decide)).trans b5, (hB 6 (by decide)).trans b6, (hB 7 (by decide)).trans b7, (hB 8 (by decide)).trans b8, (hB 9 (by decide)).trans b9, (hB 10 (by decide)).trans b10, (hB 11 (by decide)).trans b11, (hB 12 (by decide)).trans b12⟩, fun i hi => ?_, k1, k2, k3, k4, k5, k6, k7, k8, k9⟩
  have := k9.2
  rw [hB _ (by omega), hB _ (by omega), h1 i (by omega), h2 i (by omega)]
  exact hs i hi
def KS (j : Nat) (σ μ : PS) : Prop := KLx (σ.1 (41 + 13 * j)) (σ.1 (42 + 13 * j)) (σ.1 (43 + 13 * j)) (σ.1 (44 + 13 * j)) (σ.1 (45 + 13 * j)) (σ.1 (46 + 13 * j)) (σ.1 (47 + 13 * j)) (σ.1 (48 + 13 * j)) (σ.1 (49 + 13 * j)) (σ.1 (50 + 13 * j)) (σ.1 (51 + 13 * j)) (σ.1 (52 + 13 * j)) (σ.1 (53 + 13 * j)) (σ.2.1 (6 + 2 * j)) (σ.2.1 (7 + 2 * j)) (fun i => μ.2.1 1 (53 * j + i))
def K1 (j : Nat) (σ μ : PS) : Prop := μ.2.1 2 j = σ.2.1 3 j ∧ (¬ σ.2.1 3 j = 0 → KS j σ μ)
def GK (σ μ : PS) : Prop := K1 0 σ μ ∧ K1 1 σ μ ∧ K1 2 σ μ
theorem GK.at {σ μ : PS} (h : GK σ μ) : ∀ j : Nat, j < 3 → K1 j σ μ := fun j hj => by
  rcases (show j = 0 ∨ j = 1 ∨ j = 2 by omega) with rfl | rfl | rfl
  · exact h.1
  · exact h.2.1
  · exact h.2.2
theorem GK.of {σ μ : PS} (h : ∀ j : Nat, j < 3 → K1 j σ μ) : GK σ μ := ⟨h 0 (by decide), h 1 (by decide), h 2 (by decide)⟩
theorem GL.kl {σ μ : PS} (h : GL σ μ) : KLx (σ.1 18) (σ.1 19) (σ.1 20) (σ.1 21) (σ.1 22) (σ.1 23) (σ.1 24) (σ.1 25) (σ.1 26) (σ.1 27) (σ.1 28) (σ.1 29) (σ.1 30) (σ.2.1 1) (σ.2.1 2) (μ.2.1 0) := by
  obtain ⟨-, hb, hs, c0, c1, c2, c3, c4, c5, c6, c7, c8, c9, c10, c11, c12, c13, c14, c15, c16, c17⟩ := h
  exact ⟨hb, hs, c5, c6, c9, c10, c13, c14, c15, c16, c17⟩
/-- a field under way -/
def FRx (vs pl mi wh fr ndw part msg neg mwh beh mpl : Int32) : Prop :=
  (mwh = wh ∧ bd wh 0 32767) ∧ (neg = mi ∧ bd mi 0 1 ∧ bd pl 0 1) ∧ msg = (if pl = 0 then mi else 1) ∧ ((vs = 0 ∧ part = 0) ∨ ((vs = 1 ∨ vs = 2) ∧ part = 1) ∨ (vs = 3 ∧ part = 2)) ∧ ((mpl = 0 ∧ ndw = 1000 ∧ beh = 0 ∧ fr = 0) ∨ (mpl = 1 ∧ ndw = 100 ∧ bd beh 0 9 ∧ fr.toInt = 1000 * beh.toInt) ∨ (mpl = 2 ∧ ndw = 10 ∧ bd beh 0 99 ∧ fr.toInt = 100 * beh.toInt) ∨ (mpl = 3 ∧ ndw = 1 ∧ bd beh 0 999 ∧ fr.toInt = 10 * beh.toInt) ∨ (mpl = 4 ∧ ndw = 0 ∧ bd beh 0 9999 ∧ fr.toInt = beh.toInt))
theorem FRx.fresh : FRx 0 0 0 0 0 1000 0 0 0 0 0 0 := ⟨⟨rfl, by decide, by decide⟩, ⟨rfl, ⟨by decide, by decide⟩, by decide, by decide⟩, rfl, Or.inl ⟨rfl, rfl⟩, Or.inl ⟨rfl, rfl, rfl, rfl⟩⟩
abbrev TXx (fam grp en : Int32) : Prop := fam = 38 ∧ grp = 112 ∧ en = 88
def GPx (fam grp en dl st lost ph mf mg mdl mlast mto : Int32) (L : Prop) (F : Prop) : Prop :=
  (mf = fam ∧ mg = grp ∧ bd fam 0 127 ∧ bd grp 0 127) ∧ (mdl = dl ∧ bd dl 0 32767 ∧ bd st 0 3) ∧ (dl = 0 → ph = st) ∧ (¬ dl = 0 → ph = 4 ∧ ((st = 0 ∧ mlast = 1) ∨ (st = 3 ∧ mlast = 0)) ∧ ((TXx fam grp en ∧ mto = 1) ∨ (¬ TXx fam grp en ∧ ((mto = 2 ∧ lost = 0 ∧ L) ∨ (mto = 0 ∧ lost = 1))))) ∧ (st = 3 → F)
def GF (σ μ : PS) : Prop := FRx (σ.1 7) (σ.1 8) (σ.1 9) (σ.1 10) (σ.1 11) (σ.1 12) (μ.1 13) (μ.1 14) (μ.1 15) (μ.1 16) (μ.1 17) (μ.1 18)
def GP (σ μ : PS) : Prop := GPx (σ.1 0) (σ.1 1) (σ.1 3) (σ.1 5) (σ.1 6) (σ.1 39) (μ.1 10) (μ.1 11) (μ.1 12) (μ.1 19) (μ.1 20) (μ.1 21) (LK (σ.1 5) μ) (GF σ μ)
def GB (σ μ : PS) : Prop := μ.1 22 = σ.1 40
/-- all but the parser -/
def RA (n : Int) (σ μ : PS) : Prop := PP n n σ μ ∧ GT σ μ ∧ GK σ μ ∧ GQ σ μ ∧ GB σ μ
def Rel (n : Int) (σ μ : PS) : Prop := RA n σ μ ∧ GP σ μ
theorem GL.cg {σ μ σ' μ' : PS} (h : GL σ μ) (s : ∀ k : Nat, ((13 ≤ k ∧ k ≤ 30)) → σ'.1 k = σ.1 k) (a : ∀ k : Nat, ((1 ≤ k ∧ k ≤ 2)) → σ'.2.1 k = σ.2.1 k) (t : ∀ k : Nat, ((4 ≤ k ∧ k ≤ 8)) → μ'.1 k = μ.1 k) (b : ∀ k : Nat, ((0 ≤ k ∧ k ≤ 0)) → μ'.2.1 k = μ.2.1 k) : GL σ' μ' := by
  unfold GL at h ⊢
  rw [s 13 (by decide), s 14 (by decide), s 15 (by decide), s 16 (by decide), s 17 (by decide), s 18 (by decide), s 19 (by decide), s 20 (by decide), s 21 (by decide), s 22 (by decide), s 23 (by decide), s 24 (by decide), s 25 (by decide), s 26 (by decide), s 27 (by decide), s 28 (by decide), s 29 (by decide), s 30 (by decide), a 1 (by decide), a 2 (by decide), t 4 (by decide), t 5 (by decide), t 6 (by decide), t 7 (by decide), t 8 (by decide), b 0 (by decide)]
  exact h
theorem GS.cg {n : Int} {σ μ σ' μ' : PS} (h : GS n σ μ) (s : ∀ k : Nat, ((31 ≤ k ∧ k ≤ 33)) → σ'.1 k = σ.1 k) (t : ∀ k : Nat, ((23 ≤ k ∧ k ≤ 25)) → μ'.1 k = μ.1 k) (b : ∀ k : Nat, ((4 ≤ k ∧ k ≤ 4)) → μ'.2.1 k = μ.2.1 k) (g : σ'.2.2 = σ.2.2) : GS n σ' μ' := by
  unfold GS at h ⊢
  rw [s 31 (by decide), s 32 (by decide), s 33 (by decide), t 23 (by decide), t 24 (by decide), t 25 (by decide), b 4 (by decide), g]
  exact h
theorem GD.cg {n : Int} {σ μ σ' μ' : PS} (h : GD n σ μ) (s : ∀ k : Nat, ((34 ≤ k ∧ k ≤ 34)) → σ'.1 k = σ.1 k) (a : ∀ k : Nat, ((4 ≤ k ∧ k ≤ 4)) → σ'.2.1 k = σ.2.1 k) (t : ∀ k : Nat, ((27 ≤ k ∧ k ≤ 27)) → μ'.1 k = μ.1 k) (b : ∀ k : Nat, ((5 ≤ k ∧ k ≤ 5)) → μ'.2.1 k = μ.2.1 k) : GD n σ' μ' := by
  unfold GD at h ⊢
  rw [s 34 (by decide), a 4 (by decide), t 27 (by decide), b 5 (by decide)]
  exact h
theorem GT.cg {σ μ σ' μ' : PS} (h : GT σ μ) (a : σ'.2.1 0 = σ.2.1 0) (b : μ'.2.1 3 = μ.2.1 3) : GT σ' μ' := by
  unfold GT at h ⊢
  rw [a, b]
  exact h
theorem GQ.cg {σ μ σ' μ' : PS} (h : GQ σ μ) (s : ∀ k : Nat, ((35 ≤ k ∧ k ≤ 38)) → σ'.1 k = σ.1 k) (a : ∀ k : Nat, ((5 ≤ k ∧ k ≤ 5) ∨ (12 ≤ k ∧ k ≤ 18)) → σ'.2.1 k = σ.2.1 k) (t : ∀ k : Nat, ((29 ≤ k ∧ k ≤ 29) ∨ (31 ≤ k ∧ k ≤ 31)) → μ'.1 k = μ.1 k) (b : ∀ k : Nat, ((6 ≤ k ∧ k ≤ 7)) → μ'.2.1 k = μ.2.1 k) : GQ σ' μ' := by
  unfold GQ at h ⊢
  rw [s 35 (by decide), s 36 (by decide), s 37 (by decide), s 38 (by decide), a 5 (by decide), a 12 (by decide), a 13 (by decide), a 14 (by decide), a 15 (by decide), a 16 (by decide), a 17 (by decide), a 18 (by decide), t 29 (by decide), t 31 (by decide), b 6 (by decide), b 7 (by decide)]
  exact h
theorem KS.cg {j : Nat} {σ μ σ' μ' : PS} (h : KS j σ μ) (s : ∀ k : Nat, (41 + 13 * j ≤ k ∧ k ≤ 53 + 13 * j) → σ'.1 k = σ.1 k) (a : σ'.2.1 (6 + 2 * j) = σ.2.1 (6 + 2 * j)) (a2 : σ'.2.1 (7 + 2 * j) = σ.2.1 (7 + 2 * j)) (b : ∀ i : Nat, i < 53 → μ'.2.1 1 (53 * j + i) = μ.2.1 1 (53 * j + i)) : KS j σ' μ' := by
  unfold KS
  rw [s (41 + 13 * j) (by omega), s (42 + 13 * j) (by omega), s (43 + 13 * j) (by omega), s (44 + 13 * j) (by omega), s (45 + 13 * j) (by omega), s (46 + 13 * j) (by omega), s (47 + 13 * j) (by omega), s (48 + 13 * j) (by omega), s (49 + 13 * j) (by omega), s (50 + 13 * j) (by omega), s (51 + 13 * j) (by omega), s (52 + 13 * j) (by omega), s (53 + 13 * j) (by omega), a, a2]
  exact KLx.c h b (fun _ _ => rfl) (fun _ _ => rfl)
theorem GK.cg {σ μ σ' μ' : PS} (h : GK σ μ) (s : ∀ k : Nat, (41 ≤ k ∧ k ≤ 79) → σ'.1 k = σ.1 k) (a : ∀ k : Nat, (k = 3 ∨ (6 ≤ k ∧ k ≤ 11)) → σ'.2.1 k = σ.2.1 k) (b : ∀ k : Nat, (1 ≤ k ∧ k ≤ 2) → μ'.2.1 k = μ.2.1 k) : GK σ' μ' := GK.of fun j hj => by
  unfold K1
  rw [a 3 (by decide), b 2 (by decide)]
  obtain ⟨h1, h2⟩ := h.at j hj
  exact ⟨h1, fun q => (h2 q).cg (fun k hk => s k (by omega)) (a _ (by omega)) (a _ (by omega)) (fun i _ => by rw [b 1 (by decide)])⟩
theorem GF.cg {σ μ σ' μ' : PS} (h : GF σ μ) (s : ∀ k : Nat, ((7 ≤ k ∧ k ≤ 12)) → σ'.1 k = σ.1 k) (t : ∀ k : Nat, ((13 ≤ k ∧ k ≤ 18)) → μ'.1 k = μ.1 k) : GF σ' μ' := by
  unfold GF at h ⊢
  rw [s 7 (by decide), s 8 (by decide), s 9 (by decide), s 10 (by decide), s 11 (by decide), s 12 (by decide), t 13 (by decide), t 14 (by decide), t 15 (by decide), t 16 (by decide), t 17 (by decide), t 18 (by decide)]
  exact h
theorem LK.cg {dl : Int32} {μ μ' : PS} (h : LK dl μ) (t : μ'.1 29 = μ.1 29) (b : μ'.2.1 6 = μ.2.1 6) : LK dl μ' := by
  unfold LK at h ⊢
  rw [t, b]
  exact h
/-- the parser's group, carried: the data under way asked for apart -/
theorem GP.cg {σ μ σ' μ' : PS} (h : GP σ μ) (s : ∀ k : Nat, (k ≤ 12 ∨ k = 39) → σ'.1 k = σ.1 k) (t : ∀ k : Nat, (10 ≤ k ∧ k ≤ 21) → μ'.1 k = μ.1 k) (hl : ¬ σ.1 5 = 0 → LK (σ.1 5) μ → LK (σ.1 5) μ') : GP σ' μ' := by
  unfold GP
  rw [s 0 (by decide), s 1 (by decide), s 3 (by decide), s 5 (by decide), s 6 (by decide), s 39 (by decide), t 10 (by decide), t 11 (by decide), t 12 (by decide), t 19 (by decide), t 20 (by decide), t 21 (by decide)]
  obtain ⟨h1, h2, h3, h4, h5⟩ := h
  refine ⟨h1, h2, h3, fun q => ?_, fun q => (h5 q).cg (fun k hk => s k (by omega)) (fun k hk => t k (by omega))⟩
  obtain ⟨g1, g2, g3⟩ := h4 q
  refine ⟨g1, g2, ?_⟩
  rcases g3 with g3 | ⟨g3, g4⟩
  · exact Or.inl g3
  · rcases g4 with ⟨g4, g5, g6⟩ | g4
    · exact Or.inr ⟨g3, Or.inl ⟨g4, g5, hl q g6⟩⟩
    · exact Or.inr ⟨g3, Or.inr g4⟩
theorem GP.ph {σ μ : PS} (h : GP σ μ) : M3 μ := fun h1 h2 => by
  obtain ⟨-, ⟨g1, g2, g3⟩, g4, g5, -⟩ := h
  by_cases q : σ.1 5 = 0
  · have e := g4 q
    rw [h1] at e
    have := g3.2
    rw [← e] at this
    exact absurd this (by decide)
  · obtain ⟨-, -, g6⟩ := g5 q
    rcases g6 with ⟨-, g6⟩ | ⟨-, ⟨-, -, g7⟩ | ⟨g6, -⟩⟩
    · rw [h2] at g6; exact absurd g6 (by decide)
    · exact g7.1
    · rw [h2] at g6; exact absurd g6 (by decide)
theorem PP.wk {n m k : Int} {σ μ : PS} (h : PP n n σ μ) (hk : n ≤ k) : PP k k σ μ := ⟨h.1, h.2.1.w hk, h.2.2.w hk⟩
theorem RA.w {n k : Int} {σ μ : PS} (h : RA n σ μ) (hk : n ≤ k) : RA k σ μ := ⟨PP.wk (m := 0) h.1 hk, h.2⟩
theorem Rel.w {n k : Int} {σ μ : PS} (h : Rel n σ μ) (hk : n ≤ k) : Rel k σ μ := ⟨h.1.w hk, h.2⟩
/-- the page's functions leave the rest alone -/
def RB (σ μ : PS) : Prop := GT σ μ ∧ GK σ μ ∧ GQ σ μ ∧ GB σ μ
theorem RB.fr {σ μ σ' μ' : PS} (h : RB σ μ) (f7 : Fr7 σ σ') (f8 : Fr8 μ μ') : RB σ' μ' := by
  obtain ⟨h1, h2, h3, h4⟩ := h
  refine ⟨h1.cg (f7.2 0 (by decide)) (f8.2 3 (by decide)), h2.cg (fun k hk => f7.1 k (by omega)) (fun k hk => f7.2 k (by omega)) (fun k hk => f8.2 k (by omega)), h3.cg (fun k hk => f7.1 k (by omega)) (fun k hk => f7.2 k (by omega)) (fun k hk => f8.1 k (by omega)) (fun k hk => f8.2 k (by omega)), ?_⟩
  show μ'.1 22 = σ'.1 40
  rw [f7.1 40 (by omega), f8.1 22 (by omega)]
  exact h4
theorem GP.fr {σ μ σ' μ' : PS} (h : GP σ μ) (f7 : Fr7 σ σ') (f8 : Fr8 μ μ') : GP σ' μ' :=
  h.cg (fun k hk => f7.1 k (by omega)) (fun k hk => f8.1 k (by omega)) (fun _ q => q.cg (f8.1 29 (by omega)) (f8.2 6 (by decide)))
