/-! the pure relation, part 16: a command on both sides -/
def Fa7 (σ τ : PS) : Prop := (∀ k : Nat, (k < 35 ∨ 39 < k) → τ.1 k = σ.1 k) ∧ (∀ j : Nat, (j ≠ 5 ∧ (j < 12 ∨ 18 < j)) → τ.2.1 j = σ.2.1 j) ∧ τ.2.2 = σ.2.2
def Fa8 (σ τ : PS) : Prop := (∀ k : Nat, (k ≠ 21 ∧ k ≠ 29 ∧ k ≠ 31) → τ.1 k = σ.1 k) ∧ (∀ j : Nat, (j ≠ 6 ∧ j ≠ 7) → τ.2.1 j = σ.2.1 j)
theorem Fa7.r {σ : PS} : Fa7 σ σ := ⟨fun _ _ => rfl, fun _ _ => rfl, rfl⟩
theorem Fa8.r {σ : PS} : Fa8 σ σ := ⟨fun _ _ => rfl, fun _ _ => rfl⟩
theorem Fa7.S {σ τ : PS} {k : Nat} {v : Int32} (h : Fa7 σ τ) (hk : 35 ≤ k ∧ k ≤ 39) : Fa7 σ (upS τ k v) := ⟨fun j q => (up_ne (by omega)).trans (h.1 j q), h.2.1, h.2.2⟩
theorem Fa7.A {σ τ : PS} {k i : Nat} {v : Int32} (h : Fa7 σ τ) (hk : k = 5 ∨ (12 ≤ k ∧ k ≤ 18)) : Fa7 σ (upA τ k i v) := ⟨h.1, fun j q => (up_ne (by omega)).trans (h.2.1 j q), h.2.2⟩
theorem Fa8.S {σ τ : PS} {k : Nat} {v : Int32} (h : Fa8 σ τ) (hk : k = 21 ∨ k = 29 ∨ k = 31) : Fa8 σ (upS τ k v) := ⟨fun j q => (up_ne (by omega)).trans (h.1 j q), h.2⟩
theorem Fa8.A {σ τ : PS} {k i : Nat} {v : Int32} (h : Fa8 σ τ) (hk : k = 6 ∨ k = 7) : Fa8 σ (upA τ k i v) := ⟨h.1, fun j q => (up_ne (by omega)).trans (h.2 j q)⟩
theorem Fa7.I {σ : PS} {c : Prop} [Decidable c] {x y : PS} (h1 : Fa7 σ x) (h2 : Fa7 σ y) : Fa7 σ (if c then x else y) := by split <;> assumption
theorem Fa8.I {σ : PS} {c : Prop} [Decidable c] {x y : PS} (h1 : Fa8 σ x) (h2 : Fa8 σ y) : Fa8 σ (if c then x else y) := by split <;> assumption
theorem fa_add {σ : PS} : Fa7 σ (f_X3_add σ) := by
  unfold f_X3_add
  try dsimp only
  repeat' first | exact Fa7.r | (with_reducible refine Fa7.S ?_ (by decide)) | (with_reducible refine Fa7.A ?_ (by decide)) | (with_reducible refine Fa7.I ?_ ?_)
theorem fa_byte {σ : PS} {b : Int32} : Fa7 σ (f_X3_addByte σ b) := by
  unfold f_X3_addByte
  try dsimp only
  repeat' first | exact Fa7.r | (with_reducible refine Fa7.S ?_ (by decide)) | (with_reducible refine Fa7.A ?_ (by decide)) | (with_reducible refine Fa7.I ?_ ?_)
theorem byte39 {σ : PS} {b : Int32} : (f_X3_addByte σ b).1 39 = σ.1 39 := by
  unfold f_X3_addByte
  try dsimp only
  split
  · split
    · rfl
    · split <;> rfl
  · rfl
theorem fa_hand {σ : PS} {e v : Int32} : Fa8 σ (f_X8_handOn σ e v) := by
  unfold f_X8_handOn
  try dsimp only
  repeat' first | exact Fa8.r | (with_reducible refine Fa8.S ?_ (by decide)) | (with_reducible refine Fa8.A ?_ (by decide)) | (with_reducible refine Fa8.I ?_ ?_)
theorem fa_dat {σ : PS} {b : Int32} : Fa8 σ (dat8 σ b) := by
  unfold dat8
  try dsimp only
  repeat' first | exact Fa8.r | (with_reducible refine Fa8.S ?_ (by decide)) | (with_reducible refine Fa8.A ?_ (by decide)) | (with_reducible refine Fa8.I ?_ ?_)
theorem dat21 {σ : PS} {b : Int32} : (dat8 σ b).1 21 = σ.1 21 := by
  unfold dat8
  try dsimp only
  split <;> rfl
theorem RA.fa {n : Int} {σ μ σ' μ' : PS} (h : RA n σ μ) (f7 : Fa7 σ σ') (f8 : Fa8 μ μ') (hq : GQ σ' μ') : RA n σ' μ' := by
  obtain ⟨⟨hl, hs, hd⟩, ht, hk, -, hb⟩ := h
  refine ⟨⟨hl.cg (fun k q => f7.1 k (by omega)) (fun k q => f7.2.1 k (by omega)) (fun k q => f8.1 k (by omega)) (fun k q => f8.2 k (by omega)), hs.cg (fun k q => f7.1 k (by omega)) (fun k q => f8.1 k (by omega)) (fun k q => f8.2 k (by omega)) f7.2.2, hd.cg (fun k q => f7.1 k (by omega)) (fun k q => f7.2.1 k (by omega)) (fun k q => f8.1 k (by omega)) (fun k q => f8.2 k (by omega))⟩, ht.cg (f7.2.1 0 (by omega)) (f8.2 3 (by omega)), hk.cg (fun k q => f7.1 k (by omega)) (fun k q => f7.2.1 k (by omega)) (fun k q => f8.2 k (by omega)), hq, ?_⟩
  show μ'.1 22 = σ'.1 40
  rw [f7.1 40 (by omega), f8.1 22 (by omega)]
  exact hb
/-- the parser's group behind a command -/
theorem GP.cmd {σ σ' ν : PS} {st v g e dl y : Int32} (hs : ∀ k : Nat, k ≤ 12 → σ'.1 k = (f_X5_beginField (upS (upS (upS (upS (upS σ 6 st) 2 v) 4 g) 3 e) 5 dl)).1 k) (m11 : ν.1 11 = σ.1 0) (m12 : ν.1 12 = σ.1 1) (m19 : ν.1 19 = dl) (m20 : ν.1 20 = y) (bf : bd (σ.1 0) 0 127) (bg : bd (σ.1 1) 0 127) (bl : bd dl 0 32767) (hst : (st = 0 ∧ y = 1) ∨ (st = 3 ∧ y = 0)) (hto : ¬ dl = 0 → ((TXx (σ.1 0) (σ.1 1) e ∧ ν.1 21 = 1) ∨ (¬ TXx (σ.1 0) (σ.1 1) e ∧ ((ν.1 21 = 2 ∧ σ'.1 39 = 0 ∧ LK dl ν) ∨ (ν.1 21 = 0 ∧ σ'.1 39 = 1))))) : GP σ' (upS (f_X8_beginField ν) 10 (if ν.1 19 ≤ 0 then (if y = 0 then 3 else 0) else 4)) := by
  unfold GP GF
  rw [hs 0 (by decide), hs 1 (by decide), hs 3 (by decide), hs 5 (by decide), hs 6 (by decide), hs 7 (by decide), hs 8 (by decide), hs 9 (by decide), hs 10 (by decide), hs 11 (by decide), hs 12 (by decide)]
  refine ⟨⟨m11, m12, bf, bg⟩, ⟨m19, bl, ?_⟩, fun (q : dl = 0) => ?_, fun (q : ¬ dl = 0) => ?_, fun _ => FRx.fresh⟩
  · show bd st 0 3
    rcases hst with ⟨q, -⟩ | ⟨q, -⟩ <;> rw [q] <;> exact ⟨by decide, by decide⟩
  · show (if ν.1 19 ≤ 0 then (if y = 0 then 3 else 0) else 4) = st
    rw [m19, q, if_pos (show (0 : Int32) ≤ 0 by decide)]
    rcases hst with ⟨q, w⟩ | ⟨q, w⟩
    · rw [w, q, if_neg one_ne]
    · rw [w, q, if_pos rfl]
  · refine ⟨?_, ?_, hto q⟩
    · show (if ν.1 19 ≤ 0 then (if y = 0 then 3 else 0) else 4) = (4 : Int32)
      rw [m19, if_neg (show ¬ dl ≤ 0 by rw [le32, n0]; rw [eq32, n0] at q; have := bl.1; omega)]
    · show (st = 0 ∧ ν.1 20 = 1) ∨ (st = 3 ∧ ν.1 20 = 0)
      rw [m20]
      exact hst
theorem sgE {pl mi : Int32} (h : bd mi 0 1) : (if pl = 0 then mi else 1) = sgn pl mi := by
  unfold sgn
  split
  · exact (bool01 h).symm
  · rfl
theorem sgB {pl mi : Int32} : bd (sgn pl mi) 0 1 := by
  unfold sgn
  split
  · split
    · exact ⟨by decide, by decide⟩
    · exact ⟨by decide, by decide⟩
  · exact ⟨by decide, by decide⟩
theorem frB {σ μ : PS} (h : GF σ μ) : bd (σ.1 11) 0 9999 := by
  obtain ⟨-, -, -, -, hc⟩ := h
  unfold bd
  rcases hc with ⟨p1, p2, p3, p4⟩ | ⟨p1, p2, p3, p4⟩ | ⟨p1, p2, p3, p4⟩ | ⟨p1, p2, p3, p4⟩ | ⟨p1, p2, p3, p4⟩
  · rw [p4, n0]; omega
  · obtain ⟨q1, q2⟩ := p3; omega
  · obtain ⟨q1, q2⟩ := p3; omega
  · obtain ⟨q1, q2⟩ := p3; omega
  · obtain ⟨q1, q2⟩ := p3; omega
theorem i64r0 : (0 : Int64).toInt = 0 := rfl
/-- the numbers of a command -/
theorem ceE {mi wh fr pl : Int32} (hm : bd mi 0 1) (hw : bd wh 0 32767) (hf : bd fr 0 9999) : ∃ V : Int64, (0 ≤ V.toInt ∧ V.toInt ≤ 327679999) ∧ V = (if 0 ≤ vlu mi wh fr then (vlu mi wh fr).toInt64 else 0) ∧ V / 10000 = (if mi = 0 then wh else 0).toInt64 ∧ (sgn pl mi = 0 → V = (vlu mi wh fr).toInt64) := by
  obtain ⟨w1, w2⟩ := hw
  obtain ⟨f1, f2⟩ := hf
  have z : (10000 : Int32).toInt = 10000 := rfl
  have z6 : (10000 : Int64).toInt = 10000 := rfl
  have em : (wh * 10000).toInt = wh.toInt * 10000 := by rw [i32mul (by rw [z]; omega) (by rw [z]; omega), z]
  have ea : (wh * 10000 + fr).toInt = wh.toInt * 10000 + fr.toInt := by rw [i32add (by omega) (by omega), em]
  by_cases k : mi = 0
  · have ev : vlu mi wh fr = wh * 10000 + fr := by unfold vlu; rw [if_pos k]
    rw [ev]
    have hp : (0 : Int32) ≤ wh * 10000 + fr := by rw [le32, n0, ea]; omega
    refine ⟨(wh * 10000 + fr).toInt64, ?_, ?_, ?_, fun _ => rfl⟩
    · rw [i64I, ea]; omega
    · rw [if_pos hp]
    · rw [if_pos k]
      apply i64ext
      rw [i64div (by rw [i64I, ea]; omega) (by rw [z6]; omega), i64I, i64I, ea, z6]
      omega
  · have ev : vlu mi wh fr = -(wh * 10000 + fr) := by unfold vlu; rw [if_neg k]
    have en : (-(wh * 10000 + fr)).toInt = -(wh.toInt * 10000 + fr.toInt) := by rw [i32neg (by omega), ea]
    rw [ev]
    refine ⟨0, ?_, ?_, ?_, fun q => ?_⟩
    · rw [i64r0]; omega
    · by_cases hp : (0 : Int32) ≤ -(wh * 10000 + fr)
      · rw [if_pos hp]
        rw [le32, n0] at hp
        apply i64ext
        rw [i64I, i64r0]; omega
      · rw [if_neg hp]
    · rw [if_neg k]; decide
    · exfalso
      unfold sgn at q
      rw [if_neg k] at q
      split at q <;> exact absurd q one_ne
/-- a command ends on both sides -/
theorem Rel.cmd {n : Int} {σ μ : PS} {st e y : Int32} (hn : n ≤ 5000) (h : RA n σ μ) (hf : μ.1 11 = σ.1 0) (hg : μ.1 12 = σ.1 1) (bf : bd (σ.1 0) 0 127) (bg : bd (σ.1 1) 0 127) (hF : GF σ μ) (hst : (st = 0 ∧ y = 1) ∨ (st = 3 ∧ y = 0)) : Rel (n + 1) (f_X7_command (f_X5_endField (upS σ 6 st) e)) (f_X8_command μ e y) := by
  have hv := valE hF
  have hfr := frB hF
  have hF2 := hF
  obtain ⟨⟨w1, w2⟩, ⟨s1, s2, s3⟩, s4, -, -⟩ := hF2
  rw [endE]
  have bl : bd (dle (σ.1 0) (σ.1 1) e (σ.1 9) (σ.1 10)) 0 32767 := by
    unfold dle
    split
    · exact w2
    · exact ⟨by decide, by decide⟩
  by_cases hT : TXx (σ.1 0) (σ.1 1) e
  · rw [cmd7T (σ := sE (upS σ 6 st) e) hT, cmdT (by rw [hf, hg]; exact hT), c115E]
    have hd : dle (σ.1 0) (σ.1 1) e (σ.1 9) (σ.1 10) = if μ.1 15 = 0 then μ.1 16 else 0 := by
      unfold dle
      rw [s1, w1]
      by_cases k : σ.1 9 = 0
      · rw [if_pos k, if_pos ⟨Or.inr hT, k⟩]
      · rw [if_neg k, if_neg (show ¬ ((e = 87 ∨ TXx (σ.1 0) (σ.1 1) e) ∧ σ.1 9 = 0) from fun q => k q.2)]
    refine ⟨h.w (by omega), GP.cmd (σ := σ) (st := st) (dl := dle (σ.1 0) (σ.1 1) e (σ.1 9) (σ.1 10)) (fun k _ => rfl) hf hg hd.symm rfl bf bg bl hst (fun _ => Or.inl ⟨hT, rfl⟩)⟩
  · rw [cmdN (by rw [hf, hg]; exact hT), c115E, hv]
    have hd : dle (σ.1 0) (σ.1 1) e (σ.1 9) (σ.1 10) = if e = 87 then (if μ.1 15 = 0 then μ.1 16 else 0) else 0 := by
      unfold dle
      rw [s1, w1]
      by_cases k2 : e = 87
      · rw [if_pos k2]
        by_cases k : σ.1 9 = 0
        · rw [if_pos k, if_pos ⟨Or.inl k2, k⟩]
        · rw [if_neg k, if_neg (show ¬ ((e = 87 ∨ TXx (σ.1 0) (σ.1 1) e) ∧ σ.1 9 = 0) from fun q => k q.2)]
      · rw [if_neg k2, if_neg (show ¬ ((e = 87 ∨ TXx (σ.1 0) (σ.1 1) e) ∧ σ.1 9 = 0) from fun q => q.1.elim k2 hT)]
    rw [← hd, s1, w1]
    obtain ⟨V, v1, v2, v3, v4⟩ := ceE (pl := σ.1 8) s2 w2 hfr
    have bk : bd (if σ.1 9 = 0 then σ.1 10 else 0) 0 32767 := by
      split
      · exact w2
      · exact ⟨by decide, by decide⟩
    have hsg : μ.1 14 = sgn (σ.1 8) (σ.1 9) := s4.trans (sgE s2)
    have hRA : RA n (sE (upS σ 6 st) e) (upS (upS (upS μ 20 y) 19 (dle (σ.1 0) (σ.1 1) e (σ.1 9) (σ.1 10))) 21 0) := h
    obtain ⟨κ, r, e1, f7, hr, hP⟩ := PP.known (σ := sE (upS σ 6 st) e) (μ := (upS (upS (upS μ 20 y) 19 (dle (σ.1 0) (σ.1 1) e (σ.1 9) (σ.1 10))) 21 0)) (k := if σ.1 9 = 0 then σ.1 10 else 0) (V := V) (by omega) hRA.1 ⟨⟨hf, hg, bf, bg⟩, bk, v1, v2, v3, hsg, v4⟩ hT
    rw [e1]
    have f8 := fr8_f_X8_known (σ := upS (upS (upS μ 20 y) 19 (dle (σ.1 0) (σ.1 1) e (σ.1 9) (σ.1 10))) 21 0) (τ := upS (upS (upS μ 20 y) 19 (dle (σ.1 0) (σ.1 1) e (σ.1 9) (σ.1 10))) 21 0) (x1 := e) (x2 := vlu (σ.1 9) (σ.1 10) (σ.1 11)) (x3 := if σ.1 9 = 0 then σ.1 10 else 0) Fr8.r
    have hB : RB κ (f_X8_known (upS (upS (upS μ 20 y) 19 (dle (σ.1 0) (σ.1 1) e (σ.1 9) (σ.1 10))) 21 0) e (vlu (σ.1 9) (σ.1 10) (σ.1 11)) (if σ.1 9 = 0 then σ.1 10 else 0)).1 := RB.fr hRA.2 f7 f8
    have hW : ¬ dle (σ.1 0) (σ.1 1) e (σ.1 9) (σ.1 10) = 0 → (f_X8_known (upS (upS (upS μ 20 y) 19 (dle (σ.1 0) (σ.1 1) e (σ.1 9) (σ.1 10))) 21 0) e (vlu (σ.1 9) (σ.1 10) (σ.1 11)) (if σ.1 9 = 0 then σ.1 10 else 0)).2 = 0 := fun q => by
      have : e = 87 := by
        apply Classical.byContradiction
        intro k
        apply q
        rw [hd, if_neg k]
      subst this
      exact known87
    have hP2 : PP (n + 1) (n + 1) κ (f_X8_known (upS (upS (upS μ 20 y) 19 (dle (σ.1 0) (σ.1 1) e (σ.1 9) (σ.1 10))) 21 0) e (vlu (σ.1 9) (σ.1 10) (σ.1 11)) (if σ.1 9 = 0 then σ.1 10 else 0)).1 := PP.wn hP
    replace hr : r = 0 ↔ (f_X8_known (upS (upS (upS μ 20 y) 19 (dle (σ.1 0) (σ.1 1) e (σ.1 9) (σ.1 10))) 21 0) e (vlu (σ.1 9) (σ.1 10) (σ.1 11)) (if σ.1 9 = 0 then σ.1 10 else 0)).2 = 0 := hr
    generalize f_X8_known (upS (upS (upS μ 20 y) 19 (dle (σ.1 0) (σ.1 1) e (σ.1 9) (σ.1 10))) 21 0) e (vlu (σ.1 9) (σ.1 10) (σ.1 11)) (if σ.1 9 = 0 then σ.1 10 else 0) = p at hr f8 hB hW hP2
    have t : ∀ k : Nat, k ≤ 12 → κ.1 k = (sE (upS σ 6 st) e).1 k := fun k hk => f7.1 k (by omega)
    have u : ∀ k : Nat, 9 ≤ k → k ≤ 22 → p.1.1 k = (upS (upS (upS μ 20 y) 19 (dle (σ.1 0) (σ.1 1) e (σ.1 9) (σ.1 10))) 21 0).1 k := fun k h1 h2 => f8.1 k (by omega)
    have u11 : p.1.1 11 = σ.1 0 := (u 11 (by decide) (by decide)).trans hf
    have u12 : p.1.1 12 = σ.1 1 := (u 12 (by decide) (by decide)).trans hg
    have u14 : p.1.1 14 = μ.1 14 := u 14 (by decide) (by decide)
    have u19 : p.1.1 19 = dle (σ.1 0) (σ.1 1) e (σ.1 9) (σ.1 10) := u 19 (by decide) (by decide)
    have u20 : p.1.1 20 = y := u 20 (by decide) (by decide)
    have u21 : p.1.1 21 = 0 := u 21 (by decide) (by decide)
    have t0 : κ.1 0 = σ.1 0 := t 0 (by decide)
    have t1 : κ.1 1 = σ.1 1 := t 1 (by decide)
    have t2 : κ.1 2 = vlu (σ.1 9) (σ.1 10) (σ.1 11) := t 2 (by decide)
    have t3 : κ.1 3 = e := t 3 (by decide)
    have t4 : κ.1 4 = sgn (σ.1 8) (σ.1 9) := t 4 (by decide)
    have t5 : κ.1 5 = dle (σ.1 0) (σ.1 1) e (σ.1 9) (σ.1 10) := t 5 (by decide)
    unfold g_X7_command_203 hnd
    try dsimp only
    by_cases k : r = 0
    · rw [if_pos k, if_pos (hr.mp k)]
      obtain ⟨qa, qb⟩ := GQ.add (σ := κ) (μ := p.1) (e := e) (v := vlu (σ.1 9) (σ.1 10) (σ.1 11)) hB.2.2.1 (u11.trans t0.symm) (u12.trans t1.symm) t2.symm t3.symm (u14.trans (hsg.trans t4.symm)) (by rw [t4]; exact sgB) (u19.trans t5.symm)
      have fh := fa_hand (σ := p.1) (e := e) (v := vlu (σ.1 9) (σ.1 10) (σ.1 11))
      have hRA2 := RA.fa ⟨hP2, hB⟩ fa_add fh qa
      refine ⟨hRA2, GP.cmd (σ := σ) (st := st) (v := vlu (σ.1 9) (σ.1 10) (σ.1 11)) (g := sgn (σ.1 8) (σ.1 9)) (e := e) (dl := dle (σ.1 0) (σ.1 1) e (σ.1 9) (σ.1 10)) (fun k hk => (fa_add.1 k (by omega)).trans (t k hk)) ((fh.1 11 (by omega)).trans u11) ((fh.1 12 (by omega)).trans u12) ((fh.1 19 (by omega)).trans u19) ((fh.1 20 (by omega)).trans u20) bf bg bl hst (fun _ => Or.inr ⟨hT, ?_⟩)⟩
      rcases qb with ⟨q1, q2⟩ | ⟨q1, q2, q3⟩
      · rw [q1, q2]
        exact Or.inr ⟨u21, rfl⟩
      · rw [t5] at q3
        exact Or.inl ⟨q2, q1, q3⟩
    · have kp := fun q => k (hr.mpr q)
      rw [if_neg k, if_neg kp]
      exact ⟨⟨hP2, hB⟩, GP.cmd (σ := σ) (st := st) (v := vlu (σ.1 9) (σ.1 10) (σ.1 11)) (g := sgn (σ.1 8) (σ.1 9)) (e := e) (dl := dle (σ.1 0) (σ.1 1) e (σ.1 9) (σ.1 10)) t u11 u12 u19 u20 bf bg bl hst (fun q => absurd (hW q) kp)⟩
