/-! The reference: events. mmE: mode, quiet, began, saved, sleeps, copies, versions, changed -/
abbrev mmE : Type := Int32 × Int64 × Int64 × Int32 × Int64 × ssF × ssF × ssF
def mm_kc (vs : ssF) (b : Int32) : Int32 := if vs ((2 * b + 1).toNatClampNeg) ≤ vs ((2 * b).toNatClampNeg) then 0 else 1
theorem mm_kc_or (vs : ssF) (b : Int32) : mm_kc vs b = 0 ∨ mm_kc vs b = 1 := by
  unfold mm_kc
  split
  · exact Or.inl rfl
  · exact Or.inr rfl
def mm_fst (ch : ssF) : Nat → Nat → Int32
  | 0, i => nI i
  | k + 1, i => if ch i = 0 then mm_fst ch k (i + 1) else nI i
theorem mm_fst_nI (ch : ssF) : ∀ (k i : Nat), ∃ j : Nat, i ≤ j ∧ j ≤ i + k ∧ mm_fst ch k i = nI j ∧ (j < i + k → ¬ ch j = 0) ∧ ∀ q, i ≤ q → q < j → ch q = 0
  | 0, i => ⟨i, Nat.le_refl _, Nat.le_refl _, rfl, fun h => absurd h (by omega), fun q h1 h2 => absurd h2 (by omega)⟩
  | k + 1, i => by
    by_cases h : ch i = 0
    · obtain ⟨j, h1, h2, h3, h4, h5⟩ := mm_fst_nI ch k (i + 1)
      refine ⟨j, by omega, by omega, by simp only [mm_fst, if_pos h]; exact h3, fun q => h4 (by omega), fun q g1 g2 => ?_⟩
      by_cases e : q = i
      · subst e; exact h
      · exact h5 q (by omega) g2
    · exact ⟨i, Nat.le_refl _, by omega, by simp only [mm_fst, if_neg h], fun _ => h, fun q h1 h2 => absurd h2 (by omega)⟩
theorem mm_fst_in {ch : ssF} (h : ¬ mm_fst ch 8 0 = 8) : vp_in (mm_fst ch 8 0) 8 := by
  obtain ⟨j, -, h2, h3, -, -⟩ := mm_fst_nI ch 8 0
  rw [h3] at h ⊢
  have : j ≠ 8 := fun e => h (by rw [e]; rfl)
  exact vp_in_nI (by omega) (by decide)
theorem mm_fst_in' {ch : ssF} (h : ¬ 8 ≤ mm_fst ch 8 0) : vp_in (mm_fst ch 8 0) 8 := mm_fst_in (fun e => h (by rw [e]; decide))
def mm_svs (vs ch : ssF) : ssF := upd vs ((2 * mm_fst ch 8 0 + 1 - mm_kc vs (mm_fst ch 8 0)).toNatClampNeg) 0
def mm_cp (wk : ssF) (sv c : Int32) : Nat → Nat → ssF → ssF
  | 0, _, f => f
  | k + 1, i, f => mm_cp wk sv c k (i + 1) (upd f ((16 * (2 * sv + c) + nI i).toNatClampNeg) (vp_nar .byte (wk ((16 * sv + nI i).toNatClampNeg))))
def mm_is (wk rq : ssF) (tm qu be : Int64) (sv : Int32) (sl : Int64) (cp vs ch : ssF) : mmE :=
  if bl_cnt rq 16 1 0 ≤ 0 then
    (if mm_fst (upd ch (sv.toNatClampNeg) (vp_nar .boolean 0)) 8 0 = 8 then (3, qu, be, sv, sl + 1, mm_cp wk sv (1 - mm_kc vs sv) 16 0 cp, upd vs ((2 * sv + (1 - mm_kc vs sv)).toNatClampNeg) (vs ((2 * sv + mm_kc vs sv).toNatClampNeg) + 1), upd ch (sv.toNatClampNeg) (vp_nar .boolean 0))
     else (2, qu, tm, mm_fst (upd ch (sv.toNatClampNeg) (vp_nar .boolean 0)) 8 0, sl, mm_cp wk sv (1 - mm_kc vs sv) 16 0 cp, mm_svs (upd vs ((2 * sv + (1 - mm_kc vs sv)).toNatClampNeg) (vs ((2 * sv + mm_kc vs sv).toNatClampNeg) + 1)) (upd ch (sv.toNatClampNeg) (vp_nar .boolean 0)), upd ch (sv.toNatClampNeg) (vp_nar .boolean 0)))
  else (1, tm, be, sv, sl, mm_cp wk sv (1 - mm_kc vs sv) 16 0 cp, upd vs ((2 * sv + (1 - mm_kc vs sv)).toNatClampNeg) (vs ((2 * sv + mm_kc vs sv).toNatClampNeg) + 1), upd ch (sv.toNatClampNeg) (vp_nar .boolean 0))
def mm_due (rq : ssF) (md : Int32) (qu be : Int64) : Int64 := if md = 1 then (if bl_cnt rq 16 1 0 = 0 then qu + 100 else -1) else if md = 2 then be + 5 else if md = 4 then be + 20 else -1
def mm_ev (wk rq : ssF) (tm : Int64) : mmE → mmE := fun (md, qu, be, sv, sl, cp, vs, ch) =>
  if md = 1 then (if 8 ≤ mm_fst ch 8 0 then (3, qu, be, sv, sl + 1, cp, vs, ch) else (2, qu, tm, mm_fst ch 8 0, sl, cp, mm_svs vs ch, ch)) else
  if md = 2 then mm_is wk rq tm qu be sv sl cp vs ch else (3, qu, be, sv, sl + 1, cp, vs, ch)
def mm_go (wk rq : ssF) (t : Int64) : Nat → mmE → mmE
  | 0, x => x
  | k + 1, x => if mm_due rq x.1 x.2.1 x.2.2.1 < 0 then x else if t < mm_due rq x.1 x.2.1 x.2.2.1 then x else mm_go wk rq t k (mm_ev wk rq (mm_due rq x.1 x.2.1 x.2.2.1) x)
/-- the events up to t are at most k, and what is saved is a block -/
def mm_end (wk rq : ssF) (t : Int64) : Nat → mmE → Prop
  | 0, x => mm_due rq x.1 x.2.1 x.2.2.1 < 0 ∨ t < mm_due rq x.1 x.2.1 x.2.2.1
  | k + 1, x => mm_due rq x.1 x.2.1 x.2.2.1 < 0 ∨ t < mm_due rq x.1 x.2.1 x.2.2.1 ∨ ((x.1 = 2 → vp_in x.2.2.2.1 8) ∧ mm_end wk rq t k (mm_ev wk rq (mm_due rq x.1 x.2.1 x.2.2.1) x))
/-- indices -/
theorem mm_2 (j : Nat) : 2 * nI j = nI (2 * j) := pk_mul 2 j
theorem mm_16 (j : Nat) : 16 * nI j = nI (16 * j) := pk_mul 16 j
theorem mm_v0 {b : Int32} (h : vp_in b 8) : vp_in (2 * b) 16 := by
  obtain ⟨j, hj, rfl⟩ := vp_in_of h (by decide)
  rw [mm_2]
  exact vp_in_nI (by omega) (by decide)
theorem mm_v1 {b : Int32} (h : vp_in b 8) : vp_in (2 * b + 1) 16 := by
  obtain ⟨j, hj, rfl⟩ := vp_in_of h (by decide)
  rw [mm_2, nI_1]
  exact vp_in_nI (by omega) (by decide)
theorem mm_vk {b k : Int32} (h : vp_in b 8) (hk : k = 0 ∨ k = 1) : vp_in (2 * b + k) 16 := by
  obtain ⟨j, hj, rfl⟩ := vp_in_of h (by decide)
  rcases hk with rfl | rfl
  · rw [mm_2, show (0 : Int32) = nI 0 from rfl, nI_add]
    exact vp_in_nI (by omega) (by decide)
  · rw [mm_2, nI_1]
    exact vp_in_nI (by omega) (by decide)
theorem mm_vm {b k : Int32} (h : vp_in b 8) (hk : k = 0 ∨ k = 1) : vp_in (2 * b + 1 - k) 16 := by
  obtain ⟨j, hj, rfl⟩ := vp_in_of h (by decide)
  rcases hk with rfl | rfl
  · rw [mm_2, nI_1, show (0 : Int32) = nI 0 from rfl, pk_sub (by omega)]
    exact vp_in_nI (by omega) (by decide)
  · rw [mm_2, nI_1, nI_pred]
    exact vp_in_nI (by omega) (by decide)
theorem mm_c {b k : Int32} {i : Nat} (h : vp_in b 8) (hk : k = 0 ∨ k = 1) (hi : i < 16) : vp_in (16 * (2 * b + k) + nI i) 256 := by
  obtain ⟨j, hj, rfl⟩ := vp_in_of h (by decide)
  rcases hk with rfl | rfl
  · rw [mm_2, show (0 : Int32) = nI 0 from rfl, nI_add, mm_16, nI_add]
    exact vp_in_nI (by omega) (by decide)
  · rw [mm_2, nI_1, mm_16, nI_add]
    exact vp_in_nI (by omega) (by decide)
theorem mm_w {b : Int32} {i : Nat} (h : vp_in b 8) (hi : i < 16) : vp_in (16 * b + nI i) 128 := by
  obtain ⟨j, hj, rfl⟩ := vp_in_of h (by decide)
  rw [mm_16, nI_add]
  exact vp_in_nI (by omega) (by decide)
theorem mm_i8 {x : Int32} (h : ¬ x < 0) (h2 : x < 8) : vp_in x 8 := by
  rcases pk_ix x (n := 8) (by decide) with q | q | ⟨j, hj, rfl⟩
  · exact absurd q h
  · exact absurd q (Int32.not_le.mpr h2)
  · exact vp_in_nI hj (by decide)
theorem mm_i16 {x : Int32} (h : ¬ x < 0) (h2 : x < 16) : ∃ j : Nat, j < 16 ∧ x = nI j := by
  rcases pk_ix x (n := 16) (by decide) with q | q | q
  · exact absurd q h
  · exact absurd q (Int32.not_le.mpr h2)
  · exact q
theorem mm_u {x : Int32} (h : ¬ x < 1) (h2 : x ≤ 16) : vp_in x 17 := by
  rw [vp_in_iff]
  have a := Int32.not_lt.mp h
  rw [Int32.le_iff_toInt_le] at a h2
  have e1 : (1 : Int32).toInt = 1 := by decide
  have e2 : (16 : Int32).toInt = 16 := by decide
  rw [e1] at a
  rw [e2] at h2
  omega
theorem mm_p {x : Int32} (h : ¬ x < 1) (h2 : x ≤ 20) : vp_in x 21 := by
  rw [vp_in_iff]
  have a := Int32.not_lt.mp h
  rw [Int32.le_iff_toInt_le] at a h2
  have e1 : (1 : Int32).toInt = 1 := by decide
  have e2 : (20 : Int32).toInt = 20 := by decide
  rw [e1] at a
  rw [e2] at h2
  omega
/-- parts -/
def mm_np (td od : ssF) (o q : Int32) : Nat → Nat → Nat → Nat
  | 0, _, b => b
  | k + 1, i, b => mm_np td od o q k (i + 1) (if td i = 0 then b else if o < od i then (if nI b = 0 then i else if od b ≤ od i then b else i) else if od i = o then (if nI i ≤ q then b else (if nI b = 0 then i else if od b ≤ od i then b else i)) else b)
theorem mm_np_le (td od : ssF) (o q : Int32) : ∀ (k i b : Nat), i + k = 21 → b ≤ 20 → mm_np td od o q k i b ≤ 20
  | 0, _, _, _, h => h
  | k + 1, i, b, hi, h => by
    have hb : ∀ c : Nat, c = b ∨ c = i → mm_np td od o q k (i + 1) c ≤ 20 := fun c hc => mm_np_le td od o q k (i + 1) c (by omega) (by omega)
    unfold mm_np
    apply hb
    split
    · exact Or.inl rfl
    · split
      · split
        · exact Or.inr rfl
        · split
          · exact Or.inl rfl
          · exact Or.inr rfl
      · split
        · split
          · exact Or.inl rfl
          · split
            · exact Or.inr rfl
            · split
              · exact Or.inl rfl
              · exact Or.inr rfl
        · exact Or.inl rfl
def mm_ldr (cp vs : ssF) (b : Int32) : Nat → Nat → ssF → ssF
  | 0, _, f => f
  | k + 1, j, f => mm_ldr cp vs b k (j + 1) (upd f ((16 * b + nI j).toNatClampNeg) (vp_nar .byte (cp ((16 * (2 * b + mm_kc vs b) + nI j).toNatClampNeg))))
def mm_ld (cp vs : ssF) : Nat → Nat → ssF → ssF → ssF × ssF
  | 0, _, wk, ch => (wk, ch)
  | k + 1, i, wk, ch => mm_ld cp vs k (i + 1) (mm_ldr cp vs (nI i) 16 0 wk) (upd ch i (vp_nar .boolean 0))
def mm_st (td od fl : ssF) : Nat → Nat → Int32 → ssF → Int32 → Int32 × ssF × Int32
  | 0, _, f, th, mn => (f, th, mn)
  | k + 1, p, f, th, mn => if nI p ≤ 0 then (f, th, mn) else if f = 0 then mm_st td od fl k (mm_np td od (od p) (nI p) 20 1 0) (fl p) (upd th (mn.toNatClampNeg) (nI p)) (mn + 1) else (f, th, mn)
def mm_se (td od fl : ssF) : Nat → Nat → Int32 → Prop
  | 0, p, f => nI p ≤ 0 ∨ ¬ f = 0
  | k + 1, p, f => nI p ≤ 0 ∨ ¬ f = 0 ∨ mm_se td od fl k (mm_np td od (od p) (nI p) 20 1 0) (fl p)
def mm_en : Nat → ssF → Int32 → ssF × Int32
  | 0, th, mn => (th, mn)
  | k + 1, th, mn => mm_en k (upd th (mn.toNatClampNeg) (-(th k))) (mn + 1)
