/-! Parts -/
def pt_has (x : Int32) : Int32 := if x < 1 then 0 else if 20 < x then 0 else 1
theorem pt_has_nI {x : Int32} (h : ¬ pt_has x = 0) : ∃ j : Nat, 1 ≤ j ∧ j < 21 ∧ x = nI j := by
  unfold pt_has at h
  by_cases h1 : x < 1
  · simp [h1] at h
  · by_cases h2 : 20 < x
    · simp [h1, h2] at h
    · have a := Int32.not_lt.mp h1
      have b := Int32.not_lt.mp h2
      rw [Int32.le_iff_toInt_le] at a b
      have e1 : (1 : Int32).toInt = 1 := by decide
      have e2 : (20 : Int32).toInt = 20 := by decide
      rw [e1] at a
      rw [e2] at b
      obtain ⟨j, hj, rfl⟩ := vp_in_of (x := x) (n := 21) (vp_in_iff.mpr ⟨by omega, by omega⟩) (by decide)
      rw [nI_toInt (by omega)] at a
      exact ⟨j, by omega, hj, rfl⟩
theorem pt_has_in {x : Int32} (h : ¬ pt_has x = 0) : vp_in x 21 := by
  obtain ⟨j, -, hj, rfl⟩ := pt_has_nI h
  exact vp_in_nI hj (by decide)
theorem pt_40 {x : Int32} (h : ¬ x < 0) (h2 : ¬ 40 ≤ x) : vp_in x 40 := by
  rcases pk_ix x (n := 40) (by decide) with q | q | ⟨j, hj, rfl⟩
  · exact absurd q h
  · exact absurd q h2
  · exact vp_in_nI hj (by decide)
def pt_tell (td pl fl : Nat → Int32) (pn p o f : Int32) : (Nat → Int32) × (Nat → Int32) × (Nat → Int32) × Int32 :=
  if pt_has p = 0 then (td, pl, fl, pn) else
  if td (p.toNatClampNeg) = 0 then (upd td (p.toNatClampNeg) (vp_nar .boolean 1), upd pl (p.toNatClampNeg) (o * 21 + p), upd fl (p.toNatClampNeg) (vp_nar .boolean f), pn + 1)
  else (td, upd pl (p.toNatClampNeg) (o * 21 + p), upd fl (p.toNatClampNeg) (vp_nar .boolean f), pn)
def pt_thing (th : Nat → Int32) (tn i : Int32) : Int32 := if i < 0 then 0 else if tn ≤ i then 0 else if 40 ≤ i then 0 else th (i.toNatClampNeg)
def pt_note (th : Nat → Int32) (tn x : Int32) : (Nat → Int32) × Int32 := if tn < 0 then (th, tn) else if 40 ≤ tn then (th, tn) else (upd th (tn.toNatClampNeg) x, tn + 1)
theorem pt_note_nI {th : Nat → Int32} {i : Nat} {x : Int32} (h : i < 40) : pt_note th (nI i) x = (upd th i x, nI (i + 1)) := by
  have h40 : ¬ (40 : Int32) ≤ nI i := nI_ge (b := 40) h (by decide)
  unfold pt_note
  rw [if_neg (nI_pos (by omega)), if_neg h40, nI_clamp (by omega), nI_1]
def pt_pb (td pl : Nat → Int32) (place : Int32) : Nat → Nat → Int32 → Int32
  | 0, _, nx => nx
  | k + 1, i, nx => pt_pb td pl place k (i + 1) (if td i = 0 then nx else if pl i ≤ place then nx else if nx = -1 then pl i else if nx ≤ pl i then nx else pl i)
def pt_end : Nat → (Nat → Int32) → Int32 → (Nat → Int32) × Int32
  | 0, th, tn => (th, tn)
  | k + 1, th, tn => pt_end k (pt_note th tn (-(pt_thing th tn (nI k)))).1 (pt_note th tn (-(pt_thing th tn (nI k)))).2
def pt_beg (td pl fl : Nat → Int32) : Nat → Nat → Int32 → (Nat → Int32) → Int32 → Int32 × (Nat → Int32) × Int32
  | 0, _, _, th, tn => (1, th, tn)
  | k + 1, i, place, th, tn => if place = -1 then (1, th, tn) else
    if pt_has (place - place / 21 * 21) = 0 then pt_beg td pl fl k (i + 1) (pt_pb td pl place 20 1 (-1)) (pt_note th tn (place - place / 21 * 21)).1 (pt_note th tn (place - place / 21 * 21)).2 else
    if fl ((place - place / 21 * 21).toNatClampNeg) = 0 then pt_beg td pl fl k (i + 1) (pt_pb td pl place 20 1 (-1)) (pt_note th tn (place - place / 21 * 21)).1 (pt_note th tn (place - place / 21 * 21)).2 else
    (0, (pt_end i (pt_note th tn (place - place / 21 * 21)).1 (pt_note th tn (place - place / 21 * 21)).2).1, (pt_end i (pt_note th tn (place - place / 21 * 21)).1 (pt_note th tn (place - place / 21 * 21)).2).2)
theorem pt_e9 (t : Nat) : nI (t + 1) - 2 = nI t + (-1) := by
  have h : nI (t + 1) = nI t + 1 := nI_succ t
  rw [h, Int32.sub_eq_add_neg, Int32.add_assoc]
  rfl
