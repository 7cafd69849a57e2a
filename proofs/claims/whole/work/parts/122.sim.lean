/-! Parts on both sides -/
def sm_P (td pl fl td' od fl' : ssF) : Prop := ∀ p, 1 ≤ p → p ≤ 20 → (td p = 0 ↔ td' p = 0) ∧ (¬ td' p = 0 → ∃ o, o ≤ 100 ∧ od p = nI o ∧ pl p = nI (o * 21 + p) ∧ fl p = fl' p)
/-- 'behind' means the same: for the class by its number, for the reference by order and number -/
def sm_G (pl td' od : ssF) (place o q : Int32) : Prop := ∀ p, 1 ≤ p → p ≤ 20 → ¬ td' p = 0 → (pl p ≤ place ↔ ¬ (o < od p ∨ (od p = o ∧ ¬ nI p ≤ q)))
/-- what the one and the other hold as the next -/
def sm_N (pl td' : ssF) (place : Int32) (nx : Int32) (b : Nat) : Prop := (b = 0 ∧ nx = -1) ∨ (1 ≤ b ∧ b ≤ 20 ∧ ¬ td' b = 0 ∧ nx = pl b ∧ ¬ pl b ≤ place)
theorem sm_nm1 (j : Nat) (h : j < 2 ^ 31) : ¬ nI j = -1 := fun q => by
  have a := nI_toInt (n := j) h
  rw [q, show (-1 : Int32).toInt = -1 from rfl] at a
  omega
theorem sm_nz {b : Nat} (h : 1 ≤ b) (h2 : b ≤ 20) : ¬ nI b = 0 := nI_ne0 (by omega) (by omega)
theorem sm_np {td pl fl td' od fl' : ssF} {place o q : Int32} (hP : sm_P td pl fl td' od fl') (hG : sm_G pl td' od place o q) : ∀ (k i b : Nat) (nx : Int32), i + k = 21 → 1 ≤ i → (sm_N pl td' place nx b ∧ b < i) → sm_N pl td' place (pt_pb td pl place k i nx) (mm_np td' od o q k i b)
  | 0, i, b, nx, _, _, h => h.1
  | k + 1, i, b, nx, hi, h1, ⟨h, hbi⟩ => by
    unfold pt_pb mm_np
    apply sm_np hP hG k (i + 1) _ _ (by omega) (by omega)
    obtain ⟨ht, hp⟩ := hP i h1 (by omega)
    by_cases c : td' i = 0
    · rw [if_pos c, if_pos (ht.mpr c)]
      exact ⟨h, by omega⟩
    · rw [if_neg c, if_neg (fun z => c (ht.mp z))]
      have hg := hG i h1 (by omega) c
      by_cases cp : pl i ≤ place
      · rw [if_pos cp]
        have hno := hg.mp cp
        rw [if_neg (fun z => hno (Or.inl z))]
        by_cases ce : od i = o
        · rw [if_pos ce]
          have : nI i ≤ q := Classical.byContradiction fun z => hno (Or.inr ⟨ce, z⟩)
          rw [if_pos this]
          exact ⟨h, by omega⟩
        · rw [if_neg ce]
          exact ⟨h, by omega⟩
      · rw [if_neg cp]
        have hyes : o < od i ∨ (od i = o ∧ ¬ nI i ≤ q) := Classical.byContradiction fun z => cp (hg.mpr z)
        -- the reference's choice
        have hm : ∀ X : Nat, (if o < od i then X else if od i = o then (if nI i ≤ q then b else X) else b) = X := fun X => by
          rcases hyes with z | ⟨z1, z2⟩
          · rw [if_pos z]
          · by_cases zz : o < od i
            · rw [if_pos zz]
            · rw [if_neg zz, if_pos z1, if_neg z2]
        rw [hm]
        rcases h with ⟨rfl, rfl⟩ | ⟨b1, b2, b3, rfl, b5⟩
        · rw [if_pos rfl, if_pos (show nI 0 = 0 from rfl)]
          exact ⟨Or.inr ⟨h1, by omega, c, rfl, cp⟩, by omega⟩
        · obtain ⟨ob, hob, eb1, eb2, -⟩ := (hP b b1 b2).2 b3
          obtain ⟨oi, hoi, ei1, ei2, -⟩ := hp c
          rw [if_neg (show ¬ pl b = -1 by rw [eb2]; exact sm_nm1 _ (by omega)), if_neg (sm_nz b1 b2)]
          have hle : pl b ≤ pl i ↔ od b ≤ od i := by
            rw [eb2, ei2, eb1, ei1, nI_leI (by omega) (by omega), nI_leI (by omega) (by omega)]
            omega
          by_cases cc : od b ≤ od i
          · rw [if_pos cc, if_pos (hle.mpr cc)]
            exact ⟨Or.inr ⟨b1, b2, b3, rfl, b5⟩, by omega⟩
          · rw [if_neg cc, if_neg (fun z => cc (hle.mp z))]
            exact ⟨Or.inr ⟨h1, by omega, c, rfl, cp⟩, by omega⟩
theorem sm_np0 {td pl fl td' od fl' : ssF} {place o q : Int32} (hP : sm_P td pl fl td' od fl') (hG : sm_G pl td' od place o q) : sm_N pl td' place (pt_pb td pl place 20 1 (-1)) (mm_np td' od o q 20 1 0) := sm_np hP hG 20 1 0 (-1) rfl (Nat.le_refl _) ⟨Or.inl ⟨rfl, rfl⟩, by omega⟩
theorem sm_G0 {td pl fl td' od fl' : ssF} (hP : sm_P td pl fl td' od fl') : sm_G pl td' od (-1) (-1) 0 := by
  intro p h1 h2 ht
  obtain ⟨o, ho, e1, e2, -⟩ := (hP p h1 h2).2 ht
  have a : ¬ pl p ≤ -1 := by
    rw [e2, Int32.le_iff_toInt_le, nI_toInt (by omega), show (-1 : Int32).toInt = -1 from rfl]
    omega
  have b : (-1 : Int32) < od p := by
    rw [e1, Int32.lt_iff_toInt_lt, nI_toInt (by omega), show (-1 : Int32).toInt = -1 from rfl]
    omega
  exact ⟨fun z => absurd z a, fun z => absurd (Or.inl b) z⟩
theorem sm_G1 {td pl fl td' od fl' : ssF} {r : Nat} (hP : sm_P td pl fl td' od fl') (r1 : 1 ≤ r) (r2 : r ≤ 20) (rt : ¬ td' r = 0) : sm_G pl td' od (pl r) (od r) (nI r) := by
  intro p h1 h2 ht
  obtain ⟨o, ho, e1, e2, -⟩ := (hP p h1 h2).2 ht
  obtain ⟨u, hu, f1, f2, -⟩ := (hP r r1 r2).2 rt
  rw [e1, e2, f1, f2, nI_leI (by omega) (by omega), nI_ltI (by omega) (by omega), nI_eq (by omega) (by omega), nI_leI (by omega) (by omega)]
  omega
/-! how many parts can still begin -/
def sm_ind (td' pl : ssF) (place : Int32) : ssF := fun p => if td' p = 0 then 0 else if pl p ≤ place then 0 else 1
theorem sm_cn_mono {f g : ssF} : ∀ (k i : Nat), (∀ j, i ≤ j → j < i + k → f j = 0 → g j = 0) → sm_cn g k i ≤ sm_cn f k i
  | 0, _, _ => Nat.le_refl _
  | k + 1, i, h => by
    have h1 := sm_cn_mono (f := f) (g := g) k (i + 1) (fun j a b => h j (by omega) (by omega))
    have h2 := h i (Nat.le_refl _) (by omega)
    unfold sm_cn
    by_cases q : f i = 0
    · rw [if_pos q, if_pos (h2 q)]; omega
    · rw [if_neg q]; split <;> omega
theorem sm_cn_less {f g : ssF} {u : Nat} : ∀ (k i : Nat), i ≤ u → u < i + k → (∀ j, i ≤ j → j < i + k → f j = 0 → g j = 0) → ¬ f u = 0 → g u = 0 → sm_cn g k i < sm_cn f k i
  | 0, i, h, h2, _, _, _ => absurd h2 (by omega)
  | k + 1, i, h, h2, hm, hf, hg => by
    unfold sm_cn
    by_cases e : i = u
    · subst e
      have h1 := sm_cn_mono (f := f) (g := g) k (i + 1) (fun j a b => hm j (by omega) (by omega))
      rw [if_neg hf, if_pos hg]
      omega
    · have h1 := sm_cn_less (f := f) (g := g) (u := u) k (i + 1) (by omega) (by omega) (fun j a b => hm j (by omega) (by omega)) hf hg
      have h3 := hm i (Nat.le_refl _) (by omega)
      by_cases q : f i = 0
      · rw [if_pos q, if_pos (h3 q)]; omega
      · rw [if_neg q]; split <;> omega
theorem sm_ind_less {td' pl : ssF} {place : Int32} {r : Nat} (r1 : 1 ≤ r) (r2 : r ≤ 20) (rt : ¬ td' r = 0) (rp : ¬ pl r ≤ place) : sm_cn (sm_ind td' pl (pl r)) 20 1 < sm_cn (sm_ind td' pl place) 20 1 := by
  refine sm_cn_less 20 1 r1 (by omega) (fun j _ _ h => ?_) ?_ ?_
  · unfold sm_ind at h ⊢
    by_cases c : td' j = 0
    · rw [if_pos c]
    · rw [if_neg c] at h ⊢
      by_cases cp : pl j ≤ place
      · have : pl j ≤ pl r := Int32.le_trans cp (Int32.le_of_lt (Int32.not_le.mp rp))
        rw [if_pos this]
      · rw [if_neg cp] at h
        exact absurd h (by decide)
  · unfold sm_ind
    rw [if_neg rt, if_neg rp]
    decide
  · unfold sm_ind
    rw [if_neg rt, if_pos (Int32.le_refl _)]
theorem sm_se0 {td' od fl' : ssF} (k : Nat) (f : Int32) : mm_se td' od fl' k 0 f := by
  cases k with
  | zero => exact Or.inl (by decide)
  | succ k => exact Or.inl (by decide)
theorem sm_se {td pl fl td' od fl' : ssF} (hP : sm_P td pl fl td' od fl') (k : Nat) : ∀ (place nx : Int32) (b : Nat) (f : Int32), sm_N pl td' place nx b → sm_cn (sm_ind td' pl place) 20 1 ≤ k → mm_se td' od fl' k b f := by
  induction k with
  | zero =>
    intro place nx b f hN h
    rcases hN with ⟨e, -⟩ | ⟨b1, b2, b3, -, b5⟩
    · subst e; exact sm_se0 0 f
    · exact absurd (sm_ind_less b1 b2 b3 b5) (by omega)
  | succ k ih =>
    intro place nx b f hN h
    rcases hN with ⟨e, -⟩ | ⟨b1, b2, b3, -, b5⟩
    · subst e; exact sm_se0 _ f
    · have hl := sm_ind_less b1 b2 b3 b5
      exact Or.inr (Or.inr (ih (pl b) _ _ _ (sm_np0 hP (sm_G1 hP b1 b2 b3)) (by omega)))
/-! the parts begin, and end -/
def sm_A (th th' : ssF) (m : Nat) : Prop := ∀ j, j < m → th j = th' j
theorem sm_A1 {th th' : ssF} {m : Nat} {x : Int32} (h : sm_A th th' m) : sm_A (upd th m x) (upd th' m x) (m + 1) := by
  intro j hj
  by_cases e : j = m
  · subst e; rw [pk_us, pk_us]
  · rw [pk_un e, pk_un e]; exact h j (by omega)
theorem sm_thing {th : ssF} {j k : Nat} (h : k < j) (h2 : j ≤ 40) : pt_thing th (nI j) (nI k) = th k := by
  have h40 : ¬ (40 : Int32) ≤ nI k := nI_ge (b := 40) (by omega) (by decide)
  unfold pt_thing
  rw [if_neg (nI_pos (by omega)), if_neg (nI_ge h (by omega)), if_neg h40, nI_clamp (by omega)]
theorem sm_en : ∀ (k j : Nat) (g g' : ssF), k ≤ j → j + k ≤ 39 → sm_A g g' j → ∃ G G', pt_end k g (nI j) = (G, nI (j + k)) ∧ mm_en k g' (nI j) = (G', nI (j + k)) ∧ sm_A G G' (j + k)
  | 0, j, g, g', _, _, h => ⟨g, g', rfl, rfl, h⟩
  | k + 1, j, g, g', h1, h2, h => by
    unfold pt_end mm_en
    rw [sm_thing (by omega) (by omega), pt_note_nI (by omega), nI_1, nI_clamp (n := j) (by omega), ← h k (by omega)]
    obtain ⟨G, G', e1, e2, e3⟩ := sm_en k (j + 1) (upd g j (-(g k))) (upd g' j (-(g k))) (by omega) (by omega) (sm_A1 h)
    refine ⟨G, G', ?_, ?_, ?_⟩
    · rw [e1, show j + 1 + k = j + (k + 1) by omega]
    · rw [e2, show j + 1 + k = j + (k + 1) by omega]
    · rw [show j + (k + 1) = j + 1 + k by omega]; exact e3
theorem sm_rem {o p : Nat} (h : o ≤ 100) (hp : p ≤ 20) : nI (o * 21 + p) - nI (o * 21 + p) / 21 * 21 = nI p := by
  have a := pk_rem (a := o * 21 + p) (d := 21) (by omega) (by omega) (by omega)
  have b : (o * 21 + p) % 21 = p := by omega
  rw [b] at a
  exact a
theorem sm_hasP {p : Nat} (h1 : 1 ≤ p) (h2 : p ≤ 20) : ¬ pt_has (nI p) = 0 := by
  have a : ¬ nI p < 1 := nI_nlt (b := 1) h1 (by omega)
  have b : ¬ 20 < nI p := nI_nlt (a := 20) h2 (by decide)
  unfold pt_has
  rw [if_neg a, if_neg b]
  decide
theorem sm_stf {td' od fl' : ssF} {k b : Nat} {f : Int32} {th : ssF} {mn : Int32} (h : ¬ f = 0) : mm_st td' od fl' k b f th mn = (f, th, mn) := by
  cases k with
  | zero => rfl
  | succ k =>
    unfold mm_st
    by_cases h0 : nI b ≤ 0
    · rw [if_pos h0]
    · rw [if_neg h0, if_neg h]
theorem sm_beg {td pl fl td' od fl' : ssF} (hP : sm_P td pl fl td' od fl') : ∀ (k i : Nat) (pr place : Int32) (b : Nat) (th th' : ssF), i + k = 20 → sm_N pl td' pr place b → sm_A th th' i →
    ((pt_beg td pl fl k i place th (nI i)).1 = 1 ∧ (mm_st td' od fl' k b 0 th' (nI i)).1 = 0 ∧ ∃ m, m ≤ 20 ∧ (pt_beg td pl fl k i place th (nI i)).2.2 = nI m ∧ (mm_st td' od fl' k b 0 th' (nI i)).2.2 = nI m ∧ sm_A (pt_beg td pl fl k i place th (nI i)).2.1 (mm_st td' od fl' k b 0 th' (nI i)).2.1 m) ∨
    ((pt_beg td pl fl k i place th (nI i)).1 = 0 ∧ ¬ (mm_st td' od fl' k b 0 th' (nI i)).1 = 0 ∧ ∃ m g, 1 ≤ m ∧ m ≤ 20 ∧ (mm_st td' od fl' k b 0 th' (nI i)).2.2 = nI m ∧ sm_A g (mm_st td' od fl' k b 0 th' (nI i)).2.1 m ∧ (pt_beg td pl fl k i place th (nI i)).2 = pt_end (m - 1) g (nI m))
  | 0, i, pr, place, b, th, th', hi, hN, hA => Or.inl ⟨rfl, rfl, i, by omega, rfl, rfl, hA⟩
  | k + 1, i, pr, place, b, th, th', hi, hN, hA => by
    rcases hN with ⟨rfl, rfl⟩ | ⟨b1, b2, b3, rfl, b5⟩
    · have e1 : pt_beg td pl fl (k + 1) i (-1) th (nI i) = (1, th, nI i) := by unfold pt_beg; rw [if_pos rfl]
      have e2 : mm_st td' od fl' (k + 1) 0 0 th' (nI i) = (0, th', nI i) := by unfold mm_st; rw [if_pos (by decide)]
      rw [e1, e2]
      exact Or.inl ⟨rfl, rfl, i, by omega, rfl, rfl, hA⟩
    · obtain ⟨o, ho, f1, f2, f3⟩ := (hP b b1 b2).2 b3
      have hne : ¬ pl b = -1 := by rw [f2]; exact sm_nm1 _ (by omega)
      have hb0 : ¬ nI b ≤ 0 := nI_nle (by omega) (by omega)
      have hr : pl b - pl b / 21 * 21 = nI b := by rw [f2]; exact sm_rem ho b2
      have e2 : mm_st td' od fl' (k + 1) b 0 th' (nI i) = mm_st td' od fl' k (mm_np td' od (od b) (nI b) 20 1 0) (fl' b) (upd th' i (nI b)) (nI (i + 1)) := by
        conv => lhs; unfold mm_st
        rw [if_neg hb0, if_pos rfl, nI_clamp (by omega), nI_1]
      by_cases cf : fl b = 0
      · have e1 : pt_beg td pl fl (k + 1) i (pl b) th (nI i) = pt_beg td pl fl k (i + 1) (pt_pb td pl (pl b) 20 1 (-1)) (upd th i (nI b)) (nI (i + 1)) := by
          conv => lhs; unfold pt_beg
          rw [if_neg hne, hr, if_neg (sm_hasP b1 b2), nI_clamp (n := b) (by omega), if_pos cf, pt_note_nI (by omega)]
        rw [e1, e2, ← f3, cf]
        exact sm_beg hP k (i + 1) (pl b) _ _ _ _ (by omega) (sm_np0 hP (sm_G1 hP b1 b2 b3)) (sm_A1 hA)
      · have e1 : pt_beg td pl fl (k + 1) i (pl b) th (nI i) = (0, (pt_end i (upd th i (nI b)) (nI (i + 1))).1, (pt_end i (upd th i (nI b)) (nI (i + 1))).2) := by
          conv => lhs; unfold pt_beg
          rw [if_neg hne, hr, if_neg (sm_hasP b1 b2), nI_clamp (n := b) (by omega), if_neg cf, pt_note_nI (by omega)]
        rw [e1, e2, ← f3, sm_stf cf]
        exact Or.inr ⟨rfl, cf, i + 1, upd th i (nI b), by omega, by omega, rfl, sm_A1 hA, rfl⟩
