/-! The law: its own method kept, and the loop -/
def lk_r (b i : Int32) : Int32 := if bl_has b = 0 then 1 else if bl_oct i = 0 then 1 else 0
def lk_f (x : ssS) (f : Nat → Int64) (b i : Int32) : Nat → Int64 := if bl_has b = 0 then f else if bl_oct i = 0 then f else vp_updL f ((0 : Int32).toNatClampNeg) (bl_kept x.1.2.2.2.2.2.2.1 x.1.2.2.2.2.2.2.2.1 x.1.2.2.2.2.1 x.1.2.2.2.2.2.1 b i).toInt64
theorem sm_lk {c : Nat} {x : ssS} {y : mmS} {b i : Int32} (f : Nat → Int64) (h : sm_Rel c x y) : (mm_kept y b i).2.2.1 = lk_r b i ∧ (lk_r b i = 0 → lk_f x f b i 0 = (mm_kept y b i).1.toInt64) ∧ sm_Rel (c + 1) x (mm_kept y b i).2 := by
  obtain ⟨h1, h2⟩ := sm_kept (b_ := b) (i_ := i) h
  refine ⟨?_, ?_, h2⟩
  · rcases h1 with ⟨z, e⟩ | ⟨z1, z2, e, -⟩
    · rw [e]
      unfold lk_r
      rcases z with z | z
      · rw [if_pos z]
      · rw [if_pos z]
        split <;> rfl
    · rw [e]
      unfold lk_r
      rw [if_neg z1, if_neg z2]
  · intro hz
    rcases h1 with ⟨z, e⟩ | ⟨z1, z2, e, ev⟩
    · unfold lk_r at hz
      rcases z with z | z
      · rw [if_pos z] at hz
        exact absurd hz (by decide)
      · rw [if_pos z] at hz
        split at hz <;> exact absurd hz (by decide)
    · unfold lk_f
      rw [if_neg z1, if_neg z2, ev]
      exact if_pos rfl
theorem lk_r1 {b i : Int32} (h : bl_has b = 0 ∨ bl_oct i = 0) : lk_r b i = 1 := by
  unfold lk_r
  rcases h with z | z
  · rw [if_pos z]
  · rw [if_pos z]
    split <;> rfl
theorem lk_f1 {x : ssS} {f : Nat → Int64} {b i : Int32} (h : bl_has b = 0 ∨ bl_oct i = 0) : lk_f x f b i = f := by
  unfold lk_f
  rcases h with z | z
  · rw [if_pos z]
  · rw [if_pos z]
    split <;> rfl
theorem law_lt {L i : Nat} (hL : L ≤ 2048) (hi : i ≤ 4096) : Int32.ofNat L - 4 < nI i ↔ L < i + 4 := by
  have a : (nI L - nI 4).toInt = (L : Int) - 4 := pk_sub_toInt (by omega) (by omega)
  rw [Int32.lt_iff_toInt_lt, nI_toInt (n := i) (by omega)]
  show (nI L - nI 4).toInt < (i : Int) ↔ _
  rw [a]
  omega
theorem law_in {L i k : Nat} (hL : L ≤ 2048) (hi : i + 4 ≤ L) (hk : k < 4) : vp_in (nI i + nI k) L := by
  rw [nI_add]
  exact vp_in_nI (by omega) (by omega)
