/-! THE TWO SIDES, HELD AGAINST EACH OTHER: pure rows. Counting. -/
def sm_cn (f : ssF) : Nat → Nat → Nat
  | 0, _ => 0
  | k + 1, i => (if f i = 0 then 0 else 1) + sm_cn f k (i + 1)
theorem sm_cnt (f : ssF) : ∀ (k i a : Nat), bl_cnt f k i (nI a) = nI (a + sm_cn f k i)
  | 0, _, _ => rfl
  | k + 1, i, a => by
    unfold bl_cnt sm_cn
    by_cases h : f i = 0
    · rw [if_pos h, if_pos h, sm_cnt f k (i + 1) a, Nat.zero_add]
    · rw [if_neg h, if_neg h, nI_1, sm_cnt f k (i + 1) (a + 1), Nat.add_assoc]
theorem sm_cnt0 (f : ssF) (k i : Nat) : bl_cnt f k i 0 = nI (sm_cn f k i) := by
  have h := sm_cnt f k i 0
  rw [Nat.zero_add] at h
  exact h
theorem sm_cn_le (f : ssF) : ∀ (k i : Nat), sm_cn f k i ≤ k
  | 0, _ => Nat.le_refl _
  | k + 1, i => by
    have h := sm_cn_le f k (i + 1)
    unfold sm_cn
    split <;> omega
theorem sm_cn_congr {f g : ssF} : ∀ (k i : Nat), (∀ j, i ≤ j → j < i + k → (f j = 0 ↔ g j = 0)) → sm_cn f k i = sm_cn g k i
  | 0, _, _ => rfl
  | k + 1, i, h => by
    have h1 := sm_cn_congr (f := f) (g := g) k (i + 1) (fun j a b => h j (by omega) (by omega))
    have h2 := h i (Nat.le_refl _) (by omega)
    unfold sm_cn
    rw [h1]
    by_cases q : f i = 0
    · rw [if_pos q, if_pos (h2.mp q)]
    · rw [if_neg q, if_neg (fun z => q (h2.mpr z))]
theorem sm_cn_out {f : ssF} {u : Nat} {v : Int32} : ∀ (k i : Nat), (u < i ∨ i + k ≤ u) → sm_cn (upd f u v) k i = sm_cn f k i := fun k i h => sm_cn_congr k i (fun j a b => by rw [pk_un (by omega)])
theorem sm_cn_upd {f : ssF} {u : Nat} {v : Int32} : ∀ (k i : Nat), i ≤ u → u < i + k → sm_cn (upd f u v) k i + (if f u = 0 then 0 else 1) = sm_cn f k i + (if v = 0 then 0 else 1)
  | 0, i, h, h2 => absurd h2 (by omega)
  | k + 1, i, h, h2 => by
    unfold sm_cn
    by_cases e : i = u
    · subst e
      rw [pk_us, sm_cn_out k (i + 1) (Or.inl (by omega))]
      omega
    · have h3 := sm_cn_upd (f := f) (u := u) (v := v) k (i + 1) (by omega) (by omega)
      rw [pk_un e]
      omega
theorem sm_cn_pos {f : ssF} {u : Nat} : ∀ (k i : Nat), i ≤ u → u < i + k → ¬ f u = 0 → 1 ≤ sm_cn f k i
  | 0, i, h, h2, _ => absurd h2 (by omega)
  | k + 1, i, h, h2, q => by
    unfold sm_cn
    by_cases e : i = u
    · subst e
      rw [if_neg q]
      omega
    · have h3 := sm_cn_pos (f := f) (u := u) k (i + 1) (by omega) (by omega) q
      omega
/-! Blocks -/
def sm_V (g0 g1 vs : ssF) : Prop := ∀ j, j < 8 → vs (2 * j) = g0 j ∧ vs (2 * j + 1) = g1 j
def sm_C (k0 k1 cp : ssF) : Prop := ∀ j, j < 8 → ∀ i, i < 16 → cp (16 * (2 * j) + i) = k0 (j * 16 + i) ∧ cp (16 * (2 * j + 1) + i) = k1 (j * 16 + i)
def sm_H (ch ch' : ssF) : Prop := ∀ j, j < 8 → ch j = ch' j
def sm_W (wk wk' : ssF) : Prop := ∀ j, j < 128 → wk j = wk' j
theorem sm_kc {g0 g1 vs : ssF} {j : Nat} (hV : sm_V g0 g1 vs) (hj : j < 8) : mm_kc vs (nI j) = bl_kc g0 g1 (nI j) := by
  unfold mm_kc bl_kc
  rw [mm_2, nI_1, nI_clamp (n := 2 * j + 1) (by omega), nI_clamp (n := 2 * j) (by omega), nI_clamp (n := j) (by omega), (hV j hj).1, (hV j hj).2]
theorem sm_fst {ch ch' : ssF} (hH : sm_H ch ch') : ∀ (k i : Nat), i + k = 8 → ∃ j, i ≤ j ∧ j ≤ 8 ∧ mm_fst ch' k i = nI j ∧ bl_fst ch k i = (if j = 8 then -1 else nI j) ∧ (j < 8 → ¬ ch' j = 0)
  | 0, i, h => ⟨8, by omega, Nat.le_refl _, by unfold mm_fst; rw [show i = 8 by omega], by simp [bl_fst], fun q => absurd q (by omega)⟩
  | k + 1, i, h => by
    by_cases hz : ch' i = 0
    · obtain ⟨j, h1, h2, h3, h4, h5⟩ := sm_fst hH k (i + 1) (by omega)
      refine ⟨j, by omega, h2, ?_, ?_, h5⟩
      · unfold mm_fst; rw [if_pos hz]; exact h3
      · unfold bl_fst; rw [if_pos (by rw [hH i (by omega)]; exact hz)]; exact h4
    · refine ⟨i, Nat.le_refl _, by omega, ?_, ?_, fun _ => hz⟩
      · unfold mm_fst; rw [if_neg hz]
      · unfold bl_fst; rw [if_neg (by rw [hH i (by omega)]; exact hz), if_neg (by omega)]
theorem sm_tear {g0 g1 vs : ssF} {j : Nat} (hV : sm_V g0 g1 vs) (hj : j < 8) : sm_V (bl_tear g0 g1 (nI j)).1 (bl_tear g0 g1 (nI j)).2 (upd vs ((2 * nI j + 1 - mm_kc vs (nI j)).toNatClampNeg) 0) := by
  unfold bl_tear
  rw [if_neg (bl_hasI hj), sm_kc hV hj, mm_2, nI_1]
  rcases bl_kc_or g0 g1 (nI j) with hk | hk
  · rw [hk, if_pos rfl, show (0 : Int32) = nI 0 from rfl, pk_sub (by omega), nI_clamp (n := 2 * j + 1 - 0) (by omega), nI_clamp (n := j) (by omega)]
    intro a ha
    refine ⟨?_, ?_⟩
    · rw [pk_un (by omega)]; exact (hV a ha).1
    · by_cases e : a = j
      · subst e
        rw [show 2 * a + 1 - 0 = 2 * a + 1 by omega, pk_us]
        show nI 0 = upd g1 a (nI 0) a
        rw [pk_us]
      · rw [pk_un (by omega)]
        show vs (2 * a + 1) = upd g1 j (nI 0) a
        rw [pk_un e]
        exact (hV a ha).2
  · rw [hk, if_neg (by decide), nI_pred, nI_clamp (n := 2 * j) (by omega), nI_clamp (n := j) (by omega)]
    intro a ha
    refine ⟨?_, ?_⟩
    · by_cases e : a = j
      · subst e
        rw [pk_us]
        show 0 = upd g0 a 0 a
        rw [pk_us]
      · rw [pk_un (by omega)]
        show vs (2 * a) = upd g0 j 0 a
        rw [pk_un e]
        exact (hV a ha).1
    · rw [pk_un (by omega)]; exact (hV a ha).2
theorem sm_cpq {wk : ssF} {j c : Nat} (hj : j < 8) (hc : c < 2) : ∀ (k i : Nat) (f : ssF) (q : Nat), i + k ≤ 16 → mm_cp wk (nI j) (nI c) k i f q = if 16 * (2 * j + c) + i ≤ q ∧ q < 16 * (2 * j + c) + i + k then vp_nar .byte (wk (16 * j + (q - 16 * (2 * j + c)))) else f q
  | 0, i, f, q, _ => by unfold mm_cp; rw [if_neg (by omega)]
  | k + 1, i, f, q, h => by
    unfold mm_cp
    rw [sm_cpq hj hc k (i + 1) _ q (by omega)]
    rw [mm_2, nI_add, mm_16, nI_add, nI_clamp (n := 16 * (2 * j + c) + i) (by omega), mm_16, nI_add, nI_clamp (n := 16 * j + i) (by omega)]
    by_cases e : q = 16 * (2 * j + c) + i
    · subst e
      rw [if_neg (by omega), if_pos (by omega), pk_us]
      rw [show 16 * (2 * j + c) + i - 16 * (2 * j + c) = i by omega]
    · rw [pk_un e]
      by_cases a : 16 * (2 * j + c) + (i + 1) ≤ q ∧ q < 16 * (2 * j + c) + (i + 1) + k
      · rw [if_pos a, if_pos (by omega)]
      · rw [if_neg a, if_neg (by omega)]
theorem sm_by_cp {wk : ssF} {sv c : Int32} : ∀ (k i : Nat) (f : ssF), my_by f → my_by (mm_cp wk sv c k i f)
  | 0, _, _, h => h
  | k + 1, i, f, h => by
    unfold mm_cp
    exact sm_by_cp k (i + 1) _ (my_by_upd h _ _)
theorem sm_row {wk k : ssF} {j : Nat} (hj : j < 8) (q : Nat) : bl_row wk k (nI j) q = if j * 16 ≤ q ∧ q < j * 16 + 16 then wk (j * 16 + (q - j * 16)) else k q := by
  unfold bl_row va_cpy
  rw [bl_16, nI_clamp (n := j * 16) (by omega), show (16 : Int32).toNatClampNeg = 16 from rfl]
theorem sm_nar {f : ssF} (h : my_by f) (k : Nat) : vp_nar .byte (f k) = f k := by rw [vp_nar_byte]; exact h k
/-- the copy that is written: the first -/
theorem sm_C0 {wk wk' k0 k1 cp : ssF} {j : Nat} (hj : j < 8) (hC : sm_C k0 k1 cp) (hW : sm_W wk wk') (hb : my_by wk) : sm_C (bl_row wk k0 (nI j)) k1 (mm_cp wk' (nI j) (nI 0) 16 0 cp) := by
  intro a ha i hi
  rw [sm_cpq hj (by omega) 16 0 _ _ (by omega), sm_cpq hj (by omega) 16 0 _ _ (by omega), sm_row hj]
  refine ⟨?_, ?_⟩
  · by_cases e : a = j
    · subst e
      rw [if_pos (by omega), if_pos (by omega), ← hW _ (by omega), sm_nar hb]
      congr 1
      omega
    · rw [if_neg (by omega), if_neg (by omega)]
      exact (hC a ha i hi).1
  · rw [if_neg (by omega)]
    exact (hC a ha i hi).2
theorem sm_C1 {wk wk' k0 k1 cp : ssF} {j : Nat} (hj : j < 8) (hC : sm_C k0 k1 cp) (hW : sm_W wk wk') (hb : my_by wk) : sm_C k0 (bl_row wk k1 (nI j)) (mm_cp wk' (nI j) (nI 1) 16 0 cp) := by
  intro a ha i hi
  rw [sm_cpq hj (by omega) 16 0 _ _ (by omega), sm_cpq hj (by omega) 16 0 _ _ (by omega), sm_row hj]
  refine ⟨?_, ?_⟩
  · rw [if_neg (by omega)]
    exact (hC a ha i hi).1
  · by_cases e : a = j
    · subst e
      rw [if_pos (by omega), if_pos (by omega), ← hW _ (by omega), sm_nar hb]
      congr 1
      omega
    · rw [if_neg (by omega), if_neg (by omega)]
      exact (hC a ha i hi).2
theorem sm_V0 {g0 g1 vs : ssF} {j : Nat} {z : Int32} (hj : j < 8) (hV : sm_V g0 g1 vs) : sm_V (upd g0 j z) g1 (upd vs (2 * j) z) := by
  intro a ha
  refine ⟨?_, ?_⟩
  · by_cases e : a = j
    · subst e; rw [pk_us, pk_us]
    · rw [pk_un (by omega), pk_un e]; exact (hV a ha).1
  · rw [pk_un (by omega)]; exact (hV a ha).2
theorem sm_V1 {g0 g1 vs : ssF} {j : Nat} {z : Int32} (hj : j < 8) (hV : sm_V g0 g1 vs) : sm_V g0 (upd g1 j z) (upd vs (2 * j + 1) z) := by
  intro a ha
  refine ⟨?_, ?_⟩
  · rw [pk_un (by omega)]; exact (hV a ha).1
  · by_cases e : a = j
    · subst e; rw [pk_us, pk_us]
    · rw [pk_un (by omega), pk_un e]; exact (hV a ha).2
theorem sm_H1 {ch ch' : ssF} {j : Nat} {z : Int32} (hH : sm_H ch ch') : sm_H (upd ch j z) (upd ch' j z) := by
  intro a ha
  by_cases e : a = j
  · subst e; rw [pk_us, pk_us]
  · rw [pk_un e, pk_un e]; exact hH a ha
/-- a block's saving, on both sides -/
theorem sm_save {wk wk' k0 k1 g0 g1 ch cp vs ch' : ssF} {j : Nat} (hj : j < 8) (hC : sm_C k0 k1 cp) (hV : sm_V g0 g1 vs) (hH : sm_H ch ch') (hW : sm_W wk wk') (hb : my_by wk) (h0 : my_by k0) (h1 : my_by k1) :
    sm_C (bl_save wk k0 k1 g0 g1 ch (nI j)).1 (bl_save wk k0 k1 g0 g1 ch (nI j)).2.1 (mm_cp wk' (nI j) (1 - mm_kc vs (nI j)) 16 0 cp) ∧
    sm_V (bl_save wk k0 k1 g0 g1 ch (nI j)).2.2.1 (bl_save wk k0 k1 g0 g1 ch (nI j)).2.2.2.1 (upd vs ((2 * nI j + (1 - mm_kc vs (nI j))).toNatClampNeg) (vs ((2 * nI j + mm_kc vs (nI j)).toNatClampNeg) + 1)) ∧
    sm_H (bl_save wk k0 k1 g0 g1 ch (nI j)).2.2.2.2 (upd ch' ((nI j).toNatClampNeg) (vp_nar .boolean 0)) ∧ my_by (bl_save wk k0 k1 g0 g1 ch (nI j)).1 ∧ my_by (bl_save wk k0 k1 g0 g1 ch (nI j)).2.1 := by
  unfold bl_save
  rw [if_neg (bl_hasI hj), sm_kc hV hj, nI_clamp (n := j) (by omega)]
  have r0 : ∀ k : ssF, my_by k → my_by (bl_row wk k (nI j)) := fun k h => my_by_cpy hb h _ _ _
  rcases bl_kc_or g0 g1 (nI j) with hk | hk
  · rw [hk, if_pos rfl]
    refine ⟨?_, ?_, sm_H1 hH, h0, r0 _ h1⟩
    · exact sm_C1 hj hC hW hb
    · have e1 : ((2 : Int32) * nI j + (1 - 0)).toNatClampNeg = 2 * j + 1 := by
        rw [show (1 : Int32) - 0 = 1 by decide, mm_2, nI_1, nI_clamp (by omega)]
      have e2 : ((2 : Int32) * nI j + 0).toNatClampNeg = 2 * j := by
        rw [mm_2, show (0 : Int32) = nI 0 from rfl, nI_add, nI_clamp (by omega)]
        omega
      rw [e1, e2, (hV j hj).1]
      exact sm_V1 hj hV
  · rw [hk, if_neg (by decide)]
    refine ⟨?_, ?_, sm_H1 hH, r0 _ h0, h1⟩
    · exact sm_C0 hj hC hW hb
    · have e1 : ((2 : Int32) * nI j + (1 - 1)).toNatClampNeg = 2 * j := by
        rw [show (1 : Int32) - 1 = nI 0 by decide, mm_2, nI_add, nI_clamp (by omega)]
        omega
      have e2 : ((2 : Int32) * nI j + 1).toNatClampNeg = 2 * j + 1 := by
        rw [mm_2, nI_1, nI_clamp (by omega)]
      rw [e1, e2, (hV j hj).2]
      exact sm_V0 hj hV
