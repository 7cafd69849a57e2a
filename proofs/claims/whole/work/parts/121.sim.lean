/-! Events on both sides -/
def sm_R (rq : ssF) (B : Nat) (md : Int32) (du : Int64) (bi : Int32) (sl : Int64) (g0 g1 k0 k1 ch : ssF) (md' : Int32) (qu be : Int64) (sv : Int32) (sl' : Int64) (cp vs ch' : ssF) : Prop :=
  md = md' ∧ sl = sl' ∧ du = mm_due rq md' qu be ∧ (∃ q b : Nat, qu = lN q ∧ be = lN b ∧ q ≤ B ∧ b ≤ B) ∧ sm_V g0 g1 vs ∧ sm_C k0 k1 cp ∧ sm_H ch ch' ∧ (md' = 2 → ∃ j, j < 8 ∧ sv = nI j ∧ bi = nI j ∧ ¬ ch' j = 0) ∧ my_by k0 ∧ my_by k1 ∧ my_by cp
def sm_RE (rq : ssF) (B : Nat) (e : ssE) (m : mmE) : Prop := sm_R rq B e.1 e.2.1 e.2.2.1 e.2.2.2.1 e.2.2.2.2.1 e.2.2.2.2.2.1 e.2.2.2.2.2.2.1 e.2.2.2.2.2.2.2.1 e.2.2.2.2.2.2.2.2 m.1 m.2.1 m.2.2.1 m.2.2.2.1 m.2.2.2.2.1 m.2.2.2.2.2.1 m.2.2.2.2.2.2.1 m.2.2.2.2.2.2.2
theorem sm_8 {j : Nat} (h : j ≤ 8) : nI j = 8 ↔ j = 8 := nI_eq (b := 8) (by omega) (by decide)
theorem sm_8' {j : Nat} (h : j ≤ 8) : (8 : Int32) ≤ nI j ↔ j = 8 := by
  have a : (8 : Int32) ≤ nI j ↔ 8 ≤ j := nI_leI (a := 8) (by decide) (by omega)
  exact a.trans ⟨fun z => by omega, fun z => by omega⟩
theorem sm_next {g0 g1 vs ch ch' : ssF} (T sl : Int64) (hV : sm_V g0 g1 vs) (hH : sm_H ch ch') :
    ∃ j, j ≤ 8 ∧ mm_fst ch' 8 0 = nI j ∧ ((j = 8 ∧ ss_sn T sl g0 g1 ch = (3, -1, -1, sl + 1, g0, g1)) ∨
      (j < 8 ∧ ¬ ch' j = 0 ∧ ss_sn T sl g0 g1 ch = (2, T + 5, nI j, sl, (bl_tear g0 g1 (nI j)).1, (bl_tear g0 g1 (nI j)).2) ∧ sm_V (bl_tear g0 g1 (nI j)).1 (bl_tear g0 g1 (nI j)).2 (mm_svs vs ch'))) := by
  obtain ⟨j, -, h2, h3, h4, h5⟩ := sm_fst hH 8 0 rfl
  refine ⟨j, h2, h3, ?_⟩
  by_cases e : j = 8
  · rw [if_pos e] at h4
    exact Or.inl ⟨e, by unfold ss_sn; rw [h4, if_pos rfl]⟩
  · rw [if_neg e] at h4
    have hne : ¬ nI j = -1 := fun q => by
      have a := nI_toInt (n := j) (by omega)
      rw [q, show (-1 : Int32).toInt = -1 from rfl] at a
      omega
    refine Or.inr ⟨by omega, h5 (by omega), by unfold ss_sn; rw [h4, if_neg hne], ?_⟩
    unfold mm_svs
    rw [h3]
    exact sm_tear hV (by omega)
theorem sm_d3 (rq : ssF) (qu be : Int64) : mm_due rq 3 qu be = -1 := by simp [mm_due]
theorem sm_d2 (rq : ssF) (qu be : Int64) : mm_due rq 2 qu be = be + 5 := by simp [mm_due]
theorem sm_d1 (rq : ssF) (qu be : Int64) : mm_due rq 1 qu be = if bl_cnt rq 16 1 0 = 0 then qu + 100 else -1 := by simp [mm_due]
theorem sm_ev {n : Int32} {rq wk wk' : ssF} {B τ : Nat} (hn : n = bl_cnt rq 16 1 0) (hW : sm_W wk wk') (hb : my_by wk) (hτ : τ ≤ B) (e : ssE) (m : mmE) (h : sm_RE rq B e m) : sm_RE rq B (ss_hap n wk (lN τ) e) (mm_ev wk' rq (lN τ) m) := by
  obtain ⟨md, du, bi, sl, g0, g1, k0, k1, ch⟩ := e
  obtain ⟨md', qu, be, sv, sl', cp, vs, ch'⟩ := m
  have h : sm_R rq B md du bi sl g0 g1 k0 k1 ch md' qu be sv sl' cp vs ch' := h
  obtain ⟨rfl, rfl, hdu, ⟨q, b, rfl, rfl, hq, hb'⟩, hV, hC, hH, h2, hk0, hk1, hcp⟩ := h
  simp only [ss_hap, mm_ev]
  by_cases c1 : md = 1
  · rw [if_pos c1, if_pos c1]
    obtain ⟨j, hj, hf, ⟨e8, hs⟩ | ⟨hj8, hz, hs, hV'⟩⟩ := sm_next (lN τ) sl hV hH
    · rw [hf, if_pos ((sm_8' hj).mpr e8), hs]
      show sm_R rq B 3 (-1) (-1) (sl + 1) g0 g1 k0 k1 ch 3 (lN q) (lN b) sv (sl + 1) cp vs ch'
      exact ⟨rfl, rfl, (sm_d3 _ _ _).symm, ⟨q, b, rfl, rfl, hq, hb'⟩, hV, hC, hH, fun q => absurd q (by decide), hk0, hk1, hcp⟩
    · rw [hf, if_neg (fun z => by have := (sm_8' hj).mp z; omega), hs]
      show sm_R rq B 2 (lN τ + 5) (nI j) sl _ _ k0 k1 ch 2 (lN q) (lN τ) (nI j) sl cp (mm_svs vs ch') ch'
      exact ⟨rfl, rfl, (sm_d2 _ _ _).symm, ⟨q, τ, rfl, rfl, hq, hτ⟩, hV', hC, hH, fun _ => ⟨j, hj8, rfl, rfl, hz⟩, hk0, hk1, hcp⟩
  · rw [if_neg c1, if_neg c1]
    by_cases c2 : md = 2
    · rw [if_pos c2, if_pos c2]
      obtain ⟨j, hj, rfl, rfl, hz⟩ := h2 c2
      obtain ⟨hC', hV', hH', y0, y1⟩ := sm_save (wk := wk) (wk' := wk') hj hC hV hH hW hb hk0 hk1
      have ycp : my_by (mm_cp wk' (nI j) (1 - mm_kc vs (nI j)) 16 0 cp) := sm_by_cp _ _ _ hcp
      unfold ss_es mm_is
      generalize bl_save wk k0 k1 g0 g1 ch (nI j) = S at hC' hV' hH' y0 y1 ⊢
      generalize mm_cp wk' (nI j) (1 - mm_kc vs (nI j)) 16 0 cp = CP at hC' ycp ⊢
      generalize upd vs ((2 * nI j + (1 - mm_kc vs (nI j))).toNatClampNeg) (vs ((2 * nI j + mm_kc vs (nI j)).toNatClampNeg) + 1) = VS at hV' ⊢
      generalize upd ch' ((nI j).toNatClampNeg) (vp_nar .boolean 0) = CH at hH' ⊢
      by_cases c3 : n ≤ 0
      · rw [if_pos c3, if_pos (by rw [← hn]; exact c3)]
        obtain ⟨j', hj', hf, ⟨e8, hs⟩ | ⟨hj8, hz', hs, hV2⟩⟩ := sm_next (lN τ) sl hV' hH'
        · rw [hf, if_pos ((sm_8 hj').mpr e8), hs]
          show sm_R rq B 3 (-1) (-1) (sl + 1) S.2.2.1 S.2.2.2.1 S.1 S.2.1 S.2.2.2.2 3 (lN q) (lN b) (nI j) (sl + 1) CP VS CH
          exact ⟨rfl, rfl, (sm_d3 _ _ _).symm, ⟨q, b, rfl, rfl, hq, hb'⟩, hV', hC', hH', fun q => absurd q (by decide), y0, y1, ycp⟩
        · rw [hf, if_neg (fun z => by have := (sm_8 hj').mp z; omega), hs]
          show sm_R rq B 2 (lN τ + 5) (nI j') sl _ _ S.1 S.2.1 S.2.2.2.2 2 (lN q) (lN τ) (nI j') sl CP (mm_svs VS CH) CH
          exact ⟨rfl, rfl, (sm_d2 _ _ _).symm, ⟨q, τ, rfl, rfl, hq, hτ⟩, hV2, hC', hH', fun _ => ⟨j', hj8, rfl, rfl, hz'⟩, y0, y1, ycp⟩
      · rw [if_neg c3, if_neg (by rw [← hn]; exact c3)]
        show sm_R rq B 1 (ss_due n (lN τ)) (-1) sl S.2.2.1 S.2.2.2.1 S.1 S.2.1 S.2.2.2.2 1 (lN τ) (lN b) (nI j) sl CP VS CH
        exact ⟨rfl, rfl, by rw [sm_d1, hn]; rfl, ⟨τ, b, rfl, rfl, hτ, hb'⟩, hV', hC', hH', fun q => absurd q (by decide), y0, y1, ycp⟩
    · rw [if_neg c2, if_neg c2]
      show sm_R rq B 3 (-1) bi (sl + 1) g0 g1 k0 k1 ch 3 (lN q) (lN b) sv (sl + 1) cp vs ch'
      exact ⟨rfl, rfl, (sm_d3 _ _ _).symm, ⟨q, b, rfl, rfl, hq, hb'⟩, hV, hC, hH, fun q => absurd q (by decide), hk0, hk1, hcp⟩
/-! how many events there can be -/
def sm_mu (rq : ssF) (m : mmE) : Nat := if m.1 = 1 then (if bl_cnt rq 16 1 0 = 0 then 10 else 0) else if m.1 = 2 then 1 + sm_cn m.2.2.2.2.2.2.2 8 0 else if m.1 = 4 then 1 else 0
def sm_I (m : mmE) : Prop := m.1 = 2 → ∃ j, j < 8 ∧ m.2.2.2.1 = nI j ∧ ¬ m.2.2.2.2.2.2.2 j = 0
theorem sm_mu10 (rq : ssF) (m : mmE) : sm_mu rq m ≤ 10 := by
  have h := sm_cn_le m.2.2.2.2.2.2.2 8 0
  unfold sm_mu
  split
  · split <;> omega
  · split
    · omega
    · split <;> omega
theorem sm_neg : (-1 : Int64) < 0 := by decide
theorem sm_mu0 {rq : ssF} {m : mmE} (h : sm_mu rq m = 0) : mm_due rq m.1 m.2.1 m.2.2.1 = -1 := by
  unfold sm_mu at h
  unfold mm_due
  by_cases c1 : m.1 = 1
  · rw [if_pos c1] at h ⊢
    by_cases c : bl_cnt rq 16 1 0 = 0
    · rw [if_pos c] at h; omega
    · rw [if_neg c]
  · rw [if_neg c1] at h ⊢
    by_cases c2 : m.1 = 2
    · rw [if_pos c2] at h; omega
    · rw [if_neg c2] at h ⊢
      by_cases c4 : m.1 = 4
      · rw [if_pos c4] at h; omega
      · rw [if_neg c4]
theorem sm_mu_ev {rq wk : ssF} {T : Int64} (m : mmE) (hI : sm_I m) (hd : ¬ mm_due rq m.1 m.2.1 m.2.2.1 < 0) : sm_I (mm_ev wk rq T m) ∧ sm_mu rq (mm_ev wk rq T m) < sm_mu rq m := by
  obtain ⟨md, qu, be, sv, sl, cp, vs, ch⟩ := m
  have hI : md = 2 → ∃ j, j < 8 ∧ sv = nI j ∧ ¬ ch j = 0 := hI
  have hd : ¬ mm_due rq md qu be < 0 := hd
  have h8 := sm_cn_le ch 8 0
  simp only [mm_ev]
  by_cases c1 : md = 1
  · subst c1
    rw [if_pos rfl]
    have hn : bl_cnt rq 16 1 0 = 0 := by
      by_cases c : bl_cnt rq 16 1 0 = 0
      · exact c
      · rw [sm_d1, if_neg c] at hd
        exact absurd sm_neg hd
    obtain ⟨j, -, h2, h3, h4, -⟩ := mm_fst_nI ch 8 0
    rw [h3]
    by_cases c8 : 8 ≤ nI j
    · rw [if_pos c8]
      exact ⟨fun q => absurd q (by decide : ¬ (3 : Int32) = 2), by simp [sm_mu, hn]⟩
    · rw [if_neg c8]
      have hj : j < 8 := by
        rcases Nat.lt_or_ge j 8 with z | z
        · exact z
        · exact absurd ((sm_8' (by omega)).mpr (by omega)) c8
      refine ⟨fun _ => ⟨j, hj, rfl, h4 (by omega)⟩, ?_⟩
      simp [sm_mu, hn]
      omega
  · rw [if_neg c1]
    by_cases c2 : md = 2
    · subst c2
      rw [if_pos rfl]
      obtain ⟨j, hj, rfl, hz⟩ := hI rfl
      have hc : sm_cn (upd ch ((nI j).toNatClampNeg) (vp_nar .boolean 0)) 8 0 + 1 = sm_cn ch 8 0 := by
        have a := sm_cn_upd (f := ch) (u := j) (v := vp_nar .boolean 0) 8 0 (by omega) (by omega)
        rw [nI_clamp (by omega)]
        rw [if_neg hz, if_pos (show vp_nar .boolean 0 = 0 from by decide)] at a
        omega
      unfold mm_is
      generalize upd ch ((nI j).toNatClampNeg) (vp_nar .boolean 0) = CH at hc ⊢
      by_cases c3 : bl_cnt rq 16 1 0 ≤ 0
      · rw [if_pos c3]
        obtain ⟨j', -, h2, h3, h4, -⟩ := mm_fst_nI CH 8 0
        rw [h3]
        by_cases c8 : nI j' = 8
        · rw [if_pos c8]
          exact ⟨fun q => absurd q (by decide : ¬ (3 : Int32) = 2), by simp [sm_mu]; omega⟩
        · rw [if_neg c8]
          have hj' : j' < 8 := by
            rcases Nat.lt_or_ge j' 8 with z | z
            · exact z
            · exact absurd ((sm_8 (by omega)).mpr (by omega)) c8
          refine ⟨fun _ => ⟨j', hj', rfl, h4 (by omega)⟩, ?_⟩
          simp [sm_mu]
          omega
      · rw [if_neg c3]
        refine ⟨fun q => absurd q (by decide : ¬ (1 : Int32) = 2), ?_⟩
        have hne : ¬ bl_cnt rq 16 1 0 = 0 := fun q => c3 (by rw [q]; decide)
        simp [sm_mu, hne]
        omega
    · rw [if_neg c2]
      refine ⟨fun q => absurd q (by decide : ¬ (3 : Int32) = 2), ?_⟩
      by_cases c4 : md = 4
      · subst c4
        simp [sm_mu]
      · have : mm_due rq md qu be = -1 := by unfold mm_due; rw [if_neg c1, if_neg c2, if_neg c4]
        rw [this] at hd
        exact absurd sm_neg hd
theorem sm_end {rq wk : ssF} {t : Int64} : ∀ (k : Nat) (m : mmE), sm_I m → sm_mu rq m ≤ k → mm_end wk rq t k m
  | 0, m, _, h => Or.inl (by rw [sm_mu0 (by omega)]; exact sm_neg)
  | k + 1, m, hI, h => by
    by_cases hd : mm_due rq m.1 m.2.1 m.2.2.1 < 0
    · exact Or.inl hd
    · by_cases ht : t < mm_due rq m.1 m.2.1 m.2.2.1
      · exact Or.inr (Or.inl ht)
      · obtain ⟨h1, h2⟩ := sm_mu_ev (wk := wk) (T := mm_due rq m.1 m.2.1 m.2.2.1) m hI hd
        refine Or.inr (Or.inr ⟨fun q => ?_, sm_end k _ h1 (by omega)⟩)
        obtain ⟨j, hj, e, -⟩ := hI q
        rw [e]
        exact vp_in_nI hj (by decide)
theorem sm_due_form {rq : ssF} {md : Int32} {q b B : Nat} (hq : q ≤ B) (hb : b ≤ B) : mm_due rq md (lN q) (lN b) = -1 ∨ ∃ d, d ≤ B + 100 ∧ mm_due rq md (lN q) (lN b) = lN d := by
  unfold mm_due
  split
  · split
    · exact Or.inr ⟨q + 100, by omega, lN_add q 100⟩
    · exact Or.inl rfl
  · split
    · exact Or.inr ⟨b + 5, by omega, lN_add b 5⟩
    · split
      · exact Or.inr ⟨b + 20, by omega, lN_add b 20⟩
      · exact Or.inl rfl
theorem sm_IofR {rq : ssF} {B : Nat} {e : ssE} {m : mmE} (h : sm_RE rq B e m) : sm_I m := fun q => by
  obtain ⟨j, h1, h2, -, h4⟩ := h.2.2.2.2.2.2.2.1 q
  exact ⟨j, h1, h2, h4⟩
theorem sm_adv {n : Int32} {rq wk wk' : ssF} {B τ : Nat} (hn : n = bl_cnt rq 16 1 0) (hW : sm_W wk wk') (hb : my_by wk) (hτ : τ ≤ B) (hB : B < 2 ^ 40) : ∀ (k K : Nat) (nw : Int64) (e : ssE) (m : mmE), sm_mu rq m ≤ k → k ≤ K → sm_RE rq B e m → sm_RE rq B (ss_adv n wk (lN τ) K nw e) (mm_go wk' rq (lN τ) k m)
  | 0, K, nw, e, m, hm, _, h => by
    have hdu : e.2.1 = -1 := h.2.2.1.trans (sm_mu0 (by omega))
    match K with
    | 0 => exact h
    | K + 1 => unfold ss_adv; rw [if_pos hdu]; exact h
  | k + 1, K, nw, e, m, hm, hk, h => by
    obtain ⟨K', rfl⟩ : ∃ K', K = K' + 1 := ⟨K - 1, by omega⟩
    have hdu : e.2.1 = mm_due rq m.1 m.2.1 m.2.2.1 := h.2.2.1
    obtain ⟨q, b, eq, eb, hq, hb'⟩ := h.2.2.2.1
    have hf := sm_due_form (rq := rq) (md := m.1) hq hb'
    rw [← eq, ← eb] at hf
    unfold ss_adv mm_go
    rw [hdu]
    rcases hf with hf | ⟨d, hd, hf⟩
    · rw [hf, if_pos rfl, if_pos sm_neg]
      exact h
    · have hn1 : ¬ lN d = -1 := fun z => by
        have a : (lN d).toInt = (d : Int) := pk_lT (by omega)
        rw [z, show (-1 : Int64).toInt = -1 from rfl] at a
        omega
      have hn2 : ¬ lN d < 0 := fun z => absurd ((pk_lLT (a := d) (b := 0) (by omega) (by omega)).mp z) (by omega)
      rw [hf, if_neg hn1, if_neg hn2]
      by_cases ht : lN τ < lN d
      · rw [if_pos ht, if_pos ht]
        exact h
      · rw [if_neg ht, if_neg ht]
        have hdt : d ≤ τ := by
          rcases Nat.lt_or_ge τ d with z | z
          · exact absurd ((pk_lLT (by omega) (by omega)).mpr z) ht
          · exact z
        have hmu := (sm_mu_ev (wk := wk') (T := lN d) m (sm_IofR h) (by rw [hf]; exact hn2)).2
        exact sm_adv hn hW hb hτ hB k K' _ _ _ (by omega) (by omega) (sm_ev hn hW hb (by omega) e m h)
